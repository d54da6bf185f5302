/-! listen, next -/
theorem wi_attach {S : XS} (hw : WI S) {l b r t : Int} {w : Int64} (h1 : 0 ≤ l) (h2 : l < 5) (g1 : 0 ≤ b ∧ b ≤ 3) (g2 : 0 ≤ r ∧ r ≤ 5) (g3 : 0 ≤ t ∧ t ≤ 23) : WI (sAttach S l b r t w) := wp14_4 (wp14_3 (wp14_2 hw h1 h2 g1) h1 h2 g2) h1 h2 g3
theorem LEq.att (S : XS) (l b r t : Int) (w : Int64) : LEq S (sAttach S l b r t w) := by
  refine ⟨fun l' a => ?_, fun l' a c d => ?_, rfl⟩
  · have n : l' ≠ (14, l, 0) := fun z => a (by rw [z])
    simp [sAttach, putI, putJ, n]
  · have n : l' ≠ (14, l, 0) := fun z => a (by rw [z])
    simp [sAttach, putI, putJ, n]
theorem att_at (S : XS) (l b r t : Int) (w : Int64) : (sAttach S l b r t w).1 (14, l, 0) 2 = b ∧ (sAttach S l b r t w).1 (14, l, 0) 3 = r ∧ (sAttach S l b r t w).1 (14, l, 0) 4 = t ∧ (sAttach S l b r t w).2.1 (14, l, 0) 5 = w := by
  refine ⟨?_, ?_, ?_, ?_⟩ <;> simp [sAttach, putI, putJ, xUpd]
/-- the state after listen -/
noncomputable def sLis (S : XS) (i r a s t : Int) : XS := putI (putJ (sAttach S (S.1 (0, 0, 0) 7) i r t (pairsN a s 64)) (14, S.1 (0, 0, 0) 7, 0) 6 (hl S.1 i (S.1 (9, i, 0) 3).toNat t r &&& pairsN a s 64)) (0, 0, 0) 7 (S.1 (0, 0, 0) 7 + 1)
theorem lis_q {S T : XS} {i r a s t : Int} (q : QEq (sAttach S (S.1 (0, 0, 0) 7) i r t (pairsN a s 64)) T) (r0 : 0 ≤ r) (r1 : r < 6) (l1 : ∀ x : Int, 0 ≤ x → x ≤ 5 → T.2.1 (28, i, t) x = hl (sAttach S (S.1 (0, 0, 0) 7) i r t (pairsN a s 64)).1 i (S.1 (9, i, 0) 3).toNat t x) : QEq (sLis S i r a s t) (putI (sBeg T (S.1 (0, 0, 0) 7) i t) (0, 0, 0) 7 (S.1 (0, 0, 0) 7 + 1)) := by
  obtain ⟨a1, a2, a3, a4⟩ := att_at S (S.1 (0, 0, 0) 7) i r t (pairsN a s 64)
  have e : lNow T (S.1 (0, 0, 0) 7) i t = hl S.1 i (S.1 (9, i, 0) 3).toNat t r &&& pairsN a s 64 := by
    unfold lNow
    rw [q.1 (14, _, 0) rfl, q.2.1 (14, _, 0) rfl, a2, a4, l1 r r0 (by omega), (LEq.att S _ _ _ _ _).hl]
  unfold sBeg
  rw [e]
  exact (q.pJ rfl _ _).pI rfl _ _
theorem CB.beg {S : XS} (hb : CB S) {l b t v : Int} (h : 0 ≤ v ∧ v ≤ 5) : CB (putI (sBeg S l b t) (0, 0, 0) 7 v) := by
  have c1 : CB (sBeg S l b t) := (show LEq S (sBeg S l b t) from ⟨fun l' a => rfl, fun l' a c d => by show (if l' = _ then _ else _) = _; rw [if_neg (fun z => a (by rw [z]))], rfl⟩).cb hb.1 hb
  refine c1.gen (wp0_7 c1.1 h) (fun k x y a b c d e => putI_o (nK a _ _ _ _)) (by rw [putI_at, if_neg (by decide)]) (fun b' => by rw [putI_o (nK (by decide) _ _ _ _)]) (fun k x y a b c => rfl)
set_option maxHeartbeats 4000000 in
set_option maxRecDepth 100000 in
theorem c_listen (S : XS) (hb : CB S) (i r a s t : Int) (zi : zR i) (zr : zR r) (za : zR a) (zs : zR s) (zt : zR t) : X mX8_listen 0 (xEnt mX8_listen [xR (0, 0, 0), xI i, xI r, xI a, xI s, xI t]) [] (hp S) 4 24 (pOr (0 ≤ i ∧ i < S.1 (0, 0, 0) 6) (pOr (((0 ≤ r ∧ r < 6) ∧ (a = -1 ∨ 0 ≤ a ∧ a < 8) ∧ (s = -1 ∨ 0 ≤ s ∧ s < 8)) ∧ 0 ≤ t ∧ t < 24) (pOr (S.1 (0, 0, 0) 7 < 5) (pN (sLis S i r a s t) (some (xI (S.1 (0, 0, 0) 7)))) (pX S "java/lang/IllegalStateException")) (pX S "java/lang/IllegalArgumentException")) (pX S "java/lang/IndexOutOfBoundsException")) := by
  have hw := hb.1
  have hn6 := wf0_6 hw
  have hn7 := wf0_7 hw
  have hn4 := wf4_2 hw
  have zi2 := zi
  unfold zR at zi2
  have zr2 := zr
  unfold zR at zr2
  have za2 := za
  unfold zR at za2
  have zs2 := zs
  unfold zR at zs2
  have zt2 := zt
  unfold zR at zt2
  have h93 : 0 ≤ i → i < S.1 (0, 0, 0) 6 → 0 ≤ S.1 (9, i, 0) 3 ∧ S.1 (9, i, 0) 3 ≤ 60 := fun a b => wf9_3 hw a (by omega)
  show X mX8_listen 0 [xR (0, 0, 0), xI i, xI r, xI a, xI s, xI t, none, none] [] (hp S) 4 24 _
  refine x_aload_n dX8_listen_0 rfl ?_
  refine x_iload_n dX8_listen_1 rfl ?_
  refine x_callV_t (a := 1) (b := 6) (as := [xI i]) (rest := []) ok_X8_branchAt dX8_listen_2 wd574 ⟨wd576, wd6⟩ (hp0 S) rfl rfl (c_branchAt S hb.1 i (by first | exact hz _ _ | exact hw.1 _ _ | exact zR_of _ | exact bI_z _ | assumption | exact ⟨by omega, by omega⟩)) rfl (Nat.le_of_ble_eq_true rfl) (Nat.le_of_ble_eq_true rfl) (by decide) (by omega) (by omega) (fun t2 => ?_) (fun t2 => ?_)
  · refine x_astore (L' := [xR (0, 0, 0), xI i, xI r, xI a, xI s, xI t, xR (9, i, 0), none]) dX8_listen_5 (by decide) rfl ?_
    refine x_iload_n dX8_listen_7 rfl ?_
    refine x_callS_tv (a := 1) (b := 6) (as := [xI r]) (rest := []) ok_X8_checkRelation dX8_listen_8 wd703 wd704 (c_checkRelation S hb.1 r (by first | exact hz _ _ | exact hw.1 _ _ | exact zR_of _ | exact bI_z _ | assumption | exact ⟨by omega, by omega⟩)) rfl (Nat.le_of_ble_eq_true rfl) (Nat.le_of_ble_eq_true rfl) (by decide) (by omega) (by omega) (fun t8 => ?_) (fun t8 => ?_)
    · refine x_iload_n dX8_listen_11 rfl ?_
      refine x_iconst dX8_listen_12 ?_
      refine x_icmp_eq (tgt := 25) dX8_listen_13 (by decide) (by first | exact hz _ _ | exact hw.1 _ _ | exact zR_of _ | exact bI_z _ | assumption | exact ⟨by omega, by omega⟩) ⟨by decide, by decide⟩ (fun c13 => ?_) (fun c13 => ?_)
      · refine x_iload dX8_listen_25 rfl ?_
        refine x_iconst dX8_listen_27 ?_
        refine x_icmp_eq (tgt := 51) dX8_listen_28 (by decide) (by first | exact hz _ _ | exact hw.1 _ _ | exact zR_of _ | exact bI_z _ | assumption | exact ⟨by omega, by omega⟩) ⟨by decide, by decide⟩ (fun c28 => ?_) (fun c28 => ?_)
        · refine x_iload dX8_listen_51 rfl ?_
          refine x_callS_tv (a := 1) (b := 6) (as := [xI t]) (rest := []) ok_X8_checkHour dX8_listen_53 wd805 wd806 (c_checkHour S hb.1 t (by first | exact hz _ _ | exact hw.1 _ _ | exact zR_of _ | exact bI_z _ | assumption | exact ⟨by omega, by omega⟩)) rfl (Nat.le_of_ble_eq_true rfl) (Nat.le_of_ble_eq_true rfl) (by decide) (by omega) (by omega) (fun t53 => ?_) (fun t53 => ?_)
          · refine x_aload_n dX8_listen_56 rfl ?_
            refine x_get (v := xI (S.1 (0, 0, 0) 7)) dX8_listen_57 fl_RX8_50 (hp0 S) rfl ?_
            have f57_1 := wf0_7 hb.1 (S := S)
            refine x_iconst dX8_listen_60 ?_
            refine x_icmp_lt (tgt := 75) dX8_listen_61 (by decide) (by first | exact hz _ _ | exact hw.1 _ _ | exact zR_of _ | exact bI_z _ | assumption | exact ⟨by omega, by omega⟩) ⟨by decide, by decide⟩ (fun c61 => ?_) (fun c61 => ?_)
            · refine x_aload_n dX8_listen_75 rfl ?_
              refine x_get (v := xR (2, 0, 0)) dX8_listen_76 fl_RX8_17 (hp0 S) rfl ?_
              refine x_aload_n dX8_listen_79 rfl ?_
              refine x_get (v := xI (S.1 (0, 0, 0) 7)) dX8_listen_80 fl_RX8_50 (hp0 S) rfl ?_
              have f80_2 := wf0_7 hb.1 (S := S)
              refine x_alda (l2 := (14, S.1 (0, 0, 0) 7, 0)) dX8_listen_83 (hp2 S) (show (2 : Nat) ≠ 99 by decide) (by decide) (by decide) (by omega) (by omega) (by decide) rfl ?_
              refine x_astore (L' := [xR (0, 0, 0), xI i, xI r, xI a, xI s, xI t, xR (9, i, 0), xR (14, S.1 (0, 0, 0) 7, 0)]) dX8_listen_84 (by decide) rfl ?_
              refine x_aload dX8_listen_86 rfl ?_
              refine x_iload_n dX8_listen_88 rfl ?_
              refine x_iload_n dX8_listen_89 rfl ?_
              refine x_iload dX8_listen_90 rfl ?_
              refine x_iload_n dX8_listen_92 rfl ?_
              refine x_iload dX8_listen_93 rfl ?_
              refine x_callS_r (a := 0) (b := 0) (as := [xI a, xI s]) (rest := [xI t, xI r, xI i, xR (14, S.1 (0, 0, 0) 7, 0)]) ok_X8_pairsOf dX8_listen_95 wd621 wd622 (c_pairsOf S a s (by first | exact hz _ _ | exact hw.1 _ _ | exact zR_of _ | exact bI_z _ | assumption | exact ⟨by omega, by omega⟩) (by first | exact hz _ _ | exact hw.1 _ _ | exact zR_of _ | exact bI_z _ | assumption | exact ⟨by omega, by omega⟩)) rfl (Nat.le_of_ble_eq_true rfl) (Nat.le_of_ble_eq_true rfl) (by decide) (by omega) (by omega) ?_
              refine x_callV_v (a := 0) (b := 0) (as := [xI i, xI r, xI t, xJ (pairsN a s 64)]) (rest := []) ok_X1_attach dX8_listen_98 wd1025 ⟨wd1026, wd1027⟩ (hp14 S (by omega) (by omega)) rfl rfl (c_attach S hb.1 (S.1 (0, 0, 0) 7) (by omega) (by omega) i r t (pairsN a s 64) (by omega) (by omega) (by omega)) rfl (Nat.le_of_ble_eq_true rfl) (Nat.le_of_ble_eq_true rfl) (by decide) (by omega) (by omega) ?_
              refine x_aload dX8_listen_101 rfl ?_
              refine x_aload_n dX8_listen_103 rfl ?_
              refine x_aload dX8_listen_104 rfl ?_
              refine x_aload dX8_listen_106 rfl ?_
              refine x_get (v := xI ((sAttach S (S.1 (0, 0, 0) 7) i r t (pairsN a s 64)).1 (9, i, 0) 3)) dX8_listen_108 fl_RX8_92 (hp9 (sAttach S (S.1 (0, 0, 0) 7) i r t (pairsN a s 64)) (by omega) (by omega)) rfl ?_
              have f108_3 := wf9_3 (wi_attach hb.1 (by omega) (by omega) (by omega) (by omega) (by omega)) (S := sAttach S (S.1 (0, 0, 0) 7) i r t (pairsN a s 64)) (b := i) (by omega) (by omega)
              refine x_top (show (sAttach S (S.1 (0, 0, 0) 7) i r t (pairsN a s 64)).1 (9, i, 0) 3 = S.1 (9, i, 0) 3 from by rw [(LEq.att S _ _ _ _ _).i (k := 9) (by decide)]) ?_
              refine x_iload dX8_listen_111 rfl ?_
              refine x_callV (a := 0) (b := 0) (as := [xR (9, i, 0), xI (S.1 (9, i, 0) 3), xI t]) (rest := [xR (14, S.1 (0, 0, 0) 7, 0)]) ok_X8_stateOf dX8_listen_113 wd413 ⟨wd415, wd1⟩ (hp0 (sAttach S (S.1 (0, 0, 0) 7) i r t (pairsN a s 64))) rfl rfl (c_stateZ (sAttach S (S.1 (0, 0, 0) 7) i r t (pairsN a s 64)) ((LEq.att S _ _ _ _ _).cb (wi_attach hb.1 (by omega) (by omega) (by omega) (by omega) (by omega)) hb) i (by omega) (by rw [(LEq.att S _ _ _ _ _).i (k := 0) (by decide)]; omega) (S.1 (9, i, 0) 3) (by omega) (by rw [(LEq.att S _ _ _ _ _).i (k := 9) (by decide)]; omega) t (by omega) (by omega)) rfl (Nat.le_of_ble_eq_true rfl) (Nat.le_of_ble_eq_true rfl) (by decide) (by omega) (by omega) (fun _ q => by cases q.1) (fun _ _ q => ?_) (fun _ _ q => by cases q.1)
              obtain ⟨y1, T1, rfl, qq1, bT1, o1, t1, l1⟩ := q
              cases y1
              have eT7 : T1.1 (0, 0, 0) 7 = S.1 (0, 0, 0) 7 := by rw [qq1.1 (0, 0, 0) rfl, (LEq.att S _ _ _ _ _).i (k := 0) (by decide)]
              refine x_callV_v (a := 0) (b := 0) (as := [xR (8, i, t)]) (rest := []) ok_X1_begin dX8_listen_116 wd1029 ⟨wd1030, wd1031⟩ (hp14 T1 (by omega) (by omega)) rfl rfl (c_beginL T1 bT1.1 (S.1 (0, 0, 0) 7) (by omega) (by omega) i t (by omega) (by omega) (by omega) (by omega)) rfl (Nat.le_of_ble_eq_true rfl) (Nat.le_of_ble_eq_true rfl) (by decide) (by omega) (by omega) ?_
              refine x_aload_n dX8_listen_119 rfl ?_
              refine x_dup dX8_listen_120 rfl ?_
              refine x_get (v := xI ((sBeg T1 (S.1 (0, 0, 0) 7) i t).1 (0, 0, 0) 7)) dX8_listen_121 fl_RX8_50 (hp0 (sBeg T1 (S.1 (0, 0, 0) 7) i t)) rfl ?_
              refine x_top (show (sBeg T1 (S.1 (0, 0, 0) 7) i t).1 (0, 0, 0) 7 = S.1 (0, 0, 0) 7 from by first | exact eT7 | (show T1.1 (0, 0, 0) 7 = _; exact eT7)) ?_
              refine x_iconst dX8_listen_124 ?_
              refine x_iadd dX8_listen_125 ?_
              refine x_put dX8_listen_126 fl_RX8_50 (fun r hr => by cases hr; rfl) (hp0 (sBeg T1 (S.1 (0, 0, 0) 7) i t)) xfit_i (Nat.le_of_ble_eq_true rfl) rfl ?_
              refine x_heq (pu0_7 (sBeg T1 (S.1 (0, 0, 0) 7) i t) ((S.1 (0, 0, 0) 7) + 1)) ?_
              refine x_aload_n dX8_listen_129 rfl ?_
              refine x_get (v := xI ((putI (sBeg T1 (S.1 (0, 0, 0) 7) i t) (0, 0, 0) 7 ((S.1 (0, 0, 0) 7) + 1)).1 (0, 0, 0) 7)) dX8_listen_130 fl_RX8_50 (hp0 (putI (sBeg T1 (S.1 (0, 0, 0) 7) i t) (0, 0, 0) 7 ((S.1 (0, 0, 0) 7) + 1))) rfl ?_
              refine x_top (show (putI (sBeg T1 (S.1 (0, 0, 0) 7) i t) (0, 0, 0) 7 ((S.1 (0, 0, 0) 7) + 1)).1 (0, 0, 0) 7 = S.1 (0, 0, 0) 7 + 1 from by first | rfl | (rw [putI_at, if_pos rfl])) ?_
              refine x_iconst dX8_listen_133 ?_
              refine x_isub dX8_listen_134 ?_
              exact x_iret dX8_listen_135 rfl (Or.inl ⟨by omega, Or.inl ⟨by omega, Or.inl ⟨by omega, by rw [show S.1 (0, 0, 0) 7 + 1 - 1 = S.1 (0, 0, 0) 7 by omega], _, rfl, lis_q qq1 (by omega) (by omega) l1, bT1.beg (by omega)⟩⟩⟩)
            · exact x_throw (thr_RX8_103_278_107) rfl dX8_listen_64 dX8_listen_67 (Or.inr ⟨dX8_listen_68, dX8_listen_71, dX8_listen_74⟩) (by decide) (Nat.le_of_ble_eq_true rfl) (by omega) (by omega) (by first | exact Or.inr ⟨by omega, pXi (QEq.rf S) hb⟩ | exact Or.inl ⟨by omega, Or.inr ⟨by omega, pXi (QEq.rf S) hb⟩⟩ | exact Or.inl ⟨by omega, Or.inl ⟨by omega, Or.inr ⟨by first | omega | assumption | exact fun z => z hRv, pXi (QEq.rf S) hb⟩⟩⟩ | exact Or.inl ⟨by omega, Or.inl ⟨by omega, Or.inl ⟨by first | omega | assumption, Or.inr ⟨by omega, pXi (QEq.rf S) hb⟩⟩⟩⟩)
          · exact XX.out rfl (by first | exact Or.inr ⟨by omega, pXi (QEq.rf S) hb⟩ | exact Or.inl ⟨by omega, Or.inr ⟨by omega, pXi (QEq.rf S) hb⟩⟩ | exact Or.inl ⟨by omega, Or.inl ⟨by omega, Or.inr ⟨by first | omega | assumption | exact fun z => z hRv, pXi (QEq.rf S) hb⟩⟩⟩ | exact Or.inl ⟨by omega, Or.inl ⟨by omega, Or.inl ⟨by first | omega | assumption, Or.inr ⟨by omega, pXi (QEq.rf S) hb⟩⟩⟩⟩)
        · refine x_iload dX8_listen_31 rfl ?_
          refine x_bipush (v := 8) dX8_listen_33 (by decide) ?_
          refine x_callS_r (a := 0) (b := 0) (as := [xI s, xI 8]) (rest := []) ok_X8_isBelow dX8_listen_35 wd578 wd579 (c_isBelow S s 8 (by first | exact hz _ _ | exact hw.1 _ _ | exact zR_of _ | exact bI_z _ | assumption | exact ⟨by omega, by omega⟩) ⟨by decide, by decide⟩) rfl (Nat.le_of_ble_eq_true rfl) (Nat.le_of_ble_eq_true rfl) (by decide) (by omega) (by omega) ?_
          by_cases b35 : 0 ≤ s ∧ s < 8
          · refine x_top (bI_t b35) ?_
            refine x_if_ne (tgt := 51) dX8_listen_38 (by decide) ⟨by decide, by decide⟩ (fun _ => ?_) (fun z => absurd z (by decide))
            refine x_iload dX8_listen_51 rfl ?_
            refine x_callS_tv (a := 1) (b := 6) (as := [xI t]) (rest := []) ok_X8_checkHour dX8_listen_53 wd805 wd806 (c_checkHour S hb.1 t (by first | exact hz _ _ | exact hw.1 _ _ | exact zR_of _ | exact bI_z _ | assumption | exact ⟨by omega, by omega⟩)) rfl (Nat.le_of_ble_eq_true rfl) (Nat.le_of_ble_eq_true rfl) (by decide) (by omega) (by omega) (fun t53 => ?_) (fun t53 => ?_)
            · refine x_aload_n dX8_listen_56 rfl ?_
              refine x_get (v := xI (S.1 (0, 0, 0) 7)) dX8_listen_57 fl_RX8_50 (hp0 S) rfl ?_
              have f57_4 := wf0_7 hb.1 (S := S)
              refine x_iconst dX8_listen_60 ?_
              refine x_icmp_lt (tgt := 75) dX8_listen_61 (by decide) (by first | exact hz _ _ | exact hw.1 _ _ | exact zR_of _ | exact bI_z _ | assumption | exact ⟨by omega, by omega⟩) ⟨by decide, by decide⟩ (fun c61 => ?_) (fun c61 => ?_)
              · refine x_aload_n dX8_listen_75 rfl ?_
                refine x_get (v := xR (2, 0, 0)) dX8_listen_76 fl_RX8_17 (hp0 S) rfl ?_
                refine x_aload_n dX8_listen_79 rfl ?_
                refine x_get (v := xI (S.1 (0, 0, 0) 7)) dX8_listen_80 fl_RX8_50 (hp0 S) rfl ?_
                have f80_5 := wf0_7 hb.1 (S := S)
                refine x_alda (l2 := (14, S.1 (0, 0, 0) 7, 0)) dX8_listen_83 (hp2 S) (show (2 : Nat) ≠ 99 by decide) (by decide) (by decide) (by omega) (by omega) (by decide) rfl ?_
                refine x_astore (L' := [xR (0, 0, 0), xI i, xI r, xI a, xI s, xI t, xR (9, i, 0), xR (14, S.1 (0, 0, 0) 7, 0)]) dX8_listen_84 (by decide) rfl ?_
                refine x_aload dX8_listen_86 rfl ?_
                refine x_iload_n dX8_listen_88 rfl ?_
                refine x_iload_n dX8_listen_89 rfl ?_
                refine x_iload dX8_listen_90 rfl ?_
                refine x_iload_n dX8_listen_92 rfl ?_
                refine x_iload dX8_listen_93 rfl ?_
                refine x_callS_r (a := 0) (b := 0) (as := [xI a, xI s]) (rest := [xI t, xI r, xI i, xR (14, S.1 (0, 0, 0) 7, 0)]) ok_X8_pairsOf dX8_listen_95 wd621 wd622 (c_pairsOf S a s (by first | exact hz _ _ | exact hw.1 _ _ | exact zR_of _ | exact bI_z _ | assumption | exact ⟨by omega, by omega⟩) (by first | exact hz _ _ | exact hw.1 _ _ | exact zR_of _ | exact bI_z _ | assumption | exact ⟨by omega, by omega⟩)) rfl (Nat.le_of_ble_eq_true rfl) (Nat.le_of_ble_eq_true rfl) (by decide) (by omega) (by omega) ?_
                refine x_callV_v (a := 0) (b := 0) (as := [xI i, xI r, xI t, xJ (pairsN a s 64)]) (rest := []) ok_X1_attach dX8_listen_98 wd1025 ⟨wd1026, wd1027⟩ (hp14 S (by omega) (by omega)) rfl rfl (c_attach S hb.1 (S.1 (0, 0, 0) 7) (by omega) (by omega) i r t (pairsN a s 64) (by omega) (by omega) (by omega)) rfl (Nat.le_of_ble_eq_true rfl) (Nat.le_of_ble_eq_true rfl) (by decide) (by omega) (by omega) ?_
                refine x_aload dX8_listen_101 rfl ?_
                refine x_aload_n dX8_listen_103 rfl ?_
                refine x_aload dX8_listen_104 rfl ?_
                refine x_aload dX8_listen_106 rfl ?_
                refine x_get (v := xI ((sAttach S (S.1 (0, 0, 0) 7) i r t (pairsN a s 64)).1 (9, i, 0) 3)) dX8_listen_108 fl_RX8_92 (hp9 (sAttach S (S.1 (0, 0, 0) 7) i r t (pairsN a s 64)) (by omega) (by omega)) rfl ?_
                have f108_6 := wf9_3 (wi_attach hb.1 (by omega) (by omega) (by omega) (by omega) (by omega)) (S := sAttach S (S.1 (0, 0, 0) 7) i r t (pairsN a s 64)) (b := i) (by omega) (by omega)
                refine x_top (show (sAttach S (S.1 (0, 0, 0) 7) i r t (pairsN a s 64)).1 (9, i, 0) 3 = S.1 (9, i, 0) 3 from by rw [(LEq.att S _ _ _ _ _).i (k := 9) (by decide)]) ?_
                refine x_iload dX8_listen_111 rfl ?_
                refine x_callV (a := 0) (b := 0) (as := [xR (9, i, 0), xI (S.1 (9, i, 0) 3), xI t]) (rest := [xR (14, S.1 (0, 0, 0) 7, 0)]) ok_X8_stateOf dX8_listen_113 wd413 ⟨wd415, wd1⟩ (hp0 (sAttach S (S.1 (0, 0, 0) 7) i r t (pairsN a s 64))) rfl rfl (c_stateZ (sAttach S (S.1 (0, 0, 0) 7) i r t (pairsN a s 64)) ((LEq.att S _ _ _ _ _).cb (wi_attach hb.1 (by omega) (by omega) (by omega) (by omega) (by omega)) hb) i (by omega) (by rw [(LEq.att S _ _ _ _ _).i (k := 0) (by decide)]; omega) (S.1 (9, i, 0) 3) (by omega) (by rw [(LEq.att S _ _ _ _ _).i (k := 9) (by decide)]; omega) t (by omega) (by omega)) rfl (Nat.le_of_ble_eq_true rfl) (Nat.le_of_ble_eq_true rfl) (by decide) (by omega) (by omega) (fun _ q => by cases q.1) (fun _ _ q => ?_) (fun _ _ q => by cases q.1)
                obtain ⟨y1, T1, rfl, qq1, bT1, o1, t1, l1⟩ := q
                cases y1
                have eT7 : T1.1 (0, 0, 0) 7 = S.1 (0, 0, 0) 7 := by rw [qq1.1 (0, 0, 0) rfl, (LEq.att S _ _ _ _ _).i (k := 0) (by decide)]
                refine x_callV_v (a := 0) (b := 0) (as := [xR (8, i, t)]) (rest := []) ok_X1_begin dX8_listen_116 wd1029 ⟨wd1030, wd1031⟩ (hp14 T1 (by omega) (by omega)) rfl rfl (c_beginL T1 bT1.1 (S.1 (0, 0, 0) 7) (by omega) (by omega) i t (by omega) (by omega) (by omega) (by omega)) rfl (Nat.le_of_ble_eq_true rfl) (Nat.le_of_ble_eq_true rfl) (by decide) (by omega) (by omega) ?_
                refine x_aload_n dX8_listen_119 rfl ?_
                refine x_dup dX8_listen_120 rfl ?_
                refine x_get (v := xI ((sBeg T1 (S.1 (0, 0, 0) 7) i t).1 (0, 0, 0) 7)) dX8_listen_121 fl_RX8_50 (hp0 (sBeg T1 (S.1 (0, 0, 0) 7) i t)) rfl ?_
                refine x_top (show (sBeg T1 (S.1 (0, 0, 0) 7) i t).1 (0, 0, 0) 7 = S.1 (0, 0, 0) 7 from by first | exact eT7 | (show T1.1 (0, 0, 0) 7 = _; exact eT7)) ?_
                refine x_iconst dX8_listen_124 ?_
                refine x_iadd dX8_listen_125 ?_
                refine x_put dX8_listen_126 fl_RX8_50 (fun r hr => by cases hr; rfl) (hp0 (sBeg T1 (S.1 (0, 0, 0) 7) i t)) xfit_i (Nat.le_of_ble_eq_true rfl) rfl ?_
                refine x_heq (pu0_7 (sBeg T1 (S.1 (0, 0, 0) 7) i t) ((S.1 (0, 0, 0) 7) + 1)) ?_
                refine x_aload_n dX8_listen_129 rfl ?_
                refine x_get (v := xI ((putI (sBeg T1 (S.1 (0, 0, 0) 7) i t) (0, 0, 0) 7 ((S.1 (0, 0, 0) 7) + 1)).1 (0, 0, 0) 7)) dX8_listen_130 fl_RX8_50 (hp0 (putI (sBeg T1 (S.1 (0, 0, 0) 7) i t) (0, 0, 0) 7 ((S.1 (0, 0, 0) 7) + 1))) rfl ?_
                refine x_top (show (putI (sBeg T1 (S.1 (0, 0, 0) 7) i t) (0, 0, 0) 7 ((S.1 (0, 0, 0) 7) + 1)).1 (0, 0, 0) 7 = S.1 (0, 0, 0) 7 + 1 from by first | rfl | (rw [putI_at, if_pos rfl])) ?_
                refine x_iconst dX8_listen_133 ?_
                refine x_isub dX8_listen_134 ?_
                exact x_iret dX8_listen_135 rfl (Or.inl ⟨by omega, Or.inl ⟨by omega, Or.inl ⟨by omega, by rw [show S.1 (0, 0, 0) 7 + 1 - 1 = S.1 (0, 0, 0) 7 by omega], _, rfl, lis_q qq1 (by omega) (by omega) l1, bT1.beg (by omega)⟩⟩⟩)
              · exact x_throw (thr_RX8_103_278_107) rfl dX8_listen_64 dX8_listen_67 (Or.inr ⟨dX8_listen_68, dX8_listen_71, dX8_listen_74⟩) (by decide) (Nat.le_of_ble_eq_true rfl) (by omega) (by omega) (by first | exact Or.inr ⟨by omega, pXi (QEq.rf S) hb⟩ | exact Or.inl ⟨by omega, Or.inr ⟨by omega, pXi (QEq.rf S) hb⟩⟩ | exact Or.inl ⟨by omega, Or.inl ⟨by omega, Or.inr ⟨by first | omega | assumption | exact fun z => z hRv, pXi (QEq.rf S) hb⟩⟩⟩ | exact Or.inl ⟨by omega, Or.inl ⟨by omega, Or.inl ⟨by first | omega | assumption, Or.inr ⟨by omega, pXi (QEq.rf S) hb⟩⟩⟩⟩)
            · exact XX.out rfl (by first | exact Or.inr ⟨by omega, pXi (QEq.rf S) hb⟩ | exact Or.inl ⟨by omega, Or.inr ⟨by omega, pXi (QEq.rf S) hb⟩⟩ | exact Or.inl ⟨by omega, Or.inl ⟨by omega, Or.inr ⟨by first | omega | assumption | exact fun z => z hRv, pXi (QEq.rf S) hb⟩⟩⟩ | exact Or.inl ⟨by omega, Or.inl ⟨by omega, Or.inl ⟨by first | omega | assumption, Or.inr ⟨by omega, pXi (QEq.rf S) hb⟩⟩⟩⟩)
          · refine x_top (bI_f b35) ?_
            refine x_if_ne (tgt := 51) dX8_listen_38 (by decide) ⟨by decide, by decide⟩ (fun z => absurd z (by decide)) (fun _ => ?_)
            exact x_throw (thr_RX8_213_215_217) rfl dX8_listen_41 dX8_listen_44 (Or.inl ⟨dX8_listen_45, dX8_listen_47, dX8_listen_50⟩) (by decide) (Nat.le_of_ble_eq_true rfl) (by omega) (by omega) (by first | exact Or.inr ⟨by omega, pXi (QEq.rf S) hb⟩ | exact Or.inl ⟨by omega, Or.inr ⟨by omega, pXi (QEq.rf S) hb⟩⟩ | exact Or.inl ⟨by omega, Or.inl ⟨by omega, Or.inr ⟨by first | omega | assumption | exact fun z => z hRv, pXi (QEq.rf S) hb⟩⟩⟩ | exact Or.inl ⟨by omega, Or.inl ⟨by omega, Or.inl ⟨by first | omega | assumption, Or.inr ⟨by omega, pXi (QEq.rf S) hb⟩⟩⟩⟩)
      · refine x_iload_n dX8_listen_16 rfl ?_
        refine x_bipush (v := 8) dX8_listen_17 (by decide) ?_
        refine x_callS_r (a := 0) (b := 0) (as := [xI a, xI 8]) (rest := []) ok_X8_isBelow dX8_listen_19 wd578 wd579 (c_isBelow S a 8 (by first | exact hz _ _ | exact hw.1 _ _ | exact zR_of _ | exact bI_z _ | assumption | exact ⟨by omega, by omega⟩) ⟨by decide, by decide⟩) rfl (Nat.le_of_ble_eq_true rfl) (Nat.le_of_ble_eq_true rfl) (by decide) (by omega) (by omega) ?_
        by_cases b19 : 0 ≤ a ∧ a < 8
        · refine x_top (bI_t b19) ?_
          refine x_if_eq (tgt := 41) dX8_listen_22 (by decide) ⟨by decide, by decide⟩ (fun z => absurd z (by decide)) (fun _ => ?_)
          refine x_iload dX8_listen_25 rfl ?_
          refine x_iconst dX8_listen_27 ?_
          refine x_icmp_eq (tgt := 51) dX8_listen_28 (by decide) (by first | exact hz _ _ | exact hw.1 _ _ | exact zR_of _ | exact bI_z _ | assumption | exact ⟨by omega, by omega⟩) ⟨by decide, by decide⟩ (fun c28 => ?_) (fun c28 => ?_)
          · refine x_iload dX8_listen_51 rfl ?_
            refine x_callS_tv (a := 1) (b := 6) (as := [xI t]) (rest := []) ok_X8_checkHour dX8_listen_53 wd805 wd806 (c_checkHour S hb.1 t (by first | exact hz _ _ | exact hw.1 _ _ | exact zR_of _ | exact bI_z _ | assumption | exact ⟨by omega, by omega⟩)) rfl (Nat.le_of_ble_eq_true rfl) (Nat.le_of_ble_eq_true rfl) (by decide) (by omega) (by omega) (fun t53 => ?_) (fun t53 => ?_)
            · refine x_aload_n dX8_listen_56 rfl ?_
              refine x_get (v := xI (S.1 (0, 0, 0) 7)) dX8_listen_57 fl_RX8_50 (hp0 S) rfl ?_
              have f57_7 := wf0_7 hb.1 (S := S)
              refine x_iconst dX8_listen_60 ?_
              refine x_icmp_lt (tgt := 75) dX8_listen_61 (by decide) (by first | exact hz _ _ | exact hw.1 _ _ | exact zR_of _ | exact bI_z _ | assumption | exact ⟨by omega, by omega⟩) ⟨by decide, by decide⟩ (fun c61 => ?_) (fun c61 => ?_)
              · refine x_aload_n dX8_listen_75 rfl ?_
                refine x_get (v := xR (2, 0, 0)) dX8_listen_76 fl_RX8_17 (hp0 S) rfl ?_
                refine x_aload_n dX8_listen_79 rfl ?_
                refine x_get (v := xI (S.1 (0, 0, 0) 7)) dX8_listen_80 fl_RX8_50 (hp0 S) rfl ?_
                have f80_8 := wf0_7 hb.1 (S := S)
                refine x_alda (l2 := (14, S.1 (0, 0, 0) 7, 0)) dX8_listen_83 (hp2 S) (show (2 : Nat) ≠ 99 by decide) (by decide) (by decide) (by omega) (by omega) (by decide) rfl ?_
                refine x_astore (L' := [xR (0, 0, 0), xI i, xI r, xI a, xI s, xI t, xR (9, i, 0), xR (14, S.1 (0, 0, 0) 7, 0)]) dX8_listen_84 (by decide) rfl ?_
                refine x_aload dX8_listen_86 rfl ?_
                refine x_iload_n dX8_listen_88 rfl ?_
                refine x_iload_n dX8_listen_89 rfl ?_
                refine x_iload dX8_listen_90 rfl ?_
                refine x_iload_n dX8_listen_92 rfl ?_
                refine x_iload dX8_listen_93 rfl ?_
                refine x_callS_r (a := 0) (b := 0) (as := [xI a, xI s]) (rest := [xI t, xI r, xI i, xR (14, S.1 (0, 0, 0) 7, 0)]) ok_X8_pairsOf dX8_listen_95 wd621 wd622 (c_pairsOf S a s (by first | exact hz _ _ | exact hw.1 _ _ | exact zR_of _ | exact bI_z _ | assumption | exact ⟨by omega, by omega⟩) (by first | exact hz _ _ | exact hw.1 _ _ | exact zR_of _ | exact bI_z _ | assumption | exact ⟨by omega, by omega⟩)) rfl (Nat.le_of_ble_eq_true rfl) (Nat.le_of_ble_eq_true rfl) (by decide) (by omega) (by omega) ?_
                refine x_callV_v (a := 0) (b := 0) (as := [xI i, xI r, xI t, xJ (pairsN a s 64)]) (rest := []) ok_X1_attach dX8_listen_98 wd1025 ⟨wd1026, wd1027⟩ (hp14 S (by omega) (by omega)) rfl rfl (c_attach S hb.1 (S.1 (0, 0, 0) 7) (by omega) (by omega) i r t (pairsN a s 64) (by omega) (by omega) (by omega)) rfl (Nat.le_of_ble_eq_true rfl) (Nat.le_of_ble_eq_true rfl) (by decide) (by omega) (by omega) ?_
                refine x_aload dX8_listen_101 rfl ?_
                refine x_aload_n dX8_listen_103 rfl ?_
                refine x_aload dX8_listen_104 rfl ?_
                refine x_aload dX8_listen_106 rfl ?_
                refine x_get (v := xI ((sAttach S (S.1 (0, 0, 0) 7) i r t (pairsN a s 64)).1 (9, i, 0) 3)) dX8_listen_108 fl_RX8_92 (hp9 (sAttach S (S.1 (0, 0, 0) 7) i r t (pairsN a s 64)) (by omega) (by omega)) rfl ?_
                have f108_9 := wf9_3 (wi_attach hb.1 (by omega) (by omega) (by omega) (by omega) (by omega)) (S := sAttach S (S.1 (0, 0, 0) 7) i r t (pairsN a s 64)) (b := i) (by omega) (by omega)
                refine x_top (show (sAttach S (S.1 (0, 0, 0) 7) i r t (pairsN a s 64)).1 (9, i, 0) 3 = S.1 (9, i, 0) 3 from by rw [(LEq.att S _ _ _ _ _).i (k := 9) (by decide)]) ?_
                refine x_iload dX8_listen_111 rfl ?_
                refine x_callV (a := 0) (b := 0) (as := [xR (9, i, 0), xI (S.1 (9, i, 0) 3), xI t]) (rest := [xR (14, S.1 (0, 0, 0) 7, 0)]) ok_X8_stateOf dX8_listen_113 wd413 ⟨wd415, wd1⟩ (hp0 (sAttach S (S.1 (0, 0, 0) 7) i r t (pairsN a s 64))) rfl rfl (c_stateZ (sAttach S (S.1 (0, 0, 0) 7) i r t (pairsN a s 64)) ((LEq.att S _ _ _ _ _).cb (wi_attach hb.1 (by omega) (by omega) (by omega) (by omega) (by omega)) hb) i (by omega) (by rw [(LEq.att S _ _ _ _ _).i (k := 0) (by decide)]; omega) (S.1 (9, i, 0) 3) (by omega) (by rw [(LEq.att S _ _ _ _ _).i (k := 9) (by decide)]; omega) t (by omega) (by omega)) rfl (Nat.le_of_ble_eq_true rfl) (Nat.le_of_ble_eq_true rfl) (by decide) (by omega) (by omega) (fun _ q => by cases q.1) (fun _ _ q => ?_) (fun _ _ q => by cases q.1)
                obtain ⟨y1, T1, rfl, qq1, bT1, o1, t1, l1⟩ := q
                cases y1
                have eT7 : T1.1 (0, 0, 0) 7 = S.1 (0, 0, 0) 7 := by rw [qq1.1 (0, 0, 0) rfl, (LEq.att S _ _ _ _ _).i (k := 0) (by decide)]
                refine x_callV_v (a := 0) (b := 0) (as := [xR (8, i, t)]) (rest := []) ok_X1_begin dX8_listen_116 wd1029 ⟨wd1030, wd1031⟩ (hp14 T1 (by omega) (by omega)) rfl rfl (c_beginL T1 bT1.1 (S.1 (0, 0, 0) 7) (by omega) (by omega) i t (by omega) (by omega) (by omega) (by omega)) rfl (Nat.le_of_ble_eq_true rfl) (Nat.le_of_ble_eq_true rfl) (by decide) (by omega) (by omega) ?_
                refine x_aload_n dX8_listen_119 rfl ?_
                refine x_dup dX8_listen_120 rfl ?_
                refine x_get (v := xI ((sBeg T1 (S.1 (0, 0, 0) 7) i t).1 (0, 0, 0) 7)) dX8_listen_121 fl_RX8_50 (hp0 (sBeg T1 (S.1 (0, 0, 0) 7) i t)) rfl ?_
                refine x_top (show (sBeg T1 (S.1 (0, 0, 0) 7) i t).1 (0, 0, 0) 7 = S.1 (0, 0, 0) 7 from by first | exact eT7 | (show T1.1 (0, 0, 0) 7 = _; exact eT7)) ?_
                refine x_iconst dX8_listen_124 ?_
                refine x_iadd dX8_listen_125 ?_
                refine x_put dX8_listen_126 fl_RX8_50 (fun r hr => by cases hr; rfl) (hp0 (sBeg T1 (S.1 (0, 0, 0) 7) i t)) xfit_i (Nat.le_of_ble_eq_true rfl) rfl ?_
                refine x_heq (pu0_7 (sBeg T1 (S.1 (0, 0, 0) 7) i t) ((S.1 (0, 0, 0) 7) + 1)) ?_
                refine x_aload_n dX8_listen_129 rfl ?_
                refine x_get (v := xI ((putI (sBeg T1 (S.1 (0, 0, 0) 7) i t) (0, 0, 0) 7 ((S.1 (0, 0, 0) 7) + 1)).1 (0, 0, 0) 7)) dX8_listen_130 fl_RX8_50 (hp0 (putI (sBeg T1 (S.1 (0, 0, 0) 7) i t) (0, 0, 0) 7 ((S.1 (0, 0, 0) 7) + 1))) rfl ?_
                refine x_top (show (putI (sBeg T1 (S.1 (0, 0, 0) 7) i t) (0, 0, 0) 7 ((S.1 (0, 0, 0) 7) + 1)).1 (0, 0, 0) 7 = S.1 (0, 0, 0) 7 + 1 from by first | rfl | (rw [putI_at, if_pos rfl])) ?_
                refine x_iconst dX8_listen_133 ?_
                refine x_isub dX8_listen_134 ?_
                exact x_iret dX8_listen_135 rfl (Or.inl ⟨by omega, Or.inl ⟨by omega, Or.inl ⟨by omega, by rw [show S.1 (0, 0, 0) 7 + 1 - 1 = S.1 (0, 0, 0) 7 by omega], _, rfl, lis_q qq1 (by omega) (by omega) l1, bT1.beg (by omega)⟩⟩⟩)
              · exact x_throw (thr_RX8_103_278_107) rfl dX8_listen_64 dX8_listen_67 (Or.inr ⟨dX8_listen_68, dX8_listen_71, dX8_listen_74⟩) (by decide) (Nat.le_of_ble_eq_true rfl) (by omega) (by omega) (by first | exact Or.inr ⟨by omega, pXi (QEq.rf S) hb⟩ | exact Or.inl ⟨by omega, Or.inr ⟨by omega, pXi (QEq.rf S) hb⟩⟩ | exact Or.inl ⟨by omega, Or.inl ⟨by omega, Or.inr ⟨by first | omega | assumption | exact fun z => z hRv, pXi (QEq.rf S) hb⟩⟩⟩ | exact Or.inl ⟨by omega, Or.inl ⟨by omega, Or.inl ⟨by first | omega | assumption, Or.inr ⟨by omega, pXi (QEq.rf S) hb⟩⟩⟩⟩)
            · exact XX.out rfl (by first | exact Or.inr ⟨by omega, pXi (QEq.rf S) hb⟩ | exact Or.inl ⟨by omega, Or.inr ⟨by omega, pXi (QEq.rf S) hb⟩⟩ | exact Or.inl ⟨by omega, Or.inl ⟨by omega, Or.inr ⟨by first | omega | assumption | exact fun z => z hRv, pXi (QEq.rf S) hb⟩⟩⟩ | exact Or.inl ⟨by omega, Or.inl ⟨by omega, Or.inl ⟨by first | omega | assumption, Or.inr ⟨by omega, pXi (QEq.rf S) hb⟩⟩⟩⟩)
          · refine x_iload dX8_listen_31 rfl ?_
            refine x_bipush (v := 8) dX8_listen_33 (by decide) ?_
            refine x_callS_r (a := 0) (b := 0) (as := [xI s, xI 8]) (rest := []) ok_X8_isBelow dX8_listen_35 wd578 wd579 (c_isBelow S s 8 (by first | exact hz _ _ | exact hw.1 _ _ | exact zR_of _ | exact bI_z _ | assumption | exact ⟨by omega, by omega⟩) ⟨by decide, by decide⟩) rfl (Nat.le_of_ble_eq_true rfl) (Nat.le_of_ble_eq_true rfl) (by decide) (by omega) (by omega) ?_
            by_cases b35 : 0 ≤ s ∧ s < 8
            · refine x_top (bI_t b35) ?_
              refine x_if_ne (tgt := 51) dX8_listen_38 (by decide) ⟨by decide, by decide⟩ (fun _ => ?_) (fun z => absurd z (by decide))
              refine x_iload dX8_listen_51 rfl ?_
              refine x_callS_tv (a := 1) (b := 6) (as := [xI t]) (rest := []) ok_X8_checkHour dX8_listen_53 wd805 wd806 (c_checkHour S hb.1 t (by first | exact hz _ _ | exact hw.1 _ _ | exact zR_of _ | exact bI_z _ | assumption | exact ⟨by omega, by omega⟩)) rfl (Nat.le_of_ble_eq_true rfl) (Nat.le_of_ble_eq_true rfl) (by decide) (by omega) (by omega) (fun t53 => ?_) (fun t53 => ?_)
              · refine x_aload_n dX8_listen_56 rfl ?_
                refine x_get (v := xI (S.1 (0, 0, 0) 7)) dX8_listen_57 fl_RX8_50 (hp0 S) rfl ?_
                have f57_10 := wf0_7 hb.1 (S := S)
                refine x_iconst dX8_listen_60 ?_
                refine x_icmp_lt (tgt := 75) dX8_listen_61 (by decide) (by first | exact hz _ _ | exact hw.1 _ _ | exact zR_of _ | exact bI_z _ | assumption | exact ⟨by omega, by omega⟩) ⟨by decide, by decide⟩ (fun c61 => ?_) (fun c61 => ?_)
                · refine x_aload_n dX8_listen_75 rfl ?_
                  refine x_get (v := xR (2, 0, 0)) dX8_listen_76 fl_RX8_17 (hp0 S) rfl ?_
                  refine x_aload_n dX8_listen_79 rfl ?_
                  refine x_get (v := xI (S.1 (0, 0, 0) 7)) dX8_listen_80 fl_RX8_50 (hp0 S) rfl ?_
                  have f80_11 := wf0_7 hb.1 (S := S)
                  refine x_alda (l2 := (14, S.1 (0, 0, 0) 7, 0)) dX8_listen_83 (hp2 S) (show (2 : Nat) ≠ 99 by decide) (by decide) (by decide) (by omega) (by omega) (by decide) rfl ?_
                  refine x_astore (L' := [xR (0, 0, 0), xI i, xI r, xI a, xI s, xI t, xR (9, i, 0), xR (14, S.1 (0, 0, 0) 7, 0)]) dX8_listen_84 (by decide) rfl ?_
                  refine x_aload dX8_listen_86 rfl ?_
                  refine x_iload_n dX8_listen_88 rfl ?_
                  refine x_iload_n dX8_listen_89 rfl ?_
                  refine x_iload dX8_listen_90 rfl ?_
                  refine x_iload_n dX8_listen_92 rfl ?_
                  refine x_iload dX8_listen_93 rfl ?_
                  refine x_callS_r (a := 0) (b := 0) (as := [xI a, xI s]) (rest := [xI t, xI r, xI i, xR (14, S.1 (0, 0, 0) 7, 0)]) ok_X8_pairsOf dX8_listen_95 wd621 wd622 (c_pairsOf S a s (by first | exact hz _ _ | exact hw.1 _ _ | exact zR_of _ | exact bI_z _ | assumption | exact ⟨by omega, by omega⟩) (by first | exact hz _ _ | exact hw.1 _ _ | exact zR_of _ | exact bI_z _ | assumption | exact ⟨by omega, by omega⟩)) rfl (Nat.le_of_ble_eq_true rfl) (Nat.le_of_ble_eq_true rfl) (by decide) (by omega) (by omega) ?_
                  refine x_callV_v (a := 0) (b := 0) (as := [xI i, xI r, xI t, xJ (pairsN a s 64)]) (rest := []) ok_X1_attach dX8_listen_98 wd1025 ⟨wd1026, wd1027⟩ (hp14 S (by omega) (by omega)) rfl rfl (c_attach S hb.1 (S.1 (0, 0, 0) 7) (by omega) (by omega) i r t (pairsN a s 64) (by omega) (by omega) (by omega)) rfl (Nat.le_of_ble_eq_true rfl) (Nat.le_of_ble_eq_true rfl) (by decide) (by omega) (by omega) ?_
                  refine x_aload dX8_listen_101 rfl ?_
                  refine x_aload_n dX8_listen_103 rfl ?_
                  refine x_aload dX8_listen_104 rfl ?_
                  refine x_aload dX8_listen_106 rfl ?_
                  refine x_get (v := xI ((sAttach S (S.1 (0, 0, 0) 7) i r t (pairsN a s 64)).1 (9, i, 0) 3)) dX8_listen_108 fl_RX8_92 (hp9 (sAttach S (S.1 (0, 0, 0) 7) i r t (pairsN a s 64)) (by omega) (by omega)) rfl ?_
                  have f108_12 := wf9_3 (wi_attach hb.1 (by omega) (by omega) (by omega) (by omega) (by omega)) (S := sAttach S (S.1 (0, 0, 0) 7) i r t (pairsN a s 64)) (b := i) (by omega) (by omega)
                  refine x_top (show (sAttach S (S.1 (0, 0, 0) 7) i r t (pairsN a s 64)).1 (9, i, 0) 3 = S.1 (9, i, 0) 3 from by rw [(LEq.att S _ _ _ _ _).i (k := 9) (by decide)]) ?_
                  refine x_iload dX8_listen_111 rfl ?_
                  refine x_callV (a := 0) (b := 0) (as := [xR (9, i, 0), xI (S.1 (9, i, 0) 3), xI t]) (rest := [xR (14, S.1 (0, 0, 0) 7, 0)]) ok_X8_stateOf dX8_listen_113 wd413 ⟨wd415, wd1⟩ (hp0 (sAttach S (S.1 (0, 0, 0) 7) i r t (pairsN a s 64))) rfl rfl (c_stateZ (sAttach S (S.1 (0, 0, 0) 7) i r t (pairsN a s 64)) ((LEq.att S _ _ _ _ _).cb (wi_attach hb.1 (by omega) (by omega) (by omega) (by omega) (by omega)) hb) i (by omega) (by rw [(LEq.att S _ _ _ _ _).i (k := 0) (by decide)]; omega) (S.1 (9, i, 0) 3) (by omega) (by rw [(LEq.att S _ _ _ _ _).i (k := 9) (by decide)]; omega) t (by omega) (by omega)) rfl (Nat.le_of_ble_eq_true rfl) (Nat.le_of_ble_eq_true rfl) (by decide) (by omega) (by omega) (fun _ q => by cases q.1) (fun _ _ q => ?_) (fun _ _ q => by cases q.1)
                  obtain ⟨y1, T1, rfl, qq1, bT1, o1, t1, l1⟩ := q
                  cases y1
                  have eT7 : T1.1 (0, 0, 0) 7 = S.1 (0, 0, 0) 7 := by rw [qq1.1 (0, 0, 0) rfl, (LEq.att S _ _ _ _ _).i (k := 0) (by decide)]
                  refine x_callV_v (a := 0) (b := 0) (as := [xR (8, i, t)]) (rest := []) ok_X1_begin dX8_listen_116 wd1029 ⟨wd1030, wd1031⟩ (hp14 T1 (by omega) (by omega)) rfl rfl (c_beginL T1 bT1.1 (S.1 (0, 0, 0) 7) (by omega) (by omega) i t (by omega) (by omega) (by omega) (by omega)) rfl (Nat.le_of_ble_eq_true rfl) (Nat.le_of_ble_eq_true rfl) (by decide) (by omega) (by omega) ?_
                  refine x_aload_n dX8_listen_119 rfl ?_
                  refine x_dup dX8_listen_120 rfl ?_
                  refine x_get (v := xI ((sBeg T1 (S.1 (0, 0, 0) 7) i t).1 (0, 0, 0) 7)) dX8_listen_121 fl_RX8_50 (hp0 (sBeg T1 (S.1 (0, 0, 0) 7) i t)) rfl ?_
                  refine x_top (show (sBeg T1 (S.1 (0, 0, 0) 7) i t).1 (0, 0, 0) 7 = S.1 (0, 0, 0) 7 from by first | exact eT7 | (show T1.1 (0, 0, 0) 7 = _; exact eT7)) ?_
                  refine x_iconst dX8_listen_124 ?_
                  refine x_iadd dX8_listen_125 ?_
                  refine x_put dX8_listen_126 fl_RX8_50 (fun r hr => by cases hr; rfl) (hp0 (sBeg T1 (S.1 (0, 0, 0) 7) i t)) xfit_i (Nat.le_of_ble_eq_true rfl) rfl ?_
                  refine x_heq (pu0_7 (sBeg T1 (S.1 (0, 0, 0) 7) i t) ((S.1 (0, 0, 0) 7) + 1)) ?_
                  refine x_aload_n dX8_listen_129 rfl ?_
                  refine x_get (v := xI ((putI (sBeg T1 (S.1 (0, 0, 0) 7) i t) (0, 0, 0) 7 ((S.1 (0, 0, 0) 7) + 1)).1 (0, 0, 0) 7)) dX8_listen_130 fl_RX8_50 (hp0 (putI (sBeg T1 (S.1 (0, 0, 0) 7) i t) (0, 0, 0) 7 ((S.1 (0, 0, 0) 7) + 1))) rfl ?_
                  refine x_top (show (putI (sBeg T1 (S.1 (0, 0, 0) 7) i t) (0, 0, 0) 7 ((S.1 (0, 0, 0) 7) + 1)).1 (0, 0, 0) 7 = S.1 (0, 0, 0) 7 + 1 from by first | rfl | (rw [putI_at, if_pos rfl])) ?_
                  refine x_iconst dX8_listen_133 ?_
                  refine x_isub dX8_listen_134 ?_
                  exact x_iret dX8_listen_135 rfl (Or.inl ⟨by omega, Or.inl ⟨by omega, Or.inl ⟨by omega, by rw [show S.1 (0, 0, 0) 7 + 1 - 1 = S.1 (0, 0, 0) 7 by omega], _, rfl, lis_q qq1 (by omega) (by omega) l1, bT1.beg (by omega)⟩⟩⟩)
                · exact x_throw (thr_RX8_103_278_107) rfl dX8_listen_64 dX8_listen_67 (Or.inr ⟨dX8_listen_68, dX8_listen_71, dX8_listen_74⟩) (by decide) (Nat.le_of_ble_eq_true rfl) (by omega) (by omega) (by first | exact Or.inr ⟨by omega, pXi (QEq.rf S) hb⟩ | exact Or.inl ⟨by omega, Or.inr ⟨by omega, pXi (QEq.rf S) hb⟩⟩ | exact Or.inl ⟨by omega, Or.inl ⟨by omega, Or.inr ⟨by first | omega | assumption | exact fun z => z hRv, pXi (QEq.rf S) hb⟩⟩⟩ | exact Or.inl ⟨by omega, Or.inl ⟨by omega, Or.inl ⟨by first | omega | assumption, Or.inr ⟨by omega, pXi (QEq.rf S) hb⟩⟩⟩⟩)
              · exact XX.out rfl (by first | exact Or.inr ⟨by omega, pXi (QEq.rf S) hb⟩ | exact Or.inl ⟨by omega, Or.inr ⟨by omega, pXi (QEq.rf S) hb⟩⟩ | exact Or.inl ⟨by omega, Or.inl ⟨by omega, Or.inr ⟨by first | omega | assumption | exact fun z => z hRv, pXi (QEq.rf S) hb⟩⟩⟩ | exact Or.inl ⟨by omega, Or.inl ⟨by omega, Or.inl ⟨by first | omega | assumption, Or.inr ⟨by omega, pXi (QEq.rf S) hb⟩⟩⟩⟩)
            · refine x_top (bI_f b35) ?_
              refine x_if_ne (tgt := 51) dX8_listen_38 (by decide) ⟨by decide, by decide⟩ (fun z => absurd z (by decide)) (fun _ => ?_)
              exact x_throw (thr_RX8_213_215_217) rfl dX8_listen_41 dX8_listen_44 (Or.inl ⟨dX8_listen_45, dX8_listen_47, dX8_listen_50⟩) (by decide) (Nat.le_of_ble_eq_true rfl) (by omega) (by omega) (by first | exact Or.inr ⟨by omega, pXi (QEq.rf S) hb⟩ | exact Or.inl ⟨by omega, Or.inr ⟨by omega, pXi (QEq.rf S) hb⟩⟩ | exact Or.inl ⟨by omega, Or.inl ⟨by omega, Or.inr ⟨by first | omega | assumption | exact fun z => z hRv, pXi (QEq.rf S) hb⟩⟩⟩ | exact Or.inl ⟨by omega, Or.inl ⟨by omega, Or.inl ⟨by first | omega | assumption, Or.inr ⟨by omega, pXi (QEq.rf S) hb⟩⟩⟩⟩)
        · refine x_top (bI_f b19) ?_
          refine x_if_eq (tgt := 41) dX8_listen_22 (by decide) ⟨by decide, by decide⟩ (fun _ => ?_) (fun z => absurd z (by decide))
          exact x_throw (thr_RX8_213_215_217) rfl dX8_listen_41 dX8_listen_44 (Or.inl ⟨dX8_listen_45, dX8_listen_47, dX8_listen_50⟩) (by decide) (Nat.le_of_ble_eq_true rfl) (by omega) (by omega) (by first | exact Or.inr ⟨by omega, pXi (QEq.rf S) hb⟩ | exact Or.inl ⟨by omega, Or.inr ⟨by omega, pXi (QEq.rf S) hb⟩⟩ | exact Or.inl ⟨by omega, Or.inl ⟨by omega, Or.inr ⟨by first | omega | assumption | exact fun z => z hRv, pXi (QEq.rf S) hb⟩⟩⟩ | exact Or.inl ⟨by omega, Or.inl ⟨by omega, Or.inl ⟨by first | omega | assumption, Or.inr ⟨by omega, pXi (QEq.rf S) hb⟩⟩⟩⟩)
    · exact XX.out rfl (by first | exact Or.inr ⟨by omega, pXi (QEq.rf S) hb⟩ | exact Or.inl ⟨by omega, Or.inr ⟨by omega, pXi (QEq.rf S) hb⟩⟩ | exact Or.inl ⟨by omega, Or.inl ⟨by omega, Or.inr ⟨by first | omega | assumption | exact fun z => z hRv, pXi (QEq.rf S) hb⟩⟩⟩ | exact Or.inl ⟨by omega, Or.inl ⟨by omega, Or.inl ⟨by first | omega | assumption, Or.inr ⟨by omega, pXi (QEq.rf S) hb⟩⟩⟩⟩)
  · exact XX.out rfl (by first | exact Or.inr ⟨by omega, pXi (QEq.rf S) hb⟩ | exact Or.inl ⟨by omega, Or.inr ⟨by omega, pXi (QEq.rf S) hb⟩⟩ | exact Or.inl ⟨by omega, Or.inl ⟨by omega, Or.inr ⟨by first | omega | assumption | exact fun z => z hRv, pXi (QEq.rf S) hb⟩⟩⟩ | exact Or.inl ⟨by omega, Or.inl ⟨by omega, Or.inl ⟨by first | omega | assumption, Or.inr ⟨by omega, pXi (QEq.rf S) hb⟩⟩⟩⟩)
/-- taking a change touches listeners alone -/
theorem LEq.take (S : XS) (l : Int) (p : Nat) : LEq S (sTake S l p) := by
  refine ⟨fun l' a => ?_, fun l' a c d => ?_, ?_⟩
  · have n : l' ≠ (14, l, 0) := fun z => a (by rw [z])
    unfold sTake
    dsimp only
    split <;> simp [putI, putJ, n]
  · have n1 : l' ≠ (30, l, 0) := fun z => c (by rw [z])
    have n2 : l' ≠ (31, l, 0) := fun z => d (by rw [z])
    unfold sTake
    dsimp only
    split <;> simp [putI, putJ, n1, n2]
  · unfold sTake
    dsimp only
    split <;> rfl
theorem wi_take {S : XS} (hw : WI S) {l : Int} (h1 : 0 ≤ l) (h2 : l < 5) (hf : S.1 (14, l, 0) 7 < 120) (hu : 1 ≤ S.1 (14, l, 0) 9) (p : Nat) : WI (sTake S l p) := by
  have a7 := wf14_7 hw h1 h2
  have a9 := wf14_9 hw h1 h2
  unfold sTake
  dsimp only
  split
  · exact wp14_9 (wp14_7 (S := putJ (putJ S (30, l, 0) _ _) (31, l, 0) _ _) hw h1 h2 ⟨by omega, by omega⟩) h1 h2 (by rw [putI_at, if_neg (by decide)]; exact ⟨by show 0 ≤ S.1 (14, l, 0) 9 - 1; omega, by show S.1 (14, l, 0) 9 - 1 ≤ 7680; omega⟩)
  · exact wp14_9 (S := putJ (putJ S (30, l, 0) _ _) (31, l, 0) _ _) hw h1 h2 ⟨by show 0 ≤ S.1 (14, l, 0) 9 - 1; omega, by show S.1 (14, l, 0) 9 - 1 ≤ 7680; omega⟩
def pNx (S : XS) (l : Int) : XO → XH → Prop := fun o h' => ∃ p : Nat, Low (S.2.1 (30, l, 0) (S.1 (14, l, 0) 7) ||| S.2.1 (31, l, 0) (S.1 (14, l, 0) 7)) p ∧ pN (sTake S l p) (some (xI (takeV S l p))) o h'

set_option maxHeartbeats 4000000 in
set_option maxRecDepth 100000 in
theorem c_next (S : XS) (hb : CB S) (i : Int) (zi : zR i) (hf : ∀ l : Int, 0 ≤ l → l < S.1 (0, 0, 0) 7 → S.1 (14, l, 0) 9 ≠ 0 → S.1 (14, l, 0) 7 < 120) (hq : ∀ l : Int, 0 ≤ l → l < S.1 (0, 0, 0) 7 → (S.1 (14, l, 0) 7 < S.1 (14, l, 0) 8 ↔ S.1 (14, l, 0) 9 ≠ 0)) : X mX8_next 0 (xEnt mX8_next [xR (0, 0, 0), xI i]) [] (hp S) 2 12 (pOr (0 ≤ i ∧ i < S.1 (0, 0, 0) 7) (pOr (S.1 (14, i, 0) 9 ≠ 0) (pNx S i) (pX S "java/util/NoSuchElementException")) (pX S "java/lang/IndexOutOfBoundsException")) := by
  have hw := hb.1
  have hn6 := wf0_6 hw
  have hn7 := wf0_7 hw
  have hn4 := wf4_2 hw
  have zi2 := zi
  unfold zR at zi2
  have hq2 : 0 ≤ i → i < S.1 (0, 0, 0) 7 → (S.1 (14, i, 0) 7 < S.1 (14, i, 0) 8 ↔ S.1 (14, i, 0) 9 ≠ 0) := fun a b => hq i a b
  have h149 : 0 ≤ i → i < S.1 (0, 0, 0) 7 → 0 ≤ S.1 (14, i, 0) 9 ∧ S.1 (14, i, 0) 9 ≤ 7680 := fun a b => wf14_9 hw a (by omega)
  show X mX8_next 0 [xR (0, 0, 0), xI i, none] [] (hp S) 2 12 _
  refine x_aload_n dX8_next_0 rfl ?_
  refine x_iload_n dX8_next_1 rfl ?_
  refine x_callV_t (a := 1) (b := 6) (as := [xI i]) (rest := []) ok_X8_listenerAt dX8_next_2 wd1040 ⟨wd1042, wd17⟩ (hp0 S) rfl rfl (c_listenerAt S hb.1 i (by first | exact hz _ _ | exact hw.1 _ _ | exact zR_of _ | exact bI_z _ | assumption | exact ⟨by omega, by omega⟩)) rfl (Nat.le_of_ble_eq_true rfl) (Nat.le_of_ble_eq_true rfl) (by decide) (by omega) (by omega) (fun t2 => ?_) (fun t2 => ?_)
  · refine x_astore_n (L' := [xR (0, 0, 0), xI i, xR (14, i, 0)]) dX8_next_5 (by decide) rfl ?_
    refine x_aload_n dX8_next_6 rfl ?_
    refine x_callV_r (a := 0) (b := 0) (as := []) (rest := []) ok_X1_hasUntold dX8_next_7 wd1052 ⟨wd1053, wd1054⟩ (hp14 S (by omega) (by omega)) rfl rfl (c_hasUntold S hb.1 i (by omega) (by omega)) rfl (Nat.le_of_ble_eq_true rfl) (Nat.le_of_ble_eq_true rfl) (by decide) (by omega) (by omega) ?_
    by_cases b7 : S.1 (14, i, 0) 7 < S.1 (14, i, 0) 8
    · refine x_top (bI_t b7) ?_
      refine x_if_ne (tgt := 24) dX8_next_10 (by decide) ⟨by decide, by decide⟩ (fun _ => ?_) (fun z => absurd z (by decide))
      refine x_aload_n dX8_next_24 rfl ?_
      refine x_callV (a := 0) (b := 0) (as := []) (rest := []) ok_X1_takeChange dX8_next_25 wd1057 ⟨wd1058, wd1059⟩ (hp14 S (by omega) (by omega)) rfl rfl (c_takeChange S hb.1 i (by omega) (by omega) (hf i (by omega) (by omega) (by omega)) (by omega) (by omega)) rfl (Nat.le_of_ble_eq_true rfl) (Nat.le_of_ble_eq_true rfl) (by decide) (by omega) (by omega) (fun _ q => by obtain ⟨_, _, q, _⟩ := q; cases q) (fun _ _ q => ?_) (fun _ _ q => by obtain ⟨_, _, q, _⟩ := q; cases q)
      obtain ⟨p, pL, y, rfl⟩ := q
      cases y
      exact x_iret dX8_next_28 rfl (Or.inl ⟨by omega, Or.inl ⟨by omega, p, pL, rfl, _, rfl, QEq.rf _, (LEq.take S i p).cb (wi_take hb.1 (by omega) (by omega) (hf i (by omega) (by omega) (by omega)) (by omega) p) hb⟩⟩)
    · refine x_top (bI_f b7) ?_
      refine x_if_ne (tgt := 24) dX8_next_10 (by decide) ⟨by decide, by decide⟩ (fun z => absurd z (by decide)) (fun _ => ?_)
      exact x_throwN (thr_RX8_201_303_205) rfl dX8_next_13 dX8_next_16 (Or.inr ⟨dX8_next_17, dX8_next_20, dX8_next_23⟩) (by decide) (Nat.le_of_ble_eq_true rfl) (by omega) (by omega) (by first | exact Or.inr ⟨by omega, pXi (QEq.rf S) hb⟩ | exact Or.inl ⟨by omega, Or.inr ⟨by omega, pXi (QEq.rf S) hb⟩⟩ | exact Or.inl ⟨by omega, Or.inl ⟨by omega, Or.inr ⟨by first | omega | assumption | exact fun z => z hRv, pXi (QEq.rf S) hb⟩⟩⟩ | exact Or.inl ⟨by omega, Or.inl ⟨by omega, Or.inl ⟨by first | omega | assumption, Or.inr ⟨by omega, pXi (QEq.rf S) hb⟩⟩⟩⟩)
  · exact XX.out rfl (by first | exact Or.inr ⟨by omega, pXi (QEq.rf S) hb⟩ | exact Or.inl ⟨by omega, Or.inr ⟨by omega, pXi (QEq.rf S) hb⟩⟩ | exact Or.inl ⟨by omega, Or.inl ⟨by omega, Or.inr ⟨by first | omega | assumption | exact fun z => z hRv, pXi (QEq.rf S) hb⟩⟩⟩ | exact Or.inl ⟨by omega, Or.inl ⟨by omega, Or.inl ⟨by first | omega | assumption, Or.inr ⟨by omega, pXi (QEq.rf S) hb⟩⟩⟩⟩)
theorem pQt {S0 S : XS} {P : Prop} (h : P) (q : QEq S0 S) (b : CB S) : pQ S0 (some (xI (bI P))) (.inl (some (xI 1))) (hp S) := by rw [bI_t h]; exact pQi q b
theorem pQf {S0 S : XS} {P : Prop} (h : ¬ P) (q : QEq S0 S) (b : CB S) : pQ S0 (some (xI (bI P))) (.inl (some (xI 0))) (hp S) := by rw [bI_f h]; exact pQi q b
/-- a telling of another branch may be told in a branch -/
def CanTell (S : XS) (b c k : Int) : Prop := S.1 (9, b, 0) 3 < 60 ∧ (S.1 (13, c, k) 1 ≠ 0 → (S.1 (13, c, k) 0 ≠ 0 → CanOn S (S.1 (13, c, k) 2) (onN S.1 b (S.1 (9, b, 0) 3).toNat)) ∧ (S.1 (13, c, k) 0 = 0 → ¬ Riv S.1 b (S.1 (13, c, k) 2) (S.1 (13, c, k) 3) (S.1 (13, c, k) 4)))
set_option maxHeartbeats 4000000 in
set_option maxRecDepth 100000 in
theorem c_canBeTold (S : XS) (hb : CB S) (b : Int) (h1 : 0 ≤ b) (h2 : b < S.1 (0, 0, 0) 6) (c k : Int) (g1 : 0 ≤ c) (g2 : c < 4) (g3 : 0 ≤ k) (g4 : k < S.1 (9, c, 0) 3) (g5 : k < 60) : X mX8_canBeTold 0 (xEnt mX8_canBeTold [xR (0, 0, 0), xR (9, b, 0), xR (13, c, k)]) [] (hp S) 0 0 (pQ S (some (xI (bI (CanTell S b c k))))) := by
  have hw := hb.1
  have hn6 := wf0_6 hw
  have hn4 := wf4_2 hw
  have k9 := wf9_3 hw h1 (show b < 4 by omega)
  have a0 := wf13_0 hw g1 g2 g3 g5
  have a1 := wf13_1 hw g1 g2 g3 g5
  have a2 := wf13_2 hw g1 g2 g3 g5
  have a3 := wf13_3 hw g1 g2 g3 g5
  have a4 := wf13_4 hw g1 g2 g3 g5
  have hto : S.1 (13, c, k) 0 ≠ 0 → S.1 (13, c, k) 2 < 10 := fun z => by have q := (hb.2.2.2.2.2.2 c g1 g2 k.toNat (by omega)); rw [show (k.toNat : Int) = k by omega] at q; have := (q z).1; omega
  show X mX8_canBeTold 0 [xR (0, 0, 0), xR (9, b, 0), xR (13, c, k)] [] (hp S) 0 0 _
  refine x_aload_n dX8_canBeTold_0 rfl ?_
  refine x_callV_r (a := 0) (b := 0) (as := []) (rest := []) ok_X0_isFull dX8_canBeTold_1 wd644 ⟨wd645, wd646⟩ (hp9 S (by omega) (by omega)) rfl rfl (c_isFull S hb.1 b (by omega) (by omega)) rfl (Nat.le_of_ble_eq_true rfl) (Nat.le_of_ble_eq_true rfl) (by decide) (by omega) (by omega) ?_
  by_cases b1 : 60 ≤ S.1 (9, b, 0) 3
  · refine x_top (bI_t b1) ?_
    refine x_if_eq (tgt := 9) dX8_canBeTold_4 (by decide) ⟨by decide, by decide⟩ (fun z => absurd z (by decide)) (fun _ => ?_)
    refine x_iconst dX8_canBeTold_7 ?_
    exact x_zret dX8_canBeTold_8 rfl (Or.inl rfl) (pQf (P := CanTell S b c k) (fun ⟨z0, z⟩ => by first | (exfalso; omega) | exact hC ((z (by omega)).1 (by omega)) | exact (z (by omega)).2 (by omega) hRv) (QEq.rf S) hb)
  · refine x_top (bI_f b1) ?_
    refine x_if_eq (tgt := 9) dX8_canBeTold_4 (by decide) ⟨by decide, by decide⟩ (fun _ => ?_) (fun z => absurd z (by decide))
    refine x_aload_n dX8_canBeTold_9 rfl ?_
    refine x_get (v := xI (S.1 (13, c, k) 1)) dX8_canBeTold_10 fl_RX8_266 (hp13 S (by omega) (by omega) (by omega) (by omega)) rfl ?_
    have f10_1 := wf13_1 hb.1 (S := S) (b := c) (t := k) (by omega) (by omega) (by omega) (by omega)
    refine x_if_ne (tgt := 18) dX8_canBeTold_13 (by decide) (by first | exact hz _ _ | exact hw.1 _ _ | exact zR_of _ | exact bI_z _ | assumption | exact ⟨by omega, by omega⟩) (fun c13 => ?_) (fun c13 => ?_)
    · refine x_aload_n dX8_canBeTold_18 rfl ?_
      refine x_get (v := xI (S.1 (13, c, k) 0)) dX8_canBeTold_19 fl_RX8_263 (hp13 S (by omega) (by omega) (by omega) (by omega)) rfl ?_
      have f19_2 := wf13_0 hb.1 (S := S) (b := c) (t := k) (by omega) (by omega) (by omega) (by omega)
      refine x_if_eq (tgt := 47) dX8_canBeTold_22 (by decide) (by first | exact hz _ _ | exact hw.1 _ _ | exact zR_of _ | exact bI_z _ | assumption | exact ⟨by omega, by omega⟩) (fun c22 => ?_) (fun c22 => ?_)
      · refine x_aload_n dX8_canBeTold_47 rfl ?_
        refine x_aload_n dX8_canBeTold_48 rfl ?_
        refine x_aload_n dX8_canBeTold_49 rfl ?_
        refine x_get (v := xI (S.1 (13, c, k) 2)) dX8_canBeTold_50 fl_RX8_269 (hp13 S (by omega) (by omega) (by omega) (by omega)) rfl ?_
        have f50_3 := wf13_2 hb.1 (S := S) (b := c) (t := k) (by omega) (by omega) (by omega) (by omega)
        refine x_aload_n dX8_canBeTold_53 rfl ?_
        refine x_get (v := xI (S.1 (13, c, k) 3)) dX8_canBeTold_54 fl_RX8_272 (hp13 S (by omega) (by omega) (by omega) (by omega)) rfl ?_
        have f54_4 := wf13_3 hb.1 (S := S) (b := c) (t := k) (by omega) (by omega) (by omega) (by omega)
        refine x_aload_n dX8_canBeTold_57 rfl ?_
        refine x_get (v := xI (S.1 (13, c, k) 4)) dX8_canBeTold_58 fl_RX8_275 (hp13 S (by omega) (by omega) (by omega) (by omega)) rfl ?_
        have f58_5 := wf13_4 hb.1 (S := S) (b := c) (t := k) (by omega) (by omega) (by omega) (by omega)
        refine x_callV (a := 0) (b := 0) (as := [xR (9, b, 0), xI (S.1 (13, c, k) 2), xI (S.1 (13, c, k) 3), xI (S.1 (13, c, k) 4)]) (rest := []) ok_X8_hasRival dX8_canBeTold_61 wd617 ⟨wd619, wd7⟩ (hp0 S) rfl rfl (c_hasRival S hb b (by omega) (by omega) (S.1 (13, c, k) 2) (by omega) (by omega) (S.1 (13, c, k) 3) (S.1 (13, c, k) 4) (by omega) (by omega) (by omega) (by omega)) rfl (Nat.le_of_ble_eq_true rfl) (Nat.le_of_ble_eq_true rfl) (by decide) (by omega) (by omega) (fun _ q => by cases q.1) (fun _ _ q => ?_) (fun _ _ q => by cases q.1)
        obtain ⟨y, V1, rfl, qV1, bV1⟩ := q
        cases y
        by_cases hRv : Riv S.1 b (S.1 (13, c, k) 2) (S.1 (13, c, k) 3) (S.1 (13, c, k) 4)
        · refine x_top (bI_t hRv) ?_
          refine x_if_ne (tgt := 71) dX8_canBeTold_64 (by decide) ⟨by decide, by decide⟩ (fun _ => ?_) (fun z => absurd z (by decide))
          refine x_iconst dX8_canBeTold_71 ?_
          exact x_zret dX8_canBeTold_72 rfl (Or.inl rfl) (pQf (P := CanTell S b c k) (fun ⟨z0, z⟩ => by first | (exfalso; omega) | exact hC ((z (by omega)).1 (by omega)) | exact (z (by omega)).2 (by omega) hRv) qV1 bV1)
        · refine x_top (bI_f hRv) ?_
          refine x_if_ne (tgt := 71) dX8_canBeTold_64 (by decide) ⟨by decide, by decide⟩ (fun z => absurd z (by decide)) (fun _ => ?_)
          refine x_iconst dX8_canBeTold_67 ?_
          refine x_goto (tgt := 72) dX8_canBeTold_68 (by decide) ?_
          exact x_zret dX8_canBeTold_72 rfl (Or.inr rfl) (pQt (P := CanTell S b c k) ⟨by omega, fun z1 => ⟨fun z2 => by first | exact hC | (exfalso; omega), fun z2 => by first | exact hRv | (exfalso; omega)⟩⟩ qV1 bV1)
      · refine x_aload_n dX8_canBeTold_25 rfl ?_
        refine x_get (v := xR (4, 0, 0)) dX8_canBeTold_26 fl_RX8_28 (hp0 S) rfl ?_
        refine x_aload_n dX8_canBeTold_29 rfl ?_
        refine x_get (v := xI (S.1 (13, c, k) 2)) dX8_canBeTold_30 fl_RX8_269 (hp13 S (by omega) (by omega) (by omega) (by omega)) rfl ?_
        have f30_6 := wf13_2 hb.1 (S := S) (b := c) (t := k) (by omega) (by omega) (by omega) (by omega)
        refine x_aload_n dX8_canBeTold_33 rfl ?_
        refine x_aload_n dX8_canBeTold_34 rfl ?_
        refine x_get (v := xI (S.1 (9, b, 0) 3)) dX8_canBeTold_35 fl_RX8_92 (hp9 S (by omega) (by omega)) rfl ?_
        have f35_7 := wf9_3 hb.1 (S := S) (b := b) (by omega) (by omega)
        refine x_callV_r (a := 0) (b := 0) (as := [xI (S.1 (9, b, 0) 3)]) (rest := [xI (S.1 (13, c, k) 2), xR (4, 0, 0)]) ok_X0_rulesOn dX8_canBeTold_38 wd758 ⟨wd426, wd427⟩ (hp9 S (by omega) (by omega)) rfl rfl (x_nat (e := (S.1 (9, b, 0) 3)) (by omega) (fun n => X mX0_rulesOn 0 (xEnt mX0_rulesOn [xR (9, b, 0), xI n]) [] (hp S) 0 0 (pRet (xI (onN S.1 b ((S.1 (9, b, 0) 3).toNat))) (hp S))) (c_rulesOn S hb.1 b (by omega) (by omega) ((S.1 (9, b, 0) 3).toNat) (by omega))) rfl (Nat.le_of_ble_eq_true rfl) (Nat.le_of_ble_eq_true rfl) (by decide) (by omega) (by omega) ?_
        refine x_callV (a := 0) (b := 0) (as := [xI (S.1 (13, c, k) 2), xI (onN S.1 b ((S.1 (9, b, 0) 3).toNat))]) (rest := []) ok_X5_canBeOn dX8_canBeTold_41 wd759 ⟨wd760, wd761⟩ (hp4 S) rfl rfl (c_canBeOn S hb.1 (S.1 (13, c, k) 2) (onN S.1 b ((S.1 (9, b, 0) 3).toNat)) (by omega) (by omega)) rfl (Nat.le_of_ble_eq_true rfl) (Nat.le_of_ble_eq_true rfl) (by decide) (by omega) (by omega) (fun _ q => by obtain ⟨_, _, _, ⟨q, _⟩ | ⟨q, _⟩⟩ := q <;> cases q) (fun _ _ q => ?_) (fun _ _ q => by obtain ⟨_, _, _, ⟨q, _⟩ | ⟨q, _⟩⟩ := q <;> cases q)
        obtain ⟨gC, gO, rfl, hC⟩ := q
        rcases hC with ⟨y, hC⟩ | ⟨y, hC⟩ <;> cases y
        · skip
          refine x_goto (tgt := 72) dX8_canBeTold_44 (by decide) ?_
          exact x_zret dX8_canBeTold_72 rfl (Or.inr rfl) (pQt (P := CanTell S b c k) ⟨by omega, fun z1 => ⟨fun z2 => by first | exact hC | (exfalso; omega), fun z2 => by first | exact hRv | (exfalso; omega)⟩⟩ (QEq.row33 S gC 6) (hb.row33 gO))
        · skip
          refine x_goto (tgt := 72) dX8_canBeTold_44 (by decide) ?_
          exact x_zret dX8_canBeTold_72 rfl (Or.inl rfl) (pQf (P := CanTell S b c k) (fun ⟨z0, z⟩ => by first | (exfalso; omega) | exact hC ((z (by omega)).1 (by omega)) | exact (z (by omega)).2 (by omega) hRv) (QEq.row33 S gC 6) (hb.row33 gO))
    · refine x_iconst dX8_canBeTold_16 ?_
      exact x_zret dX8_canBeTold_17 rfl (Or.inr rfl) (pQt (P := CanTell S b c k) ⟨by omega, fun z1 => ⟨fun z2 => by first | exact hC | (exfalso; omega), fun z2 => by first | exact hRv | (exfalso; omega)⟩⟩ (QEq.rf S) hb)
