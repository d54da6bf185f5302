/-! the reference: finds -/
/-- alike but for what the reference works on; nothing thrown anew -/
def MdF (S T : XS) : Prop := MdQ S T ∧ T.1 (50, 0, 0) = S.1 (50, 0, 0)
theorem MdF.rf (S : XS) : MdF S S := ⟨MdQ.rf S, rfl⟩
theorem MdF.tr {S T U : XS} (h : MdF S T) (k : MdF T U) : MdF S U := ⟨h.1.tr k.1, k.2.trans h.2⟩
theorem MdF.put {S T : XS} (h : MdF S T) {l : XL} (hl : mI l.1 = true) (k v : Int) : MdF S (putI T l k v) := ⟨h.1.put hl k v, (putI_o (fun z => by rw [← z] at hl; cases hl)).trans h.2⟩
theorem Ex1.mf {l : XL} {S T : XS} (h : Ex1 l S T) (hl : mI l.1 = true) : MdF S T := ⟨h.md hl, h.1 _ (fun z => by rw [← z] at hl; cases hl)⟩
theorem Ex2.mf {S T : XS} (h : Ex2 S T) : MdF S T := ⟨h.md, h.1 _ (by decide) (by decide)⟩
def TdRow (T : XS) (se : Int → Int64) : Prop := ∀ x : Int, 0 ≤ x → x < 384 → T.1 (75, 0, 0) x = bI (sB se x)
def pFi (C S : XS) (b : Int) (n : Nat) (t : Int) : XO → XH → Prop := fun o h' => o = .inl none ∧ ∃ T, h' = hp T ∧ MdF S T ∧ WI T ∧ FinR C b n t (T.1 (73, 0, 0)) ∧ OnRow T (onN C.1 b n) ∧ LyG C.1 (onN C.1 b n) (T.1 (72, 0, 0))
theorem OnRow.q {S T : XS} {on : Int} (h : OnRow S on) (e : T.1 (71, 0, 0) = S.1 (71, 0, 0)) : OnRow T on := fun r hr => by rw [e]; exact h r hr
/-- at first ranks are 0 or 9999 -/
theorem FI.start {C : XS} {on : Int} {H K : Int → Int64} {g : Int → Int} (hg : GOk g) {rk : Int → Int} (hr : ∀ k, 0 ≤ rk k ∧ rk k ≤ 9999) (h : ∀ j : Int, 0 ≤ j → j < 384 → rk j = if bI (sB H j) = 0 then 9999 else 0) : FI C on H K g 0 rk := by
  have key : ∀ x p : Nat, x < 6 → p < 64 → (sB H (64 * x + p) ↔ bitJ (H x) p) := fun x p hx hp => by
    unfold sB
    rw [show (64 * (x : Int) + p) / 64 = x by omega, show (64 * (x : Int) + p) % 64 = p by omega]
  refine ⟨hr, fun x p hx hp hlt => ?_, fun x p hx hp ht => ?_, fun x p hx hp hgx => ?_⟩
  · rw [h _ (by omega) (by omega)] at hlt ⊢
    by_cases q : sB H (64 * x + p)
    · rw [bI_t q, if_neg (by decide)]
      exact (key x p hx hp).mp q
    · rw [bI_f q, if_pos rfl] at hlt; omega
  · rw [h _ (by omega) (by omega), bI_t ((key x p hx hp).mpr ht), if_neg (by decide)]
  · have := (hg x (by omega) (by omega)).1; omega
/-- in a pass over the rules -/
def FS (C S T : XS) (on : Int) (H K : Int → Int64) (g : Int → Int) (L : Int) : Prop := MdF S T ∧ WI T ∧ OnRow T on ∧ T.1 (72, 0, 0) = g ∧ FI C on H K g L (T.1 (73, 0, 0))
def FP (C T : XS) (on : Int) (g : Int → Int) (L : Int) (R0 : Int → Int) (ch : Int) (r : Nat) : Prop := (ch = 0 ∨ ch = 1) ∧ (ch = 0 → T.1 (73, 0, 0) = R0 ∧ ∀ j : Nat, j < r → Clo C on g L R0 j) ∧ (ch = 1 → rsum (T.1 (73, 0, 0)) 384 < rsum R0 384)
theorem FP.skip {C T : XS} {on : Int} {g : Int → Int} {L : Int} {R0 : Int → Int} {ch : Int} {r : Nat} (h : FP C T on g L R0 ch r) (hc : ¬ (bitI on r ∧ g (C.1 (37, r, 0) 0) = L)) : FP C T on g L R0 ch (r + 1) := by
  obtain ⟨h1, h2, h3⟩ := h
  refine ⟨h1, fun q => ⟨(h2 q).1, fun j hj => ?_⟩, h3⟩
  rcases Nat.lt_or_eq_of_le (show j ≤ r by omega) with y | y
  · exact (h2 q).2 j y
  · subst y; exact fun a b => absurd ⟨a, b⟩ hc
theorem FP.go0 {C T U : XS} {on : Int} {g : Int → Int} {L : Int} {R0 : Int → Int} {ch : Int} {r : Nat} (h : FP C T on g L R0 ch r) (e : U.1 (73, 0, 0) = T.1 (73, 0, 0)) (hc : Clo C on g L (U.1 (73, 0, 0)) r) : FP C U on g L R0 ch (r + 1) := by
  obtain ⟨h1, h2, h3⟩ := h
  refine ⟨h1, fun q => ⟨e.trans (h2 q).1, fun j hj => ?_⟩, fun q => by rw [e]; exact h3 q⟩
  rcases Nat.lt_or_eq_of_le (show j ≤ r by omega) with y | y
  · exact (h2 q).2 j y
  · subst y; rw [e, (h2 q).1] at hc; exact hc
theorem FP.go1 {C T U : XS} {on : Int} {g : Int → Int} {L : Int} {R0 : Int → Int} {ch : Int} {r : Nat} (h : FP C T on g L R0 ch r) (e : rsum (U.1 (73, 0, 0)) 384 < rsum (T.1 (73, 0, 0)) 384) : FP C U on g L R0 1 (r + 1) := by
  obtain ⟨h1, h2, h3⟩ := h
  refine ⟨Or.inr rfl, (fun q => by cases q), fun _ => ?_⟩
  rcases h1 with q | q
  · rw [← (h2 q).1]; exact e
  · have := h3 q; omega
theorem FS.go {C S T U : XS} {on : Int} {H K : Int → Int64} {g : Int → Int} {L : Int} (h : FS C S T on H K g L) (e : Ex2 T U) (w : WI U) (f : FI C on H K g L (U.1 (73, 0, 0))) : FS C S U on H K g L := by
  obtain ⟨h1, h2, h3, h4, h5⟩ := h
  exact ⟨h1.tr e.mf, w, h3.q (e.1 _ (by decide) (by decide)), (e.1 _ (by decide) (by decide)).trans h4, f⟩
set_option maxHeartbeats 4000000 in
set_option maxRecDepth 100000 in
theorem l_finds7 (C S : XS) (hC : CB C) (hw : WI S) (ht : MRt C S) (hn : MRn C S) (hr : MRr C S) (b : Int) (b0 : 0 ≤ b) (b1 : b < C.1 (0, 0, 0) 6) (n : Nat) (hn9 : (n : Int) ≤ C.1 (9, b, 0) 3) (t : Int) (t0 : 0 ≤ t) (t1 : t < 24) (g : Int → Int) (hg : LyG C.1 (onN C.1 b n) g) (hS : Stab C.1 (onN C.1 b n) (toldN C.1 b t n) (hl C.1 b n t)) (L : Int) (L0 : 0 ≤ L) (L1 : L ≤ 6) (R0 : Int → Int) (nr : Nat) (hnr : C.1 (4, 0, 0) 2 = nr) (KK7 : ∀ (T : XS) (ch : Int), FS C S T (onN C.1 b n) (toldN C.1 b t n) (hl C.1 b n t) g L → FP C T (onN C.1 b n) g L R0 ch nr → X mX9_finds 192 [xR (50, 0, 0), xI b, xI (n : Int), xI t, xI 1, xI L, xI ch, none] [] (hp T) 0 0 (pFi C S b n t)) : ∀ (nn : Nat) (T : XS) (ch : Int) (r : Nat), (nr : Int) - r < (nn : Int) → (r ≤ nr) → (FS C S T (onN C.1 b n) (toldN C.1 b t n) (hl C.1 b n t) g L) → (FP C T (onN C.1 b n) g L R0 ch r) → X mX9_finds 203 [xR (50, 0, 0), xI b, xI (n : Int), xI t, xI 1, xI L, xI ch, xI (r : Int)] [] (hp T) 0 0 (pFi C S b n t) := by
  intro nn
  induction nn with
  | zero => intro T ch r hm hrn hT hP; exfalso; omega
  | succ nn ih =>
    intro T ch r hm hrn hT hP
    have c6 := wf0_6 hC.1
    have c9 := wf9_3 hC.1 b0 (show b < 4 by omega)
    have c4 := wf4_2 hC.1
    have hz := hT.2.1.1
    have hn2 := hn.q hT.1.1
    obtain ⟨-, n12, -, -⟩ := hn2
    have hch := hP.1
    refine x_iload dX9_finds_203 rfl ?_
    refine x_aload_n dX9_finds_205 rfl ?_
    refine x_get (v := xI (T.1 (50, 0, 0) 12)) dX9_finds_206 fl_RX9_111 (hp50 T) rfl ?_
    have f206_1 := wf50_12 hT.2.1 (S := T)
    refine x_icmp_ge (tgt := 266) dX9_finds_209 (by decide) (by first | exact hz _ _ | exact hw.1 _ _ | exact zR_of _ | exact bI_z _ | assumption | exact ⟨by omega, by omega⟩) (by first | exact hz _ _ | exact hw.1 _ _ | exact zR_of _ | exact bI_z _ | assumption | exact ⟨by omega, by omega⟩) (fun c209 => ?_) (fun c209 => ?_)
    · refine x_goto (tgt := 192) dX9_finds_266 (by decide) ?_
      refine X.loc (L' := [xR (50, 0, 0), xI b, xI (n : Int), xI t, xI 1, xI L, xI ch, none]) ⟨rfl, ⟨rfl, ⟨rfl, ⟨rfl, ⟨rfl, ⟨rfl, ⟨rfl, trivial⟩⟩⟩⟩⟩⟩⟩ ?_
      exact KK7 T ch hT (by obtain rfl : r = nr := (by omega); exact hP)
    · have hr1 : (r : Int) < C.1 (4, 0, 0) 2 := by omega
      have on1 := hT.2.2.1 r (by omega)
      obtain ⟨q1, -, -, -, -, -, -⟩ := hr.q hT.1.1 r (by omega) hr1
      have h37 := wf37_0 hC.1 (b := (r : Int)) (by omega) (by omega)
      refine x_iload dX9_finds_212 rfl ?_
      refine x_aload_n dX9_finds_214 rfl ?_
      refine x_get (v := xR (71, 0, 0)) dX9_finds_215 fl_RX9_81 (hp50 T) rfl ?_
      refine x_iload dX9_finds_218 rfl ?_
      refine x_aldz (f := T.1 (71, 0, 0)) dX9_finds_220 (hp71 T) (show (71 : Nat) ≠ 99 by decide) (by omega) (by omega) (by decide) ?_
      have f220_2 := wfa71 hT.2.1 (S := T) (r : Int)
      refine x_if_eq (tgt := 256) dX9_finds_221 (by decide) (by first | exact hz _ _ | exact hw.1 _ _ | exact zR_of _ | exact bI_z _ | assumption | exact ⟨by omega, by omega⟩) (fun c221 => ?_) (fun c221 => ?_)
      · refine x_iconst dX9_finds_256 ?_
        refine x_ior dX9_finds_257 ?_
        refine x_istore (L' := [xR (50, 0, 0), xI b, xI (n : Int), xI t, xI 1, xI L, xI (zOr ch 0), xI (r : Int)]) dX9_finds_258 (by decide) rfl ?_
        refine x_iinc (L' := [xR (50, 0, 0), xI b, xI (n : Int), xI t, xI 1, xI L, xI (zOr ch 0), xI ((r : Int) + 1)]) dX9_finds_260 rfl rfl ?_
        refine x_goto (tgt := 203) dX9_finds_263 (by decide) ?_
        rw [(zOr01 hP.1).2]
        exact ih T ch (r + 1) (by omega) (by omega) hT (hP.skip (fun z => by have := z.2; first | omega | exact absurd z.1 (fun y => by rw [bI_t y] at on1; omega)))
      · refine x_aload_n dX9_finds_224 rfl ?_
        refine x_get (v := xR (72, 0, 0)) dX9_finds_225 fl_RX9_84 (hp50 T) rfl ?_
        refine x_aload_n dX9_finds_228 rfl ?_
        refine x_get (v := xR (62, 0, 0)) dX9_finds_229 fl_RX9_49 (hp50 T) rfl ?_
        refine x_iconst dX9_finds_232 ?_
        refine x_iload dX9_finds_233 rfl ?_
        refine x_imul dX9_finds_235 ?_
        refine x_aldi (f := T.1 (62, 0, 0)) dX9_finds_236 (hp62 T) (show (62 : Nat) ≠ 99 by decide) (by omega) (by omega) (by decide) ?_
        have f236_3 := wfa62 hT.2.1 (S := T) (3 * (r : Int))
        refine x_aldi (f := T.1 (72, 0, 0)) dX9_finds_237 (hp72 T) (show (72 : Nat) ≠ 99 by decide) (by omega) (by omega) (by decide) ?_
        have f237_4 := wfa72 hT.2.1 (S := T) (T.1 (62, 0, 0) (3 * (r : Int)))
        have gx := hg.1 _ h37.1 h37.2
        refine x_top (show T.1 (72, 0, 0) (T.1 (62, 0, 0) (3 * (r : Int))) = g (C.1 (37, (r : Int), 0) 0) from by rw [hT.2.2.2.1, q1]) ?_
        refine x_iload dX9_finds_238 rfl ?_
        refine x_icmp_ne (tgt := 256) dX9_finds_240 (by decide) (by first | exact hz _ _ | exact hw.1 _ _ | exact zR_of _ | exact bI_z _ | assumption | exact ⟨by omega, by omega⟩) (by first | exact hz _ _ | exact hw.1 _ _ | exact zR_of _ | exact bI_z _ | assumption | exact ⟨by omega, by omega⟩) (fun c240 => ?_) (fun c240 => ?_)
        · refine x_iconst dX9_finds_256 ?_
          refine x_ior dX9_finds_257 ?_
          refine x_istore (L' := [xR (50, 0, 0), xI b, xI (n : Int), xI t, xI 1, xI L, xI (zOr ch 0), xI (r : Int)]) dX9_finds_258 (by decide) rfl ?_
          refine x_iinc (L' := [xR (50, 0, 0), xI b, xI (n : Int), xI t, xI 1, xI L, xI (zOr ch 0), xI ((r : Int) + 1)]) dX9_finds_260 rfl rfl ?_
          refine x_goto (tgt := 203) dX9_finds_263 (by decide) ?_
          rw [(zOr01 hP.1).2]
          exact ih T ch (r + 1) (by omega) (by omega) hT (hP.skip (fun z => by have := z.2; first | omega | exact absurd z.1 (fun y => by rw [bI_t y] at on1; omega)))
        · have hon : bitI (onN C.1 b n) r := by apply Classical.byContradiction; intro z; rw [bI_f z] at on1; omega
          refine x_aload_n dX9_finds_243 rfl ?_
          refine x_iload dX9_finds_244 rfl ?_
          refine x_callV (a := 0) (b := 0) (as := [xI (r : Int)]) (rest := [xI ch]) ok_X9_goes dX9_finds_246 wd1258 ⟨wd1260, wd29⟩ (hp50 T) rfl rfl (m_goes C T hC.1 hC.2.1 (hr.q hT.1.1) (onN C.1 b n) (toldN C.1 b t n) (hl C.1 b n t) g hg.1 hg.2.1 hS L r hr1 hon (by omega) hT.2.1 hT.2.2.2.2) rfl (Nat.le_of_ble_eq_true rfl) (Nat.le_of_ble_eq_true rfl) (by decide) (by omega) (by omega) (fun _ q => by obtain ⟨_, _, _, q, _⟩ := q; cases q) (fun _ _ q => ?_) (fun _ _ q => by obtain ⟨_, _, _, q, _⟩ := q; cases q)
          obtain ⟨U, z, rfl, y, hz1, eU, wU, fU, k0, k1⟩ := q
          cases y
          refine x_if_eq (tgt := 256) dX9_finds_249 (by decide) (by first | exact hz _ _ | exact hw.1 _ _ | exact zR_of _ | exact bI_z _ | assumption | exact ⟨by omega, by omega⟩) (fun c249 => ?_) (fun c249 => ?_)
          · refine x_iconst dX9_finds_256 ?_
            refine x_ior dX9_finds_257 ?_
            refine x_istore (L' := [xR (50, 0, 0), xI b, xI (n : Int), xI t, xI 1, xI L, xI (zOr ch 0), xI (r : Int)]) dX9_finds_258 (by decide) rfl ?_
            refine x_iinc (L' := [xR (50, 0, 0), xI b, xI (n : Int), xI t, xI 1, xI L, xI (zOr ch 0), xI ((r : Int) + 1)]) dX9_finds_260 rfl rfl ?_
            refine x_goto (tgt := 203) dX9_finds_263 (by decide) ?_
            rw [(zOr01 hP.1).2]
            exact ih U ch (r + 1) (by omega) (by omega) (hT.go eU wU fU) (hP.go0 (k0 (by omega)).1 (k0 (by omega)).2)
          · refine x_iconst dX9_finds_252 ?_
            refine x_goto (tgt := 257) dX9_finds_253 (by decide) ?_
            refine x_ior dX9_finds_257 ?_
            refine x_istore (L' := [xR (50, 0, 0), xI b, xI (n : Int), xI t, xI 1, xI L, xI (zOr ch 1), xI (r : Int)]) dX9_finds_258 (by decide) rfl ?_
            refine x_iinc (L' := [xR (50, 0, 0), xI b, xI (n : Int), xI t, xI 1, xI L, xI (zOr ch 1), xI ((r : Int) + 1)]) dX9_finds_260 rfl rfl ?_
            refine x_goto (tgt := 203) dX9_finds_263 (by decide) ?_
            rw [(zOr01 hP.1).1]
            exact ih U 1 (r + 1) (by omega) (by omega) (hT.go eU wU fU) (hP.go1 (k1 (by omega)))
set_option maxHeartbeats 4000000 in
set_option maxRecDepth 100000 in
theorem l_finds6 (C S : XS) (hC : CB C) (hw : WI S) (ht : MRt C S) (hn : MRn C S) (hr : MRr C S) (b : Int) (b0 : 0 ≤ b) (b1 : b < C.1 (0, 0, 0) 6) (n : Nat) (hn9 : (n : Int) ≤ C.1 (9, b, 0) 3) (t : Int) (t0 : 0 ≤ t) (t1 : t < 24) (g : Int → Int) (hg : LyG C.1 (onN C.1 b n) g) (hS : Stab C.1 (onN C.1 b n) (toldN C.1 b t n) (hl C.1 b n t)) (L : Int) (L0 : 0 ≤ L) (L1 : L ≤ 6) (nr : Nat) (hnr : C.1 (4, 0, 0) 2 = nr) (KK6 : ∀ T : XS, FS C S T (onN C.1 b n) (toldN C.1 b t n) (hl C.1 b n t) g (L + 1) → X mX9_finds 177 [xR (50, 0, 0), xI b, xI (n : Int), xI t, xI 1, xI (L + 1), none, none] [] (hp T) 0 0 (pFi C S b n t)) : ∀ (nn : Nat) (T : XS) (ch : Int) (R0 : Int → Int), ((rsum (T.1 (73, 0, 0)) 384 + ch).toNat : Int) < (nn : Int) → (FS C S T (onN C.1 b n) (toldN C.1 b t n) (hl C.1 b n t) g L) → (FP C T (onN C.1 b n) g L R0 ch nr) → X mX9_finds 192 [xR (50, 0, 0), xI b, xI (n : Int), xI t, xI 1, xI L, xI ch, none] [] (hp T) 0 0 (pFi C S b n t) := by
  intro nn
  induction nn with
  | zero => intro T ch R0 hm hT hP; exfalso; omega
  | succ nn ih =>
    intro T ch R0 hm hT hP
    have c6 := wf0_6 hC.1
    have c9 := wf9_3 hC.1 b0 (show b < 4 by omega)
    have c4 := wf4_2 hC.1
    have hch := hP.1
    have hs := rsum_in (rk := T.1 (73, 0, 0)) (fun k => wfa73 hT.2.1 k) 384
    refine x_iload dX9_finds_192 rfl ?_
    refine x_if_eq (tgt := 269) dX9_finds_194 (by decide) (by first | exact hz _ _ | exact hw.1 _ _ | exact zR_of _ | exact bI_z _ | assumption | exact ⟨by omega, by omega⟩) (fun c194 => ?_) (fun c194 => ?_)
    · refine x_iinc (L' := [xR (50, 0, 0), xI b, xI (n : Int), xI t, xI 1, xI (L + 1), xI ch, none]) dX9_finds_269 rfl rfl ?_
      refine x_goto (tgt := 177) dX9_finds_272 (by decide) ?_
      refine X.loc (L' := [xR (50, 0, 0), xI b, xI (n : Int), xI t, xI 1, xI (L + 1), none, none]) ⟨rfl, ⟨rfl, ⟨rfl, ⟨rfl, ⟨rfl, ⟨rfl, trivial⟩⟩⟩⟩⟩⟩ ?_
      obtain rfl : ch = 0 := (by omega)
      exact KK6 T ⟨hT.1, hT.2.1, hT.2.2.1, hT.2.2.2.1, hT.2.2.2.2.next hC.1 hC.2.1 hg.1 hg.2.1 hS (fun r hr1 => by rw [(hP.2.1 rfl).1]; exact (hP.2.1 rfl).2 r (by omega))⟩
    · refine x_iconst dX9_finds_197 ?_
      refine x_istore (L' := [xR (50, 0, 0), xI b, xI (n : Int), xI t, xI 1, xI L, xI 0, none]) dX9_finds_198 (by decide) rfl ?_
      refine x_iconst dX9_finds_200 ?_
      refine x_istore (L' := [xR (50, 0, 0), xI b, xI (n : Int), xI t, xI 1, xI L, xI 0, xI 0]) dX9_finds_201 (by decide) rfl ?_
      obtain rfl : ch = 1 := (by have := hP.1; omega)
      exact l_finds7 C S hC hw ht hn hr b b0 b1 n hn9 t t0 t1 g hg hS L L0 L1 (T.1 (73, 0, 0)) nr hnr (fun U ch hU hP2 => ih U ch (T.1 (73, 0, 0)) (by rcases hP2.1 with z | z; (rw [z, (hP2.2.1 z).1]; omega); (have := hP2.2.2 z; omega)) hU hP2) (nr + 1) T 0 0 (by omega) (by omega) hT ⟨Or.inl rfl, fun _ => ⟨rfl, fun j hj => by omega⟩, fun q => by cases q⟩
set_option maxHeartbeats 4000000 in
set_option maxRecDepth 100000 in
theorem l_finds5 (C S : XS) (hC : CB C) (hw : WI S) (ht : MRt C S) (hn : MRn C S) (hr : MRr C S) (b : Int) (b0 : 0 ≤ b) (b1 : b < C.1 (0, 0, 0) 6) (n : Nat) (hn9 : (n : Int) ≤ C.1 (9, b, 0) 3) (t : Int) (t0 : 0 ≤ t) (t1 : t < 24) (g : Int → Int) (hg : LyG C.1 (onN C.1 b n) g) (hS : Stab C.1 (onN C.1 b n) (toldN C.1 b t n) (hl C.1 b n t)) : ∀ (nn : Nat) (T : XS) (s : Nat), 8 - (s : Int) < (nn : Int) → (s ≤ 7) → (FS C S T (onN C.1 b n) (toldN C.1 b t n) (hl C.1 b n t) g (s : Int)) → X mX9_finds 177 [xR (50, 0, 0), xI b, xI (n : Int), xI t, xI 1, xI (s : Int), none, none] [] (hp T) 0 0 (pFi C S b n t) := by
  intro nn
  induction nn with
  | zero => intro T s hm hs hT; exfalso; omega
  | succ nn ih =>
    intro T s hm hs hT
    have c6 := wf0_6 hC.1
    have c9 := wf9_3 hC.1 b0 (show b < 4 by omega)
    have c4 := wf4_2 hC.1
    have hs2 := rsum_in (rk := T.1 (73, 0, 0)) (fun k => wfa73 hT.2.1 k) 384
    refine x_iload dX9_finds_177 rfl ?_
    refine x_bipush (v := 6) dX9_finds_179 (by decide) ?_
    refine x_icmp_gt (tgt := 275) dX9_finds_181 (by decide) (by first | exact hz _ _ | exact hw.1 _ _ | exact zR_of _ | exact bI_z _ | assumption | exact ⟨by omega, by omega⟩) ⟨by decide, by decide⟩ (fun c181 => ?_) (fun c181 => ?_)
    · exact x_vret dX9_finds_275 rfl ⟨rfl, T, rfl, hT.1, hT.2.1, hT.2.2.2.2.fin hC.1 hC.2.1 hg.1 (by omega), hT.2.2.1, by rw [hT.2.2.2.1]; exact hg⟩
    · refine x_iload dX9_finds_184 rfl ?_
      refine x_if_eq (tgt := 275) dX9_finds_186 (by decide) ⟨by decide, by decide⟩ (fun z => absurd z (by decide)) (fun _ => ?_)
      refine x_iconst dX9_finds_189 ?_
      refine x_istore (L' := [xR (50, 0, 0), xI b, xI (n : Int), xI t, xI 1, xI (s : Int), xI 1, none]) dX9_finds_190 (by decide) rfl ?_
      exact l_finds6 C S hC hw ht hn hr b b0 b1 n hn9 t t0 t1 g hg hS s (by omega) (by omega) (C.1 (4, 0, 0) 2).toNat (by omega) (fun U hU => ih U (s + 1) (by omega) (by omega) hU) (rsum (T.1 (73, 0, 0)) 384 + 2).toNat T 1 (xUpd (T.1 (73, 0, 0)) 0 (T.1 (73, 0, 0) 0 + 1)) (by omega) hT ⟨Or.inr rfl, (fun q => by cases q), fun _ => by rw [rsum_upd _ (Int.le_refl 0) 384, if_pos (by decide)]; omega⟩
set_option maxHeartbeats 4000000 in
set_option maxRecDepth 100000 in
theorem l_finds3 (C S : XS) (hC : CB C) (hw : WI S) (ht : MRt C S) (hn : MRn C S) (hr : MRr C S) (b : Int) (b0 : 0 ≤ b) (b1 : b < C.1 (0, 0, 0) 6) (n : Nat) (hn9 : (n : Int) ≤ C.1 (9, b, 0) 3) (t : Int) (t0 : 0 ≤ t) (t1 : t < 24) : ∀ (nn : Nat) (T : XS) (i : Nat), 385 - (i : Int) < (nn : Int) → (i ≤ 384) → (MdF S T) → (WI T) → (TdRow T (toldN C.1 b t n)) → (∀ j : Int, 0 ≤ j → j < i → T.1 (73, 0, 0) j = (if bI (sB (toldN C.1 b t n) j) = 0 then 9999 else 0)) → X mX9_finds 124 [xR (50, 0, 0), xI b, xI (n : Int), xI t, xI (i : Int), none, none, none] [] (hp T) 0 0 (pFi C S b n t) := by
  intro nn
  induction nn with
  | zero => intro T i hm hi eT wT hT hk; exfalso; omega
  | succ nn ih =>
    intro T i hm hi eT wT hT hk
    have c6 := wf0_6 hC.1
    have c9 := wf9_3 hC.1 b0 (show b < 4 by omega)
    have c4 := wf4_2 hC.1
    have hz := wT.1
    refine x_iload dX9_finds_124 rfl ?_
    refine x_sipush (v := 384) dX9_finds_126 (by decide) ?_
    refine x_icmp_ge (tgt := 162) dX9_finds_129 (by decide) (by first | exact hz _ _ | exact hw.1 _ _ | exact zR_of _ | exact bI_z _ | assumption | exact ⟨by omega, by omega⟩) ⟨by decide, by decide⟩ (fun c129 => ?_) (fun c129 => ?_)
    · refine x_aload_n dX9_finds_162 rfl ?_
      refine x_iload_n dX9_finds_163 rfl ?_
      refine x_iload_n dX9_finds_164 rfl ?_
      refine x_callV (a := 0) (b := 0) (as := [xI b, xI (n : Int)]) (rest := []) ok_X9_turnsOn dX9_finds_165 wd1249 ⟨wd1251, wd27⟩ (hp50 T) rfl rfl (m_turnsOn C T hC wT (ht.q eT.1) b b0 (by omega) n hn9) rfl (Nat.le_of_ble_eq_true rfl) (Nat.le_of_ble_eq_true rfl) (by decide) (by omega) (by omega) (fun _ q => ?_) (fun _ _ q => by cases q.1) (fun _ _ q => by cases q.1)
      obtain ⟨-, U, rfl, eU, wU, oU⟩ := q
      refine x_aload_n dX9_finds_168 rfl ?_
      refine x_callV (a := 0) (b := 0) (as := []) (rest := []) ok_X9_layers dX9_finds_169 wd1253 ⟨wd1255, wd28⟩ (hp50 U) rfl rfl (m_layers C U hC.1 wU (hn.q (eT.1.tr (eU.md rfl))) (hr.q (eT.1.tr (eU.md rfl))) (onN C.1 b n) oU) rfl (Nat.le_of_ble_eq_true rfl) (Nat.le_of_ble_eq_true rfl) (by decide) (by omega) (by omega) (fun _ q => by obtain ⟨_, _, _, _, ⟨q, _⟩ | ⟨q, _⟩⟩ := q <;> cases q) (fun _ _ q => ?_) (fun _ _ q => by obtain ⟨_, _, _, _, ⟨q, _⟩ | ⟨q, _⟩⟩ := q <;> cases q)
      obtain ⟨V, rfl, eV, wV, ⟨y, hg⟩ | ⟨y, no⟩⟩ := q
      rotate_left
      · exfalso; obtain ⟨g, g1, g2⟩ := hC.2.2.2.1 b b0 b1 n hn9; exact no g g1 g2
      cases y
      refine x_istore (L' := [xR (50, 0, 0), xI b, xI (n : Int), xI t, xI 1, none, none, none]) dX9_finds_172 (by decide) rfl ?_
      refine x_iconst dX9_finds_174 ?_
      refine x_istore (L' := [xR (50, 0, 0), xI b, xI (n : Int), xI t, xI 1, xI 0, none, none]) dX9_finds_175 (by decide) rfl ?_
      have hS := hl_stab hC b0 b1 n hn9 t
      exact l_finds5 C S hC hw ht hn hr b b0 b1 n hn9 t t0 t1 (V.1 (72, 0, 0)) hg hS 9 V 0 (by omega) (by omega) ⟨(eT.tr (eU.mf rfl)).tr (eV.mf rfl), wV, oU.q (eV.1 _ (by decide)), rfl, FI.start hg.1 (fun k => wfa73 wV k) (fun j j0 j1 => by rw [eV.1 _ (by decide), eU.1 _ (by decide)]; exact hk j j0 (by omega))⟩
    · have ti := hT (i : Int) (by omega) (by omega)
      refine x_aload_n dX9_finds_132 rfl ?_
      refine x_get (v := xR (73, 0, 0)) dX9_finds_133 fl_RX9_87 (hp50 T) rfl ?_
      refine x_iload dX9_finds_136 rfl ?_
      refine x_aload_n dX9_finds_138 rfl ?_
      refine x_get (v := xR (75, 0, 0)) dX9_finds_139 fl_RX9_93 (hp50 T) rfl ?_
      refine x_iload dX9_finds_142 rfl ?_
      refine x_aldz (f := T.1 (75, 0, 0)) dX9_finds_144 (hp75 T) (show (75 : Nat) ≠ 99 by decide) (by omega) (by omega) (by decide) ?_
      have f144_1 := wfa75 wT (S := T) (i : Int)
      refine x_if_eq (tgt := 152) dX9_finds_145 (by decide) (by first | exact hz _ _ | exact hw.1 _ _ | exact zR_of _ | exact bI_z _ | assumption | exact ⟨by omega, by omega⟩) (fun c145 => ?_) (fun c145 => ?_)
      · refine x_sipush (v := 9999) dX9_finds_152 (by decide) ?_
        refine x_asti dX9_finds_155 (hp73 T) (show (73 : Nat) ≠ 99 by decide) (by omega) (by omega) (by decide) ?_
        refine x_heq (pa73 T (i : Int) 9999) ?_
        have hw155_2 : WI (putI T (73, 0, 0) (i : Int) 9999) := wpa73 wT (by omega)
        refine x_iinc (L' := [xR (50, 0, 0), xI b, xI (n : Int), xI t, xI ((i : Int) + 1), none, none, none]) dX9_finds_156 rfl rfl ?_
        refine x_goto (tgt := 124) dX9_finds_159 (by decide) ?_
        exact ih (putI T (73, 0, 0) (i : Int) 9999) (i + 1) (by omega) (by omega) (eT.put rfl _ _) (by assumption) (fun x x0 x1 => by rw [putI_o (by decide)]; exact hT x x0 x1) (fun j j0 j1 => by rw [putI_at]; by_cases y : j = (i : Int); (rw [if_pos y, y, ← ti]; first | rw [if_pos (by omega)] | rw [if_neg (by omega)]); (rw [if_neg y]; exact hk j j0 (by omega)))
      · refine x_iconst dX9_finds_148 ?_
        refine x_goto (tgt := 155) dX9_finds_149 (by decide) ?_
        refine x_asti dX9_finds_155 (hp73 T) (show (73 : Nat) ≠ 99 by decide) (by omega) (by omega) (by decide) ?_
        refine x_heq (pa73 T (i : Int) 0) ?_
        have hw155_3 : WI (putI T (73, 0, 0) (i : Int) 0) := wpa73 wT (by omega)
        refine x_iinc (L' := [xR (50, 0, 0), xI b, xI (n : Int), xI t, xI ((i : Int) + 1), none, none, none]) dX9_finds_156 rfl rfl ?_
        refine x_goto (tgt := 124) dX9_finds_159 (by decide) ?_
        exact ih (putI T (73, 0, 0) (i : Int) 0) (i + 1) (by omega) (by omega) (eT.put rfl _ _) (by assumption) (fun x x0 x1 => by rw [putI_o (by decide)]; exact hT x x0 x1) (fun j j0 j1 => by rw [putI_at]; by_cases y : j = (i : Int); (rw [if_pos y, y, ← ti]; first | rw [if_pos (by omega)] | rw [if_neg (by omega)]); (rw [if_neg y]; exact hk j j0 (by omega)))
set_option maxHeartbeats 4000000 in
set_option maxRecDepth 100000 in
theorem l_finds2 (C S : XS) (hC : CB C) (hw : WI S) (ht : MRt C S) (hn : MRn C S) (hr : MRr C S) (b : Int) (b0 : 0 ≤ b) (b1 : b < C.1 (0, 0, 0) 6) (n : Nat) (hn9 : (n : Int) ≤ C.1 (9, b, 0) 3) (t : Int) (t0 : 0 ≤ t) (t1 : t < 24) : ∀ (nn : Nat) (T : XS) (i : Nat), (n : Int) - i < (nn : Int) → (i ≤ n) → (MdF S T) → (WI T) → (TdRow T (toldN C.1 b t i)) → X mX9_finds 31 [xR (50, 0, 0), xI b, xI (n : Int), xI t, xI (60 * b + (i : Int)), none, none, none] [] (hp T) 0 0 (pFi C S b n t) := by
  intro nn
  induction nn with
  | zero => intro T i hm hi eT wT hT; exfalso; omega
  | succ nn ih =>
    intro T i hm hi eT wT hT
    have c6 := wf0_6 hC.1
    have c9 := wf9_3 hC.1 b0 (show b < 4 by omega)
    have c4 := wf4_2 hC.1
    have ti := fun (h : (i : Int) < (n : Int)) => (ht.q eT.1) b i b0 (by omega) (by omega) (by omega)
    have fi2 := fun (h : (i : Int) < (n : Int)) => wf13_2 hC.1 b0 (show b < 4 by omega) (show (0 : Int) ≤ (i : Int) by omega) (show (i : Int) < 60 by omega)
    have fi0 := fun (h : (i : Int) < (n : Int)) => kd_fact (C.1 (13, b, i) 0) (C.1 (13, b, i) 1)
    have fi1 := fun (h : (i : Int) < (n : Int)) => kd_tell (C.1 (13, b, i) 0) (C.1 (13, b, i) 1)
    have hz := wT.1
    have zt : zR t := ⟨by omega, by omega⟩
    refine x_iload dX9_finds_31 rfl ?_
    refine x_iload_n dX9_finds_33 rfl ?_
    refine x_bipush (v := 60) dX9_finds_34 (by decide) ?_
    refine x_imul dX9_finds_36 ?_
    refine x_iload_n dX9_finds_37 rfl ?_
    refine x_iadd dX9_finds_38 ?_
    refine x_icmp_ge (tgt := 121) dX9_finds_39 (by decide) (by first | exact hz _ _ | exact hw.1 _ _ | exact zR_of _ | exact bI_z _ | assumption | exact ⟨by omega, by omega⟩) (by first | exact hz _ _ | exact hw.1 _ _ | exact zR_of _ | exact bI_z _ | assumption | exact ⟨by omega, by omega⟩) (fun c39 => ?_) (fun c39 => ?_)
    · refine x_iconst dX9_finds_121 ?_
      refine x_istore (L' := [xR (50, 0, 0), xI b, xI (n : Int), xI t, xI 0, none, none, none]) dX9_finds_122 (by decide) rfl ?_
      obtain rfl : i = n := (by omega)
      exact l_finds3 C S hC hw ht hn hr b b0 b1 i hn9 t t0 t1 386 T 0 (by omega) (by omega) eT wT hT (fun j j0 j1 => by omega)
    · have ti := ti (by omega); have fi2 := fi2 (by omega); have fi0 := fi0 (by omega); have fi1 := fi1 (by omega)
      refine x_aload_n dX9_finds_42 rfl ?_
      refine x_get (v := xR (51, 0, 0)) dX9_finds_43 fl_RX9_9 (hp50 T) rfl ?_
      refine x_iload dX9_finds_46 rfl ?_
      refine x_aldc (f := T.1 (51, 0, 0)) dX9_finds_48 (hp51 T) (show (51 : Nat) ≠ 99 by decide) (by omega) (by omega) (by decide) ?_
      have f48_1 := wfa51 wT (S := T) (60 * b + (i : Int))
      refine x_callS_r (a := 0) (b := 0) (as := [xI (T.1 (51, 0, 0) (60 * b + (i : Int)))]) (rest := []) ok_X9_isOfFact dX9_finds_49 wd1230 wd1231 (m_isOfFact T (T.1 (51, 0, 0) (60 * b + (i : Int))) (by first | exact hz _ _ | exact hw.1 _ _ | exact zR_of _ | exact bI_z _ | assumption | exact ⟨by omega, by omega⟩)) rfl (Nat.le_of_ble_eq_true rfl) (Nat.le_of_ble_eq_true rfl) (by decide) (by omega) (by omega) ?_
      by_cases b49 : (T.1 (51, 0, 0) (60 * b + (i : Int))) = 104 ∨ (T.1 (51, 0, 0) (60 * b + (i : Int))) = 117
      · refine x_top (bI_t b49) ?_
        refine x_if_eq (tgt := 115) dX9_finds_52 (by decide) ⟨by decide, by decide⟩ (fun z => absurd z (by decide)) (fun _ => ?_)
        refine x_iload_n dX9_finds_55 rfl ?_
        refine x_aload_n dX9_finds_56 rfl ?_
        refine x_get (v := xR (53, 0, 0)) dX9_finds_57 fl_RX9_17 (hp50 T) rfl ?_
        refine x_iload dX9_finds_60 rfl ?_
        refine x_aldi (f := T.1 (53, 0, 0)) dX9_finds_62 (hp53 T) (show (53 : Nat) ≠ 99 by decide) (by omega) (by omega) (by decide) ?_
        have f62_2 := wfa53 wT (S := T) (60 * b + (i : Int))
        refine x_aload_n dX9_finds_63 rfl ?_
        refine x_get (v := xR (54, 0, 0)) dX9_finds_64 fl_RX9_20 (hp50 T) rfl ?_
        refine x_iload dX9_finds_67 rfl ?_
        refine x_aldi (f := T.1 (54, 0, 0)) dX9_finds_69 (hp54 T) (show (54 : Nat) ≠ 99 by decide) (by omega) (by omega) (by decide) ?_
        have f69_3 := wfa54 wT (S := T) (60 * b + (i : Int))
        refine x_callS_r (a := 0) (b := 0) (as := [xI t, xI (T.1 (53, 0, 0) (60 * b + (i : Int))), xI (T.1 (54, 0, 0) (60 * b + (i : Int)))]) (rest := []) ok_X9_isIn dX9_finds_70 wd1212 wd1213 (m_isIn T t (T.1 (53, 0, 0) (60 * b + (i : Int))) (T.1 (54, 0, 0) (60 * b + (i : Int))) (by first | exact hz _ _ | exact hw.1 _ _ | exact zR_of _ | exact bI_z _ | assumption | exact ⟨by omega, by omega⟩) (by first | exact hz _ _ | exact hw.1 _ _ | exact zR_of _ | exact bI_z _ | assumption | exact ⟨by omega, by omega⟩) (by first | exact hz _ _ | exact hw.1 _ _ | exact zR_of _ | exact bI_z _ | assumption | exact ⟨by omega, by omega⟩)) rfl (Nat.le_of_ble_eq_true rfl) (Nat.le_of_ble_eq_true rfl) (by decide) (by omega) (by omega) ?_
        by_cases b70 : (T.1 (53, 0, 0) (60 * b + (i : Int))) ≤ t ∧ t ≤ (T.1 (54, 0, 0) (60 * b + (i : Int)))
        · refine x_top (bI_t b70) ?_
          refine x_if_eq (tgt := 115) dX9_finds_73 (by decide) ⟨by decide, by decide⟩ (fun z => absurd z (by decide)) (fun _ => ?_)
          refine x_aload_n dX9_finds_76 rfl ?_
          refine x_get (v := xR (56, 0, 0)) dX9_finds_77 fl_RX9_26 (hp50 T) rfl ?_
          refine x_iload dX9_finds_80 rfl ?_
          refine x_aldz (f := T.1 (56, 0, 0)) dX9_finds_82 (hp56 T) (show (56 : Nat) ≠ 99 by decide) (by omega) (by omega) (by decide) ?_
          have f82_4 := wfa56 wT (S := T) (60 * b + (i : Int))
          refine x_if_ne (tgt := 115) dX9_finds_83 (by decide) (by first | exact hz _ _ | exact hw.1 _ _ | exact zR_of _ | exact bI_z _ | assumption | exact ⟨by omega, by omega⟩) (fun c83 => ?_) (fun c83 => ?_)
          · refine x_iinc (L' := [xR (50, 0, 0), xI b, xI (n : Int), xI t, xI ((60 * b + (i : Int)) + 1), none, none, none]) dX9_finds_115 rfl rfl ?_
            refine x_goto (tgt := 31) dX9_finds_118 (by decide) ?_
            have kk := ih T (i + 1) (by omega) (by omega) eT wT (fun x x0 x1 => by rw [hT x x0 x1]; exact bI_c (by rw [told_step C.1 b t i x0 x1 fi2.1 (by omega), if_neg (by omega)]))
            rw [show 60 * b + ((i + 1 : Nat) : Int) = 60 * b + (i : Int) + 1 by omega] at kk
            exact kk
          · refine x_aload_n dX9_finds_86 rfl ?_
            refine x_get (v := xR (75, 0, 0)) dX9_finds_87 fl_RX9_93 (hp50 T) rfl ?_
            refine x_aload_n dX9_finds_90 rfl ?_
            refine x_get (v := xR (52, 0, 0)) dX9_finds_91 fl_RX9_13 (hp50 T) rfl ?_
            refine x_iload dX9_finds_94 rfl ?_
            refine x_aldi (f := T.1 (52, 0, 0)) dX9_finds_96 (hp52 T) (show (52 : Nat) ≠ 99 by decide) (by omega) (by omega) (by decide) ?_
            have f96_5 := wfa52 wT (S := T) (60 * b + (i : Int))
            refine x_aload_n dX9_finds_97 rfl ?_
            refine x_get (v := xR (51, 0, 0)) dX9_finds_98 fl_RX9_9 (hp50 T) rfl ?_
            refine x_iload dX9_finds_101 rfl ?_
            refine x_aldc (f := T.1 (51, 0, 0)) dX9_finds_103 (hp51 T) (show (51 : Nat) ≠ 99 by decide) (by omega) (by omega) (by decide) ?_
            have f103_6 := wfa51 wT (S := T) (60 * b + (i : Int))
            refine x_bipush (v := 104) dX9_finds_104 (by decide) ?_
            refine x_icmp_ne (tgt := 113) dX9_finds_106 (by decide) (by first | exact hz _ _ | exact hw.1 _ _ | exact zR_of _ | exact bI_z _ | assumption | exact ⟨by omega, by omega⟩) ⟨by decide, by decide⟩ (fun c106 => ?_) (fun c106 => ?_)
            · refine x_iconst dX9_finds_113 ?_
              refine x_astz dX9_finds_114 (hp75 T) (show (75 : Nat) ≠ 99 by decide) (by omega) (by omega) (by decide) (Or.inl rfl) ?_
              refine x_heq (pa75 T (T.1 (52, 0, 0) (60 * b + (i : Int))) 0) ?_
              have hw114_7 : WI (putI T (75, 0, 0) (T.1 (52, 0, 0) (60 * b + (i : Int))) 0) := wpa75 wT (Or.inl rfl)
              refine x_iinc (L' := [xR (50, 0, 0), xI b, xI (n : Int), xI t, xI ((60 * b + (i : Int)) + 1), none, none, none]) dX9_finds_115 rfl rfl ?_
              refine x_goto (tgt := 31) dX9_finds_118 (by decide) ?_
              have kk := ih (putI T (75, 0, 0) (T.1 (52, 0, 0) (60 * b + (i : Int))) 0) (i + 1) (by omega) (by omega) (eT.put rfl _ _) (by assumption) (fun x x0 x1 => by rw [putI_at, bI_c (told_step C.1 b t i x0 x1 fi2.1 (by omega))]; by_cases q : x = T.1 (52, 0, 0) (60 * b + (i : Int)); (rw [if_pos q, if_pos ⟨by omega, by omega, by omega, by omega, by omega⟩]; first | exact (bI_t (by omega)).symm | exact (bI_f (by omega)).symm); (rw [if_neg q, if_neg (fun z => q (by omega))]; exact hT x x0 x1))
              rw [show 60 * b + ((i + 1 : Nat) : Int) = 60 * b + (i : Int) + 1 by omega] at kk
              exact kk
            · refine x_iconst dX9_finds_109 ?_
              refine x_goto (tgt := 114) dX9_finds_110 (by decide) ?_
              refine x_astz dX9_finds_114 (hp75 T) (show (75 : Nat) ≠ 99 by decide) (by omega) (by omega) (by decide) (Or.inr rfl) ?_
              refine x_heq (pa75 T (T.1 (52, 0, 0) (60 * b + (i : Int))) 1) ?_
              have hw114_8 : WI (putI T (75, 0, 0) (T.1 (52, 0, 0) (60 * b + (i : Int))) 1) := wpa75 wT (Or.inr rfl)
              refine x_iinc (L' := [xR (50, 0, 0), xI b, xI (n : Int), xI t, xI ((60 * b + (i : Int)) + 1), none, none, none]) dX9_finds_115 rfl rfl ?_
              refine x_goto (tgt := 31) dX9_finds_118 (by decide) ?_
              have kk := ih (putI T (75, 0, 0) (T.1 (52, 0, 0) (60 * b + (i : Int))) 1) (i + 1) (by omega) (by omega) (eT.put rfl _ _) (by assumption) (fun x x0 x1 => by rw [putI_at, bI_c (told_step C.1 b t i x0 x1 fi2.1 (by omega))]; by_cases q : x = T.1 (52, 0, 0) (60 * b + (i : Int)); (rw [if_pos q, if_pos ⟨by omega, by omega, by omega, by omega, by omega⟩]; first | exact (bI_t (by omega)).symm | exact (bI_f (by omega)).symm); (rw [if_neg q, if_neg (fun z => q (by omega))]; exact hT x x0 x1))
              rw [show 60 * b + ((i + 1 : Nat) : Int) = 60 * b + (i : Int) + 1 by omega] at kk
              exact kk
        · refine x_top (bI_f b70) ?_
          refine x_if_eq (tgt := 115) dX9_finds_73 (by decide) ⟨by decide, by decide⟩ (fun _ => ?_) (fun z => absurd z (by decide))
          refine x_iinc (L' := [xR (50, 0, 0), xI b, xI (n : Int), xI t, xI ((60 * b + (i : Int)) + 1), none, none, none]) dX9_finds_115 rfl rfl ?_
          refine x_goto (tgt := 31) dX9_finds_118 (by decide) ?_
          have kk := ih T (i + 1) (by omega) (by omega) eT wT (fun x x0 x1 => by rw [hT x x0 x1]; exact bI_c (by rw [told_step C.1 b t i x0 x1 fi2.1 (by omega), if_neg (by omega)]))
          rw [show 60 * b + ((i + 1 : Nat) : Int) = 60 * b + (i : Int) + 1 by omega] at kk
          exact kk
      · refine x_top (bI_f b49) ?_
        refine x_if_eq (tgt := 115) dX9_finds_52 (by decide) ⟨by decide, by decide⟩ (fun _ => ?_) (fun z => absurd z (by decide))
        refine x_iinc (L' := [xR (50, 0, 0), xI b, xI (n : Int), xI t, xI ((60 * b + (i : Int)) + 1), none, none, none]) dX9_finds_115 rfl rfl ?_
        refine x_goto (tgt := 31) dX9_finds_118 (by decide) ?_
        have kk := ih T (i + 1) (by omega) (by omega) eT wT (fun x x0 x1 => by rw [hT x x0 x1]; exact bI_c (by rw [told_step C.1 b t i x0 x1 fi2.1 (by omega), if_neg (by omega)]))
        rw [show 60 * b + ((i + 1 : Nat) : Int) = 60 * b + (i : Int) + 1 by omega] at kk
        exact kk
set_option maxHeartbeats 4000000 in
set_option maxRecDepth 100000 in
theorem l_finds1 (C S : XS) (hC : CB C) (hw : WI S) (ht : MRt C S) (hn : MRn C S) (hr : MRr C S) (b : Int) (b0 : 0 ≤ b) (b1 : b < C.1 (0, 0, 0) 6) (n : Nat) (hn9 : (n : Int) ≤ C.1 (9, b, 0) 3) (t : Int) (t0 : 0 ≤ t) (t1 : t < 24) : ∀ (nn : Nat) (T : XS) (i : Nat), 385 - (i : Int) < (nn : Int) → (i ≤ 384) → (MdF S T) → (WI T) → (∀ j : Int, 0 ≤ j → j < i → T.1 (75, 0, 0) j = 0) → X mX9_finds 3 [xR (50, 0, 0), xI b, xI (n : Int), xI t, xI (i : Int), none, none, none] [] (hp T) 0 0 (pFi C S b n t) := by
  intro nn
  induction nn with
  | zero => intro T i hm hi eT wT h0; exfalso; omega
  | succ nn ih =>
    intro T i hm hi eT wT h0
    have c6 := wf0_6 hC.1
    have c9 := wf9_3 hC.1 b0 (show b < 4 by omega)
    have c4 := wf4_2 hC.1
    refine x_iload dX9_finds_3 rfl ?_
    refine x_sipush (v := 384) dX9_finds_5 (by decide) ?_
    refine x_icmp_ge (tgt := 25) dX9_finds_8 (by decide) (by first | exact hz _ _ | exact hw.1 _ _ | exact zR_of _ | exact bI_z _ | assumption | exact ⟨by omega, by omega⟩) ⟨by decide, by decide⟩ (fun c8 => ?_) (fun c8 => ?_)
    · refine x_iload_n dX9_finds_25 rfl ?_
      refine x_bipush (v := 60) dX9_finds_26 (by decide) ?_
      refine x_imul dX9_finds_28 ?_
      refine x_istore (L' := [xR (50, 0, 0), xI b, xI (n : Int), xI t, xI (b * 60), none, none, none]) dX9_finds_29 (by decide) rfl ?_
      have z := l_finds2 C S hC hw ht hn hr b b0 b1 n hn9 t t0 t1 (n + 1) T 0 (by omega) (by omega) eT wT (fun x x0 x1 => by rw [h0 x x0 (by omega)]; exact (bI_f (fun z => by unfold sB at z; obtain ⟨p, hp⟩ := Int.eq_ofNat_of_zero_le (show 0 ≤ x % 64 by omega); rw [hp] at z; exact bitJ_0 p (by omega) z)).symm)
      rw [show 60 * b + ((0 : Nat) : Int) = b * 60 by omega] at z
      exact z
    · refine x_aload_n dX9_finds_11 rfl ?_
      refine x_get (v := xR (75, 0, 0)) dX9_finds_12 fl_RX9_93 (hp50 T) rfl ?_
      refine x_iload dX9_finds_15 rfl ?_
      refine x_iconst dX9_finds_17 ?_
      refine x_astz dX9_finds_18 (hp75 T) (show (75 : Nat) ≠ 99 by decide) (by omega) (by omega) (by decide) (Or.inl rfl) ?_
      refine x_heq (pa75 T (i : Int) 0) ?_
      have hw18_1 : WI (putI T (75, 0, 0) (i : Int) 0) := wpa75 wT (Or.inl rfl)
      refine x_iinc (L' := [xR (50, 0, 0), xI b, xI (n : Int), xI t, xI ((i : Int) + 1), none, none, none]) dX9_finds_19 rfl rfl ?_
      refine x_goto (tgt := 3) dX9_finds_22 (by decide) ?_
      exact ih (putI T (75, 0, 0) (i : Int) 0) (i + 1) (by omega) (by omega) (eT.put rfl _ _) (by assumption) (fun j j0 j1 => by rw [putI_at]; split; rfl; exact h0 j j0 (by omega))
set_option maxHeartbeats 4000000 in
set_option maxRecDepth 100000 in
theorem m_finds (C S : XS) (hC : CB C) (hw : WI S) (ht : MRt C S) (hn : MRn C S) (hr : MRr C S) (b : Int) (b0 : 0 ≤ b) (b1 : b < C.1 (0, 0, 0) 6) (n : Nat) (hn9 : (n : Int) ≤ C.1 (9, b, 0) 3) (t : Int) (t0 : 0 ≤ t) (t1 : t < 24) : X mX9_finds 0 (xEnt mX9_finds [xR (50, 0, 0), xI b, xI (n : Int), xI t]) [] (hp S) 0 0 (pFi C S b n t) := by
  have c6 := wf0_6 hC.1
  have c9 := wf9_3 hC.1 b0 (show b < 4 by omega)
  have c4 := wf4_2 hC.1
  show X mX9_finds 0 [xR (50, 0, 0), xI b, xI (n : Int), xI t, none, none, none, none] [] (hp S) 0 0 _
  refine x_iconst dX9_finds_0 ?_
  refine x_istore (L' := [xR (50, 0, 0), xI b, xI (n : Int), xI t, xI 0, none, none, none]) dX9_finds_1 (by decide) rfl ?_
  exact l_finds1 C S hC hw ht hn hr b b0 b1 n hn9 t t0 t1 386 S 0 (by omega) (by omega) (MdF.rf S) hw (fun j j0 j1 => by omega)
