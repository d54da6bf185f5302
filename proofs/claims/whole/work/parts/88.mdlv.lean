/-! the reference: a change is written down -/
theorem dm81 (S : XS) {b t : Int} (h1 : 0 ≤ b) (h2 : b < 5) (h3 : 0 ≤ t) (h4 : t ≤ S.2.2.2.1 b) : xdm S.2.2.2 (81, b, t) := ⟨h1, h2, h3, h4⟩
theorem hp81 (S : XS) {b t : Int} (h1 : 0 ≤ b) (h2 : b < 5) (h3 : 0 ≤ t) (h4 : t ≤ S.2.2.2.1 b) : hp S (81, b, t) = some (.inr (0, chLen t, .inl (S.1 (81, b, t)))) := hp_of (dm81 S h1 h2 h3 h4)
theorem pa81 (S : XS) {b t : Int} (h1 : 0 ≤ b) (h2 : b < 5) (h3 : 0 ≤ t) (h4 : t ≤ S.2.2.2.1 b) (i v : Int) : hp (putI S (81, b, t) i v) = xUp (hp S) (81, b, t) (.inr (0, chLen t, .inl (xUpd (S.1 (81, b, t)) i v))) := hp_putI (dm81 S h1 h2 h3 h4) rfl
theorem wpa81 {S : XS} (hw : WI S) {b t i v : Int} (hv : zR v) : WI (putI S (81, b, t) i v) := hw.put hv trivial
theorem xu_o {h : XH} {l l' : XL} {c : XC} (e : l' ≠ l) : xUp h l c l' = h l' := if_neg e
theorem xu_at {h : XH} {l : XL} {c : XC} : xUp h l c l = some c := if_pos rfl
theorem xu_xu (h : XH) (l : XL) (c c' : XC) : xUp (xUp h l c) l c' = xUp h l c' := by
  funext l'
  show (if l' = l then _ else if l' = l then _ else _) = if l' = l then _ else _
  split <;> rfl
theorem n81 {b t t' : Int} (h : t ≠ t') : ((81, b, t) : XL) ≠ (81, b, t') := fun z => h (by injection z with _ z; injection z)
/-- the next row of changes of the listener l is made -/
def sGrow (S : XS) (l : Int) (f : Int → Int) : XS := (fun l' => if l' = (81, l, S.2.2.2.1 l + 1) then f else S.1 l', S.2.1, S.2.2.1, xUpd S.2.2.2.1 l (S.2.2.2.1 l + 1), S.2.2.2.2)
/-- the cells with a new row that is not yet hung in -/
noncomputable def hGr (S : XS) (l : Int) (f : Int → Int) : XH := xUp (hp S) (81, l, S.2.2.2.1 l + 1) (.inr (0, chLen (S.2.2.2.1 l + 1), .inl f))
theorem xsh_gen (f : Int → Int) (s : Int × Nat) (g g' : Int → Int) (d : UInt64) (l : XL) (j : Int → Int64) (h : l.1 ≠ 80) (h2 : l.1 ≠ 99) : xsh (g, s) d l f j = xsh (g', s) d l f j := by
  unfold xsh
  split <;> first | rfl | exact absurd rfl h
theorem xsh_gen9 (f : Int → Int) (s : Int × Nat) (g g' : Int → Int) (d : UInt64) (l : XL) (j : Int → Int64) (h : l.1 ≠ 80) : xsh (g, s) d l f j = xsh (g', s) d l f j := by
  unfold xsh
  split <;> first | rfl | exact absurd rfl h
theorem hp_grow {S : XS} {l : Int} (l0 : 0 ≤ l) (l1 : l < 5) (g0 : 0 ≤ S.2.2.2.1 l) (f : Int → Int) : hp (sGrow S l f) = xUp (hGr S l f) (80, 0, 0) (.inr (11, 5, .inr (.inr (.inr (xUpd (fun b => some (81, b, S.2.2.2.1 b)) l (some (81, l, S.2.2.2.1 l + 1))))))) := by
  funext l'
  by_cases e0 : l' = (80, 0, 0)
  · subst e0
    rw [xu_at, hp80]
    have ef : (fun b : Int => some ((81, b, (sGrow S l f).2.2.2.1 b) : XL)) = xUpd (fun b => some (81, b, S.2.2.2.1 b)) l (some (81, l, S.2.2.2.1 l + 1)) := by
      funext b
      show some ((81, b, xUpd S.2.2.2.1 l (S.2.2.2.1 l + 1) b) : XL) = xUpd _ _ _ _
      by_cases y : b = l
      · subst y; simp only [xUpd, if_true]
      · simp only [xUpd, if_neg y]
    rw [ef]
  · rw [xu_o e0]
    by_cases e : l' = (81, l, S.2.2.2.1 l + 1)
    · subst e
      unfold hGr
      rw [xu_at, hp_of (show xdm (sGrow S l f).2.2.2 (81, l, S.2.2.2.1 l + 1) from ⟨l0, l1, by omega, by show _ ≤ xUpd S.2.2.2.1 l (S.2.2.2.1 l + 1) l; simp only [xUpd, if_true]; omega⟩)]
      show some (Sum.inr (0, chLen (S.2.2.2.1 l + 1), Sum.inl ((if _ = _ then f else _ : Int → Int)))) = _
      rw [if_pos rfl]
    · unfold hGr
      rw [xu_o e]
      have hd : xdm (sGrow S l f).2.2.2 l' ↔ xdm S.2.2.2 l' := by
        obtain ⟨k, b, t⟩ := l'
        by_cases k81 : k = 81
        · subst k81
          show (0 ≤ b ∧ b < 5 ∧ 0 ≤ t ∧ t ≤ xUpd S.2.2.2.1 l (S.2.2.2.1 l + 1) b) ↔ (0 ≤ b ∧ b < 5 ∧ 0 ≤ t ∧ t ≤ S.2.2.2.1 b)
          by_cases y : b = l
          · subst y
            simp only [xUpd, if_true]
            have ne : t ≠ S.2.2.2.1 b + 1 := fun z => e (by rw [z])
            constructor <;> (rintro ⟨a1, a2, a3, a4⟩; exact ⟨a1, a2, a3, by omega⟩)
          · simp only [xUpd, if_neg y]
        · unfold xdm sGrow
          split <;> first | rfl | (rename_i h; exact absurd (congrArg (fun x : XL => x.1) h) k81)
      have he : (sGrow S l f).1 l' = S.1 l' := if_neg e
      by_cases x : xdm S.2.2.2 l'
      · rw [hp_of x, hp_of (hd.mpr x), he]
        refine xsh_gen9 _ _ _ _ _ _ _ (fun z => ?_)
        obtain ⟨k, b, t⟩ := l'
        have z' : k = 80 := z
        subst z'
        obtain ⟨x1, x2⟩ : b = 0 ∧ t = 0 := x
        exact e0 (by rw [x1, x2])
      · rw [hp_no x, hp_no (fun z => x (hd.mp z))]
theorem grow_wi {S : XS} (hw : WI S) (l : Int) {f : Int → Int} (hf : ∀ j, zR (f j)) : WI (sGrow S l f) := by
  refine ⟨fun l' k => ?_, fun l' hd k => ?_⟩
  · show zR ((if l' = _ then f else _ : Int → Int) k)
    split
    · exact hf k
    · exact hw.1 l' k
  · by_cases k81 : l'.1 = 81
    · obtain ⟨k', b, t⟩ := l'
      have z : k' = 81 := k81
      subst z
      trivial
    · have he : (sGrow S l f).1 l' = S.1 l' := if_neg (fun z => k81 (by rw [z]))
      rw [he]
      refine hw.2 l' ?_ k
      obtain ⟨k', b, t⟩ := l'
      revert hd
      unfold xdm sGrow
      split <;> first | exact id | (rename_i h; exact absurd (congrArg (fun x : XL => x.1) h) k81)
/-- alike but for the changes of the listener l -/
def KpE (l : Int) (S T : XS) : Prop := (∀ l' : XL, l' ≠ (68, 0, 0) → (∀ t : Int, l' ≠ (81, l, t)) → T.1 l' = S.1 l') ∧ (∀ j : Int, j ≠ l → T.1 (68, 0, 0) j = S.1 (68, 0, 0) j) ∧ T.2.1 = S.2.1 ∧ T.2.2.1 = S.2.2.1 ∧ (∀ j : Int, j ≠ l → T.2.2.2.1 j = S.2.2.2.1 j) ∧ T.2.2.2.2 = S.2.2.2.2
theorem KpE.rf (l : Int) (S : XS) : KpE l S S := ⟨fun _ _ _ => rfl, fun _ _ => rfl, rfl, rfl, fun _ _ => rfl, rfl⟩
theorem KpE.tr {l : Int} {S T U : XS} (h : KpE l S T) (k : KpE l T U) : KpE l S U := ⟨fun l' a b => (k.1 l' a b).trans (h.1 l' a b), fun j a => (k.2.1 j a).trans (h.2.1 j a), k.2.2.1.trans h.2.2.1, k.2.2.2.1.trans h.2.2.2.1, fun j a => (k.2.2.2.2.1 j a).trans (h.2.2.2.2.1 j a), k.2.2.2.2.2.trans h.2.2.2.2.2⟩
theorem KpE.k {l : Int} {S T : XS} (h : KpE l S T) {k : Nat} (h1 : k ≠ 68) (h2 : k ≠ 81) (x y : Int) : T.1 (k, x, y) = S.1 (k, x, y) := h.1 _ (nK h1 _ _ _ _) (fun _ => nK h2 _ _ _ _)
theorem KpE.grow (S : XS) (l : Int) (f : Int → Int) : KpE l S (sGrow S l f) := ⟨fun l' _ b => if_neg (b _), fun j _ => rfl, rfl, rfl, fun j a => by show xUpd S.2.2.2.1 l _ j = _; simp only [xUpd, if_neg a], rfl⟩
theorem KpE.add (S : XS) (l g i v j w : Int) (hj : j = l) : KpE l S (putI (putI S (81, l, g) i v) (68, 0, 0) j w) := by
  subst hj
  refine ⟨fun l' a b => ?_, fun k a => ?_, rfl, rfl, fun _ _ => rfl, rfl⟩
  · rw [putI_o a, putI_o (b g)]
  · rw [putI_at, if_neg a]
    simp [putI]
noncomputable def kpA (S : XS) (l : Int) : Nat := haveI := Classical.propDecidable; if S.1 (68, 0, 0) l = (chLen (S.2.2.2.1 l) : Nat) then 1 else 0
noncomputable def kpB (S : XS) (l : Int) : Nat := haveI := Classical.propDecidable; if S.1 (68, 0, 0) l = (chLen (S.2.2.2.1 l) : Nat) then 2 * chLen (S.2.2.2.1 l) else 0
def pKp (S : XS) (l v : Int) : XO → XH → Prop := fun o h' => o = .inl none ∧ ∃ T, h' = hp T ∧ KpE l S T ∧ WI T ∧ T.1 (68, 0, 0) l = S.1 (68, 0, 0) l + 1 ∧ (S.1 (68, 0, 0) l = (chLen (S.2.2.2.1 l) : Nat) → T.2.2.2.1 l = S.2.2.2.1 l + 1) ∧ (S.1 (68, 0, 0) l ≠ (chLen (S.2.2.2.1 l) : Nat) → T.2.2.2.1 l = S.2.2.2.1 l) ∧ (∀ j : Int, 0 ≤ j → j < S.1 (68, 0, 0) l → T.1 (81, l, T.2.2.2.1 l) j = S.1 (81, l, S.2.2.2.1 l) j) ∧ T.1 (81, l, T.2.2.2.1 l) (S.1 (68, 0, 0) l) = v
set_option maxHeartbeats 4000000 in
set_option maxRecDepth 100000 in
theorem kp_end (S : XS) (hw : WI S) (l v : Int) (l0 : 0 ≤ l) (l1 : l < 5) (zv : zR v) (g0 : 0 ≤ S.2.2.2.1 l) (n0 : 0 ≤ S.1 (68, 0, 0) l) (hn : S.1 (68, 0, 0) l < (chLen (S.2.2.2.1 l) : Nat)) (n5 : S.1 (68, 0, 0) l < 100000) (hch : chLen (S.2.2.2.1 l) < 2147483648) : X mX9_keeps 67 [xR (50, 0, 0), xI l, xI v, none, none] [] (hp S) 0 0 (fun o h' => o = .inl none ∧ h' = hp (putI (putI S (81, l, S.2.2.2.1 l) (S.1 (68, 0, 0) l) v) (68, 0, 0) l (S.1 (68, 0, 0) l + 1))) := by
  have hz := hw.1
  refine x_aload_n dX9_keeps_67 rfl ?_
  refine x_get (v := xR (80, 0, 0)) dX9_keeps_68 fl_RX9_75 (hp50 S) rfl ?_
  refine x_iload_n dX9_keeps_71 rfl ?_
  refine x_alda (l2 := (81, l, (S.2.2.2.1 l))) dX9_keeps_72 (hp80 S) (show (80 : Nat) ≠ 99 by decide) (by decide) (by decide) (by omega) (by omega) (by decide) rfl ?_
  refine x_aload_n dX9_keeps_73 rfl ?_
  refine x_get (v := xR (68, 0, 0)) dX9_keeps_74 fl_RX9_67 (hp50 S) rfl ?_
  refine x_iload_n dX9_keeps_77 rfl ?_
  refine x_aldi (f := S.1 (68, 0, 0)) dX9_keeps_78 (hp68 S) (show (68 : Nat) ≠ 99 by decide) (by omega) (by omega) (by decide) ?_
  have f78_1 := wfa68 hw (S := S) l
  refine x_iload_n dX9_keeps_79 rfl ?_
  refine x_asti dX9_keeps_80 (hp81 S l0 l1 g0 (Int.le_refl _)) (show (81 : Nat) ≠ 99 by decide) (by omega) (by omega) hch ?_
  refine x_heq (pa81 S l0 l1 g0 (Int.le_refl _) (S.1 (68, 0, 0) l) v) ?_
  have hw80_2 : WI (putI S (81, l, (S.2.2.2.1 l)) (S.1 (68, 0, 0) l) v) := hw.put (by first | exact hz _ _ | exact hw.1 _ _ | exact zR_of _ | exact bI_z _ | assumption | exact ⟨by omega, by omega⟩) trivial
  refine x_aload_n dX9_keeps_81 rfl ?_
  refine x_get (v := xR (68, 0, 0)) dX9_keeps_82 fl_RX9_67 (hp50 (putI S (81, l, (S.2.2.2.1 l)) (S.1 (68, 0, 0) l) v)) rfl ?_
  refine x_iload_n dX9_keeps_85 rfl ?_
  refine x_dup2 dX9_keeps_86 rfl rfl ?_
  refine x_aldi (f := S.1 (68, 0, 0)) dX9_keeps_87 (hp68 (putI S (81, l, (S.2.2.2.1 l)) (S.1 (68, 0, 0) l) v)) (show (68 : Nat) ≠ 99 by decide) (by omega) (by omega) (by decide) ?_
  have f87_3 := wfa68 hw (S := S) l
  refine x_iconst dX9_keeps_88 ?_
  refine x_iadd dX9_keeps_89 ?_
  refine x_asti dX9_keeps_90 (hp68 (putI S (81, l, (S.2.2.2.1 l)) (S.1 (68, 0, 0) l) v)) (show (68 : Nat) ≠ 99 by decide) (by omega) (by omega) (by decide) ?_
  refine x_heq (pa68 (putI S (81, l, (S.2.2.2.1 l)) (S.1 (68, 0, 0) l) v) l ((S.1 (68, 0, 0) l) + 1)) ?_
  have hw90_4 : WI (putI (putI S (81, l, (S.2.2.2.1 l)) (S.1 (68, 0, 0) l) v) (68, 0, 0) l ((S.1 (68, 0, 0) l) + 1)) := wpa68 hw80_2 (by omega)
  exact x_vret dX9_keeps_91 rfl ⟨rfl, rfl⟩
/-- the first i of the row of the listener l, copied -/
def cpF (S : XS) (l : Int) (i : Nat) : Int → Int := fun j => if 0 ≤ j ∧ j < i then S.1 (81, l, S.2.2.2.1 l) j else 0
theorem cpF_s (S : XS) (l : Int) (i : Nat) : xUpd (cpF S l i) i (S.1 (81, l, S.2.2.2.1 l) i) = cpF S l (i + 1) := by
  funext j
  unfold cpF
  by_cases e : j = i
  · subst e
    simp only [xUpd, if_true]
    rw [if_pos ⟨by omega, by omega⟩]
  · simp only [xUpd, if_neg e]
    by_cases y : 0 ≤ j ∧ j < i
    · rw [if_pos y, if_pos ⟨y.1, by omega⟩]
    · rw [if_neg y, if_neg (fun z => y ⟨z.1, by omega⟩)]
theorem hGr_s (S : XS) (l : Int) (i : Nat) : hGr S l (cpF S l (i + 1)) = xUp (hGr S l (cpF S l i)) (81, l, S.2.2.2.1 l + 1) (.inr (0, chLen (S.2.2.2.1 l + 1), .inl (xUpd (cpF S l i) i (S.1 (81, l, S.2.2.2.1 l) i)))) := by
  rw [cpF_s]
  exact (xu_xu _ _ _ _).symm
theorem hGr_o {S : XS} {l : Int} {f : Int → Int} {k : Nat} (h : k ≠ 81) (x y : Int) : hGr S l f (k, x, y) = hp S (k, x, y) := xu_o (nK h _ _ _ _)
theorem hGr_81 {S : XS} {l : Int} {f : Int → Int} (l0 : 0 ≤ l) (l1 : l < 5) (g0 : 0 ≤ S.2.2.2.1 l) : hGr S l f (81, l, S.2.2.2.1 l) = some (.inr (0, chLen (S.2.2.2.1 l), .inl (S.1 (81, l, S.2.2.2.1 l)))) := (xu_o (n81 (by omega))).trans (hp81 S l0 l1 g0 (Int.le_refl _))
set_option maxHeartbeats 4000000 in
set_option maxRecDepth 100000 in
theorem kp_loop (S : XS) (hw : WI S) (l v : Int) (l0 : 0 ≤ l) (l1 : l < 5) (g0 : 0 ≤ S.2.2.2.1 l) (g6 : S.2.2.2.1 l ≤ 6) (n : Nat) (hn : S.1 (68, 0, 0) l = n) (hnc : n = chLen (S.2.2.2.1 l)) {kc ks : Nat} {Q : XO → XH → Prop} (kk : X mX9_keeps 60 [xR (50, 0, 0), xI l, xI v, xR (81, l, S.2.2.2.1 l + 1), none] [] (hGr S l (cpF S l n)) kc ks Q) : ∀ (nn : Nat) (i : Nat), (n : Int) - i < (nn : Int) → i ≤ n → X mX9_keeps 30 [xR (50, 0, 0), xI l, xI v, xR (81, l, S.2.2.2.1 l + 1), xI (i : Int)] [] (hGr S l (cpF S l i)) kc ks Q := by
  intro nn
  have hch : chLen (S.2.2.2.1 l) ≤ 8192 := (chLen_7 g0 (by omega)).1
  have hch2 : chLen (S.2.2.2.1 l + 1) = 2 * chLen (S.2.2.2.1 l) := chLen_s g0
  induction nn with
  | zero => intro i hm hi; exfalso; omega
  | succ nn ih =>
    intro i hm hi
    have hz := hw.1
    refine x_iload dX9_keeps_30 rfl ?_
    refine x_aload_n dX9_keeps_32 rfl ?_
    refine x_get (v := xR (68, 0, 0)) dX9_keeps_33 fl_RX9_67 ((hGr_o (by decide) 0 0).trans (hp50 S)) rfl ?_
    refine x_iload_n dX9_keeps_36 rfl ?_
    refine x_aldi (f := S.1 (68, 0, 0)) dX9_keeps_37 ((hGr_o (by decide) 0 0).trans (hp68 S)) (show (68 : Nat) ≠ 99 by decide) (by omega) (by omega) (by decide) ?_
    refine x_icmp_ge (tgt := 60) dX9_keeps_38 (by decide) ⟨by omega, by omega⟩ (hz _ _) (fun c => ?_) (fun c => ?_)
    · have e : i = n := by omega
      subst e
      refine X.loc (L' := [xR (50, 0, 0), xI l, xI v, xR (81, l, S.2.2.2.1 l + 1), none]) ⟨rfl, ⟨rfl, ⟨rfl, ⟨rfl, trivial⟩⟩⟩⟩ ?_
      exact kk
    · refine x_aload_n dX9_keeps_41 rfl ?_
      refine x_iload dX9_keeps_42 rfl ?_
      refine x_aload_n dX9_keeps_44 rfl ?_
      refine x_get (v := xR (80, 0, 0)) dX9_keeps_45 fl_RX9_75 ((hGr_o (by decide) 0 0).trans (hp50 S)) rfl ?_
      refine x_iload_n dX9_keeps_48 rfl ?_
      refine x_alda (l2 := (81, l, S.2.2.2.1 l)) dX9_keeps_49 ((hGr_o (by decide) 0 0).trans (hp80 S)) (show (80 : Nat) ≠ 99 by decide) (by decide) (by decide) (by omega) (by omega) (by decide) rfl ?_
      refine x_iload dX9_keeps_50 rfl ?_
      refine x_aldi (f := S.1 (81, l, S.2.2.2.1 l)) dX9_keeps_52 (hGr_81 l0 l1 g0) (show (81 : Nat) ≠ 99 by decide) (by omega) (by omega) (by omega) ?_
      refine x_asti (n := chLen (S.2.2.2.1 l + 1)) (f := cpF S l i) dX9_keeps_53 xu_at (show (81 : Nat) ≠ 99 by decide) (by omega) (by omega) (by omega) ?_
      refine x_heq (hGr_s S l i) ?_
      refine x_iinc (L' := [xR (50, 0, 0), xI l, xI v, xR (81, l, S.2.2.2.1 l + 1), xI ((i : Int) + 1)]) dX9_keeps_54 rfl rfl ?_
      refine x_goto (tgt := 30) dX9_keeps_57 (by decide) ?_
      have k := ih (i + 1) (by omega) (by omega)
      rw [show ((i + 1 : Nat) : Int) = (i : Int) + 1 by omega] at k
      exact k
set_option maxHeartbeats 4000000 in
set_option maxRecDepth 100000 in
theorem m_keeps (S : XS) (hw : WI S) (l v : Int) (l0 : 0 ≤ l) (l1 : l < 5) (zv : zR v) (g0 : 0 ≤ S.2.2.2.1 l) (g7 : S.2.2.2.1 l ≤ 7) (hn : S.1 (68, 0, 0) l ≤ (chLen (S.2.2.2.1 l) : Nat)) (n7 : S.1 (68, 0, 0) l < 7680) : X mX9_keeps 0 (xEnt mX9_keeps [xR (50, 0, 0), xI l, xI v]) [] (hp S) (kpA S l) (kpB S l) (pKp S l v) := by
  show X mX9_keeps 0 [xR (50, 0, 0), xI l, xI v, none, none] [] (hp S) (kpA S l) (kpB S l) _
  have hz := hw.1
  have n0 := (wfa68 hw l).1
  have hch : chLen (S.2.2.2.1 l) ≤ 8192 := (chLen_7 g0 g7).1
  refine x_aload_n dX9_keeps_0 rfl ?_
  refine x_get (v := xR (68, 0, 0)) dX9_keeps_1 fl_RX9_67 (hp50 S) rfl ?_
  refine x_iload_n dX9_keeps_4 rfl ?_
  refine x_aldi (f := S.1 (68, 0, 0)) dX9_keeps_5 (hp68 S) (show (68 : Nat) ≠ 99 by decide) (by omega) (by omega) (by decide) ?_
  refine x_aload_n dX9_keeps_6 rfl ?_
  refine x_get (v := xR (80, 0, 0)) dX9_keeps_7 fl_RX9_75 (hp50 S) rfl ?_
  refine x_iload_n dX9_keeps_10 rfl ?_
  refine x_alda (l2 := (81, l, S.2.2.2.1 l)) dX9_keeps_11 (hp80 S) (show (80 : Nat) ≠ 99 by decide) (by decide) (by decide) (by omega) (by omega) (by decide) rfl ?_
  refine x_len dX9_keeps_12 (hp81 S l0 l1 g0 (Int.le_refl _)) (show (81 : Nat) ≠ 99 by decide) (by decide) (by omega) ?_
  refine x_icmp_ne (tgt := 67) dX9_keeps_13 (by decide) (hz _ _) ⟨by omega, by omega⟩ (fun c => ?_) (fun c => ?_)
  · refine X.weak (kp_end S hw l v l0 l1 zv g0 n0 (by omega) (by omega) (by omega)) (Nat.zero_le _) (Nat.zero_le _) (fun o h' q => ?_)
    obtain ⟨rfl, rfl⟩ := q
    refine ⟨rfl, _, rfl, KpE.add S l _ _ _ _ _ rfl, wpa68 (wpa81 hw zv) ⟨by omega, by omega⟩, putI_self _ _ _ _, fun z => absurd z c, fun _ => rfl, fun j j0 j1 => ?_, ?_⟩
    · show (putI (putI S (81, l, S.2.2.2.1 l) (S.1 (68, 0, 0) l) v) (68, 0, 0) l (S.1 (68, 0, 0) l + 1)).1 (81, l, S.2.2.2.1 l) j = _
      rw [putI_o (nK (by decide) _ _ _ _), putI_at, if_neg (by omega)]
    · show (putI (putI S (81, l, S.2.2.2.1 l) (S.1 (68, 0, 0) l) v) (68, 0, 0) l (S.1 (68, 0, 0) l + 1)).1 (81, l, S.2.2.2.1 l) _ = _
      rw [putI_o (nK (by decide) _ _ _ _), putI_self]
  · have g6 : S.2.2.2.1 l ≤ 6 := (chLen_7 g0 g7).2 (by omega)
    have hch2 : chLen (S.2.2.2.1 l + 1) = 2 * chLen (S.2.2.2.1 l) := chLen_s g0
    have ka : kpA S l = 1 := if_pos c
    have kb : kpB S l = 2 * chLen (S.2.2.2.1 l) := if_pos c
    obtain ⟨n, hN⟩ := Int.eq_ofNat_of_zero_le n0
    refine x_iconst dX9_keeps_16 ?_
    refine x_aload_n dX9_keeps_17 rfl ?_
    refine x_get (v := xR (68, 0, 0)) dX9_keeps_18 fl_RX9_67 (hp50 S) rfl ?_
    refine x_iload_n dX9_keeps_21 rfl ?_
    refine x_aldi (f := S.1 (68, 0, 0)) dX9_keeps_22 (hp68 S) (show (68 : Nat) ≠ 99 by decide) (by omega) (by omega) (by decide) ?_
    refine x_imul dX9_keeps_23 ?_
    refine x_newarray (81, l, S.2.2.2.1 l + 1) (t := 0) (n := chLen (S.2.2.2.1 l + 1)) dX9_keeps_24 rfl wd124 (hp_no (fun z => by have := z.2.2.2; omega)) (show (81 : Nat) ≠ 99 by decide) (by omega) (by omega) (by omega) (by omega) ?_
    refine x_astore_n (L' := [xR (50, 0, 0), xI l, xI v, xR (81, l, S.2.2.2.1 l + 1), none]) dX9_keeps_26 (by decide) rfl ?_
    refine x_iconst dX9_keeps_27 ?_
    refine x_istore (L' := [xR (50, 0, 0), xI l, xI v, xR (81, l, S.2.2.2.1 l + 1), xI 0]) dX9_keeps_28 (by decide) rfl ?_
    have e0 : hGr S l (cpF S l 0) = xUp (hp S) (81, l, S.2.2.2.1 l + 1) (.inr (0, chLen (S.2.2.2.1 l + 1), xZero 0)) := by
      unfold hGr
      have : cpF S l 0 = fun _ => 0 := by
        funext j
        unfold cpF
        rw [if_neg (by omega)]
      rw [this]
      rfl
    refine x_heq e0 ?_
    refine kp_loop S hw l v l0 l1 g0 g6 n hN (by omega) ?_ (n + 1) 0 (by omega) (by omega)
    refine x_aload_n dX9_keeps_60 rfl ?_
    refine x_get (v := xR (80, 0, 0)) dX9_keeps_61 fl_RX9_75 ((hGr_o (by decide) 0 0).trans (hp50 S)) rfl ?_
    refine x_iload_n dX9_keeps_64 rfl ?_
    refine x_aload_n dX9_keeps_65 rfl ?_
    refine x_astA dX9_keeps_66 ((hGr_o (by decide) 0 0).trans (hp80 S)) (show (80 : Nat) ≠ 99 by decide) xu_at (show (81 : Nat) ≠ 99 by decide) (by omega) (by omega) (by decide) ?_
    refine x_heq (hp_grow l0 l1 g0 (cpF S l n)) ?_
    have gw : WI (sGrow S l (cpF S l n)) := grow_wi hw l (fun j => by unfold cpF; split; exact hz _ _; exact ⟨by decide, by decide⟩)
    have gg : (sGrow S l (cpF S l n)).2.2.2.1 l = S.2.2.2.1 l + 1 := by show xUpd S.2.2.2.1 l (S.2.2.2.1 l + 1) l = _; simp only [xUpd, if_true]
    have g68 : (sGrow S l (cpF S l n)).1 (68, 0, 0) = S.1 (68, 0, 0) := by
      exact (KpE.grow S l (cpF S l n)).2.1 |> fun _ => (if_neg (nK (by decide) _ _ _ _) : (if ((68, 0, 0) : XL) = (81, l, S.2.2.2.1 l + 1) then cpF S l n else S.1 (68, 0, 0)) = S.1 (68, 0, 0))
    have g81 : (sGrow S l (cpF S l n)).1 (81, l, S.2.2.2.1 l + 1) = cpF S l n := if_pos rfl
    refine X.loc (L' := [xR (50, 0, 0), xI l, xI v, none, none]) ⟨rfl, ⟨rfl, ⟨rfl, trivial⟩⟩⟩ ?_
    have k1 : 0 ≤ (sGrow S l (cpF S l n)).2.2.2.1 l := by rw [gg]; omega
    have c64 := chLen_64 (S.2.2.2.1 l)
    have k2 : 0 ≤ (sGrow S l (cpF S l n)).1 (68, 0, 0) l := by rw [g68]; exact n0
    have k3 : (sGrow S l (cpF S l n)).1 (68, 0, 0) l < (chLen ((sGrow S l (cpF S l n)).2.2.2.1 l) : Nat) := by rw [g68, gg, hch2]; omega
    have k4 : (sGrow S l (cpF S l n)).1 (68, 0, 0) l < 100000 := by rw [g68]; omega
    have k5 : chLen ((sGrow S l (cpF S l n)).2.2.2.1 l) < 2147483648 := by rw [gg, hch2]; omega
    refine X.weak (kp_end (sGrow S l (cpF S l n)) gw l v l0 l1 zv k1 k2 k3 k4 k5) (Nat.zero_le _) (Nat.zero_le _) (fun o h' q => ?_)
    obtain ⟨rfl, rfl⟩ := q
    refine ⟨rfl, _, rfl, (KpE.grow S l _).tr (KpE.add _ l _ _ _ _ _ rfl), wpa68 (wpa81 gw zv) ⟨by rw [g68]; omega, by rw [g68]; omega⟩, by rw [putI_self, g68], fun _ => gg, fun z => absurd c z, fun j j0 j1 => ?_, ?_⟩
    · show (putI (putI (sGrow S l (cpF S l n)) (81, l, (sGrow S l (cpF S l n)).2.2.2.1 l) _ v) (68, 0, 0) l _).1 (81, l, (sGrow S l (cpF S l n)).2.2.2.1 l) j = _
      rw [putI_o (nK (by decide) _ _ _ _), putI_at, if_neg (by rw [g68]; omega), gg, g81]
      unfold cpF
      rw [if_pos ⟨j0, by omega⟩]
    · show (putI (putI (sGrow S l (cpF S l n)) (81, l, (sGrow S l (cpF S l n)).2.2.2.1 l) _ v) (68, 0, 0) l _).1 (81, l, (sGrow S l (cpF S l n)).2.2.2.1 l) _ = _
      rw [putI_o (nK (by decide) _ _ _ _), putI_at, g68, if_pos rfl]
