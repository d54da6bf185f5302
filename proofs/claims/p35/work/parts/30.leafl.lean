/-! reasons: the rows of ranks -/
/-- the rows of the reasons: ranks, rules, ways, what is reached, what is added -/
def rS (S : XS) (rk ru wy : Int → Int) (F G : Int → Int64) : XS := (fun l => if l = (40, 0, 0) then rk else if l = (41, 0, 0) then ru else if l = (42, 0, 0) then wy else S.1 l, fun l => if l = (43, 0, 0) then F else if l = (44, 0, 0) then G else S.2.1 l, S.2.2)
theorem rS_40 (S : XS) (rk ru wy : Int → Int) (F G : Int → Int64) (q v : Int) : putI (rS S rk ru wy F G) (40, 0, 0) q v = rS S (xUpd rk q v) ru wy F G := by
  unfold putI rS
  refine Prod.ext ?_ rfl
  funext l
  by_cases e : l = (40, 0, 0)
  · simp [e]
  · simp [e]
theorem rS_41 (S : XS) (rk ru wy : Int → Int) (F G : Int → Int64) (q v : Int) : putI (rS S rk ru wy F G) (41, 0, 0) q v = rS S rk (xUpd ru q v) wy F G := by
  unfold putI rS
  refine Prod.ext ?_ rfl
  funext l
  by_cases e : l = (41, 0, 0)
  · simp [e]
  · simp [e]
theorem rS_42 (S : XS) (rk ru wy : Int → Int) (F G : Int → Int64) (q v : Int) : putI (rS S rk ru wy F G) (42, 0, 0) q v = rS S rk ru (xUpd wy q v) F G := by
  unfold putI rS
  refine Prod.ext ?_ rfl
  funext l
  by_cases e : l = (42, 0, 0)
  · simp [e]
  · simp [e]
theorem rS_43 (S : XS) (rk ru wy : Int → Int) (F G : Int → Int64) (q : Int) (v : Int64) : putJ (rS S rk ru wy F G) (43, 0, 0) q v = rS S rk ru wy (xUpd F q v) G := by
  unfold putJ rS
  refine Prod.ext rfl (Prod.ext ?_ rfl)
  funext l
  by_cases e : l = (43, 0, 0)
  · simp [e]
  · simp [e]
theorem rS_44 (S : XS) (rk ru wy : Int → Int) (F G : Int → Int64) (q : Int) (v : Int64) : putJ (rS S rk ru wy F G) (44, 0, 0) q v = rS S rk ru wy F (xUpd G q v) := by
  unfold putJ rS
  refine Prod.ext rfl (Prod.ext ?_ rfl)
  funext l
  by_cases e : l = (44, 0, 0)
  · simp [e]
  · simp [e]
/-- the first n of a row -/
def bl (n : Int) (f h : Int → Int64) : Int → Int64 := fun j => if 0 ≤ j ∧ j < n then f j else h j
theorem rS_rows (S : XS) (f g : Int → Int64) : rowJ (rowJ S (43, 0, 0) f 6) (44, 0, 0) g 6 = rS S (S.1 (40, 0, 0)) (S.1 (41, 0, 0)) (S.1 (42, 0, 0)) (bl 6 f (S.2.1 (43, 0, 0))) (bl 6 g (S.2.1 (44, 0, 0))) := by
  unfold rowJ rS bl
  refine Prod.ext ?_ (Prod.ext ?_ rfl)
  · funext l
    by_cases e : l = (40, 0, 0)
    · simp [e]
    · by_cases e1 : l = (41, 0, 0)
      · simp [e1]
      · by_cases e2 : l = (42, 0, 0)
        · simp [e2]
        · simp [e, e1, e2]
  · funext l
    by_cases e : l = (43, 0, 0)
    · simp [e]
    · by_cases e1 : l = (44, 0, 0)
      · simp [e1]
      · simp [e, e1]
def ROk (rk ru wy : Int → Int) : Prop := (∀ k, -1 ≤ rk k ∧ rk k ≤ 384) ∧ (∀ k, 0 ≤ ru k ∧ ru k ≤ 9) ∧ ∀ k, 0 ≤ wy k ∧ wy k ≤ 511
theorem xUpd_in {f : Int → Int} {a b i v : Int} (h : ∀ k, a ≤ f k ∧ f k ≤ b) (hv : a ≤ v ∧ v ≤ b) : ∀ k, a ≤ xUpd f i v k ∧ xUpd f i v k ≤ b := by
  intro k
  unfold xUpd
  split
  · exact hv
  · exact h k
theorem WI.toR {S : XS} (hw : WI S) {rk ru wy : Int → Int} {F G : Int → Int64} (h : ROk rk ru wy) : WI (rS S rk ru wy F G) := by
  obtain ⟨h1, h2, h3⟩ := h
  refine ⟨fun l k => ?_, fun l hd k => ?_⟩
  · unfold rS
    by_cases e : l = (40, 0, 0)
    · simp only [e, if_true]; have := h1 k; exact ⟨by omega, by omega⟩
    · by_cases e1 : l = (41, 0, 0)
      · simp only [if_neg e, e1, if_true]; rw [if_neg (by decide)]; have := h2 k; exact ⟨by omega, by omega⟩
      · by_cases e2 : l = (42, 0, 0)
        · simp only [e2, if_true]; rw [if_neg (by decide), if_neg (by decide)]; have := h3 k; exact ⟨by omega, by omega⟩
        · simp only [if_neg e, if_neg e1, if_neg e2]; exact hw.1 l k
  · unfold rS
    by_cases e : l = (40, 0, 0)
    · subst e; exact h1 k
    · by_cases e1 : l = (41, 0, 0)
      · subst e1; exact h2 k
      · by_cases e2 : l = (42, 0, 0)
        · subst e2; exact h3 k
        · simp only [if_neg e, if_neg e1, if_neg e2]; exact hw.2 l hd k
def sReach (S : XS) (rk ru wy : Int → Int) (F G : Int → Int64) (q r w n : Int) : XS := if rk q = -1 then rS S (xUpd rk q n) (xUpd ru q r) (xUpd wy q w) F (xUpd G (q / 64) (G (q / 64) ||| jShl 1 (q % 64))) else rS S rk ru wy F G
set_option maxHeartbeats 4000000 in
set_option maxRecDepth 100000 in
theorem c_reach (S : XS) (hw : WI S) (rk ru wy : Int → Int) (F G : Int → Int64) (hR : ROk rk ru wy) (q r w n : Int) (q0 : 0 ≤ q) (q1 : q < 384) (r0 : 0 ≤ r ∧ r ≤ 9) (w0 : 0 ≤ w ∧ w ≤ 511) (n0 : 0 ≤ n ∧ n ≤ 384) : X mX3_reach 0 (xEnt mX3_reach [xR (5, 0, 0), xI q, xI r, xI w, xI n]) [] (hp (rS S rk ru wy F G)) 0 0 (pVoid (hp (sReach S rk ru wy F G q r w n))) := by
  have hz := (hw.toR (F := F) (G := G) hR).1
  have hrq := hR.1 q
  show X mX3_reach 0 [xR (5, 0, 0), xI q, xI r, xI w, xI n] [] (hp (rS S rk ru wy F G)) 0 0 _
  refine x_aload_n dX3_reach_0 rfl ?_
  refine x_get (v := xR (40, 0, 0)) dX3_reach_1 fl_RX3_18 (hp5 (rS S rk ru wy F G)) rfl ?_
  refine x_iload_n dX3_reach_4 rfl ?_
  refine x_aldi (f := (rS S rk ru wy F G).1 (40, 0, 0)) dX3_reach_5 (hp40 (rS S rk ru wy F G)) (show (40 : Nat) ≠ 99 by decide) (by omega) (by omega) (by decide) ?_
  have f5_1 := wfa40 (hw.toR hR) (S := rS S rk ru wy F G) q
  refine x_top (show (rS S rk ru wy F G).1 (40, 0, 0) q = rk q from rfl) ?_
  refine x_iconst dX3_reach_6 ?_
  refine x_icmp_ne (tgt := 50) dX3_reach_7 (by decide) (by first | exact hz _ _ | exact hw.1 _ _ | exact zR_of _ | assumption | exact ⟨by omega, by omega⟩) ⟨by decide, by decide⟩ (fun c7 => ?_) (fun c7 => ?_)
  · exact x_vret dX3_reach_50 rfl (pVe (by unfold sReach; first | rw [if_pos (by assumption)] | rw [if_neg (by assumption)]))
  · refine x_aload_n dX3_reach_10 rfl ?_
    refine x_get (v := xR (40, 0, 0)) dX3_reach_11 fl_RX3_18 (hp5 (rS S rk ru wy F G)) rfl ?_
    refine x_iload_n dX3_reach_14 rfl ?_
    refine x_iload dX3_reach_15 rfl ?_
    refine x_asti dX3_reach_17 (hp40 (rS S rk ru wy F G)) (show (40 : Nat) ≠ 99 by decide) (by omega) (by omega) (by decide) ?_
    refine x_heq (pa40 (rS S rk ru wy F G) q n) ?_
    have hw17_2 : WI (putI (rS S rk ru wy F G) (40, 0, 0) q n) := wpa40 (hw.toR hR) (by omega)
    refine x_heq (show hp (rS S (xUpd rk q n) ru wy F G) = hp (putI (rS S rk ru wy F G) (40, 0, 0) q n) from congrArg hp (rS_40 _ _ _ _ _ _ _ _).symm) ?_
    refine x_aload_n dX3_reach_18 rfl ?_
    refine x_get (v := xR (41, 0, 0)) dX3_reach_19 fl_RX3_22 (hp5 (rS S (xUpd rk q n) ru wy F G)) rfl ?_
    refine x_iload_n dX3_reach_22 rfl ?_
    refine x_iload_n dX3_reach_23 rfl ?_
    refine x_asti dX3_reach_24 (hp41 (rS S (xUpd rk q n) ru wy F G)) (show (41 : Nat) ≠ 99 by decide) (by omega) (by omega) (by decide) ?_
    refine x_heq (pa41 (rS S (xUpd rk q n) ru wy F G) q r) ?_
    refine x_heq (show hp (rS S (xUpd rk q n) (xUpd ru q r) wy F G) = hp (putI (rS S (xUpd rk q n) ru wy F G) (41, 0, 0) q r) from congrArg hp (rS_41 _ _ _ _ _ _ _ _).symm) ?_
    refine x_aload_n dX3_reach_25 rfl ?_
    refine x_get (v := xR (42, 0, 0)) dX3_reach_26 fl_RX3_25 (hp5 (rS S (xUpd rk q n) (xUpd ru q r) wy F G)) rfl ?_
    refine x_iload_n dX3_reach_29 rfl ?_
    refine x_iload_n dX3_reach_30 rfl ?_
    refine x_asti dX3_reach_31 (hp42 (rS S (xUpd rk q n) (xUpd ru q r) wy F G)) (show (42 : Nat) ≠ 99 by decide) (by omega) (by omega) (by decide) ?_
    refine x_heq (pa42 (rS S (xUpd rk q n) (xUpd ru q r) wy F G) q w) ?_
    refine x_heq (show hp (rS S (xUpd rk q n) (xUpd ru q r) (xUpd wy q w) F G) = hp (putI (rS S (xUpd rk q n) (xUpd ru q r) wy F G) (42, 0, 0) q w) from congrArg hp (rS_42 _ _ _ _ _ _ _ _).symm) ?_
    refine x_aload_n dX3_reach_32 rfl ?_
    refine x_get (v := xR (44, 0, 0)) dX3_reach_33 fl_RX3_32 (hp5 (rS S (xUpd rk q n) (xUpd ru q r) (xUpd wy q w) F G)) rfl ?_
    refine x_iload_n dX3_reach_36 rfl ?_
    refine x_bipush (v := 64) dX3_reach_37 (by decide) ?_
    refine x_idiv dX3_reach_39 (by omega) (by omega) (by omega) (by omega) ?_
    refine x_dup2 dX3_reach_40 rfl rfl ?_
    refine x_aldj (f := (rS S (xUpd rk q n) (xUpd ru q r) (xUpd wy q w) F G).2.1 (44, 0, 0)) dX3_reach_41 (hp44 (rS S (xUpd rk q n) (xUpd ru q r) (xUpd wy q w) F G)) (show (44 : Nat) ≠ 99 by decide) (by omega) (by omega) (by decide) ?_
    refine x_topJ (show (rS S (xUpd rk q n) (xUpd ru q r) (xUpd wy q w) F G).2.1 (44, 0, 0) (q / 64) = G (q / 64) from rfl) ?_
    refine x_lconst (v := 1) dX3_reach_42 (by decide) ?_
    refine x_iload_n dX3_reach_43 rfl ?_
    refine x_bipush (v := 64) dX3_reach_44 (by decide) ?_
    refine x_irem dX3_reach_46 (by omega) (by omega) (by omega) (by omega) ?_
    refine x_lshl dX3_reach_47 ?_
    refine x_lor dX3_reach_48 ?_
    refine x_astj dX3_reach_49 (hp44 (rS S (xUpd rk q n) (xUpd ru q r) (xUpd wy q w) F G)) (show (44 : Nat) ≠ 99 by decide) (by omega) (by omega) (by decide) ?_
    refine x_heq (pa44 (rS S (xUpd rk q n) (xUpd ru q r) (xUpd wy q w) F G) (q / 64) ((G (q / 64)) ||| (jShl 1 (q % 64)))) ?_
    refine x_heq (show hp (rS S (xUpd rk q n) (xUpd ru q r) (xUpd wy q w) F (xUpd G (q / 64) (G (q / 64) ||| jShl 1 (q % 64)))) = hp (putJ (rS S (xUpd rk q n) (xUpd ru q r) (xUpd wy q w) F G) (44, 0, 0) (q / 64) ((G (q / 64)) ||| (jShl 1 (q % 64)))) from congrArg hp (rS_44 _ _ _ _ _ _ _ _).symm) ?_
    exact x_vret dX3_reach_50 rfl (pVe (by unfold sReach; first | rw [if_pos (by assumption)] | rw [if_neg (by assumption)]))
noncomputable def begN (T : Int → Int64) (rk : Int → Int) : Nat → Int → Int
  | 0 => rk
  | n + 1 => haveI := Classical.propDecidable (bitJ (T ((n : Int) / 64)) ((n : Int) % 64)); xUpd (begN T rk n) n (if bitJ (T ((n : Int) / 64)) ((n : Int) % 64) then 0 else -1)
theorem begN_t (T : Int → Int64) (rk : Int → Int) (n : Nat) (h : bitJ (T ((n : Int) / 64)) ((n : Int) % 64)) : begN T rk (n + 1) = xUpd (begN T rk n) n 0 := by rw [begN, if_pos h]
theorem begN_f (T : Int → Int64) (rk : Int → Int) (n : Nat) (h : ¬ bitJ (T ((n : Int) / 64)) ((n : Int) % 64)) : begN T rk (n + 1) = xUpd (begN T rk n) n (-1) := by rw [begN, if_neg h]
theorem begN_in (T : Int → Int64) {rk : Int → Int} (h : ∀ k, -1 ≤ rk k ∧ rk k ≤ 384) (n : Nat) : ∀ k, -1 ≤ begN T rk n k ∧ begN T rk n k ≤ 384 := by
  induction n with
  | zero => exact h
  | succ n ih =>
    by_cases c : bitJ (T ((n : Int) / 64)) ((n : Int) % 64)
    · rw [begN_t T rk n c]; exact xUpd_in ih (by omega)
    · rw [begN_f T rk n c]; exact xUpd_in ih (by omega)
theorem begN_at (T : Int → Int64) (rk : Int → Int) (n : Nat) (k : Nat) (hk : k < n) : (bitJ (T ((k : Int) / 64)) ((k : Int) % 64) → begN T rk n k = 0) ∧ (¬ bitJ (T ((k : Int) / 64)) ((k : Int) % 64) → begN T rk n k = -1) := by
  induction n with
  | zero => omega
  | succ n ih =>
    by_cases e : k = n
    · subst e
      exact ⟨fun c => by rw [begN_t T rk k c]; simp [xUpd], fun c => by rw [begN_f T rk k c]; simp [xUpd]⟩
    · have ih := ih (by omega)
      have e2 : ¬ (k : Int) = (n : Int) := by omega
      by_cases c : bitJ (T ((n : Int) / 64)) ((n : Int) % 64)
      · rw [begN_t T rk n c]; simp only [xUpd, if_neg e2]; exact ih
      · rw [begN_f T rk n c]; simp only [xUpd, if_neg e2]; exact ih
set_option maxHeartbeats 4000000 in
set_option maxRecDepth 100000 in
theorem l_begin (S : XS) (hw : WI S) (rk ru wy : Int → Int) (F G : Int → Int64) (hR : ROk rk ru wy) : ∀ (nn : Nat) (i : Nat), 384 - (i : Int) < (nn : Int) → (i ≤ 384) → X mX3_begin 28 [xR (5, 0, 0), xI (i : Int), none] [] (hp (rS S (begN F rk i) ru wy F G)) 0 0 (pVoid (hp (rS S (begN F rk 384) ru wy F G))) := by
  intro nn
  induction nn with
  | zero => intro i hm hi; exfalso; omega
  | succ nn ih =>
    intro i hm hi
    have hwb : WI (rS S (begN F rk i) ru wy F G) := hw.toR ⟨begN_in F hR.1 i, hR.2⟩
    refine x_iload_n dX3_begin_28 rfl ?_
    refine x_sipush (v := 384) dX3_begin_29 (by decide) ?_
    refine x_icmp_ge (tgt := 83) dX3_begin_32 (by decide) (by first | exact hz _ _ | exact hw.1 _ _ | exact zR_of _ | assumption | exact ⟨by omega, by omega⟩) ⟨by decide, by decide⟩ (fun c32 => ?_) (fun c32 => ?_)
    · exact x_vret dX3_begin_83 rfl (by obtain rfl : i = 384 := (by omega); exact pV)
    · refine x_aload_n dX3_begin_35 rfl ?_
      refine x_get (v := xR (43, 0, 0)) dX3_begin_36 fl_RX3_28 (hp5 (rS S (begN F rk i) ru wy F G)) rfl ?_
      refine x_iload_n dX3_begin_39 rfl ?_
      refine x_bipush (v := 64) dX3_begin_40 (by decide) ?_
      refine x_idiv dX3_begin_42 (by omega) (by omega) (by omega) (by omega) ?_
      refine x_aldj (f := (rS S (begN F rk i) ru wy F G).2.1 (43, 0, 0)) dX3_begin_43 (hp43 (rS S (begN F rk i) ru wy F G)) (show (43 : Nat) ≠ 99 by decide) (by omega) (by omega) (by decide) ?_
      refine x_topJ (show (rS S (begN F rk i) ru wy F G).2.1 (43, 0, 0) ((i : Int) / 64) = F ((i : Int) / 64) from rfl) ?_
      refine x_iload_n dX3_begin_44 rfl ?_
      refine x_bipush (v := 64) dX3_begin_45 (by decide) ?_
      refine x_irem dX3_begin_47 (by omega) (by omega) (by omega) (by omega) ?_
      refine x_lushr dX3_begin_48 ?_
      refine x_lconst (v := 1) dX3_begin_49 (by decide) ?_
      refine x_land dX3_begin_50 ?_
      refine x_lconst (v := 0) dX3_begin_51 (by decide) ?_
      refine x_lcmp dX3_begin_52 ?_
      refine x_if_eq (tgt := 60) dX3_begin_53 (by decide) (by first | exact hz _ _ | exact hw.1 _ _ | exact zR_of _ | assumption | exact ⟨by omega, by omega⟩) (fun c53 => ?_) (fun c53 => ?_)
      · refine x_iconst dX3_begin_60 ?_
        refine x_istore_n (L' := [xR (5, 0, 0), xI (i : Int), xI 0]) dX3_begin_61 (by decide) rfl ?_
        refine x_aload_n dX3_begin_62 rfl ?_
        refine x_get (v := xR (40, 0, 0)) dX3_begin_63 fl_RX3_18 (hp5 (rS S (begN F rk i) ru wy F G)) rfl ?_
        refine x_iload_n dX3_begin_66 rfl ?_
        refine x_iload_n dX3_begin_67 rfl ?_
        refine x_if_eq (tgt := 75) dX3_begin_68 (by decide) ⟨by decide, by decide⟩ (fun _ => ?_) (fun z => absurd z (by decide))
        refine x_iconst dX3_begin_75 ?_
        refine x_asti dX3_begin_76 (hp40 (rS S (begN F rk i) ru wy F G)) (show (40 : Nat) ≠ 99 by decide) (by omega) (by omega) (by decide) ?_
        refine x_heq (pa40 (rS S (begN F rk i) ru wy F G) (i : Int) (-1)) ?_
        have hw76_1 : WI (putI (rS S (begN F rk i) ru wy F G) (40, 0, 0) (i : Int) (-1)) := wpa40 hwb (by omega)
        refine x_iinc (L' := [xR (5, 0, 0), xI ((i : Int) + 1), xI 0]) dX3_begin_77 rfl rfl ?_
        refine x_goto (tgt := 28) dX3_begin_80 (by decide) ?_
        refine X.loc (L' := [xR (5, 0, 0), xI ((i : Int) + 1), none]) ⟨rfl, ⟨rfl, trivial⟩⟩ ?_
        refine x_heq (show hp (rS S (begN F rk (i + 1)) ru wy F G) = hp (putI (rS S (begN F rk i) ru wy F G) (40, 0, 0) (i : Int) (-1)) from by rw [rS_40, begN_f F rk i (fun z => z c53)]) ?_
        exact ih (i + 1) (by omega) (by omega)
      · refine x_iconst dX3_begin_56 ?_
        refine x_goto (tgt := 61) dX3_begin_57 (by decide) ?_
        refine x_istore_n (L' := [xR (5, 0, 0), xI (i : Int), xI 1]) dX3_begin_61 (by decide) rfl ?_
        refine x_aload_n dX3_begin_62 rfl ?_
        refine x_get (v := xR (40, 0, 0)) dX3_begin_63 fl_RX3_18 (hp5 (rS S (begN F rk i) ru wy F G)) rfl ?_
        refine x_iload_n dX3_begin_66 rfl ?_
        refine x_iload_n dX3_begin_67 rfl ?_
        refine x_if_eq (tgt := 75) dX3_begin_68 (by decide) ⟨by decide, by decide⟩ (fun z => absurd z (by decide)) (fun _ => ?_)
        refine x_iconst dX3_begin_71 ?_
        refine x_goto (tgt := 76) dX3_begin_72 (by decide) ?_
        refine x_asti dX3_begin_76 (hp40 (rS S (begN F rk i) ru wy F G)) (show (40 : Nat) ≠ 99 by decide) (by omega) (by omega) (by decide) ?_
        refine x_heq (pa40 (rS S (begN F rk i) ru wy F G) (i : Int) 0) ?_
        have hw76_2 : WI (putI (rS S (begN F rk i) ru wy F G) (40, 0, 0) (i : Int) 0) := wpa40 hwb (by omega)
        refine x_iinc (L' := [xR (5, 0, 0), xI ((i : Int) + 1), xI 1]) dX3_begin_77 rfl rfl ?_
        refine x_goto (tgt := 28) dX3_begin_80 (by decide) ?_
        refine X.loc (L' := [xR (5, 0, 0), xI ((i : Int) + 1), none]) ⟨rfl, ⟨rfl, trivial⟩⟩ ?_
        refine x_heq (show hp (rS S (begN F rk (i + 1)) ru wy F G) = hp (putI (rS S (begN F rk i) ru wy F G) (40, 0, 0) (i : Int) 0) from by rw [rS_40, begN_t F rk i c53]) ?_
        exact ih (i + 1) (by omega) (by omega)
/-- the reasons' rows as begin leaves them -/
noncomputable def sBegin (S : XS) : XS := rS S (begN (bl 6 (S.2.1 (17, 0, 0)) (S.2.1 (43, 0, 0))) (S.1 (40, 0, 0)) 384) (S.1 (41, 0, 0)) (S.1 (42, 0, 0)) (bl 6 (S.2.1 (17, 0, 0)) (S.2.1 (43, 0, 0))) (bl 6 (fun _ => 0) (S.2.1 (44, 0, 0)))
theorem ROk.of {S : XS} (hw : WI S) : ROk (S.1 (40, 0, 0)) (S.1 (41, 0, 0)) (S.1 (42, 0, 0)) := ⟨fun k => wfa40 hw k, fun k => wfa41 hw k, fun k => wfa42 hw k⟩
set_option maxHeartbeats 4000000 in
set_option maxRecDepth 100000 in
theorem c_begin (S : XS) (hw : WI S) : X mX3_begin 0 (xEnt mX3_begin [xR (5, 0, 0)]) [] (hp S) 0 0 (pVoid (hp (sBegin S))) := by
  show X mX3_begin 0 [xR (5, 0, 0), none, none] [] (hp S) 0 0 _
  refine x_aload_n dX3_begin_0 rfl ?_
  refine x_get (v := xR (7, 0, 0)) dX3_begin_1 fl_RX3_12 (hp5 S) rfl ?_
  refine x_get (v := xR (17, 0, 0)) dX3_begin_4 fl_RX3_88 (hp7 S) rfl ?_
  refine x_iconst dX3_begin_7 ?_
  refine x_aload_n dX3_begin_8 rfl ?_
  refine x_get (v := xR (43, 0, 0)) dX3_begin_9 fl_RX3_28 (hp5 S) rfl ?_
  refine x_iconst dX3_begin_12 ?_
  refine x_bipush (v := 6) dX3_begin_13 (by decide) ?_
  refine x_copyl (n := 6) dX3_begin_15 ⟨wd781, wd376, wd375, wd35⟩ (hp17 S) (hp43 S) (show (17 : Nat) ≠ 99 by decide) (show (43 : Nat) ≠ 99 by decide) (by decide) (by decide) (by decide) (by decide) (Nat.le_of_ble_eq_true rfl) ?_
  refine x_heq (pr43 S (S.2.1 (17, 0, 0)) 6) ?_
  refine x_aload_n dX3_begin_18 rfl ?_
  refine x_get (v := xR (44, 0, 0)) dX3_begin_19 fl_RX3_32 (hp5 (rowJ S (43, 0, 0) (S.2.1 (17, 0, 0)) 6)) rfl ?_
  refine x_lconst (v := 0) dX3_begin_22 (by decide) ?_
  refine x_callS_v (a := 0) (b := 0) (as := [xR (44, 0, 0), xJ 0]) (rest := []) ok_J7_fill_d0a16 dX3_begin_23 wd782 wd359 (c_fillJ44 (rowJ S (43, 0, 0) (S.2.1 (17, 0, 0)) 6) 0) rfl (Nat.le_of_ble_eq_true rfl) (Nat.le_of_ble_eq_true rfl) (by decide) (by omega) (by omega) ?_
  refine x_iconst dX3_begin_26 ?_
  refine x_istore_n (L' := [xR (5, 0, 0), xI 0, none]) dX3_begin_27 (by decide) rfl ?_
  refine x_heq (show _ = hp (rowJ (rowJ S (43, 0, 0) (S.2.1 (17, 0, 0)) 6) (44, 0, 0) (fun _ => 0) 6) from congrArg hp (rS_rows S (S.2.1 (17, 0, 0)) (fun _ => 0)).symm) ?_
  exact l_begin S hw _ _ _ _ _ (ROk.of hw) 385 0 (by omega) (by omega)
def endA (G : Int → Int64) : Nat → Int → Int64
  | 0 => G
  | n + 1 => xUpd (endA G n) n 0
def endF (F G : Int → Int64) : Nat → Int → Int64
  | 0 => F
  | n + 1 => xUpd (endF F G n) n (F n ||| G n)
def endG (G : Int → Int64) : Nat → Int
  | 0 => 0
  | n + 1 => zOr (endG G n) (if G n = 0 then 0 else zShl 1 n)
theorem endA_ge (G : Int → Int64) (n : Nat) {k : Int} (h : n ≤ k) : endA G n k = G k := by
  induction n with
  | zero => rfl
  | succ n ih =>
    simp only [endA, xUpd]
    rw [if_neg (by omega)]
    exact ih (by omega)
theorem endF_ge (F G : Int → Int64) (n : Nat) {k : Int} (h : n ≤ k) : endF F G n k = F k := by
  induction n with
  | zero => rfl
  | succ n ih =>
    simp only [endF, xUpd]
    rw [if_neg (by omega)]
    exact ih (by omega)
theorem endF_lt (F G : Int → Int64) (n : Nat) {k : Int} (k0 : 0 ≤ k) (h : k < n) : endF F G n k = F k ||| G k := by
  induction n with
  | zero => omega
  | succ n ih =>
    simp only [endF, xUpd]
    by_cases e : k = n
    · rw [if_pos e, e]
    · rw [if_neg e]; exact ih (by omega)
theorem endA_lt (G : Int → Int64) (n : Nat) {k : Int} (k0 : 0 ≤ k) (h : k < n) : endA G n k = 0 := by
  induction n with
  | zero => omega
  | succ n ih =>
    simp only [endA, xUpd]
    by_cases e : k = n
    · rw [if_pos e]
    · rw [if_neg e]; exact ih (by omega)
theorem endG_zR (G : Int → Int64) (n : Nat) : zR (endG G n) := by
  cases n with
  | zero => exact zR_0
  | succ n => exact zR_of _
set_option maxHeartbeats 4000000 in
set_option maxRecDepth 100000 in
theorem l_endStep (S : XS) (hw : WI S) (rk ru wy : Int → Int) (F G : Int → Int64) (hR : ROk rk ru wy) : ∀ (nn : Nat) (i : Nat), 6 - (i : Int) < (nn : Int) → (i ≤ 6) → X mX3_endStep 4 [xR (5, 0, 0), xI (endG G i), xI (i : Int)] [] (hp (rS S rk ru wy (endF F G i) (endA G i))) 0 0 (pRet (xI (endG G 6)) (hp (rS S rk ru wy (endF F G 6) (endA G 6)))) := by
  intro nn
  induction nn with
  | zero => intro i hm hi; exfalso; omega
  | succ nn ih =>
    intro i hm hi
    have hwb : WI (rS S rk ru wy (endF F G i) (endA G i)) := hw.toR hR
    have hgz := endG_zR G i
    refine x_iload_n dX3_endStep_4 rfl ?_
    refine x_bipush (v := 6) dX3_endStep_5 (by decide) ?_
    refine x_icmp_ge (tgt := 59) dX3_endStep_7 (by decide) (by first | exact hz _ _ | exact hw.1 _ _ | exact zR_of _ | assumption | exact ⟨by omega, by omega⟩) ⟨by decide, by decide⟩ (fun c7 => ?_) (fun c7 => ?_)
    · refine x_iload_n dX3_endStep_59 rfl ?_
      exact x_iret dX3_endStep_60 rfl (by obtain rfl : i = 6 := (by omega); exact pRI rfl)
    · refine x_iload_n dX3_endStep_10 rfl ?_
      refine x_aload_n dX3_endStep_11 rfl ?_
      refine x_get (v := xR (44, 0, 0)) dX3_endStep_12 fl_RX3_32 (hp5 (rS S rk ru wy (endF F G i) (endA G i))) rfl ?_
      refine x_iload_n dX3_endStep_15 rfl ?_
      refine x_aldj (f := (rS S rk ru wy (endF F G i) (endA G i)).2.1 (44, 0, 0)) dX3_endStep_16 (hp44 (rS S rk ru wy (endF F G i) (endA G i))) (show (44 : Nat) ≠ 99 by decide) (by omega) (by omega) (by decide) ?_
      refine x_topJ (show (rS S rk ru wy (endF F G i) (endA G i)).2.1 (44, 0, 0) (i : Int) = G (i : Int) from endA_ge G i (Int.le_refl _)) ?_
      refine x_lconst (v := 0) dX3_endStep_17 (by decide) ?_
      refine x_lcmp dX3_endStep_18 ?_
      refine x_if_ne (tgt := 26) dX3_endStep_19 (by decide) (by first | exact hz _ _ | exact hw.1 _ _ | exact zR_of _ | assumption | exact ⟨by omega, by omega⟩) (fun c19 => ?_) (fun c19 => ?_)
      · refine x_iconst dX3_endStep_26 ?_
        refine x_iload_n dX3_endStep_27 rfl ?_
        refine x_ishl dX3_endStep_28 ?_
        refine x_ior dX3_endStep_29 ?_
        refine x_istore_n (L' := [xR (5, 0, 0), xI (zOr (endG G i) (zShl 1 (i : Int))), xI (i : Int)]) dX3_endStep_30 (by decide) rfl ?_
        refine x_aload_n dX3_endStep_31 rfl ?_
        refine x_get (v := xR (43, 0, 0)) dX3_endStep_32 fl_RX3_28 (hp5 (rS S rk ru wy (endF F G i) (endA G i))) rfl ?_
        refine x_iload_n dX3_endStep_35 rfl ?_
        refine x_dup2 dX3_endStep_36 rfl rfl ?_
        refine x_aldj (f := (rS S rk ru wy (endF F G i) (endA G i)).2.1 (43, 0, 0)) dX3_endStep_37 (hp43 (rS S rk ru wy (endF F G i) (endA G i))) (show (43 : Nat) ≠ 99 by decide) (by omega) (by omega) (by decide) ?_
        refine x_topJ (show (rS S rk ru wy (endF F G i) (endA G i)).2.1 (43, 0, 0) (i : Int) = F (i : Int) from endF_ge F G i (Int.le_refl _)) ?_
        refine x_aload_n dX3_endStep_38 rfl ?_
        refine x_get (v := xR (44, 0, 0)) dX3_endStep_39 fl_RX3_32 (hp5 (rS S rk ru wy (endF F G i) (endA G i))) rfl ?_
        refine x_iload_n dX3_endStep_42 rfl ?_
        refine x_aldj (f := (rS S rk ru wy (endF F G i) (endA G i)).2.1 (44, 0, 0)) dX3_endStep_43 (hp44 (rS S rk ru wy (endF F G i) (endA G i))) (show (44 : Nat) ≠ 99 by decide) (by omega) (by omega) (by decide) ?_
        refine x_topJ (show (rS S rk ru wy (endF F G i) (endA G i)).2.1 (44, 0, 0) (i : Int) = G (i : Int) from endA_ge G i (Int.le_refl _)) ?_
        refine x_lor dX3_endStep_44 ?_
        refine x_astj dX3_endStep_45 (hp43 (rS S rk ru wy (endF F G i) (endA G i))) (show (43 : Nat) ≠ 99 by decide) (by omega) (by omega) (by decide) ?_
        refine x_heq (pa43 (rS S rk ru wy (endF F G i) (endA G i)) (i : Int) ((F (i : Int)) ||| (G (i : Int)))) ?_
        refine x_heq (show hp (rS S rk ru wy (endF F G (i + 1)) (endA G i)) = hp (putJ (rS S rk ru wy (endF F G i) (endA G i)) (43, 0, 0) (i : Int) ((F (i : Int)) ||| (G (i : Int)))) from congrArg hp (rS_43 _ _ _ _ _ _ _ _).symm) ?_
        refine x_aload_n dX3_endStep_46 rfl ?_
        refine x_get (v := xR (44, 0, 0)) dX3_endStep_47 fl_RX3_32 (hp5 (rS S rk ru wy (endF F G (i + 1)) (endA G i))) rfl ?_
        refine x_iload_n dX3_endStep_50 rfl ?_
        refine x_lconst (v := 0) dX3_endStep_51 (by decide) ?_
        refine x_astj dX3_endStep_52 (hp44 (rS S rk ru wy (endF F G (i + 1)) (endA G i))) (show (44 : Nat) ≠ 99 by decide) (by omega) (by omega) (by decide) ?_
        refine x_heq (pa44 (rS S rk ru wy (endF F G (i + 1)) (endA G i)) (i : Int) 0) ?_
        refine x_heq (show hp (rS S rk ru wy (endF F G (i + 1)) (endA G (i + 1))) = hp (putJ (rS S rk ru wy (endF F G (i + 1)) (endA G i)) (44, 0, 0) (i : Int) 0) from congrArg hp (rS_44 _ _ _ _ _ _ _ _).symm) ?_
        refine x_iinc (L' := [xR (5, 0, 0), xI (zOr (endG G i) (zShl 1 (i : Int))), xI ((i : Int) + 1)]) dX3_endStep_53 rfl rfl ?_
        refine x_goto (tgt := 4) dX3_endStep_56 (by decide) ?_
        have k := ih (i + 1) (by omega) (by omega)
        rw [show endG G (i + 1) = zOr (endG G i) (zShl 1 (i : Int)) from by simp only [endG]; rw [if_neg (fun z => c19 (lg0.mpr z))]] at k
        exact k
      · refine x_iconst dX3_endStep_22 ?_
        refine x_goto (tgt := 29) dX3_endStep_23 (by decide) ?_
        refine x_ior dX3_endStep_29 ?_
        refine x_istore_n (L' := [xR (5, 0, 0), xI (zOr (endG G i) 0), xI (i : Int)]) dX3_endStep_30 (by decide) rfl ?_
        refine x_aload_n dX3_endStep_31 rfl ?_
        refine x_get (v := xR (43, 0, 0)) dX3_endStep_32 fl_RX3_28 (hp5 (rS S rk ru wy (endF F G i) (endA G i))) rfl ?_
        refine x_iload_n dX3_endStep_35 rfl ?_
        refine x_dup2 dX3_endStep_36 rfl rfl ?_
        refine x_aldj (f := (rS S rk ru wy (endF F G i) (endA G i)).2.1 (43, 0, 0)) dX3_endStep_37 (hp43 (rS S rk ru wy (endF F G i) (endA G i))) (show (43 : Nat) ≠ 99 by decide) (by omega) (by omega) (by decide) ?_
        refine x_topJ (show (rS S rk ru wy (endF F G i) (endA G i)).2.1 (43, 0, 0) (i : Int) = F (i : Int) from endF_ge F G i (Int.le_refl _)) ?_
        refine x_aload_n dX3_endStep_38 rfl ?_
        refine x_get (v := xR (44, 0, 0)) dX3_endStep_39 fl_RX3_32 (hp5 (rS S rk ru wy (endF F G i) (endA G i))) rfl ?_
        refine x_iload_n dX3_endStep_42 rfl ?_
        refine x_aldj (f := (rS S rk ru wy (endF F G i) (endA G i)).2.1 (44, 0, 0)) dX3_endStep_43 (hp44 (rS S rk ru wy (endF F G i) (endA G i))) (show (44 : Nat) ≠ 99 by decide) (by omega) (by omega) (by decide) ?_
        refine x_topJ (show (rS S rk ru wy (endF F G i) (endA G i)).2.1 (44, 0, 0) (i : Int) = G (i : Int) from endA_ge G i (Int.le_refl _)) ?_
        refine x_lor dX3_endStep_44 ?_
        refine x_astj dX3_endStep_45 (hp43 (rS S rk ru wy (endF F G i) (endA G i))) (show (43 : Nat) ≠ 99 by decide) (by omega) (by omega) (by decide) ?_
        refine x_heq (pa43 (rS S rk ru wy (endF F G i) (endA G i)) (i : Int) ((F (i : Int)) ||| (G (i : Int)))) ?_
        refine x_heq (show hp (rS S rk ru wy (endF F G (i + 1)) (endA G i)) = hp (putJ (rS S rk ru wy (endF F G i) (endA G i)) (43, 0, 0) (i : Int) ((F (i : Int)) ||| (G (i : Int)))) from congrArg hp (rS_43 _ _ _ _ _ _ _ _).symm) ?_
        refine x_aload_n dX3_endStep_46 rfl ?_
        refine x_get (v := xR (44, 0, 0)) dX3_endStep_47 fl_RX3_32 (hp5 (rS S rk ru wy (endF F G (i + 1)) (endA G i))) rfl ?_
        refine x_iload_n dX3_endStep_50 rfl ?_
        refine x_lconst (v := 0) dX3_endStep_51 (by decide) ?_
        refine x_astj dX3_endStep_52 (hp44 (rS S rk ru wy (endF F G (i + 1)) (endA G i))) (show (44 : Nat) ≠ 99 by decide) (by omega) (by omega) (by decide) ?_
        refine x_heq (pa44 (rS S rk ru wy (endF F G (i + 1)) (endA G i)) (i : Int) 0) ?_
        refine x_heq (show hp (rS S rk ru wy (endF F G (i + 1)) (endA G (i + 1))) = hp (putJ (rS S rk ru wy (endF F G (i + 1)) (endA G i)) (44, 0, 0) (i : Int) 0) from congrArg hp (rS_44 _ _ _ _ _ _ _ _).symm) ?_
        refine x_iinc (L' := [xR (5, 0, 0), xI (zOr (endG G i) 0), xI ((i : Int) + 1)]) dX3_endStep_53 rfl rfl ?_
        refine x_goto (tgt := 4) dX3_endStep_56 (by decide) ?_
        have k := ih (i + 1) (by omega) (by omega)
        rw [show endG G (i + 1) = zOr (endG G i) 0 from by simp only [endG]; rw [if_pos (lg0.mp c19)]] at k
        exact k
set_option maxHeartbeats 4000000 in
set_option maxRecDepth 100000 in
theorem c_endStep (S : XS) (hw : WI S) (rk ru wy : Int → Int) (F G : Int → Int64) (hR : ROk rk ru wy) : X mX3_endStep 0 (xEnt mX3_endStep [xR (5, 0, 0)]) [] (hp (rS S rk ru wy F G)) 0 0 (pRet (xI (endG G 6)) (hp (rS S rk ru wy (endF F G 6) (endA G 6)))) := by
  show X mX3_endStep 0 [xR (5, 0, 0), none, none] [] (hp (rS S rk ru wy F G)) 0 0 _
  refine x_iconst dX3_endStep_0 ?_
  refine x_istore_n (L' := [xR (5, 0, 0), xI 0, none]) dX3_endStep_1 (by decide) rfl ?_
  refine x_iconst dX3_endStep_2 ?_
  refine x_istore_n (L' := [xR (5, 0, 0), xI 0, xI 0]) dX3_endStep_3 (by decide) rfl ?_
  exact l_endStep S hw rk ru wy F G hR 7 0 (by omega) (by omega)
