/-! p35: the law: figures beside the class -/
theorem x_fcmpE {M : XM} {pc : Nat} {L st : List XV} {h : XH} {kc ks : Nat} {Q : XO → XH → Prop} {a b : UInt32} (hd : decode (xmC M) pc = .ok (.fcmp .l, 1)) (e : a = b) (hn : vf_n32 b) (k : X M (pc + 1) L (xI 0 :: st) h kc ks Q) : X M pc L (xF b :: xF a :: st) h kc ks Q := by
  subst e
  exact x_fcmp hd (x_top (fcmp_self hn) k)
theorem x_dcmpE {M : XM} {pc : Nat} {L st : List XV} {h : XH} {kc ks : Nat} {Q : XO → XH → Prop} {a b : UInt64} (hd : decode (xmC M) pc = .ok (.dcmp .l, 1)) (e : a = b) (hn : vf_n64 b) (k : X M (pc + 1) L (xI 0 :: st) h kc ks Q) : X M pc L (xD b :: xD a :: st) h kc ks Q := by
  subst e
  exact x_dcmp hd (x_top (dcmp_self hn) k)
def pKF (S : XS) (x : UInt32) : XO → XH → Prop := fun o h' => o = .inl (some (xF x)) ∧ ∃ T, h' = hp T ∧ QEq S T ∧ CB T
def pKD (S : XS) (x : UInt64) : XO → XH → Prop := fun o h' => o = .inl (some (xD x)) ∧ ∃ T, h' = hp T ∧ QEq S T ∧ CB T
theorem KQ.sh {S T : XS} (h : KQ S T) (n : Nat) (t : Int) (k : Nat) : shA T.1 0 n t k = shA S.1 0 n t k ∧ shD T.1 0 n t k = shD S.1 0 n t k := by
  induction k with
  | zero => exact ⟨rfl, rfl⟩
  | succ k ih => simp only [shA, shD, ih.1, ih.2, h.hl, h.toldN, and_self]
set_option maxHeartbeats 4000000 in
set_option maxRecDepth 100000 in
theorem k_share (C S : XS) (hL : LW S) (q : KQ C S) (t : Int) (t0 : 0 ≤ t) (t1 : t < 24) (A B : Int) (hA : shA C.1 0 (C.1 (9, 0, 0) 3).toNat t 6 = A) (hB : shD C.1 0 (C.1 (9, 0, 0) 3).toNat t 6 = B) : X mL_derivedShare 0 (xEnt mL_derivedShare [xR (0, 0, 0), xI 0, xI t]) [] (hp S) 3 18 (pKF S (if A = 0 then 3378231856 else FP.fdiv (FP.i2f (zI B)) (FP.i2f (zI A)))) := by
  have h6 : S.1 (0, 0, 0) 6 = 1 := hL.2.2.2.2.2.1
  have e9 : S.1 (9, 0, 0) 3 = C.1 (9, 0, 0) 3 := congrFun (q.k (k := 9) rfl (by decide) 0 0) 3
  have c := c_derivedShare S hL.1 0 t zR_0 ⟨by omega, by omega⟩
  refine X.weak (w_derivedShare (hp0 S) 0 t 3 18 c (fun o h' z => ?_)) (Nat.le_refl _) (Nat.le_refl _) (fun o h' z => ?_)
  · rcases z with ⟨-, z⟩ | ⟨-, z⟩
    · rcases z with ⟨-, z⟩ | ⟨-, z⟩
      · rcases z with ⟨-, z⟩ | ⟨-, z⟩
        · exact Or.inl ⟨_, z.1⟩
        · exact Or.inr ⟨_, 2, z.1, rfl⟩
      · exact Or.inr ⟨_, 1, z.1, rfl⟩
    · exact Or.inr ⟨_, 0, z.1, rfl⟩
  · rw [e9, (q.sh _ _ _).1, (q.sh _ _ _).2, hA, hB] at z
    rcases z with ⟨x, z, rfl⟩ | ⟨E, k, cc, z, hk, hc, rfl⟩
    · rcases z with ⟨-, z⟩ | ⟨-, z⟩
      · rcases z with ⟨-, z⟩ | ⟨-, z⟩
        · rcases z with ⟨c1, z⟩ | ⟨-, z⟩
          · obtain ⟨y, T, e, qq, cb⟩ := z
            cases y
            rw [if_neg c1]
            exact ⟨rfl, T, e, qq, cb⟩
          · cases z.1
        · cases z.1
      · cases z.1
    · rcases z with ⟨-, z⟩ | ⟨c1, z⟩
      · rcases z with ⟨-, z⟩ | ⟨c1, z⟩
        · rcases z with ⟨c1, z⟩ | ⟨c1, z⟩
          · cases z.1
          · obtain ⟨y, T, e, qq, cb⟩ := z
            cases y
            have k2 : k = 2 := by
              match k, hk with
              | 0, hk => exact absurd hk (by decide)
              | 1, hk => exact absurd hk (by decide)
              | 2, _ => rfl
            subst k2
            have c2 : cc = 3378231856 := by
              have y : some (3378231856 : UInt32) = some cc := hc
              injection y with y
              exact y.symm
            rw [if_pos (show A = 0 by omega), c2]
            exact ⟨rfl, T, e, qq, cb⟩
        · exact absurd ⟨t0, t1⟩ c1
      · exact absurd (show 0 ≤ (0 : Int) ∧ (0 : Int) < S.1 (0, 0, 0) 6 from ⟨by decide, by omega⟩) c1
set_option maxHeartbeats 4000000 in
set_option maxRecDepth 100000 in
theorem k_mean (C S : XS) (hL : LW S) (q : KQ C S) (t : Int) (t0 : 0 ≤ t) (t1 : t < 24) (A B : Int) (hM : ∀ rk ru wy, Rsn C.1 0 (C.1 (9, 0, 0) 3).toNat t rk ru wy → mrA rk 384 = A ∧ mrS rk 384 = B) : X mL_meanRank 0 (xEnt mL_meanRank [xR (0, 0, 0), xI 0, xI t]) [] (hp S) 3 18 (pKD S (if A = 0 then 13919350215850065920 else FP.ddiv (FP.i2d (zI B)) (FP.i2d (zI A)))) := by
  have h6 : S.1 (0, 0, 0) 6 = 1 := hL.2.2.2.2.2.1
  have e9 : S.1 (9, 0, 0) 3 = C.1 (9, 0, 0) 3 := congrFun (q.k (k := 9) rfl (by decide) 0 0) 3
  have c := c_meanRank S hL.1 0 t zR_0 ⟨by omega, by omega⟩
  refine X.weak (w_meanRank (hp0 S) 0 t 3 18 c (fun o h' z => ?_)) (Nat.le_refl _) (Nat.le_refl _) (fun o h' z => ?_)
  · rcases z with ⟨-, z⟩ | ⟨-, z⟩
    · rcases z with ⟨-, rk, ru, wy, -, z⟩ | ⟨-, z⟩
      · rcases z with ⟨-, z⟩ | ⟨-, z⟩
        · exact Or.inl ⟨_, z.1⟩
        · exact Or.inr ⟨_, 2, z.1, rfl⟩
      · exact Or.inr ⟨_, 1, z.1, rfl⟩
    · exact Or.inr ⟨_, 0, z.1, rfl⟩
  · rcases z with ⟨x, z, rfl⟩ | ⟨E, k, cc, z, hk, hc, rfl⟩
    · rcases z with ⟨-, z⟩ | ⟨-, z⟩
      · rcases z with ⟨-, rk, ru, wy, hr, z⟩ | ⟨-, z⟩
        · rw [e9] at hr
          obtain ⟨m1, m2⟩ := hM rk ru wy (q.rsn hr)
          rw [m1, m2] at z
          rcases z with ⟨c1, z⟩ | ⟨-, z⟩
          · obtain ⟨y, T, e, qq, cb⟩ := z
            cases y
            rw [if_neg c1]
            exact ⟨rfl, T, e, qq, cb⟩
          · cases z.1
        · cases z.1
      · cases z.1
    · rcases z with ⟨-, z⟩ | ⟨c1, z⟩
      · rcases z with ⟨-, rk, ru, wy, hr, z⟩ | ⟨c1, z⟩
        · rw [e9] at hr
          obtain ⟨m1, m2⟩ := hM rk ru wy (q.rsn hr)
          rw [m1, m2] at z
          rcases z with ⟨c1, z⟩ | ⟨c1, z⟩
          · cases z.1
          · obtain ⟨y, T, e, qq, cb⟩ := z
            cases y
            have k2 : k = 2 := by
              match k, hk with
              | 0, hk => exact absurd hk (by decide)
              | 1, hk => exact absurd hk (by decide)
              | 2, _ => rfl
            subst k2
            have c2 : cc = 13919350215850065920 := by
              have y : some (13919350215850065920 : UInt64) = some cc := hc
              injection y with y
              exact y.symm
            rw [if_pos (show A = 0 by omega), c2]
            exact ⟨rfl, T, e, qq, cb⟩
        · exact absurd ⟨t0, t1⟩ c1
      · exact absurd (show 0 ≤ (0 : Int) ∧ (0 : Int) < S.1 (0, 0, 0) 6 from ⟨by decide, by omega⟩) c1
theorem msN_in {rk : Int → Int} (h : ∀ k, 0 ≤ rk k ∧ rk k ≤ 999) (k : Nat) : 0 ≤ msN rk k ∧ msN rk k ≤ 999 * k := by
  induction k with
  | zero => exact ⟨Int.le_refl _, Int.le_refl _⟩
  | succ k ih =>
    have := h k
    simp only [msN]
    split <;> omega
set_option maxHeartbeats 4000000 in
set_option maxRecDepth 100000 in
theorem l_fgE (C W : XS) (hW : PH C W) (t : Int) (t0 : 0 ≤ t) (t1 : t < 24) (b : Int) (b0 : 0 ≤ b) (bW : b < W.2.2.2.1 53) (hF : FinR C 0 (C.1 (9, 0, 0) 3).toNat t (W.1 (53, b, 0))) : X mL_areFigures 110 [xR (0, 0, 0), xR (50, 0, 0), xI t, xR (53, b, 0), xI ((cntN (fun j : Nat => (W.1 (53, b, 0)) j < 999) 384 : Nat) : Int), xI ((cntN (fun j : Nat => 0 < (W.1 (53, b, 0)) j ∧ (W.1 (53, b, 0)) j < 999) 384 : Nat) : Int), xI (msN (W.1 (53, b, 0)) 384), none, none, none, none] [] (hp W) 6 36 (pP C) := by
  have hC := hW.1.1
  have hC6 : C.1 (0, 0, 0) 6 = 1 := hW.1.2.2.2.2.2.1
  have wW := hW.2.1.1.1
  have hz := wW.1
  have c9 := wf9_3 hC.1 (b := 0) (by decide) (by decide)
  have hn : (((C.1 (9, 0, 0) 3).toNat : Nat) : Int) ≤ C.1 (9, 0, 0) 3 := by omega
  have hbx : ∀ k : Nat, k < 384 → ((W.1 (53, b, 0)) k < 999 ↔ hB C.1 0 (C.1 (9, 0, 0) 3).toNat t k) := fun k hk => (hF.hb hC (b := 0) (by omega) (by omega) hn (q := (k : Int)) (by omega) (by omega)).1
  have hA9 : cntN (fun j : Nat => (W.1 (53, b, 0)) j < 999) 384 = cntN (fun j : Nat => hB C.1 0 (C.1 (9, 0, 0) 3).toNat t j) 384 := cntN_eq 384 hbx
  have hA : shA C.1 0 (C.1 (9, 0, 0) 3).toNat t 6 = ((cntN (fun j : Nat => (W.1 (53, b, 0)) j < 999) 384 : Nat) : Int) := by rw [hA9]; exact (lk_all C.1 0 (C.1 (9, 0, 0) 3).toNat t 6).symm
  have hD : shD C.1 0 (C.1 (9, 0, 0) 3).toNat t 6 = ((cntN (fun j : Nat => 0 < (W.1 (53, b, 0)) j ∧ (W.1 (53, b, 0)) j < 999) 384 : Nat) : Int) := (lk_der hC (b := 0) (by omega) (by omega) hn hF 6 (by omega)).symm
  have hM : ∀ rk ru wy, Rsn C.1 0 (C.1 (9, 0, 0) 3).toNat t rk ru wy → mrA rk 384 = ((cntN (fun j : Nat => (W.1 (53, b, 0)) j < 999) 384 : Nat) : Int) ∧ mrS rk 384 = msN (W.1 (53, b, 0)) 384 := fun rk ru wy hr => by
    have k := lk_mean hC (b := 0) (by omega) (by omega) hn hF hr 384 (by omega)
    exact ⟨by rw [k.2, hA9], k.1⟩
  have a9 : cntN (fun j : Nat => (W.1 (53, b, 0)) j < 999) 384 ≤ 384 := cntN_le _ _
  refine x_aload_n dL_areFigures_110 rfl ?_
  refine x_iconst dL_areFigures_111 ?_
  refine x_iload_n dL_areFigures_112 rfl ?_
  refine x_callSH (a := 3) (b := 18) (as := [xR (0, 0, 0), xI 0, xI t]) (rest := []) ok_L_derivedShare dL_areFigures_113 wd892 wd893 (k_share C W hW.2.1 hW.2.2.1 t t0 t1 _ _ hA hD) rfl (Nat.le_of_ble_eq_true rfl) (Nat.le_of_ble_eq_true rfl) (by decide) (by omega) (by omega) (fun _ q => by cases q.1) (fun _ _ q => ?_) (fun _ _ q => by cases q.1)
  obtain ⟨yy, Q113, rfl, z113, zb113⟩ := q
  cases yy
  have hQ113 := hW.q z113 zb113
  refine x_iload dL_areFigures_116 rfl ?_
  refine x_if_ne (tgt := 126) dL_areFigures_118 (by decide) (by first | exact hz _ _ | exact hw.1 _ _ | exact zR_of _ | exact bI_z _ | assumption | exact ⟨by omega, by omega⟩) (fun c118 => ?_) (fun c118 => ?_)
  · refine x_iload dL_areFigures_126 rfl ?_
    refine x_i2f dL_areFigures_128 ?_
    refine x_iload dL_areFigures_129 rfl ?_
    refine x_i2f dL_areFigures_131 ?_
    refine x_fdiv dL_areFigures_132 (share_n (by omega) (by omega)) ?_
    refine x_fcmpE dL_areFigures_133 (by first | exact if_pos (by omega) | exact if_neg (by omega)) (by first | exact share_n (by omega) (by omega) | (unfold vf_n32; decide)) ?_
    refine x_if_ne (tgt := 141) dL_areFigures_134 (by decide) ⟨by decide, by decide⟩ (fun z => absurd z (by decide)) (fun _ => ?_)
    refine x_iconst dL_areFigures_137 ?_
    refine x_goto (tgt := 142) dL_areFigures_138 (by decide) ?_
    refine x_istore (L' := [xR (0, 0, 0), xR (50, 0, 0), xI t, xR (53, b, 0), xI ((cntN (fun j : Nat => (W.1 (53, b, 0)) j < 999) 384 : Nat) : Int), xI ((cntN (fun j : Nat => 0 < (W.1 (53, b, 0)) j ∧ (W.1 (53, b, 0)) j < 999) 384 : Nat) : Int), xI (msN (W.1 (53, b, 0)) 384), xI 1, none, none, none]) dL_areFigures_142 (by decide) rfl ?_
    refine x_iload dL_areFigures_144 rfl ?_
    refine x_if_eq (tgt := 181) dL_areFigures_146 (by decide) ⟨by decide, by decide⟩ (fun z => absurd z (by decide)) (fun _ => ?_)
    refine x_aload_n dL_areFigures_149 rfl ?_
    refine x_iconst dL_areFigures_150 ?_
    refine x_iload_n dL_areFigures_151 rfl ?_
    refine x_callSH (a := 3) (b := 18) (as := [xR (0, 0, 0), xI 0, xI t]) (rest := []) ok_L_meanRank dL_areFigures_152 wd919 wd920 (k_mean C Q113 hQ113.2.1 hQ113.2.2.1 t t0 t1 _ _ hM) rfl (Nat.le_of_ble_eq_true rfl) (Nat.le_of_ble_eq_true rfl) (by decide) (by omega) (by omega) (fun _ q => by cases q.1) (fun _ _ q => ?_) (fun _ _ q => by cases q.1)
    obtain ⟨yy, Q152, rfl, z152, zb152⟩ := q
    cases yy
    have hQ152 := hQ113.q z152 zb152
    refine x_iload dL_areFigures_155 rfl ?_
    refine x_if_ne (tgt := 166) dL_areFigures_157 (by decide) (by first | exact hz _ _ | exact hw.1 _ _ | exact zR_of _ | exact bI_z _ | assumption | exact ⟨by omega, by omega⟩) (fun c157 => ?_) (fun c157 => ?_)
    · refine x_iload dL_areFigures_166 rfl ?_
      refine x_i2d dL_areFigures_168 ?_
      refine x_iload dL_areFigures_169 rfl ?_
      refine x_i2d dL_areFigures_171 ?_
      refine x_ddiv dL_areFigures_172 (mean_n (by omega) (by omega)) ?_
      refine x_dcmpE dL_areFigures_173 (by first | exact if_pos (by omega) | exact if_neg (by omega)) (by first | exact mean_n (by omega) (by omega) | (unfold vf_n64; decide)) ?_
      refine x_if_ne (tgt := 181) dL_areFigures_174 (by decide) ⟨by decide, by decide⟩ (fun z => absurd z (by decide)) (fun _ => ?_)
      refine x_iconst dL_areFigures_177 ?_
      refine x_goto (tgt := 182) dL_areFigures_178 (by decide) ?_
      exact x_zret dL_areFigures_182 rfl (Or.inr rfl) ⟨rfl, Q152, rfl, hQ152⟩
    · refine x_ldc2d (v := 13919350215850065920) dL_areFigures_160 wd928 ?_
      refine x_goto (tgt := 173) dL_areFigures_163 (by decide) ?_
      refine x_dcmpE dL_areFigures_173 (by first | exact if_pos (by omega) | exact if_neg (by omega)) (by first | exact mean_n (by omega) (by omega) | (unfold vf_n64; decide)) ?_
      refine x_if_ne (tgt := 181) dL_areFigures_174 (by decide) ⟨by decide, by decide⟩ (fun z => absurd z (by decide)) (fun _ => ?_)
      refine x_iconst dL_areFigures_177 ?_
      refine x_goto (tgt := 182) dL_areFigures_178 (by decide) ?_
      exact x_zret dL_areFigures_182 rfl (Or.inr rfl) ⟨rfl, Q152, rfl, hQ152⟩
  · refine x_ldcf (v := 3378231856) dL_areFigures_121 wd918 ?_
    refine x_goto (tgt := 133) dL_areFigures_123 (by decide) ?_
    refine x_fcmpE dL_areFigures_133 (by first | exact if_pos (by omega) | exact if_neg (by omega)) (by first | exact share_n (by omega) (by omega) | (unfold vf_n32; decide)) ?_
    refine x_if_ne (tgt := 141) dL_areFigures_134 (by decide) ⟨by decide, by decide⟩ (fun z => absurd z (by decide)) (fun _ => ?_)
    refine x_iconst dL_areFigures_137 ?_
    refine x_goto (tgt := 142) dL_areFigures_138 (by decide) ?_
    refine x_istore (L' := [xR (0, 0, 0), xR (50, 0, 0), xI t, xR (53, b, 0), xI ((cntN (fun j : Nat => (W.1 (53, b, 0)) j < 999) 384 : Nat) : Int), xI ((cntN (fun j : Nat => 0 < (W.1 (53, b, 0)) j ∧ (W.1 (53, b, 0)) j < 999) 384 : Nat) : Int), xI (msN (W.1 (53, b, 0)) 384), xI 1, none, none, none]) dL_areFigures_142 (by decide) rfl ?_
    refine x_iload dL_areFigures_144 rfl ?_
    refine x_if_eq (tgt := 181) dL_areFigures_146 (by decide) ⟨by decide, by decide⟩ (fun z => absurd z (by decide)) (fun _ => ?_)
    refine x_aload_n dL_areFigures_149 rfl ?_
    refine x_iconst dL_areFigures_150 ?_
    refine x_iload_n dL_areFigures_151 rfl ?_
    refine x_callSH (a := 3) (b := 18) (as := [xR (0, 0, 0), xI 0, xI t]) (rest := []) ok_L_meanRank dL_areFigures_152 wd919 wd920 (k_mean C Q113 hQ113.2.1 hQ113.2.2.1 t t0 t1 _ _ hM) rfl (Nat.le_of_ble_eq_true rfl) (Nat.le_of_ble_eq_true rfl) (by decide) (by omega) (by omega) (fun _ q => by cases q.1) (fun _ _ q => ?_) (fun _ _ q => by cases q.1)
    obtain ⟨yy, Q152, rfl, z152, zb152⟩ := q
    cases yy
    have hQ152 := hQ113.q z152 zb152
    refine x_iload dL_areFigures_155 rfl ?_
    refine x_if_ne (tgt := 166) dL_areFigures_157 (by decide) (by first | exact hz _ _ | exact hw.1 _ _ | exact zR_of _ | exact bI_z _ | assumption | exact ⟨by omega, by omega⟩) (fun c157 => ?_) (fun c157 => ?_)
    · refine x_iload dL_areFigures_166 rfl ?_
      refine x_i2d dL_areFigures_168 ?_
      refine x_iload dL_areFigures_169 rfl ?_
      refine x_i2d dL_areFigures_171 ?_
      refine x_ddiv dL_areFigures_172 (mean_n (by omega) (by omega)) ?_
      refine x_dcmpE dL_areFigures_173 (by first | exact if_pos (by omega) | exact if_neg (by omega)) (by first | exact mean_n (by omega) (by omega) | (unfold vf_n64; decide)) ?_
      refine x_if_ne (tgt := 181) dL_areFigures_174 (by decide) ⟨by decide, by decide⟩ (fun z => absurd z (by decide)) (fun _ => ?_)
      refine x_iconst dL_areFigures_177 ?_
      refine x_goto (tgt := 182) dL_areFigures_178 (by decide) ?_
      exact x_zret dL_areFigures_182 rfl (Or.inr rfl) ⟨rfl, Q152, rfl, hQ152⟩
    · refine x_ldc2d (v := 13919350215850065920) dL_areFigures_160 wd928 ?_
      refine x_goto (tgt := 173) dL_areFigures_163 (by decide) ?_
      refine x_dcmpE dL_areFigures_173 (by first | exact if_pos (by omega) | exact if_neg (by omega)) (by first | exact mean_n (by omega) (by omega) | (unfold vf_n64; decide)) ?_
      refine x_if_ne (tgt := 181) dL_areFigures_174 (by decide) ⟨by decide, by decide⟩ (fun z => absurd z (by decide)) (fun _ => ?_)
      refine x_iconst dL_areFigures_177 ?_
      refine x_goto (tgt := 182) dL_areFigures_178 (by decide) ?_
      exact x_zret dL_areFigures_182 rfl (Or.inr rfl) ⟨rfl, Q152, rfl, hQ152⟩
set_option maxHeartbeats 4000000 in
set_option maxRecDepth 100000 in
theorem l_fgL (C W : XS) (hW : PH C W) (t : Int) (t0 : 0 ≤ t) (t1 : t < 24) (b : Int) (b0 : 0 ≤ b) (bW : b < W.2.2.2.1 53) (hF : FinR C 0 (C.1 (9, 0, 0) 3).toNat t (W.1 (53, b, 0))) : ∀ (nn : Nat) (k : Nat), 385 - (k : Int) < (nn : Int) → (k ≤ 384) → X mL_areFigures 30 [xR (0, 0, 0), xR (50, 0, 0), xI t, xR (53, b, 0), xI ((cntN (fun j : Nat => (W.1 (53, b, 0)) j < 999) k : Nat) : Int), xI ((cntN (fun j : Nat => 0 < (W.1 (53, b, 0)) j ∧ (W.1 (53, b, 0)) j < 999) k : Nat) : Int), xI (msN (W.1 (53, b, 0)) k), xR (53, b, 0), xI ((384 : Nat) : Int), xI (k : Int), none] [] (hp W) 6 36 (pP C) := by
  intro nn
  induction nn with
  | zero => intro k hm hk; exfalso; omega
  | succ nn ih =>
    intro k hm hk
    have wW := hW.2.1.1.1
    have hz := wW.1
    have a9 := cntN_le (fun j : Nat => (W.1 (53, b, 0)) j < 999) k
    have d9 := cntN_le (fun j : Nat => 0 < (W.1 (53, b, 0)) j ∧ (W.1 (53, b, 0)) j < 999) k
    have m9 := msN_in (rk := (W.1 (53, b, 0))) (fun j => wfa53 wW b0 bW j) k
    refine x_iload dL_areFigures_30 rfl ?_
    refine x_iload dL_areFigures_32 rfl ?_
    refine x_icmp_ge (tgt := 110) dL_areFigures_34 (by decide) (by first | exact hz _ _ | exact hw.1 _ _ | exact zR_of _ | exact bI_z _ | assumption | exact ⟨by omega, by omega⟩) (by first | exact hz _ _ | exact hw.1 _ _ | exact zR_of _ | exact bI_z _ | assumption | exact ⟨by omega, by omega⟩) (fun c34 => ?_) (fun c34 => ?_)
    · refine X.loc (L' := [xR (0, 0, 0), xR (50, 0, 0), xI t, xR (53, b, 0), xI ((cntN (fun j : Nat => (W.1 (53, b, 0)) j < 999) k : Nat) : Int), xI ((cntN (fun j : Nat => 0 < (W.1 (53, b, 0)) j ∧ (W.1 (53, b, 0)) j < 999) k : Nat) : Int), xI (msN (W.1 (53, b, 0)) k), none, none, none, none]) ⟨rfl, ⟨rfl, ⟨rfl, ⟨rfl, ⟨rfl, ⟨rfl, ⟨rfl, trivial⟩⟩⟩⟩⟩⟩⟩ ?_
      obtain rfl : k = 384 := by omega
      exact l_fgE C W hW t t0 t1 b b0 bW hF
    · refine x_aload dL_areFigures_37 rfl ?_
      refine x_iload dL_areFigures_39 rfl ?_
      refine x_aldi (f := W.1 (53, b, 0)) dL_areFigures_41 (hp53 W (by omega) (by omega)) (show (53 : Nat) ≠ 99 by decide) (by omega) (by omega) (by decide) ?_
      have f41_1 := wfa53 wW (S := W) (b := b) (by omega) (by omega) (k : Int)
      refine x_istore (L' := [xR (0, 0, 0), xR (50, 0, 0), xI t, xR (53, b, 0), xI ((cntN (fun j : Nat => (W.1 (53, b, 0)) j < 999) k : Nat) : Int), xI ((cntN (fun j : Nat => 0 < (W.1 (53, b, 0)) j ∧ (W.1 (53, b, 0)) j < 999) k : Nat) : Int), xI (msN (W.1 (53, b, 0)) k), xR (53, b, 0), xI ((384 : Nat) : Int), xI (k : Int), xI (W.1 (53, b, 0) (k : Int))]) dL_areFigures_42 (by decide) rfl ?_
      refine x_iload dL_areFigures_44 rfl ?_
      refine x_iload dL_areFigures_46 rfl ?_
      refine x_sipush (v := 999) dL_areFigures_48 (by decide) ?_
      refine x_icmp_ge (tgt := 58) dL_areFigures_51 (by decide) (by first | exact hz _ _ | exact hw.1 _ _ | exact zR_of _ | exact bI_z _ | assumption | exact ⟨by omega, by omega⟩) ⟨by decide, by decide⟩ (fun c51 => ?_) (fun c51 => ?_)
      · refine x_iconst dL_areFigures_58 ?_
        refine x_iadd dL_areFigures_59 ?_
        refine x_istore (L' := [xR (0, 0, 0), xR (50, 0, 0), xI t, xR (53, b, 0), xI (((cntN (fun j : Nat => (W.1 (53, b, 0)) j < 999) k : Nat) : Int) + 0), xI ((cntN (fun j : Nat => 0 < (W.1 (53, b, 0)) j ∧ (W.1 (53, b, 0)) j < 999) k : Nat) : Int), xI (msN (W.1 (53, b, 0)) k), xR (53, b, 0), xI ((384 : Nat) : Int), xI (k : Int), xI (W.1 (53, b, 0) (k : Int))]) dL_areFigures_60 (by decide) rfl ?_
        refine x_iload dL_areFigures_62 rfl ?_
        refine x_iload dL_areFigures_64 rfl ?_
        refine x_if_le (tgt := 81) dL_areFigures_66 (by decide) (by first | exact hz _ _ | exact hw.1 _ _ | exact zR_of _ | exact bI_z _ | assumption | exact ⟨by omega, by omega⟩) (fun c66 => ?_) (fun c66 => ?_)
        · refine x_iconst dL_areFigures_81 ?_
          refine x_iadd dL_areFigures_82 ?_
          refine x_istore (L' := [xR (0, 0, 0), xR (50, 0, 0), xI t, xR (53, b, 0), xI (((cntN (fun j : Nat => (W.1 (53, b, 0)) j < 999) k : Nat) : Int) + 0), xI (((cntN (fun j : Nat => 0 < (W.1 (53, b, 0)) j ∧ (W.1 (53, b, 0)) j < 999) k : Nat) : Int) + 0), xI (msN (W.1 (53, b, 0)) k), xR (53, b, 0), xI ((384 : Nat) : Int), xI (k : Int), xI (W.1 (53, b, 0) (k : Int))]) dL_areFigures_83 (by decide) rfl ?_
          refine x_iload dL_areFigures_85 rfl ?_
          refine x_iload dL_areFigures_87 rfl ?_
          refine x_sipush (v := 999) dL_areFigures_89 (by decide) ?_
          refine x_icmp_ge (tgt := 100) dL_areFigures_92 (by decide) (by first | exact hz _ _ | exact hw.1 _ _ | exact zR_of _ | exact bI_z _ | assumption | exact ⟨by omega, by omega⟩) ⟨by decide, by decide⟩ (fun c92 => ?_) (fun c92 => ?_)
          · refine x_iconst dL_areFigures_100 ?_
            refine x_iadd dL_areFigures_101 ?_
            refine x_istore (L' := [xR (0, 0, 0), xR (50, 0, 0), xI t, xR (53, b, 0), xI (((cntN (fun j : Nat => (W.1 (53, b, 0)) j < 999) k : Nat) : Int) + 0), xI (((cntN (fun j : Nat => 0 < (W.1 (53, b, 0)) j ∧ (W.1 (53, b, 0)) j < 999) k : Nat) : Int) + 0), xI ((msN (W.1 (53, b, 0)) k) + 0), xR (53, b, 0), xI ((384 : Nat) : Int), xI (k : Int), xI (W.1 (53, b, 0) (k : Int))]) dL_areFigures_102 (by decide) rfl ?_
            refine x_iinc (L' := [xR (0, 0, 0), xR (50, 0, 0), xI t, xR (53, b, 0), xI (((cntN (fun j : Nat => (W.1 (53, b, 0)) j < 999) k : Nat) : Int) + 0), xI (((cntN (fun j : Nat => 0 < (W.1 (53, b, 0)) j ∧ (W.1 (53, b, 0)) j < 999) k : Nat) : Int) + 0), xI ((msN (W.1 (53, b, 0)) k) + 0), xR (53, b, 0), xI ((384 : Nat) : Int), xI ((k : Int) + 1), xI (W.1 (53, b, 0) (k : Int))]) dL_areFigures_104 rfl rfl ?_
            refine x_goto (tgt := 30) dL_areFigures_107 (by decide) ?_
            refine X.loc (L' := [xR (0, 0, 0), xR (50, 0, 0), xI t, xR (53, b, 0), xI (((cntN (fun j : Nat => (W.1 (53, b, 0)) j < 999) k : Nat) : Int) + 0), xI (((cntN (fun j : Nat => 0 < (W.1 (53, b, 0)) j ∧ (W.1 (53, b, 0)) j < 999) k : Nat) : Int) + 0), xI ((msN (W.1 (53, b, 0)) k) + 0), xR (53, b, 0), xI ((384 : Nat) : Int), xI ((k : Int) + 1), none]) ⟨rfl, ⟨rfl, ⟨rfl, ⟨rfl, ⟨rfl, ⟨rfl, ⟨rfl, ⟨rfl, ⟨rfl, ⟨rfl, trivial⟩⟩⟩⟩⟩⟩⟩⟩⟩⟩ ?_
            have kk := ih (k + 1) (by omega) (by omega)
            rw [show ((cntN (fun j : Nat => (W.1 (53, b, 0)) j < 999) (k + 1) : Nat) : Int) = ((cntN (fun j : Nat => (W.1 (53, b, 0)) j < 999) k : Nat) : Int) + 0 from by first | (rw [cntN_t (by exact (show (W.1 (53, b, 0)) (k : Int) < 999 by omega))]; rfl) | (rw [cntN_f (by exact (show ¬ (W.1 (53, b, 0)) (k : Int) < 999 by omega))]; omega)] at kk
            rw [show ((cntN (fun j : Nat => 0 < (W.1 (53, b, 0)) j ∧ (W.1 (53, b, 0)) j < 999) (k + 1) : Nat) : Int) = ((cntN (fun j : Nat => 0 < (W.1 (53, b, 0)) j ∧ (W.1 (53, b, 0)) j < 999) k : Nat) : Int) + 0 from by first | (rw [cntN_t (by exact (show 0 < (W.1 (53, b, 0)) (k : Int) ∧ (W.1 (53, b, 0)) (k : Int) < 999 by omega))]; rfl) | (rw [cntN_f (by exact (show ¬ (0 < (W.1 (53, b, 0)) (k : Int) ∧ (W.1 (53, b, 0)) (k : Int) < 999) by omega))]; omega)] at kk
            rw [show msN (W.1 (53, b, 0)) (k + 1) = (msN (W.1 (53, b, 0)) k) + 0 from by first | (rw [msN_t (by omega)]; done) | (rw [msN_f (by omega)]; omega)] at kk
            exact kk
          · refine x_iload dL_areFigures_95 rfl ?_
            refine x_goto (tgt := 101) dL_areFigures_97 (by decide) ?_
            refine x_iadd dL_areFigures_101 ?_
            refine x_istore (L' := [xR (0, 0, 0), xR (50, 0, 0), xI t, xR (53, b, 0), xI (((cntN (fun j : Nat => (W.1 (53, b, 0)) j < 999) k : Nat) : Int) + 0), xI (((cntN (fun j : Nat => 0 < (W.1 (53, b, 0)) j ∧ (W.1 (53, b, 0)) j < 999) k : Nat) : Int) + 0), xI ((msN (W.1 (53, b, 0)) k) + (W.1 (53, b, 0) (k : Int))), xR (53, b, 0), xI ((384 : Nat) : Int), xI (k : Int), xI (W.1 (53, b, 0) (k : Int))]) dL_areFigures_102 (by decide) rfl ?_
            refine x_iinc (L' := [xR (0, 0, 0), xR (50, 0, 0), xI t, xR (53, b, 0), xI (((cntN (fun j : Nat => (W.1 (53, b, 0)) j < 999) k : Nat) : Int) + 0), xI (((cntN (fun j : Nat => 0 < (W.1 (53, b, 0)) j ∧ (W.1 (53, b, 0)) j < 999) k : Nat) : Int) + 0), xI ((msN (W.1 (53, b, 0)) k) + (W.1 (53, b, 0) (k : Int))), xR (53, b, 0), xI ((384 : Nat) : Int), xI ((k : Int) + 1), xI (W.1 (53, b, 0) (k : Int))]) dL_areFigures_104 rfl rfl ?_
            refine x_goto (tgt := 30) dL_areFigures_107 (by decide) ?_
            refine X.loc (L' := [xR (0, 0, 0), xR (50, 0, 0), xI t, xR (53, b, 0), xI (((cntN (fun j : Nat => (W.1 (53, b, 0)) j < 999) k : Nat) : Int) + 0), xI (((cntN (fun j : Nat => 0 < (W.1 (53, b, 0)) j ∧ (W.1 (53, b, 0)) j < 999) k : Nat) : Int) + 0), xI ((msN (W.1 (53, b, 0)) k) + (W.1 (53, b, 0) (k : Int))), xR (53, b, 0), xI ((384 : Nat) : Int), xI ((k : Int) + 1), none]) ⟨rfl, ⟨rfl, ⟨rfl, ⟨rfl, ⟨rfl, ⟨rfl, ⟨rfl, ⟨rfl, ⟨rfl, ⟨rfl, trivial⟩⟩⟩⟩⟩⟩⟩⟩⟩⟩ ?_
            have kk := ih (k + 1) (by omega) (by omega)
            rw [show ((cntN (fun j : Nat => (W.1 (53, b, 0)) j < 999) (k + 1) : Nat) : Int) = ((cntN (fun j : Nat => (W.1 (53, b, 0)) j < 999) k : Nat) : Int) + 0 from by first | (rw [cntN_t (by exact (show (W.1 (53, b, 0)) (k : Int) < 999 by omega))]; rfl) | (rw [cntN_f (by exact (show ¬ (W.1 (53, b, 0)) (k : Int) < 999 by omega))]; omega)] at kk
            rw [show ((cntN (fun j : Nat => 0 < (W.1 (53, b, 0)) j ∧ (W.1 (53, b, 0)) j < 999) (k + 1) : Nat) : Int) = ((cntN (fun j : Nat => 0 < (W.1 (53, b, 0)) j ∧ (W.1 (53, b, 0)) j < 999) k : Nat) : Int) + 0 from by first | (rw [cntN_t (by exact (show 0 < (W.1 (53, b, 0)) (k : Int) ∧ (W.1 (53, b, 0)) (k : Int) < 999 by omega))]; rfl) | (rw [cntN_f (by exact (show ¬ (0 < (W.1 (53, b, 0)) (k : Int) ∧ (W.1 (53, b, 0)) (k : Int) < 999) by omega))]; omega)] at kk
            rw [show msN (W.1 (53, b, 0)) (k + 1) = (msN (W.1 (53, b, 0)) k) + (W.1 (53, b, 0) (k : Int)) from by first | (rw [msN_t (by omega)]; done) | (rw [msN_f (by omega)]; omega)] at kk
            exact kk
        · refine x_iload dL_areFigures_69 rfl ?_
          refine x_sipush (v := 999) dL_areFigures_71 (by decide) ?_
          refine x_icmp_ge (tgt := 81) dL_areFigures_74 (by decide) (by first | exact hz _ _ | exact hw.1 _ _ | exact zR_of _ | exact bI_z _ | assumption | exact ⟨by omega, by omega⟩) ⟨by decide, by decide⟩ (fun c74 => ?_) (fun c74 => ?_)
          · refine x_iconst dL_areFigures_81 ?_
            refine x_iadd dL_areFigures_82 ?_
            refine x_istore (L' := [xR (0, 0, 0), xR (50, 0, 0), xI t, xR (53, b, 0), xI (((cntN (fun j : Nat => (W.1 (53, b, 0)) j < 999) k : Nat) : Int) + 0), xI (((cntN (fun j : Nat => 0 < (W.1 (53, b, 0)) j ∧ (W.1 (53, b, 0)) j < 999) k : Nat) : Int) + 0), xI (msN (W.1 (53, b, 0)) k), xR (53, b, 0), xI ((384 : Nat) : Int), xI (k : Int), xI (W.1 (53, b, 0) (k : Int))]) dL_areFigures_83 (by decide) rfl ?_
            refine x_iload dL_areFigures_85 rfl ?_
            refine x_iload dL_areFigures_87 rfl ?_
            refine x_sipush (v := 999) dL_areFigures_89 (by decide) ?_
            refine x_icmp_ge (tgt := 100) dL_areFigures_92 (by decide) (by first | exact hz _ _ | exact hw.1 _ _ | exact zR_of _ | exact bI_z _ | assumption | exact ⟨by omega, by omega⟩) ⟨by decide, by decide⟩ (fun c92 => ?_) (fun c92 => ?_)
            · refine x_iconst dL_areFigures_100 ?_
              refine x_iadd dL_areFigures_101 ?_
              refine x_istore (L' := [xR (0, 0, 0), xR (50, 0, 0), xI t, xR (53, b, 0), xI (((cntN (fun j : Nat => (W.1 (53, b, 0)) j < 999) k : Nat) : Int) + 0), xI (((cntN (fun j : Nat => 0 < (W.1 (53, b, 0)) j ∧ (W.1 (53, b, 0)) j < 999) k : Nat) : Int) + 0), xI ((msN (W.1 (53, b, 0)) k) + 0), xR (53, b, 0), xI ((384 : Nat) : Int), xI (k : Int), xI (W.1 (53, b, 0) (k : Int))]) dL_areFigures_102 (by decide) rfl ?_
              refine x_iinc (L' := [xR (0, 0, 0), xR (50, 0, 0), xI t, xR (53, b, 0), xI (((cntN (fun j : Nat => (W.1 (53, b, 0)) j < 999) k : Nat) : Int) + 0), xI (((cntN (fun j : Nat => 0 < (W.1 (53, b, 0)) j ∧ (W.1 (53, b, 0)) j < 999) k : Nat) : Int) + 0), xI ((msN (W.1 (53, b, 0)) k) + 0), xR (53, b, 0), xI ((384 : Nat) : Int), xI ((k : Int) + 1), xI (W.1 (53, b, 0) (k : Int))]) dL_areFigures_104 rfl rfl ?_
              refine x_goto (tgt := 30) dL_areFigures_107 (by decide) ?_
              refine X.loc (L' := [xR (0, 0, 0), xR (50, 0, 0), xI t, xR (53, b, 0), xI (((cntN (fun j : Nat => (W.1 (53, b, 0)) j < 999) k : Nat) : Int) + 0), xI (((cntN (fun j : Nat => 0 < (W.1 (53, b, 0)) j ∧ (W.1 (53, b, 0)) j < 999) k : Nat) : Int) + 0), xI ((msN (W.1 (53, b, 0)) k) + 0), xR (53, b, 0), xI ((384 : Nat) : Int), xI ((k : Int) + 1), none]) ⟨rfl, ⟨rfl, ⟨rfl, ⟨rfl, ⟨rfl, ⟨rfl, ⟨rfl, ⟨rfl, ⟨rfl, ⟨rfl, trivial⟩⟩⟩⟩⟩⟩⟩⟩⟩⟩ ?_
              have kk := ih (k + 1) (by omega) (by omega)
              rw [show ((cntN (fun j : Nat => (W.1 (53, b, 0)) j < 999) (k + 1) : Nat) : Int) = ((cntN (fun j : Nat => (W.1 (53, b, 0)) j < 999) k : Nat) : Int) + 0 from by first | (rw [cntN_t (by exact (show (W.1 (53, b, 0)) (k : Int) < 999 by omega))]; rfl) | (rw [cntN_f (by exact (show ¬ (W.1 (53, b, 0)) (k : Int) < 999 by omega))]; omega)] at kk
              rw [show ((cntN (fun j : Nat => 0 < (W.1 (53, b, 0)) j ∧ (W.1 (53, b, 0)) j < 999) (k + 1) : Nat) : Int) = ((cntN (fun j : Nat => 0 < (W.1 (53, b, 0)) j ∧ (W.1 (53, b, 0)) j < 999) k : Nat) : Int) + 0 from by first | (rw [cntN_t (by exact (show 0 < (W.1 (53, b, 0)) (k : Int) ∧ (W.1 (53, b, 0)) (k : Int) < 999 by omega))]; rfl) | (rw [cntN_f (by exact (show ¬ (0 < (W.1 (53, b, 0)) (k : Int) ∧ (W.1 (53, b, 0)) (k : Int) < 999) by omega))]; omega)] at kk
              rw [show msN (W.1 (53, b, 0)) (k + 1) = (msN (W.1 (53, b, 0)) k) + 0 from by first | (rw [msN_t (by omega)]; done) | (rw [msN_f (by omega)]; omega)] at kk
              exact kk
            · refine x_iload dL_areFigures_95 rfl ?_
              refine x_goto (tgt := 101) dL_areFigures_97 (by decide) ?_
              refine x_iadd dL_areFigures_101 ?_
              refine x_istore (L' := [xR (0, 0, 0), xR (50, 0, 0), xI t, xR (53, b, 0), xI (((cntN (fun j : Nat => (W.1 (53, b, 0)) j < 999) k : Nat) : Int) + 0), xI (((cntN (fun j : Nat => 0 < (W.1 (53, b, 0)) j ∧ (W.1 (53, b, 0)) j < 999) k : Nat) : Int) + 0), xI ((msN (W.1 (53, b, 0)) k) + (W.1 (53, b, 0) (k : Int))), xR (53, b, 0), xI ((384 : Nat) : Int), xI (k : Int), xI (W.1 (53, b, 0) (k : Int))]) dL_areFigures_102 (by decide) rfl ?_
              refine x_iinc (L' := [xR (0, 0, 0), xR (50, 0, 0), xI t, xR (53, b, 0), xI (((cntN (fun j : Nat => (W.1 (53, b, 0)) j < 999) k : Nat) : Int) + 0), xI (((cntN (fun j : Nat => 0 < (W.1 (53, b, 0)) j ∧ (W.1 (53, b, 0)) j < 999) k : Nat) : Int) + 0), xI ((msN (W.1 (53, b, 0)) k) + (W.1 (53, b, 0) (k : Int))), xR (53, b, 0), xI ((384 : Nat) : Int), xI ((k : Int) + 1), xI (W.1 (53, b, 0) (k : Int))]) dL_areFigures_104 rfl rfl ?_
              refine x_goto (tgt := 30) dL_areFigures_107 (by decide) ?_
              refine X.loc (L' := [xR (0, 0, 0), xR (50, 0, 0), xI t, xR (53, b, 0), xI (((cntN (fun j : Nat => (W.1 (53, b, 0)) j < 999) k : Nat) : Int) + 0), xI (((cntN (fun j : Nat => 0 < (W.1 (53, b, 0)) j ∧ (W.1 (53, b, 0)) j < 999) k : Nat) : Int) + 0), xI ((msN (W.1 (53, b, 0)) k) + (W.1 (53, b, 0) (k : Int))), xR (53, b, 0), xI ((384 : Nat) : Int), xI ((k : Int) + 1), none]) ⟨rfl, ⟨rfl, ⟨rfl, ⟨rfl, ⟨rfl, ⟨rfl, ⟨rfl, ⟨rfl, ⟨rfl, ⟨rfl, trivial⟩⟩⟩⟩⟩⟩⟩⟩⟩⟩ ?_
              have kk := ih (k + 1) (by omega) (by omega)
              rw [show ((cntN (fun j : Nat => (W.1 (53, b, 0)) j < 999) (k + 1) : Nat) : Int) = ((cntN (fun j : Nat => (W.1 (53, b, 0)) j < 999) k : Nat) : Int) + 0 from by first | (rw [cntN_t (by exact (show (W.1 (53, b, 0)) (k : Int) < 999 by omega))]; rfl) | (rw [cntN_f (by exact (show ¬ (W.1 (53, b, 0)) (k : Int) < 999 by omega))]; omega)] at kk
              rw [show ((cntN (fun j : Nat => 0 < (W.1 (53, b, 0)) j ∧ (W.1 (53, b, 0)) j < 999) (k + 1) : Nat) : Int) = ((cntN (fun j : Nat => 0 < (W.1 (53, b, 0)) j ∧ (W.1 (53, b, 0)) j < 999) k : Nat) : Int) + 0 from by first | (rw [cntN_t (by exact (show 0 < (W.1 (53, b, 0)) (k : Int) ∧ (W.1 (53, b, 0)) (k : Int) < 999 by omega))]; rfl) | (rw [cntN_f (by exact (show ¬ (0 < (W.1 (53, b, 0)) (k : Int) ∧ (W.1 (53, b, 0)) (k : Int) < 999) by omega))]; omega)] at kk
              rw [show msN (W.1 (53, b, 0)) (k + 1) = (msN (W.1 (53, b, 0)) k) + (W.1 (53, b, 0) (k : Int)) from by first | (rw [msN_t (by omega)]; done) | (rw [msN_f (by omega)]; omega)] at kk
              exact kk
          · refine x_iconst dL_areFigures_77 ?_
            refine x_goto (tgt := 82) dL_areFigures_78 (by decide) ?_
            refine x_iadd dL_areFigures_82 ?_
            refine x_istore (L' := [xR (0, 0, 0), xR (50, 0, 0), xI t, xR (53, b, 0), xI (((cntN (fun j : Nat => (W.1 (53, b, 0)) j < 999) k : Nat) : Int) + 0), xI (((cntN (fun j : Nat => 0 < (W.1 (53, b, 0)) j ∧ (W.1 (53, b, 0)) j < 999) k : Nat) : Int) + 1), xI (msN (W.1 (53, b, 0)) k), xR (53, b, 0), xI ((384 : Nat) : Int), xI (k : Int), xI (W.1 (53, b, 0) (k : Int))]) dL_areFigures_83 (by decide) rfl ?_
            refine x_iload dL_areFigures_85 rfl ?_
            refine x_iload dL_areFigures_87 rfl ?_
            refine x_sipush (v := 999) dL_areFigures_89 (by decide) ?_
            refine x_icmp_ge (tgt := 100) dL_areFigures_92 (by decide) (by first | exact hz _ _ | exact hw.1 _ _ | exact zR_of _ | exact bI_z _ | assumption | exact ⟨by omega, by omega⟩) ⟨by decide, by decide⟩ (fun c92 => ?_) (fun c92 => ?_)
            · refine x_iconst dL_areFigures_100 ?_
              refine x_iadd dL_areFigures_101 ?_
              refine x_istore (L' := [xR (0, 0, 0), xR (50, 0, 0), xI t, xR (53, b, 0), xI (((cntN (fun j : Nat => (W.1 (53, b, 0)) j < 999) k : Nat) : Int) + 0), xI (((cntN (fun j : Nat => 0 < (W.1 (53, b, 0)) j ∧ (W.1 (53, b, 0)) j < 999) k : Nat) : Int) + 1), xI ((msN (W.1 (53, b, 0)) k) + 0), xR (53, b, 0), xI ((384 : Nat) : Int), xI (k : Int), xI (W.1 (53, b, 0) (k : Int))]) dL_areFigures_102 (by decide) rfl ?_
              refine x_iinc (L' := [xR (0, 0, 0), xR (50, 0, 0), xI t, xR (53, b, 0), xI (((cntN (fun j : Nat => (W.1 (53, b, 0)) j < 999) k : Nat) : Int) + 0), xI (((cntN (fun j : Nat => 0 < (W.1 (53, b, 0)) j ∧ (W.1 (53, b, 0)) j < 999) k : Nat) : Int) + 1), xI ((msN (W.1 (53, b, 0)) k) + 0), xR (53, b, 0), xI ((384 : Nat) : Int), xI ((k : Int) + 1), xI (W.1 (53, b, 0) (k : Int))]) dL_areFigures_104 rfl rfl ?_
              refine x_goto (tgt := 30) dL_areFigures_107 (by decide) ?_
              refine X.loc (L' := [xR (0, 0, 0), xR (50, 0, 0), xI t, xR (53, b, 0), xI (((cntN (fun j : Nat => (W.1 (53, b, 0)) j < 999) k : Nat) : Int) + 0), xI (((cntN (fun j : Nat => 0 < (W.1 (53, b, 0)) j ∧ (W.1 (53, b, 0)) j < 999) k : Nat) : Int) + 1), xI ((msN (W.1 (53, b, 0)) k) + 0), xR (53, b, 0), xI ((384 : Nat) : Int), xI ((k : Int) + 1), none]) ⟨rfl, ⟨rfl, ⟨rfl, ⟨rfl, ⟨rfl, ⟨rfl, ⟨rfl, ⟨rfl, ⟨rfl, ⟨rfl, trivial⟩⟩⟩⟩⟩⟩⟩⟩⟩⟩ ?_
              have kk := ih (k + 1) (by omega) (by omega)
              rw [show ((cntN (fun j : Nat => (W.1 (53, b, 0)) j < 999) (k + 1) : Nat) : Int) = ((cntN (fun j : Nat => (W.1 (53, b, 0)) j < 999) k : Nat) : Int) + 0 from by first | (rw [cntN_t (by exact (show (W.1 (53, b, 0)) (k : Int) < 999 by omega))]; rfl) | (rw [cntN_f (by exact (show ¬ (W.1 (53, b, 0)) (k : Int) < 999 by omega))]; omega)] at kk
              rw [show ((cntN (fun j : Nat => 0 < (W.1 (53, b, 0)) j ∧ (W.1 (53, b, 0)) j < 999) (k + 1) : Nat) : Int) = ((cntN (fun j : Nat => 0 < (W.1 (53, b, 0)) j ∧ (W.1 (53, b, 0)) j < 999) k : Nat) : Int) + 1 from by first | (rw [cntN_t (by exact (show 0 < (W.1 (53, b, 0)) (k : Int) ∧ (W.1 (53, b, 0)) (k : Int) < 999 by omega))]; rfl) | (rw [cntN_f (by exact (show ¬ (0 < (W.1 (53, b, 0)) (k : Int) ∧ (W.1 (53, b, 0)) (k : Int) < 999) by omega))]; omega)] at kk
              rw [show msN (W.1 (53, b, 0)) (k + 1) = (msN (W.1 (53, b, 0)) k) + 0 from by first | (rw [msN_t (by omega)]; done) | (rw [msN_f (by omega)]; omega)] at kk
              exact kk
            · refine x_iload dL_areFigures_95 rfl ?_
              refine x_goto (tgt := 101) dL_areFigures_97 (by decide) ?_
              refine x_iadd dL_areFigures_101 ?_
              refine x_istore (L' := [xR (0, 0, 0), xR (50, 0, 0), xI t, xR (53, b, 0), xI (((cntN (fun j : Nat => (W.1 (53, b, 0)) j < 999) k : Nat) : Int) + 0), xI (((cntN (fun j : Nat => 0 < (W.1 (53, b, 0)) j ∧ (W.1 (53, b, 0)) j < 999) k : Nat) : Int) + 1), xI ((msN (W.1 (53, b, 0)) k) + (W.1 (53, b, 0) (k : Int))), xR (53, b, 0), xI ((384 : Nat) : Int), xI (k : Int), xI (W.1 (53, b, 0) (k : Int))]) dL_areFigures_102 (by decide) rfl ?_
              refine x_iinc (L' := [xR (0, 0, 0), xR (50, 0, 0), xI t, xR (53, b, 0), xI (((cntN (fun j : Nat => (W.1 (53, b, 0)) j < 999) k : Nat) : Int) + 0), xI (((cntN (fun j : Nat => 0 < (W.1 (53, b, 0)) j ∧ (W.1 (53, b, 0)) j < 999) k : Nat) : Int) + 1), xI ((msN (W.1 (53, b, 0)) k) + (W.1 (53, b, 0) (k : Int))), xR (53, b, 0), xI ((384 : Nat) : Int), xI ((k : Int) + 1), xI (W.1 (53, b, 0) (k : Int))]) dL_areFigures_104 rfl rfl ?_
              refine x_goto (tgt := 30) dL_areFigures_107 (by decide) ?_
              refine X.loc (L' := [xR (0, 0, 0), xR (50, 0, 0), xI t, xR (53, b, 0), xI (((cntN (fun j : Nat => (W.1 (53, b, 0)) j < 999) k : Nat) : Int) + 0), xI (((cntN (fun j : Nat => 0 < (W.1 (53, b, 0)) j ∧ (W.1 (53, b, 0)) j < 999) k : Nat) : Int) + 1), xI ((msN (W.1 (53, b, 0)) k) + (W.1 (53, b, 0) (k : Int))), xR (53, b, 0), xI ((384 : Nat) : Int), xI ((k : Int) + 1), none]) ⟨rfl, ⟨rfl, ⟨rfl, ⟨rfl, ⟨rfl, ⟨rfl, ⟨rfl, ⟨rfl, ⟨rfl, ⟨rfl, trivial⟩⟩⟩⟩⟩⟩⟩⟩⟩⟩ ?_
              have kk := ih (k + 1) (by omega) (by omega)
              rw [show ((cntN (fun j : Nat => (W.1 (53, b, 0)) j < 999) (k + 1) : Nat) : Int) = ((cntN (fun j : Nat => (W.1 (53, b, 0)) j < 999) k : Nat) : Int) + 0 from by first | (rw [cntN_t (by exact (show (W.1 (53, b, 0)) (k : Int) < 999 by omega))]; rfl) | (rw [cntN_f (by exact (show ¬ (W.1 (53, b, 0)) (k : Int) < 999 by omega))]; omega)] at kk
              rw [show ((cntN (fun j : Nat => 0 < (W.1 (53, b, 0)) j ∧ (W.1 (53, b, 0)) j < 999) (k + 1) : Nat) : Int) = ((cntN (fun j : Nat => 0 < (W.1 (53, b, 0)) j ∧ (W.1 (53, b, 0)) j < 999) k : Nat) : Int) + 1 from by first | (rw [cntN_t (by exact (show 0 < (W.1 (53, b, 0)) (k : Int) ∧ (W.1 (53, b, 0)) (k : Int) < 999 by omega))]; rfl) | (rw [cntN_f (by exact (show ¬ (0 < (W.1 (53, b, 0)) (k : Int) ∧ (W.1 (53, b, 0)) (k : Int) < 999) by omega))]; omega)] at kk
              rw [show msN (W.1 (53, b, 0)) (k + 1) = (msN (W.1 (53, b, 0)) k) + (W.1 (53, b, 0) (k : Int)) from by first | (rw [msN_t (by omega)]; done) | (rw [msN_f (by omega)]; omega)] at kk
              exact kk
      · refine x_iconst dL_areFigures_54 ?_
        refine x_goto (tgt := 59) dL_areFigures_55 (by decide) ?_
        refine x_iadd dL_areFigures_59 ?_
        refine x_istore (L' := [xR (0, 0, 0), xR (50, 0, 0), xI t, xR (53, b, 0), xI (((cntN (fun j : Nat => (W.1 (53, b, 0)) j < 999) k : Nat) : Int) + 1), xI ((cntN (fun j : Nat => 0 < (W.1 (53, b, 0)) j ∧ (W.1 (53, b, 0)) j < 999) k : Nat) : Int), xI (msN (W.1 (53, b, 0)) k), xR (53, b, 0), xI ((384 : Nat) : Int), xI (k : Int), xI (W.1 (53, b, 0) (k : Int))]) dL_areFigures_60 (by decide) rfl ?_
        refine x_iload dL_areFigures_62 rfl ?_
        refine x_iload dL_areFigures_64 rfl ?_
        refine x_if_le (tgt := 81) dL_areFigures_66 (by decide) (by first | exact hz _ _ | exact hw.1 _ _ | exact zR_of _ | exact bI_z _ | assumption | exact ⟨by omega, by omega⟩) (fun c66 => ?_) (fun c66 => ?_)
        · refine x_iconst dL_areFigures_81 ?_
          refine x_iadd dL_areFigures_82 ?_
          refine x_istore (L' := [xR (0, 0, 0), xR (50, 0, 0), xI t, xR (53, b, 0), xI (((cntN (fun j : Nat => (W.1 (53, b, 0)) j < 999) k : Nat) : Int) + 1), xI (((cntN (fun j : Nat => 0 < (W.1 (53, b, 0)) j ∧ (W.1 (53, b, 0)) j < 999) k : Nat) : Int) + 0), xI (msN (W.1 (53, b, 0)) k), xR (53, b, 0), xI ((384 : Nat) : Int), xI (k : Int), xI (W.1 (53, b, 0) (k : Int))]) dL_areFigures_83 (by decide) rfl ?_
          refine x_iload dL_areFigures_85 rfl ?_
          refine x_iload dL_areFigures_87 rfl ?_
          refine x_sipush (v := 999) dL_areFigures_89 (by decide) ?_
          refine x_icmp_ge (tgt := 100) dL_areFigures_92 (by decide) (by first | exact hz _ _ | exact hw.1 _ _ | exact zR_of _ | exact bI_z _ | assumption | exact ⟨by omega, by omega⟩) ⟨by decide, by decide⟩ (fun c92 => ?_) (fun c92 => ?_)
          · refine x_iconst dL_areFigures_100 ?_
            refine x_iadd dL_areFigures_101 ?_
            refine x_istore (L' := [xR (0, 0, 0), xR (50, 0, 0), xI t, xR (53, b, 0), xI (((cntN (fun j : Nat => (W.1 (53, b, 0)) j < 999) k : Nat) : Int) + 1), xI (((cntN (fun j : Nat => 0 < (W.1 (53, b, 0)) j ∧ (W.1 (53, b, 0)) j < 999) k : Nat) : Int) + 0), xI ((msN (W.1 (53, b, 0)) k) + 0), xR (53, b, 0), xI ((384 : Nat) : Int), xI (k : Int), xI (W.1 (53, b, 0) (k : Int))]) dL_areFigures_102 (by decide) rfl ?_
            refine x_iinc (L' := [xR (0, 0, 0), xR (50, 0, 0), xI t, xR (53, b, 0), xI (((cntN (fun j : Nat => (W.1 (53, b, 0)) j < 999) k : Nat) : Int) + 1), xI (((cntN (fun j : Nat => 0 < (W.1 (53, b, 0)) j ∧ (W.1 (53, b, 0)) j < 999) k : Nat) : Int) + 0), xI ((msN (W.1 (53, b, 0)) k) + 0), xR (53, b, 0), xI ((384 : Nat) : Int), xI ((k : Int) + 1), xI (W.1 (53, b, 0) (k : Int))]) dL_areFigures_104 rfl rfl ?_
            refine x_goto (tgt := 30) dL_areFigures_107 (by decide) ?_
            refine X.loc (L' := [xR (0, 0, 0), xR (50, 0, 0), xI t, xR (53, b, 0), xI (((cntN (fun j : Nat => (W.1 (53, b, 0)) j < 999) k : Nat) : Int) + 1), xI (((cntN (fun j : Nat => 0 < (W.1 (53, b, 0)) j ∧ (W.1 (53, b, 0)) j < 999) k : Nat) : Int) + 0), xI ((msN (W.1 (53, b, 0)) k) + 0), xR (53, b, 0), xI ((384 : Nat) : Int), xI ((k : Int) + 1), none]) ⟨rfl, ⟨rfl, ⟨rfl, ⟨rfl, ⟨rfl, ⟨rfl, ⟨rfl, ⟨rfl, ⟨rfl, ⟨rfl, trivial⟩⟩⟩⟩⟩⟩⟩⟩⟩⟩ ?_
            have kk := ih (k + 1) (by omega) (by omega)
            rw [show ((cntN (fun j : Nat => (W.1 (53, b, 0)) j < 999) (k + 1) : Nat) : Int) = ((cntN (fun j : Nat => (W.1 (53, b, 0)) j < 999) k : Nat) : Int) + 1 from by first | (rw [cntN_t (by exact (show (W.1 (53, b, 0)) (k : Int) < 999 by omega))]; rfl) | (rw [cntN_f (by exact (show ¬ (W.1 (53, b, 0)) (k : Int) < 999 by omega))]; omega)] at kk
            rw [show ((cntN (fun j : Nat => 0 < (W.1 (53, b, 0)) j ∧ (W.1 (53, b, 0)) j < 999) (k + 1) : Nat) : Int) = ((cntN (fun j : Nat => 0 < (W.1 (53, b, 0)) j ∧ (W.1 (53, b, 0)) j < 999) k : Nat) : Int) + 0 from by first | (rw [cntN_t (by exact (show 0 < (W.1 (53, b, 0)) (k : Int) ∧ (W.1 (53, b, 0)) (k : Int) < 999 by omega))]; rfl) | (rw [cntN_f (by exact (show ¬ (0 < (W.1 (53, b, 0)) (k : Int) ∧ (W.1 (53, b, 0)) (k : Int) < 999) by omega))]; omega)] at kk
            rw [show msN (W.1 (53, b, 0)) (k + 1) = (msN (W.1 (53, b, 0)) k) + 0 from by first | (rw [msN_t (by omega)]; done) | (rw [msN_f (by omega)]; omega)] at kk
            exact kk
          · refine x_iload dL_areFigures_95 rfl ?_
            refine x_goto (tgt := 101) dL_areFigures_97 (by decide) ?_
            refine x_iadd dL_areFigures_101 ?_
            refine x_istore (L' := [xR (0, 0, 0), xR (50, 0, 0), xI t, xR (53, b, 0), xI (((cntN (fun j : Nat => (W.1 (53, b, 0)) j < 999) k : Nat) : Int) + 1), xI (((cntN (fun j : Nat => 0 < (W.1 (53, b, 0)) j ∧ (W.1 (53, b, 0)) j < 999) k : Nat) : Int) + 0), xI ((msN (W.1 (53, b, 0)) k) + (W.1 (53, b, 0) (k : Int))), xR (53, b, 0), xI ((384 : Nat) : Int), xI (k : Int), xI (W.1 (53, b, 0) (k : Int))]) dL_areFigures_102 (by decide) rfl ?_
            refine x_iinc (L' := [xR (0, 0, 0), xR (50, 0, 0), xI t, xR (53, b, 0), xI (((cntN (fun j : Nat => (W.1 (53, b, 0)) j < 999) k : Nat) : Int) + 1), xI (((cntN (fun j : Nat => 0 < (W.1 (53, b, 0)) j ∧ (W.1 (53, b, 0)) j < 999) k : Nat) : Int) + 0), xI ((msN (W.1 (53, b, 0)) k) + (W.1 (53, b, 0) (k : Int))), xR (53, b, 0), xI ((384 : Nat) : Int), xI ((k : Int) + 1), xI (W.1 (53, b, 0) (k : Int))]) dL_areFigures_104 rfl rfl ?_
            refine x_goto (tgt := 30) dL_areFigures_107 (by decide) ?_
            refine X.loc (L' := [xR (0, 0, 0), xR (50, 0, 0), xI t, xR (53, b, 0), xI (((cntN (fun j : Nat => (W.1 (53, b, 0)) j < 999) k : Nat) : Int) + 1), xI (((cntN (fun j : Nat => 0 < (W.1 (53, b, 0)) j ∧ (W.1 (53, b, 0)) j < 999) k : Nat) : Int) + 0), xI ((msN (W.1 (53, b, 0)) k) + (W.1 (53, b, 0) (k : Int))), xR (53, b, 0), xI ((384 : Nat) : Int), xI ((k : Int) + 1), none]) ⟨rfl, ⟨rfl, ⟨rfl, ⟨rfl, ⟨rfl, ⟨rfl, ⟨rfl, ⟨rfl, ⟨rfl, ⟨rfl, trivial⟩⟩⟩⟩⟩⟩⟩⟩⟩⟩ ?_
            have kk := ih (k + 1) (by omega) (by omega)
            rw [show ((cntN (fun j : Nat => (W.1 (53, b, 0)) j < 999) (k + 1) : Nat) : Int) = ((cntN (fun j : Nat => (W.1 (53, b, 0)) j < 999) k : Nat) : Int) + 1 from by first | (rw [cntN_t (by exact (show (W.1 (53, b, 0)) (k : Int) < 999 by omega))]; rfl) | (rw [cntN_f (by exact (show ¬ (W.1 (53, b, 0)) (k : Int) < 999 by omega))]; omega)] at kk
            rw [show ((cntN (fun j : Nat => 0 < (W.1 (53, b, 0)) j ∧ (W.1 (53, b, 0)) j < 999) (k + 1) : Nat) : Int) = ((cntN (fun j : Nat => 0 < (W.1 (53, b, 0)) j ∧ (W.1 (53, b, 0)) j < 999) k : Nat) : Int) + 0 from by first | (rw [cntN_t (by exact (show 0 < (W.1 (53, b, 0)) (k : Int) ∧ (W.1 (53, b, 0)) (k : Int) < 999 by omega))]; rfl) | (rw [cntN_f (by exact (show ¬ (0 < (W.1 (53, b, 0)) (k : Int) ∧ (W.1 (53, b, 0)) (k : Int) < 999) by omega))]; omega)] at kk
            rw [show msN (W.1 (53, b, 0)) (k + 1) = (msN (W.1 (53, b, 0)) k) + (W.1 (53, b, 0) (k : Int)) from by first | (rw [msN_t (by omega)]; done) | (rw [msN_f (by omega)]; omega)] at kk
            exact kk
        · refine x_iload dL_areFigures_69 rfl ?_
          refine x_sipush (v := 999) dL_areFigures_71 (by decide) ?_
          refine x_icmp_ge (tgt := 81) dL_areFigures_74 (by decide) (by first | exact hz _ _ | exact hw.1 _ _ | exact zR_of _ | exact bI_z _ | assumption | exact ⟨by omega, by omega⟩) ⟨by decide, by decide⟩ (fun c74 => ?_) (fun c74 => ?_)
          · refine x_iconst dL_areFigures_81 ?_
            refine x_iadd dL_areFigures_82 ?_
            refine x_istore (L' := [xR (0, 0, 0), xR (50, 0, 0), xI t, xR (53, b, 0), xI (((cntN (fun j : Nat => (W.1 (53, b, 0)) j < 999) k : Nat) : Int) + 1), xI (((cntN (fun j : Nat => 0 < (W.1 (53, b, 0)) j ∧ (W.1 (53, b, 0)) j < 999) k : Nat) : Int) + 0), xI (msN (W.1 (53, b, 0)) k), xR (53, b, 0), xI ((384 : Nat) : Int), xI (k : Int), xI (W.1 (53, b, 0) (k : Int))]) dL_areFigures_83 (by decide) rfl ?_
            refine x_iload dL_areFigures_85 rfl ?_
            refine x_iload dL_areFigures_87 rfl ?_
            refine x_sipush (v := 999) dL_areFigures_89 (by decide) ?_
            refine x_icmp_ge (tgt := 100) dL_areFigures_92 (by decide) (by first | exact hz _ _ | exact hw.1 _ _ | exact zR_of _ | exact bI_z _ | assumption | exact ⟨by omega, by omega⟩) ⟨by decide, by decide⟩ (fun c92 => ?_) (fun c92 => ?_)
            · refine x_iconst dL_areFigures_100 ?_
              refine x_iadd dL_areFigures_101 ?_
              refine x_istore (L' := [xR (0, 0, 0), xR (50, 0, 0), xI t, xR (53, b, 0), xI (((cntN (fun j : Nat => (W.1 (53, b, 0)) j < 999) k : Nat) : Int) + 1), xI (((cntN (fun j : Nat => 0 < (W.1 (53, b, 0)) j ∧ (W.1 (53, b, 0)) j < 999) k : Nat) : Int) + 0), xI ((msN (W.1 (53, b, 0)) k) + 0), xR (53, b, 0), xI ((384 : Nat) : Int), xI (k : Int), xI (W.1 (53, b, 0) (k : Int))]) dL_areFigures_102 (by decide) rfl ?_
              refine x_iinc (L' := [xR (0, 0, 0), xR (50, 0, 0), xI t, xR (53, b, 0), xI (((cntN (fun j : Nat => (W.1 (53, b, 0)) j < 999) k : Nat) : Int) + 1), xI (((cntN (fun j : Nat => 0 < (W.1 (53, b, 0)) j ∧ (W.1 (53, b, 0)) j < 999) k : Nat) : Int) + 0), xI ((msN (W.1 (53, b, 0)) k) + 0), xR (53, b, 0), xI ((384 : Nat) : Int), xI ((k : Int) + 1), xI (W.1 (53, b, 0) (k : Int))]) dL_areFigures_104 rfl rfl ?_
              refine x_goto (tgt := 30) dL_areFigures_107 (by decide) ?_
              refine X.loc (L' := [xR (0, 0, 0), xR (50, 0, 0), xI t, xR (53, b, 0), xI (((cntN (fun j : Nat => (W.1 (53, b, 0)) j < 999) k : Nat) : Int) + 1), xI (((cntN (fun j : Nat => 0 < (W.1 (53, b, 0)) j ∧ (W.1 (53, b, 0)) j < 999) k : Nat) : Int) + 0), xI ((msN (W.1 (53, b, 0)) k) + 0), xR (53, b, 0), xI ((384 : Nat) : Int), xI ((k : Int) + 1), none]) ⟨rfl, ⟨rfl, ⟨rfl, ⟨rfl, ⟨rfl, ⟨rfl, ⟨rfl, ⟨rfl, ⟨rfl, ⟨rfl, trivial⟩⟩⟩⟩⟩⟩⟩⟩⟩⟩ ?_
              have kk := ih (k + 1) (by omega) (by omega)
              rw [show ((cntN (fun j : Nat => (W.1 (53, b, 0)) j < 999) (k + 1) : Nat) : Int) = ((cntN (fun j : Nat => (W.1 (53, b, 0)) j < 999) k : Nat) : Int) + 1 from by first | (rw [cntN_t (by exact (show (W.1 (53, b, 0)) (k : Int) < 999 by omega))]; rfl) | (rw [cntN_f (by exact (show ¬ (W.1 (53, b, 0)) (k : Int) < 999 by omega))]; omega)] at kk
              rw [show ((cntN (fun j : Nat => 0 < (W.1 (53, b, 0)) j ∧ (W.1 (53, b, 0)) j < 999) (k + 1) : Nat) : Int) = ((cntN (fun j : Nat => 0 < (W.1 (53, b, 0)) j ∧ (W.1 (53, b, 0)) j < 999) k : Nat) : Int) + 0 from by first | (rw [cntN_t (by exact (show 0 < (W.1 (53, b, 0)) (k : Int) ∧ (W.1 (53, b, 0)) (k : Int) < 999 by omega))]; rfl) | (rw [cntN_f (by exact (show ¬ (0 < (W.1 (53, b, 0)) (k : Int) ∧ (W.1 (53, b, 0)) (k : Int) < 999) by omega))]; omega)] at kk
              rw [show msN (W.1 (53, b, 0)) (k + 1) = (msN (W.1 (53, b, 0)) k) + 0 from by first | (rw [msN_t (by omega)]; done) | (rw [msN_f (by omega)]; omega)] at kk
              exact kk
            · refine x_iload dL_areFigures_95 rfl ?_
              refine x_goto (tgt := 101) dL_areFigures_97 (by decide) ?_
              refine x_iadd dL_areFigures_101 ?_
              refine x_istore (L' := [xR (0, 0, 0), xR (50, 0, 0), xI t, xR (53, b, 0), xI (((cntN (fun j : Nat => (W.1 (53, b, 0)) j < 999) k : Nat) : Int) + 1), xI (((cntN (fun j : Nat => 0 < (W.1 (53, b, 0)) j ∧ (W.1 (53, b, 0)) j < 999) k : Nat) : Int) + 0), xI ((msN (W.1 (53, b, 0)) k) + (W.1 (53, b, 0) (k : Int))), xR (53, b, 0), xI ((384 : Nat) : Int), xI (k : Int), xI (W.1 (53, b, 0) (k : Int))]) dL_areFigures_102 (by decide) rfl ?_
              refine x_iinc (L' := [xR (0, 0, 0), xR (50, 0, 0), xI t, xR (53, b, 0), xI (((cntN (fun j : Nat => (W.1 (53, b, 0)) j < 999) k : Nat) : Int) + 1), xI (((cntN (fun j : Nat => 0 < (W.1 (53, b, 0)) j ∧ (W.1 (53, b, 0)) j < 999) k : Nat) : Int) + 0), xI ((msN (W.1 (53, b, 0)) k) + (W.1 (53, b, 0) (k : Int))), xR (53, b, 0), xI ((384 : Nat) : Int), xI ((k : Int) + 1), xI (W.1 (53, b, 0) (k : Int))]) dL_areFigures_104 rfl rfl ?_
              refine x_goto (tgt := 30) dL_areFigures_107 (by decide) ?_
              refine X.loc (L' := [xR (0, 0, 0), xR (50, 0, 0), xI t, xR (53, b, 0), xI (((cntN (fun j : Nat => (W.1 (53, b, 0)) j < 999) k : Nat) : Int) + 1), xI (((cntN (fun j : Nat => 0 < (W.1 (53, b, 0)) j ∧ (W.1 (53, b, 0)) j < 999) k : Nat) : Int) + 0), xI ((msN (W.1 (53, b, 0)) k) + (W.1 (53, b, 0) (k : Int))), xR (53, b, 0), xI ((384 : Nat) : Int), xI ((k : Int) + 1), none]) ⟨rfl, ⟨rfl, ⟨rfl, ⟨rfl, ⟨rfl, ⟨rfl, ⟨rfl, ⟨rfl, ⟨rfl, ⟨rfl, trivial⟩⟩⟩⟩⟩⟩⟩⟩⟩⟩ ?_
              have kk := ih (k + 1) (by omega) (by omega)
              rw [show ((cntN (fun j : Nat => (W.1 (53, b, 0)) j < 999) (k + 1) : Nat) : Int) = ((cntN (fun j : Nat => (W.1 (53, b, 0)) j < 999) k : Nat) : Int) + 1 from by first | (rw [cntN_t (by exact (show (W.1 (53, b, 0)) (k : Int) < 999 by omega))]; rfl) | (rw [cntN_f (by exact (show ¬ (W.1 (53, b, 0)) (k : Int) < 999 by omega))]; omega)] at kk
              rw [show ((cntN (fun j : Nat => 0 < (W.1 (53, b, 0)) j ∧ (W.1 (53, b, 0)) j < 999) (k + 1) : Nat) : Int) = ((cntN (fun j : Nat => 0 < (W.1 (53, b, 0)) j ∧ (W.1 (53, b, 0)) j < 999) k : Nat) : Int) + 0 from by first | (rw [cntN_t (by exact (show 0 < (W.1 (53, b, 0)) (k : Int) ∧ (W.1 (53, b, 0)) (k : Int) < 999 by omega))]; rfl) | (rw [cntN_f (by exact (show ¬ (0 < (W.1 (53, b, 0)) (k : Int) ∧ (W.1 (53, b, 0)) (k : Int) < 999) by omega))]; omega)] at kk
              rw [show msN (W.1 (53, b, 0)) (k + 1) = (msN (W.1 (53, b, 0)) k) + (W.1 (53, b, 0) (k : Int)) from by first | (rw [msN_t (by omega)]; done) | (rw [msN_f (by omega)]; omega)] at kk
              exact kk
          · refine x_iconst dL_areFigures_77 ?_
            refine x_goto (tgt := 82) dL_areFigures_78 (by decide) ?_
            refine x_iadd dL_areFigures_82 ?_
            refine x_istore (L' := [xR (0, 0, 0), xR (50, 0, 0), xI t, xR (53, b, 0), xI (((cntN (fun j : Nat => (W.1 (53, b, 0)) j < 999) k : Nat) : Int) + 1), xI (((cntN (fun j : Nat => 0 < (W.1 (53, b, 0)) j ∧ (W.1 (53, b, 0)) j < 999) k : Nat) : Int) + 1), xI (msN (W.1 (53, b, 0)) k), xR (53, b, 0), xI ((384 : Nat) : Int), xI (k : Int), xI (W.1 (53, b, 0) (k : Int))]) dL_areFigures_83 (by decide) rfl ?_
            refine x_iload dL_areFigures_85 rfl ?_
            refine x_iload dL_areFigures_87 rfl ?_
            refine x_sipush (v := 999) dL_areFigures_89 (by decide) ?_
            refine x_icmp_ge (tgt := 100) dL_areFigures_92 (by decide) (by first | exact hz _ _ | exact hw.1 _ _ | exact zR_of _ | exact bI_z _ | assumption | exact ⟨by omega, by omega⟩) ⟨by decide, by decide⟩ (fun c92 => ?_) (fun c92 => ?_)
            · refine x_iconst dL_areFigures_100 ?_
              refine x_iadd dL_areFigures_101 ?_
              refine x_istore (L' := [xR (0, 0, 0), xR (50, 0, 0), xI t, xR (53, b, 0), xI (((cntN (fun j : Nat => (W.1 (53, b, 0)) j < 999) k : Nat) : Int) + 1), xI (((cntN (fun j : Nat => 0 < (W.1 (53, b, 0)) j ∧ (W.1 (53, b, 0)) j < 999) k : Nat) : Int) + 1), xI ((msN (W.1 (53, b, 0)) k) + 0), xR (53, b, 0), xI ((384 : Nat) : Int), xI (k : Int), xI (W.1 (53, b, 0) (k : Int))]) dL_areFigures_102 (by decide) rfl ?_
              refine x_iinc (L' := [xR (0, 0, 0), xR (50, 0, 0), xI t, xR (53, b, 0), xI (((cntN (fun j : Nat => (W.1 (53, b, 0)) j < 999) k : Nat) : Int) + 1), xI (((cntN (fun j : Nat => 0 < (W.1 (53, b, 0)) j ∧ (W.1 (53, b, 0)) j < 999) k : Nat) : Int) + 1), xI ((msN (W.1 (53, b, 0)) k) + 0), xR (53, b, 0), xI ((384 : Nat) : Int), xI ((k : Int) + 1), xI (W.1 (53, b, 0) (k : Int))]) dL_areFigures_104 rfl rfl ?_
              refine x_goto (tgt := 30) dL_areFigures_107 (by decide) ?_
              refine X.loc (L' := [xR (0, 0, 0), xR (50, 0, 0), xI t, xR (53, b, 0), xI (((cntN (fun j : Nat => (W.1 (53, b, 0)) j < 999) k : Nat) : Int) + 1), xI (((cntN (fun j : Nat => 0 < (W.1 (53, b, 0)) j ∧ (W.1 (53, b, 0)) j < 999) k : Nat) : Int) + 1), xI ((msN (W.1 (53, b, 0)) k) + 0), xR (53, b, 0), xI ((384 : Nat) : Int), xI ((k : Int) + 1), none]) ⟨rfl, ⟨rfl, ⟨rfl, ⟨rfl, ⟨rfl, ⟨rfl, ⟨rfl, ⟨rfl, ⟨rfl, ⟨rfl, trivial⟩⟩⟩⟩⟩⟩⟩⟩⟩⟩ ?_
              have kk := ih (k + 1) (by omega) (by omega)
              rw [show ((cntN (fun j : Nat => (W.1 (53, b, 0)) j < 999) (k + 1) : Nat) : Int) = ((cntN (fun j : Nat => (W.1 (53, b, 0)) j < 999) k : Nat) : Int) + 1 from by first | (rw [cntN_t (by exact (show (W.1 (53, b, 0)) (k : Int) < 999 by omega))]; rfl) | (rw [cntN_f (by exact (show ¬ (W.1 (53, b, 0)) (k : Int) < 999 by omega))]; omega)] at kk
              rw [show ((cntN (fun j : Nat => 0 < (W.1 (53, b, 0)) j ∧ (W.1 (53, b, 0)) j < 999) (k + 1) : Nat) : Int) = ((cntN (fun j : Nat => 0 < (W.1 (53, b, 0)) j ∧ (W.1 (53, b, 0)) j < 999) k : Nat) : Int) + 1 from by first | (rw [cntN_t (by exact (show 0 < (W.1 (53, b, 0)) (k : Int) ∧ (W.1 (53, b, 0)) (k : Int) < 999 by omega))]; rfl) | (rw [cntN_f (by exact (show ¬ (0 < (W.1 (53, b, 0)) (k : Int) ∧ (W.1 (53, b, 0)) (k : Int) < 999) by omega))]; omega)] at kk
              rw [show msN (W.1 (53, b, 0)) (k + 1) = (msN (W.1 (53, b, 0)) k) + 0 from by first | (rw [msN_t (by omega)]; done) | (rw [msN_f (by omega)]; omega)] at kk
              exact kk
            · refine x_iload dL_areFigures_95 rfl ?_
              refine x_goto (tgt := 101) dL_areFigures_97 (by decide) ?_
              refine x_iadd dL_areFigures_101 ?_
              refine x_istore (L' := [xR (0, 0, 0), xR (50, 0, 0), xI t, xR (53, b, 0), xI (((cntN (fun j : Nat => (W.1 (53, b, 0)) j < 999) k : Nat) : Int) + 1), xI (((cntN (fun j : Nat => 0 < (W.1 (53, b, 0)) j ∧ (W.1 (53, b, 0)) j < 999) k : Nat) : Int) + 1), xI ((msN (W.1 (53, b, 0)) k) + (W.1 (53, b, 0) (k : Int))), xR (53, b, 0), xI ((384 : Nat) : Int), xI (k : Int), xI (W.1 (53, b, 0) (k : Int))]) dL_areFigures_102 (by decide) rfl ?_
              refine x_iinc (L' := [xR (0, 0, 0), xR (50, 0, 0), xI t, xR (53, b, 0), xI (((cntN (fun j : Nat => (W.1 (53, b, 0)) j < 999) k : Nat) : Int) + 1), xI (((cntN (fun j : Nat => 0 < (W.1 (53, b, 0)) j ∧ (W.1 (53, b, 0)) j < 999) k : Nat) : Int) + 1), xI ((msN (W.1 (53, b, 0)) k) + (W.1 (53, b, 0) (k : Int))), xR (53, b, 0), xI ((384 : Nat) : Int), xI ((k : Int) + 1), xI (W.1 (53, b, 0) (k : Int))]) dL_areFigures_104 rfl rfl ?_
              refine x_goto (tgt := 30) dL_areFigures_107 (by decide) ?_
              refine X.loc (L' := [xR (0, 0, 0), xR (50, 0, 0), xI t, xR (53, b, 0), xI (((cntN (fun j : Nat => (W.1 (53, b, 0)) j < 999) k : Nat) : Int) + 1), xI (((cntN (fun j : Nat => 0 < (W.1 (53, b, 0)) j ∧ (W.1 (53, b, 0)) j < 999) k : Nat) : Int) + 1), xI ((msN (W.1 (53, b, 0)) k) + (W.1 (53, b, 0) (k : Int))), xR (53, b, 0), xI ((384 : Nat) : Int), xI ((k : Int) + 1), none]) ⟨rfl, ⟨rfl, ⟨rfl, ⟨rfl, ⟨rfl, ⟨rfl, ⟨rfl, ⟨rfl, ⟨rfl, ⟨rfl, trivial⟩⟩⟩⟩⟩⟩⟩⟩⟩⟩ ?_
              have kk := ih (k + 1) (by omega) (by omega)
              rw [show ((cntN (fun j : Nat => (W.1 (53, b, 0)) j < 999) (k + 1) : Nat) : Int) = ((cntN (fun j : Nat => (W.1 (53, b, 0)) j < 999) k : Nat) : Int) + 1 from by first | (rw [cntN_t (by exact (show (W.1 (53, b, 0)) (k : Int) < 999 by omega))]; rfl) | (rw [cntN_f (by exact (show ¬ (W.1 (53, b, 0)) (k : Int) < 999 by omega))]; omega)] at kk
              rw [show ((cntN (fun j : Nat => 0 < (W.1 (53, b, 0)) j ∧ (W.1 (53, b, 0)) j < 999) (k + 1) : Nat) : Int) = ((cntN (fun j : Nat => 0 < (W.1 (53, b, 0)) j ∧ (W.1 (53, b, 0)) j < 999) k : Nat) : Int) + 1 from by first | (rw [cntN_t (by exact (show 0 < (W.1 (53, b, 0)) (k : Int) ∧ (W.1 (53, b, 0)) (k : Int) < 999 by omega))]; rfl) | (rw [cntN_f (by exact (show ¬ (0 < (W.1 (53, b, 0)) (k : Int) ∧ (W.1 (53, b, 0)) (k : Int) < 999) by omega))]; omega)] at kk
              rw [show msN (W.1 (53, b, 0)) (k + 1) = (msN (W.1 (53, b, 0)) k) + (W.1 (53, b, 0) (k : Int)) from by first | (rw [msN_t (by omega)]; done) | (rw [msN_f (by omega)]; omega)] at kk
              exact kk
set_option maxHeartbeats 4000000 in
set_option maxRecDepth 100000 in
theorem c_areFigures (C S : XS) (hP : PH C S) (t : Int) (t0 : 0 ≤ t) (t1 : t < 24) : X mL_areFigures 0 (xEnt mL_areFigures [xR (0, 0, 0), xR (50, 0, 0), xI t]) [] (hp S) 10845 32945 (pP C) := by
  have hw := hP.2.1.1.1
  have hC6 : C.1 (0, 0, 0) 6 = 1 := hP.1.2.2.2.2.2.1
  have c4 := wf4_2 hP.1.1.1
  have c9 := wf9_3 hP.1.1.1 (b := 0) (by decide) (by decide)
  have h4 := hP.2.2.2.1
  have h53 := hP.2.1.2.2.2.2.1.2.2.1
  have n0 := (hP.1.2.2.1.k hP.2.2.1).1
  show X mL_areFigures 0 [xR (0, 0, 0), xR (50, 0, 0), xI t, none, none, none, none, none, none, none, none] [] (hp S) 10845 32945 _
  refine x_aload_n dL_areFigures_0 rfl ?_
  refine x_iconst dL_areFigures_1 ?_
  refine x_aload_n dL_areFigures_2 rfl ?_
  refine x_iconst dL_areFigures_3 ?_
  refine x_aldi (f := S.1 (50, 0, 0)) dL_areFigures_4 (hp50 S) (show (50 : Nat) ≠ 99 by decide) (by omega) (by omega) (by decide) ?_
  refine x_top (show S.1 (50, 0, 0) 0 = (((C.1 (9, 0, 0) 3).toNat : Nat) : Int) from by omega) ?_
  refine x_iload_n dL_areFigures_5 rfl ?_
  refine x_callS (a := 10839) (b := 32909) (as := [xR (50, 0, 0), xI 0, xI (((C.1 (9, 0, 0) 3).toNat : Nat) : Int), xI t]) (rest := []) ok_L_ranks dL_areFigures_6 wd873 wd874 (c_ranks C S hP.1.1 (by omega) hw (hP.1.2.2.1.k hP.2.2.1) (hP.1.2.2.2.1.k hP.2.2.1) hP.2.1.2.2.2.2.1 (C.1 (9, 0, 0) 3).toNat (by omega) t ⟨by omega, by omega⟩ (C.1 (4, 0, 0) 2).toNat (by omega) (by omega)) rfl (Nat.le_of_ble_eq_true rfl) (Nat.le_of_ble_eq_true rfl) (by decide) (by omega) (by omega) (fun _ q => by cases q.1) (fun _ _ q => ?_) (fun _ _ q => by cases q.1)
  obtain ⟨yy, V, rfl, eV, wV, cV, hF⟩ := q
  cases yy
  have hV := hP.n eV wV
  refine x_astore_n (L' := [xR (0, 0, 0), xR (50, 0, 0), xI t, xR (53, S.2.2.2.1 53, 0), none, none, none, none, none, none, none]) dL_areFigures_9 (by decide) rfl ?_
  refine x_iconst dL_areFigures_10 ?_
  refine x_istore (L' := [xR (0, 0, 0), xR (50, 0, 0), xI t, xR (53, S.2.2.2.1 53, 0), xI 0, none, none, none, none, none, none]) dL_areFigures_11 (by decide) rfl ?_
  refine x_iconst dL_areFigures_13 ?_
  refine x_istore (L' := [xR (0, 0, 0), xR (50, 0, 0), xI t, xR (53, S.2.2.2.1 53, 0), xI 0, xI 0, none, none, none, none, none]) dL_areFigures_14 (by decide) rfl ?_
  refine x_iconst dL_areFigures_16 ?_
  refine x_istore (L' := [xR (0, 0, 0), xR (50, 0, 0), xI t, xR (53, S.2.2.2.1 53, 0), xI 0, xI 0, xI 0, none, none, none, none]) dL_areFigures_17 (by decide) rfl ?_
  refine x_aload_n dL_areFigures_19 rfl ?_
  refine x_astore (L' := [xR (0, 0, 0), xR (50, 0, 0), xI t, xR (53, S.2.2.2.1 53, 0), xI 0, xI 0, xI 0, xR (53, S.2.2.2.1 53, 0), none, none, none]) dL_areFigures_20 (by decide) rfl ?_
  refine x_aload dL_areFigures_22 rfl ?_
  refine x_len dL_areFigures_24 (hp53 V (by omega) (by omega)) (show (53 : Nat) ≠ 99 by decide) (by decide) (by decide) ?_
  refine x_istore (L' := [xR (0, 0, 0), xR (50, 0, 0), xI t, xR (53, S.2.2.2.1 53, 0), xI 0, xI 0, xI 0, xR (53, S.2.2.2.1 53, 0), xI ((384 : Nat) : Int), none, none]) dL_areFigures_25 (by decide) rfl ?_
  refine x_iconst dL_areFigures_27 ?_
  refine x_istore (L' := [xR (0, 0, 0), xR (50, 0, 0), xI t, xR (53, S.2.2.2.1 53, 0), xI 0, xI 0, xI 0, xR (53, S.2.2.2.1 53, 0), xI ((384 : Nat) : Int), xI 0, none]) dL_areFigures_28 (by decide) rfl ?_
  exact X.weak (l_fgL C V hV t t0 t1 (S.2.2.2.1 53) hP.2.1.2.2.2.2.1.2.2.1 cV hF 386 0 (by omega) (by omega)) (by omega) (by omega) (fun _ _ q => q)
