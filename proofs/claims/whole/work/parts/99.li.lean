/-! the law's cases -/
set_option maxHeartbeats 4000000 in
set_option maxRecDepth 100000 in
theorem lc_tell (S : XS) (hI : LwI S) (n : Nat) (hn : S.2.2.2.2.2 = n) (hn2 : n < 1000000) (i : Int) (i0 : 0 ≤ i) (i7 : i + 7 ≤ n) (kc ks : Nat) (hk : 30 ≤ kc) (hs : 82420 ≤ ks + usum S 5) {Q : XO → XH → Prop} (kont : KL n i (kc - 30) (ks + usum S 5 - 500) Q) : X mL_law 188 [xR (99, 0, 0), xR (0, 0, 0), xR (50, 0, 0), xR (90, 0, 0), xR (91, 0, 0), xI i, none, none, none] [] (hp S) kc ks Q := by
  have zz : ∀ j : Int, zR (S.1 (99, 0, 0) j) := fun j => hI.1.1.1 (99, 0, 0) j
  have hS : hp S (99, 0, 0) = some (.inr (0, n, .inl (S.1 (99, 0, 0)))) := by rw [hp99, hn]
  have u0 : usum S 5 ≤ 81920 := usum_le (fun l hl => mrl_gen hI.2.2.1 l hl) 5 (Nat.le_refl _)
  refine x_aload_n dL_law_188 rfl ?_
  refine x_aload_n dL_law_189 rfl ?_
  refine x_iload dL_law_190 rfl ?_
  refine x_iconst dL_law_192 ?_
  refine x_iadd dL_law_193 ?_
  refine x_alds dL_law_194 hS rfl (by omega) (by omega) (by omega) ?_
  refine x_aload_n dL_law_195 rfl ?_
  refine x_iload dL_law_196 rfl ?_
  refine x_iconst dL_law_198 ?_
  refine x_iadd dL_law_199 ?_
  refine x_alds dL_law_200 hS rfl (by omega) (by omega) (by omega) ?_
  refine x_aload_n dL_law_201 rfl ?_
  refine x_iload dL_law_202 rfl ?_
  refine x_iconst dL_law_204 ?_
  refine x_iadd dL_law_205 ?_
  refine x_alds dL_law_206 hS rfl (by omega) (by omega) (by omega) ?_
  refine x_aload_n dL_law_207 rfl ?_
  refine x_iload dL_law_208 rfl ?_
  refine x_iconst dL_law_210 ?_
  refine x_iadd dL_law_211 ?_
  refine x_alds dL_law_212 hS rfl (by omega) (by omega) (by omega) ?_
  refine x_aload_n dL_law_213 rfl ?_
  refine x_callSH 6 36 (as := [xR (0, 0, 0), xI (S.1 (99, 0, 0) (i + 1)), xI (S.1 (99, 0, 0) (i + 2)), xI (S.1 (99, 0, 0) (i + 3)), xI (S.1 (99, 0, 0) (i + 4)), xR (90, 0, 0)]) (rest := []) ok_L_tell dL_law_214 wd484 wd485 (w_tell (hp0 S) (S.1 (99, 0, 0) (i + 1)) (S.1 (99, 0, 0) (i + 2)) (S.1 (99, 0, 0) (i + 3)) (S.1 (99, 0, 0) (i + 4)) 6 36 (cu_tell S hI (S.1 (99, 0, 0) (i + 1)) (S.1 (99, 0, 0) (i + 2)) (S.1 (99, 0, 0) (i + 3)) (S.1 (99, 0, 0) (i + 4)) (zz _) (zz _) (zz _) (zz _)) (CO.wq (fun h => by cases h))) rfl (Nat.le_of_ble_eq_true rfl) (Nat.le_of_ble_eq_true rfl) (by decide) (by omega) (by omega) (fun h1 qq => ?_) (fun v h1 qq => ?_) (fun E h1 qq => ?_)
  · obtain ⟨_, _, _, _, _, _, y, -⟩ := pW.wo (by decide) qq; cases y
  rotate_left
  · obtain ⟨_, _, _, _, _, _, y, -⟩ := pW.wo (by decide) qq; cases y
  obtain ⟨S1, S2, D9, k9, v9, rfl, y, q1, cb, ho, em, ji, hR, h90⟩ := pW.wo (by decide) qq
  cases y
  have e2 : MdE S S2 := (em.tr (MdE.q q1)).tr ho.md
  have hS2 : hp S2 (99, 0, 0) = some (.inr (0, n, .inl (S.1 (99, 0, 0)))) := by rw [hp99, e2.1 99 0 0 (by decide), e2.2, hn]
  have u2 := usum_e e2 5
  obtain ⟨c9, hc, hm⟩ := mo_tell S hI (S.1 (99, 0, 0) (i + 1)) (S.1 (99, 0, 0) (i + 2)) (S.1 (99, 0, 0) (i + 3)) (S.1 (99, 0, 0) (i + 4)) (zz _) (zz _) (zz _) (zz _) S1 S2 D9 k9 v9 q1 cb ho em ji hR
  refine x_istore (L' := [xR (99, 0, 0), xR (0, 0, 0), xR (50, 0, 0), xR (90, 0, 0), xR (91, 0, 0), xI i, xI (k9 : Int), none, none]) dL_law_217 (by decide) rfl ?_
  refine x_aload_n dL_law_219 rfl ?_
  refine x_aload_n dL_law_220 rfl ?_
  refine x_iload dL_law_221 rfl ?_
  refine x_iconst dL_law_223 ?_
  refine x_iadd dL_law_224 ?_
  refine x_alds dL_law_225 hS2 rfl (by omega) (by omega) (by omega) ?_
  refine x_aload_n dL_law_226 rfl ?_
  refine x_iload dL_law_227 rfl ?_
  refine x_iconst dL_law_229 ?_
  refine x_iadd dL_law_230 ?_
  refine x_alds dL_law_231 hS2 rfl (by omega) (by omega) (by omega) ?_
  refine x_aload_n dL_law_232 rfl ?_
  refine x_iload dL_law_233 rfl ?_
  refine x_iconst dL_law_235 ?_
  refine x_iadd dL_law_236 ?_
  refine x_alds dL_law_237 hS2 rfl (by omega) (by omega) (by omega) ?_
  refine x_aload_n dL_law_238 rfl ?_
  refine x_iload dL_law_239 rfl ?_
  refine x_iconst dL_law_241 ?_
  refine x_iadd dL_law_242 ?_
  refine x_alds dL_law_243 hS2 rfl (by omega) (by omega) (by omega) ?_
  refine x_callV 20 (c9 + 384) (as := [xI (S.1 (99, 0, 0) (i + 1)), xI (S.1 (99, 0, 0) (i + 2)), xI (S.1 (99, 0, 0) (i + 3)), xI (S.1 (99, 0, 0) (i + 4))]) (rest := []) ok_X9_tell dL_law_244 wd1195 ⟨wd1196, wd1197⟩ (hp50 S2) rfl rfl hm rfl (Nat.le_of_ble_eq_true rfl) (Nat.le_of_ble_eq_true rfl) (by decide) (by omega) (by omega) (fun h1 qq => ?_) (fun v h1 qq => ?_) (fun E h1 qq => ?_)
  · obtain ⟨_, _, -, y, -⟩ := qq; cases y
  rotate_left
  · obtain ⟨_, _, -, y, -⟩ := qq; cases y
  obtain ⟨T, z9, rfl, y, lT, t1, t2, t3, t4, t25, tv, tu⟩ := qq
  cases y
  have zk : zR (k9 : Int) := t25 ▸ lT.1.1.1 (50, 0, 0) 25
  refine x_istore (L' := [xR (99, 0, 0), xR (0, 0, 0), xR (50, 0, 0), xR (90, 0, 0), xR (91, 0, 0), xI i, xI (k9 : Int), xI z9, none]) dL_law_247 (by decide) rfl ?_
  refine x_aload_n dL_law_249 rfl ?_
  refine x_callV_r (a := 0) (b := 0) (as := []) (rest := []) ok_X9_thrown dL_law_250 wd1191 ⟨wd1192, wd1193⟩ (hp50 T) rfl rfl (m_thrown T lT.1.1) rfl (Nat.le_of_ble_eq_true rfl) (Nat.le_of_ble_eq_true rfl) (by decide) (by omega) (by omega) ?_
  refine x_top (show T.1 (50, 0, 0) 25 = (k9 : Int) from t25) ?_
  refine x_iload dL_law_253 rfl ?_
  refine x_icmp_eq (tgt := 260) dL_law_255 (by decide) zk zk (fun _ => ?_) (fun y => absurd rfl y)
  refine x_iload dL_law_260 rfl ?_
  refine x_if_ne (tgt := 277) dL_law_262 (by decide) zk (fun y => ?_) (fun y => ?_)
  · refine x_goto (tgt := 2700) dL_law_277 (by decide) ?_
    refine X.loc (L' := [xR (99, 0, 0), xR (0, 0, 0), xR (50, 0, 0), xR (90, 0, 0), xR (91, 0, 0), xI i, none, none, none]) ⟨rfl, ⟨rfl, ⟨rfl, ⟨rfl, ⟨rfl, ⟨rfl, trivial⟩⟩⟩⟩⟩⟩ ?_
    exact kont T _ _ lT (by rw [t1, e2.2, hn]) (by omega) (by omega)
  · obtain rfl : k9 = 0 := by omega
    have ez := tv rfl
    subst ez
    refine x_aload_n dL_law_265 rfl ?_
    refine x_iconst dL_law_266 ?_
    refine x_aldj dL_law_267 (hp90 T) (by decide) (by decide) (by decide) (by decide) ?_
    refine x_topJ (show T.2.1 (90, 0, 0) 0 = jI z9 from by rw [t2]; exact h90 rfl) ?_
    refine x_iload dL_law_268 rfl ?_
    refine x_i2l dL_law_270 ?_
    refine x_lcmp dL_law_271 ?_
    refine x_top (lg0.mpr rfl) ?_
    refine x_if_eq (tgt := 277) dL_law_272 (by decide) ⟨by decide, by decide⟩ (fun _ => ?_) (fun y => absurd rfl y)
    refine x_goto (tgt := 2700) dL_law_277 (by decide) ?_
    refine X.loc (L' := [xR (99, 0, 0), xR (0, 0, 0), xR (50, 0, 0), xR (90, 0, 0), xR (91, 0, 0), xI i, none, none, none]) ⟨rfl, ⟨rfl, ⟨rfl, ⟨rfl, ⟨rfl, ⟨rfl, trivial⟩⟩⟩⟩⟩⟩ ?_
    exact kont T _ _ lT (by rw [t1, e2.2, hn]) (by omega) (by omega)
set_option maxHeartbeats 4000000 in
set_option maxRecDepth 100000 in
theorem lc_isOn (S : XS) (hI : LwI S) (n : Nat) (hn : S.2.2.2.2.2 = n) (hn2 : n < 1000000) (i : Int) (i0 : 0 ≤ i) (i7 : i + 7 ≤ n) (kc ks : Nat) (hk : 30 ≤ kc) (hs : 82420 ≤ ks + usum S 5) {Q : XO → XH → Prop} (kont : KL n i (kc - 30) (ks + usum S 5 - 500) Q) : X mL_law 797 [xR (99, 0, 0), xR (0, 0, 0), xR (50, 0, 0), xR (90, 0, 0), xR (91, 0, 0), xI i, none, none, none] [] (hp S) kc ks Q := by
  have zz : ∀ j : Int, zR (S.1 (99, 0, 0) j) := fun j => hI.1.1.1 (99, 0, 0) j
  have hS : hp S (99, 0, 0) = some (.inr (0, n, .inl (S.1 (99, 0, 0)))) := by rw [hp99, hn]
  have u0 : usum S 5 ≤ 81920 := usum_le (fun l hl => mrl_gen hI.2.2.1 l hl) 5 (Nat.le_refl _)
  refine x_aload_n dL_law_797 rfl ?_
  refine x_aload_n dL_law_798 rfl ?_
  refine x_iload dL_law_799 rfl ?_
  refine x_iconst dL_law_801 ?_
  refine x_iadd dL_law_802 ?_
  refine x_alds dL_law_803 hS rfl (by omega) (by omega) (by omega) ?_
  refine x_aload_n dL_law_804 rfl ?_
  refine x_iload dL_law_805 rfl ?_
  refine x_iconst dL_law_807 ?_
  refine x_iadd dL_law_808 ?_
  refine x_alds dL_law_809 hS rfl (by omega) (by omega) (by omega) ?_
  refine x_aload_n dL_law_810 rfl ?_
  refine x_iload dL_law_811 rfl ?_
  refine x_iconst dL_law_813 ?_
  refine x_iadd dL_law_814 ?_
  refine x_alds dL_law_815 hS rfl (by omega) (by omega) (by omega) ?_
  refine x_aload_n dL_law_816 rfl ?_
  have hq9 : ∀ v9 D9, R_isOn S (S.1 (99, 0, 0) (i + 1)) (S.1 (99, 0, 0) (i + 2)) (S.1 (99, 0, 0) (i + 3)) 0 v9 D9 → v9 = 0 ∨ v9 = 1 := fun v9 D9 hR => by
    rcases hR with ⟨-, y0, rfl, -⟩ | ⟨y, -⟩
    · exact bI_01 _
    · exact absurd y (by decide)
  refine x_callSH 6 36 (as := [xR (0, 0, 0), xI (S.1 (99, 0, 0) (i + 1)), xI (S.1 (99, 0, 0) (i + 2)), xI (S.1 (99, 0, 0) (i + 3)), xR (90, 0, 0)]) (rest := []) ok_L_isOn dL_law_817 wd768 wd769 (w_isOn (hp0 S) (S.1 (99, 0, 0) (i + 1)) (S.1 (99, 0, 0) (i + 2)) (S.1 (99, 0, 0) (i + 3)) 6 36 (cu_isOn S hI (S.1 (99, 0, 0) (i + 1)) (S.1 (99, 0, 0) (i + 2)) (S.1 (99, 0, 0) (i + 3)) (zz _) (zz _) (zz _)) (CO.wq (fun _ => hq9))) rfl (Nat.le_of_ble_eq_true rfl) (Nat.le_of_ble_eq_true rfl) (by decide) (by omega) (by omega) (fun h1 qq => ?_) (fun v h1 qq => ?_) (fun E h1 qq => ?_)
  · obtain ⟨_, _, _, _, _, _, y, -⟩ := pW.wo (by decide) qq; cases y
  rotate_left
  · obtain ⟨_, _, _, _, _, _, y, -⟩ := pW.wo (by decide) qq; cases y
  obtain ⟨S1, S2, D9, k9, v9, rfl, y, q1, cb, ho, em, ji, hR, h90⟩ := pW.wo (by decide) qq
  cases y
  have e2 : MdE S S2 := (em.tr (MdE.q q1)).tr ho.md
  have hS2 : hp S2 (99, 0, 0) = some (.inr (0, n, .inl (S.1 (99, 0, 0)))) := by rw [hp99, e2.1 99 0 0 (by decide), e2.2, hn]
  have u2 := usum_e e2 5
  obtain ⟨c9, hc, hm⟩ := mo_isOn S hI (S.1 (99, 0, 0) (i + 1)) (S.1 (99, 0, 0) (i + 2)) (S.1 (99, 0, 0) (i + 3)) (zz _) (zz _) (zz _) S1 S2 D9 k9 v9 q1 cb ho em ji hR
  refine x_istore (L' := [xR (99, 0, 0), xR (0, 0, 0), xR (50, 0, 0), xR (90, 0, 0), xR (91, 0, 0), xI i, xI (k9 : Int), none, none]) dL_law_820 (by decide) rfl ?_
  refine x_aload_n dL_law_822 rfl ?_
  refine x_aload_n dL_law_823 rfl ?_
  refine x_iload dL_law_824 rfl ?_
  refine x_iconst dL_law_826 ?_
  refine x_iadd dL_law_827 ?_
  refine x_alds dL_law_828 hS2 rfl (by omega) (by omega) (by omega) ?_
  refine x_aload_n dL_law_829 rfl ?_
  refine x_iload dL_law_830 rfl ?_
  refine x_iconst dL_law_832 ?_
  refine x_iadd dL_law_833 ?_
  refine x_alds dL_law_834 hS2 rfl (by omega) (by omega) (by omega) ?_
  refine x_aload_n dL_law_835 rfl ?_
  refine x_iload dL_law_836 rfl ?_
  refine x_iconst dL_law_838 ?_
  refine x_iadd dL_law_839 ?_
  refine x_alds dL_law_840 hS2 rfl (by omega) (by omega) (by omega) ?_
  refine x_callV 20 (c9 + 384) (as := [xI (S.1 (99, 0, 0) (i + 1)), xI (S.1 (99, 0, 0) (i + 2)), xI (S.1 (99, 0, 0) (i + 3))]) (rest := []) ok_X9_isOn dL_law_841 wd1322 ⟨wd1323, wd1324⟩ (hp50 S2) rfl rfl hm rfl (Nat.le_of_ble_eq_true rfl) (Nat.le_of_ble_eq_true rfl) (by decide) (by omega) (by omega) (fun h1 qq => ?_) (fun v h1 qq => ?_) (fun E h1 qq => ?_)
  · obtain ⟨_, _, -, y, -⟩ := qq; cases y
  rotate_left
  · obtain ⟨_, _, -, y, -⟩ := qq; cases y
  obtain ⟨T, z9, rfl, y, lT, t1, t2, t3, t4, t25, tv, tu⟩ := qq
  cases y
  have zk : zR (k9 : Int) := t25 ▸ lT.1.1.1 (50, 0, 0) 25
  refine x_istore (L' := [xR (99, 0, 0), xR (0, 0, 0), xR (50, 0, 0), xR (90, 0, 0), xR (91, 0, 0), xI i, xI (k9 : Int), xI z9, none]) dL_law_844 (by decide) rfl ?_
  refine x_aload_n dL_law_846 rfl ?_
  refine x_callV_r (a := 0) (b := 0) (as := []) (rest := []) ok_X9_thrown dL_law_847 wd1191 ⟨wd1192, wd1193⟩ (hp50 T) rfl rfl (m_thrown T lT.1.1) rfl (Nat.le_of_ble_eq_true rfl) (Nat.le_of_ble_eq_true rfl) (by decide) (by omega) (by omega) ?_
  refine x_top (show T.1 (50, 0, 0) 25 = (k9 : Int) from t25) ?_
  refine x_iload dL_law_850 rfl ?_
  refine x_icmp_eq (tgt := 857) dL_law_852 (by decide) zk zk (fun _ => ?_) (fun y => absurd rfl y)
  refine x_iload dL_law_857 rfl ?_
  refine x_if_ne (tgt := 881) dL_law_859 (by decide) zk (fun y => ?_) (fun y => ?_)
  · refine x_goto (tgt := 2700) dL_law_881 (by decide) ?_
    refine X.loc (L' := [xR (99, 0, 0), xR (0, 0, 0), xR (50, 0, 0), xR (90, 0, 0), xR (91, 0, 0), xI i, none, none, none]) ⟨rfl, ⟨rfl, ⟨rfl, ⟨rfl, ⟨rfl, ⟨rfl, trivial⟩⟩⟩⟩⟩⟩ ?_
    exact kont T _ _ lT (by rw [t1, e2.2, hn]) (by omega) (by omega)
  · obtain rfl : k9 = 0 := by omega
    have ez := tv rfl
    subst ez
    refine x_aload_n dL_law_862 rfl ?_
    refine x_iconst dL_law_863 ?_
    refine x_aldj dL_law_864 (hp90 T) (by decide) (by decide) (by decide) (by decide) ?_
    refine x_topJ (show T.2.1 (90, 0, 0) 0 = jI z9 from by rw [t2]; exact h90 rfl) ?_
    refine x_iload dL_law_865 rfl ?_
    have v01 : z9 = 0 ∨ z9 = 1 := hq9 _ _ hR
    rcases v01 with rfl | rfl
    · refine x_if_eq (tgt := 874) dL_law_867 (by decide) ⟨by decide, by decide⟩ (fun _ => ?_) (fun y => absurd rfl y)
      refine x_lconst (v := 0) dL_law_874 (by decide) ?_
      refine x_lcmp dL_law_875 ?_
      refine x_top (lg0.mpr (by decide)) ?_
      refine x_if_eq (tgt := 881) dL_law_876 (by decide) ⟨by decide, by decide⟩ (fun _ => ?_) (fun y => absurd rfl y)
      refine x_goto (tgt := 2700) dL_law_881 (by decide) ?_
      refine X.loc (L' := [xR (99, 0, 0), xR (0, 0, 0), xR (50, 0, 0), xR (90, 0, 0), xR (91, 0, 0), xI i, none, none, none]) ⟨rfl, ⟨rfl, ⟨rfl, ⟨rfl, ⟨rfl, ⟨rfl, trivial⟩⟩⟩⟩⟩⟩ ?_
      exact kont T _ _ lT (by rw [t1, e2.2, hn]) (by omega) (by omega)
    · refine x_if_eq (tgt := 874) dL_law_867 (by decide) ⟨by decide, by decide⟩ (fun y => absurd y (by decide)) (fun _ => ?_)
      refine x_lconst (v := 1) dL_law_870 (by decide) ?_
      refine x_goto (tgt := 875) dL_law_871 (by decide) ?_
      refine x_lcmp dL_law_875 ?_
      refine x_top (lg0.mpr (by decide)) ?_
      refine x_if_eq (tgt := 881) dL_law_876 (by decide) ⟨by decide, by decide⟩ (fun _ => ?_) (fun y => absurd rfl y)
      refine x_goto (tgt := 2700) dL_law_881 (by decide) ?_
      refine X.loc (L' := [xR (99, 0, 0), xR (0, 0, 0), xR (50, 0, 0), xR (90, 0, 0), xR (91, 0, 0), xI i, none, none, none]) ⟨rfl, ⟨rfl, ⟨rfl, ⟨rfl, ⟨rfl, ⟨rfl, trivial⟩⟩⟩⟩⟩⟩ ?_
      exact kont T _ _ lT (by rw [t1, e2.2, hn]) (by omega) (by omega)
set_option maxHeartbeats 4000000 in
set_option maxRecDepth 100000 in
theorem lc_turn (S : XS) (hI : LwI S) (n : Nat) (hn : S.2.2.2.2.2 = n) (hn2 : n < 1000000) (i : Int) (i0 : 0 ≤ i) (i7 : i + 7 ≤ n) (kc ks : Nat) (hk : 30 ≤ kc) (hs : 82420 ≤ ks + usum S 5) {Q : XO → XH → Prop} (kont : KL n i (kc - 30) (ks + usum S 5 - 500) Q) : X mL_law 701 [xR (99, 0, 0), xR (0, 0, 0), xR (50, 0, 0), xR (90, 0, 0), xR (91, 0, 0), xI i, none, none, none] [] (hp S) kc ks Q := by
  have zz : ∀ j : Int, zR (S.1 (99, 0, 0) j) := fun j => hI.1.1.1 (99, 0, 0) j
  have hS : hp S (99, 0, 0) = some (.inr (0, n, .inl (S.1 (99, 0, 0)))) := by rw [hp99, hn]
  have u0 : usum S 5 ≤ 81920 := usum_le (fun l hl => mrl_gen hI.2.2.1 l hl) 5 (Nat.le_refl _)
  by_cases hb : S.1 (99, 0, 0) (i + 3) = 0
  · refine x_aload_n dL_law_701 rfl ?_
    refine x_aload_n dL_law_702 rfl ?_
    refine x_iload dL_law_703 rfl ?_
    refine x_iconst dL_law_705 ?_
    refine x_iadd dL_law_706 ?_
    refine x_alds dL_law_707 hS rfl (by omega) (by omega) (by omega) ?_
    refine x_aload_n dL_law_708 rfl ?_
    refine x_iload dL_law_709 rfl ?_
    refine x_iconst dL_law_711 ?_
    refine x_iadd dL_law_712 ?_
    refine x_alds dL_law_713 hS rfl (by omega) (by omega) (by omega) ?_
    refine x_aload_n dL_law_714 rfl ?_
    refine x_iload dL_law_715 rfl ?_
    refine x_iconst dL_law_717 ?_
    refine x_iadd dL_law_718 ?_
    refine x_alds dL_law_719 hS rfl (by omega) (by omega) (by omega) ?_
    refine x_if_eq (tgt := 727) dL_law_720 (by decide) (zz _) (fun _ => ?_) (fun y => absurd hb y)
    refine x_iconst dL_law_727 ?_
    refine x_aload_n dL_law_728 rfl ?_
    refine x_callSH 6 36 (as := [xR (0, 0, 0), xI (S.1 (99, 0, 0) (i + 1)), xI (S.1 (99, 0, 0) (i + 2)), xI 0, xR (90, 0, 0)]) (rest := []) ok_L_turn dL_law_729 wd751 wd752 (w_turn (hp0 S) (S.1 (99, 0, 0) (i + 1)) (S.1 (99, 0, 0) (i + 2)) 0 6 36 (cu_turn S hI (S.1 (99, 0, 0) (i + 1)) (S.1 (99, 0, 0) (i + 2)) 0 (zz _) (zz _) (Or.inl rfl)) (CO.wq (fun h => by cases h))) rfl (Nat.le_of_ble_eq_true rfl) (Nat.le_of_ble_eq_true rfl) (by decide) (by omega) (by omega) (fun h1 qq => ?_) (fun v h1 qq => ?_) (fun E h1 qq => ?_)
    · obtain ⟨_, _, _, _, _, _, y, -⟩ := pW.wo (by decide) qq; cases y
    rotate_left
    · obtain ⟨_, _, _, _, _, _, y, -⟩ := pW.wo (by decide) qq; cases y
    obtain ⟨S1, S2, D9, k9, v9, rfl, y, q1, cb, ho, em, ji, hR, h90⟩ := pW.wo (by decide) qq
    cases y
    have e2 : MdE S S2 := (em.tr (MdE.q q1)).tr ho.md
    have hS2 : hp S2 (99, 0, 0) = some (.inr (0, n, .inl (S.1 (99, 0, 0)))) := by rw [hp99, e2.1 99 0 0 (by decide), e2.2, hn]
    have u2 := usum_e e2 5
    obtain ⟨c9, hc, hm⟩ := mo_turn S hI (S.1 (99, 0, 0) (i + 1)) (S.1 (99, 0, 0) (i + 2)) 0 (zz _) (zz _) (Or.inl rfl) S1 S2 D9 k9 v9 q1 cb ho em ji hR
    refine x_istore (L' := [xR (99, 0, 0), xR (0, 0, 0), xR (50, 0, 0), xR (90, 0, 0), xR (91, 0, 0), xI i, xI (k9 : Int), none, none]) dL_law_732 (by decide) rfl ?_
    refine x_aload_n dL_law_734 rfl ?_
    refine x_aload_n dL_law_735 rfl ?_
    refine x_iload dL_law_736 rfl ?_
    refine x_iconst dL_law_738 ?_
    refine x_iadd dL_law_739 ?_
    refine x_alds dL_law_740 hS2 rfl (by omega) (by omega) (by omega) ?_
    refine x_aload_n dL_law_741 rfl ?_
    refine x_iload dL_law_742 rfl ?_
    refine x_iconst dL_law_744 ?_
    refine x_iadd dL_law_745 ?_
    refine x_alds dL_law_746 hS2 rfl (by omega) (by omega) (by omega) ?_
    refine x_aload_n dL_law_747 rfl ?_
    refine x_iload dL_law_748 rfl ?_
    refine x_iconst dL_law_750 ?_
    refine x_iadd dL_law_751 ?_
    refine x_alds dL_law_752 hS2 rfl (by omega) (by omega) (by omega) ?_
    refine x_if_eq (tgt := 760) dL_law_753 (by decide) (zz _) (fun _ => ?_) (fun y => absurd hb y)
    refine x_iconst dL_law_760 ?_
    refine x_callV 20 (c9 + 384) (as := [xI (S.1 (99, 0, 0) (i + 1)), xI (S.1 (99, 0, 0) (i + 2)), xI 0]) (rest := []) ok_X9_turn dL_law_761 wd1310 ⟨wd1311, wd1312⟩ (hp50 S2) rfl rfl hm rfl (Nat.le_of_ble_eq_true rfl) (Nat.le_of_ble_eq_true rfl) (by decide) (by omega) (by omega) (fun h1 qq => ?_) (fun v h1 qq => ?_) (fun E h1 qq => ?_)
    · obtain ⟨_, _, -, y, -⟩ := qq; cases y
    rotate_left
    · obtain ⟨_, _, -, y, -⟩ := qq; cases y
    obtain ⟨T, z9, rfl, y, lT, t1, t2, t3, t4, t25, tv, tu⟩ := qq
    cases y
    have zk : zR (k9 : Int) := t25 ▸ lT.1.1.1 (50, 0, 0) 25
    refine x_istore (L' := [xR (99, 0, 0), xR (0, 0, 0), xR (50, 0, 0), xR (90, 0, 0), xR (91, 0, 0), xI i, xI (k9 : Int), xI z9, none]) dL_law_764 (by decide) rfl ?_
    refine x_aload_n dL_law_766 rfl ?_
    refine x_callV_r (a := 0) (b := 0) (as := []) (rest := []) ok_X9_thrown dL_law_767 wd1191 ⟨wd1192, wd1193⟩ (hp50 T) rfl rfl (m_thrown T lT.1.1) rfl (Nat.le_of_ble_eq_true rfl) (Nat.le_of_ble_eq_true rfl) (by decide) (by omega) (by omega) ?_
    refine x_top (show T.1 (50, 0, 0) 25 = (k9 : Int) from t25) ?_
    refine x_iload dL_law_770 rfl ?_
    refine x_icmp_eq (tgt := 777) dL_law_772 (by decide) zk zk (fun _ => ?_) (fun y => absurd rfl y)
    refine x_iload dL_law_777 rfl ?_
    refine x_if_ne (tgt := 794) dL_law_779 (by decide) zk (fun y => ?_) (fun y => ?_)
    · refine x_goto (tgt := 2700) dL_law_794 (by decide) ?_
      refine X.loc (L' := [xR (99, 0, 0), xR (0, 0, 0), xR (50, 0, 0), xR (90, 0, 0), xR (91, 0, 0), xI i, none, none, none]) ⟨rfl, ⟨rfl, ⟨rfl, ⟨rfl, ⟨rfl, ⟨rfl, trivial⟩⟩⟩⟩⟩⟩ ?_
      exact kont T _ _ lT (by rw [t1, e2.2, hn]) (by omega) (by omega)
    · obtain rfl : k9 = 0 := by omega
      have ez := tv rfl
      subst ez
      refine x_aload_n dL_law_782 rfl ?_
      refine x_iconst dL_law_783 ?_
      refine x_aldj dL_law_784 (hp90 T) (by decide) (by decide) (by decide) (by decide) ?_
      refine x_topJ (show T.2.1 (90, 0, 0) 0 = jI z9 from by rw [t2]; exact h90 rfl) ?_
      refine x_iload dL_law_785 rfl ?_
      refine x_i2l dL_law_787 ?_
      refine x_lcmp dL_law_788 ?_
      refine x_top (lg0.mpr rfl) ?_
      refine x_if_eq (tgt := 794) dL_law_789 (by decide) ⟨by decide, by decide⟩ (fun _ => ?_) (fun y => absurd rfl y)
      refine x_goto (tgt := 2700) dL_law_794 (by decide) ?_
      refine X.loc (L' := [xR (99, 0, 0), xR (0, 0, 0), xR (50, 0, 0), xR (90, 0, 0), xR (91, 0, 0), xI i, none, none, none]) ⟨rfl, ⟨rfl, ⟨rfl, ⟨rfl, ⟨rfl, ⟨rfl, trivial⟩⟩⟩⟩⟩⟩ ?_
      exact kont T _ _ lT (by rw [t1, e2.2, hn]) (by omega) (by omega)
  · refine x_aload_n dL_law_701 rfl ?_
    refine x_aload_n dL_law_702 rfl ?_
    refine x_iload dL_law_703 rfl ?_
    refine x_iconst dL_law_705 ?_
    refine x_iadd dL_law_706 ?_
    refine x_alds dL_law_707 hS rfl (by omega) (by omega) (by omega) ?_
    refine x_aload_n dL_law_708 rfl ?_
    refine x_iload dL_law_709 rfl ?_
    refine x_iconst dL_law_711 ?_
    refine x_iadd dL_law_712 ?_
    refine x_alds dL_law_713 hS rfl (by omega) (by omega) (by omega) ?_
    refine x_aload_n dL_law_714 rfl ?_
    refine x_iload dL_law_715 rfl ?_
    refine x_iconst dL_law_717 ?_
    refine x_iadd dL_law_718 ?_
    refine x_alds dL_law_719 hS rfl (by omega) (by omega) (by omega) ?_
    refine x_if_eq (tgt := 727) dL_law_720 (by decide) (zz _) (fun y => absurd y hb) (fun _ => ?_)
    refine x_iconst dL_law_723 ?_
    refine x_goto (tgt := 728) dL_law_724 (by decide) ?_
    refine x_aload_n dL_law_728 rfl ?_
    refine x_callSH 6 36 (as := [xR (0, 0, 0), xI (S.1 (99, 0, 0) (i + 1)), xI (S.1 (99, 0, 0) (i + 2)), xI 1, xR (90, 0, 0)]) (rest := []) ok_L_turn dL_law_729 wd751 wd752 (w_turn (hp0 S) (S.1 (99, 0, 0) (i + 1)) (S.1 (99, 0, 0) (i + 2)) 1 6 36 (cu_turn S hI (S.1 (99, 0, 0) (i + 1)) (S.1 (99, 0, 0) (i + 2)) 1 (zz _) (zz _) (Or.inr rfl)) (CO.wq (fun h => by cases h))) rfl (Nat.le_of_ble_eq_true rfl) (Nat.le_of_ble_eq_true rfl) (by decide) (by omega) (by omega) (fun h1 qq => ?_) (fun v h1 qq => ?_) (fun E h1 qq => ?_)
    · obtain ⟨_, _, _, _, _, _, y, -⟩ := pW.wo (by decide) qq; cases y
    rotate_left
    · obtain ⟨_, _, _, _, _, _, y, -⟩ := pW.wo (by decide) qq; cases y
    obtain ⟨S1, S2, D9, k9, v9, rfl, y, q1, cb, ho, em, ji, hR, h90⟩ := pW.wo (by decide) qq
    cases y
    have e2 : MdE S S2 := (em.tr (MdE.q q1)).tr ho.md
    have hS2 : hp S2 (99, 0, 0) = some (.inr (0, n, .inl (S.1 (99, 0, 0)))) := by rw [hp99, e2.1 99 0 0 (by decide), e2.2, hn]
    have u2 := usum_e e2 5
    obtain ⟨c9, hc, hm⟩ := mo_turn S hI (S.1 (99, 0, 0) (i + 1)) (S.1 (99, 0, 0) (i + 2)) 1 (zz _) (zz _) (Or.inr rfl) S1 S2 D9 k9 v9 q1 cb ho em ji hR
    refine x_istore (L' := [xR (99, 0, 0), xR (0, 0, 0), xR (50, 0, 0), xR (90, 0, 0), xR (91, 0, 0), xI i, xI (k9 : Int), none, none]) dL_law_732 (by decide) rfl ?_
    refine x_aload_n dL_law_734 rfl ?_
    refine x_aload_n dL_law_735 rfl ?_
    refine x_iload dL_law_736 rfl ?_
    refine x_iconst dL_law_738 ?_
    refine x_iadd dL_law_739 ?_
    refine x_alds dL_law_740 hS2 rfl (by omega) (by omega) (by omega) ?_
    refine x_aload_n dL_law_741 rfl ?_
    refine x_iload dL_law_742 rfl ?_
    refine x_iconst dL_law_744 ?_
    refine x_iadd dL_law_745 ?_
    refine x_alds dL_law_746 hS2 rfl (by omega) (by omega) (by omega) ?_
    refine x_aload_n dL_law_747 rfl ?_
    refine x_iload dL_law_748 rfl ?_
    refine x_iconst dL_law_750 ?_
    refine x_iadd dL_law_751 ?_
    refine x_alds dL_law_752 hS2 rfl (by omega) (by omega) (by omega) ?_
    refine x_if_eq (tgt := 760) dL_law_753 (by decide) (zz _) (fun y => absurd y hb) (fun _ => ?_)
    refine x_iconst dL_law_756 ?_
    refine x_goto (tgt := 761) dL_law_757 (by decide) ?_
    refine x_callV 20 (c9 + 384) (as := [xI (S.1 (99, 0, 0) (i + 1)), xI (S.1 (99, 0, 0) (i + 2)), xI 1]) (rest := []) ok_X9_turn dL_law_761 wd1310 ⟨wd1311, wd1312⟩ (hp50 S2) rfl rfl hm rfl (Nat.le_of_ble_eq_true rfl) (Nat.le_of_ble_eq_true rfl) (by decide) (by omega) (by omega) (fun h1 qq => ?_) (fun v h1 qq => ?_) (fun E h1 qq => ?_)
    · obtain ⟨_, _, -, y, -⟩ := qq; cases y
    rotate_left
    · obtain ⟨_, _, -, y, -⟩ := qq; cases y
    obtain ⟨T, z9, rfl, y, lT, t1, t2, t3, t4, t25, tv, tu⟩ := qq
    cases y
    have zk : zR (k9 : Int) := t25 ▸ lT.1.1.1 (50, 0, 0) 25
    refine x_istore (L' := [xR (99, 0, 0), xR (0, 0, 0), xR (50, 0, 0), xR (90, 0, 0), xR (91, 0, 0), xI i, xI (k9 : Int), xI z9, none]) dL_law_764 (by decide) rfl ?_
    refine x_aload_n dL_law_766 rfl ?_
    refine x_callV_r (a := 0) (b := 0) (as := []) (rest := []) ok_X9_thrown dL_law_767 wd1191 ⟨wd1192, wd1193⟩ (hp50 T) rfl rfl (m_thrown T lT.1.1) rfl (Nat.le_of_ble_eq_true rfl) (Nat.le_of_ble_eq_true rfl) (by decide) (by omega) (by omega) ?_
    refine x_top (show T.1 (50, 0, 0) 25 = (k9 : Int) from t25) ?_
    refine x_iload dL_law_770 rfl ?_
    refine x_icmp_eq (tgt := 777) dL_law_772 (by decide) zk zk (fun _ => ?_) (fun y => absurd rfl y)
    refine x_iload dL_law_777 rfl ?_
    refine x_if_ne (tgt := 794) dL_law_779 (by decide) zk (fun y => ?_) (fun y => ?_)
    · refine x_goto (tgt := 2700) dL_law_794 (by decide) ?_
      refine X.loc (L' := [xR (99, 0, 0), xR (0, 0, 0), xR (50, 0, 0), xR (90, 0, 0), xR (91, 0, 0), xI i, none, none, none]) ⟨rfl, ⟨rfl, ⟨rfl, ⟨rfl, ⟨rfl, ⟨rfl, trivial⟩⟩⟩⟩⟩⟩ ?_
      exact kont T _ _ lT (by rw [t1, e2.2, hn]) (by omega) (by omega)
    · obtain rfl : k9 = 0 := by omega
      have ez := tv rfl
      subst ez
      refine x_aload_n dL_law_782 rfl ?_
      refine x_iconst dL_law_783 ?_
      refine x_aldj dL_law_784 (hp90 T) (by decide) (by decide) (by decide) (by decide) ?_
      refine x_topJ (show T.2.1 (90, 0, 0) 0 = jI z9 from by rw [t2]; exact h90 rfl) ?_
      refine x_iload dL_law_785 rfl ?_
      refine x_i2l dL_law_787 ?_
      refine x_lcmp dL_law_788 ?_
      refine x_top (lg0.mpr rfl) ?_
      refine x_if_eq (tgt := 794) dL_law_789 (by decide) ⟨by decide, by decide⟩ (fun _ => ?_) (fun y => absurd rfl y)
      refine x_goto (tgt := 2700) dL_law_794 (by decide) ?_
      refine X.loc (L' := [xR (99, 0, 0), xR (0, 0, 0), xR (50, 0, 0), xR (90, 0, 0), xR (91, 0, 0), xI i, none, none, none]) ⟨rfl, ⟨rfl, ⟨rfl, ⟨rfl, ⟨rfl, ⟨rfl, trivial⟩⟩⟩⟩⟩⟩ ?_
      exact kont T _ _ lT (by rw [t1, e2.2, hn]) (by omega) (by omega)
set_option maxHeartbeats 4000000 in
set_option maxRecDepth 100000 in
theorem lc_setUnique (S : XS) (hI : LwI S) (n : Nat) (hn : S.2.2.2.2.2 = n) (hn2 : n < 1000000) (i : Int) (i0 : 0 ≤ i) (i7 : i + 7 ≤ n) (kc ks : Nat) (hk : 30 ≤ kc) (hs : 82420 ≤ ks + usum S 5) {Q : XO → XH → Prop} (kont : KL n i (kc - 30) (ks + usum S 5 - 500) Q) : X mL_law 372 [xR (99, 0, 0), xR (0, 0, 0), xR (50, 0, 0), xR (90, 0, 0), xR (91, 0, 0), xI i, none, none, none] [] (hp S) kc ks Q := by
  have zz : ∀ j : Int, zR (S.1 (99, 0, 0) j) := fun j => hI.1.1.1 (99, 0, 0) j
  have hS : hp S (99, 0, 0) = some (.inr (0, n, .inl (S.1 (99, 0, 0)))) := by rw [hp99, hn]
  have u0 : usum S 5 ≤ 81920 := usum_le (fun l hl => mrl_gen hI.2.2.1 l hl) 5 (Nat.le_refl _)
  by_cases hb : S.1 (99, 0, 0) (i + 2) = 0
  · refine x_aload_n dL_law_372 rfl ?_
    refine x_aload_n dL_law_373 rfl ?_
    refine x_iload dL_law_374 rfl ?_
    refine x_iconst dL_law_376 ?_
    refine x_iadd dL_law_377 ?_
    refine x_alds dL_law_378 hS rfl (by omega) (by omega) (by omega) ?_
    refine x_aload_n dL_law_379 rfl ?_
    refine x_iload dL_law_380 rfl ?_
    refine x_iconst dL_law_382 ?_
    refine x_iadd dL_law_383 ?_
    refine x_alds dL_law_384 hS rfl (by omega) (by omega) (by omega) ?_
    refine x_if_eq (tgt := 392) dL_law_385 (by decide) (zz _) (fun _ => ?_) (fun y => absurd hb y)
    refine x_iconst dL_law_392 ?_
    refine x_aload_n dL_law_393 rfl ?_
    have hq9 : ∀ v9 D9, R_setUnique S (S.1 (99, 0, 0) (i + 1)) 0 0 v9 D9 → v9 = 0 ∨ v9 = 1 := fun v9 D9 hR => by
      rcases hR with ⟨-, y0, rfl, -⟩ | ⟨y, -⟩
      · exact wfa3 hI.1.1 _
      · exact absurd y (by decide)
    refine x_callSH 6 36 (as := [xR (0, 0, 0), xI (S.1 (99, 0, 0) (i + 1)), xI 0, xR (90, 0, 0)]) (rest := []) ok_L_setUnique dL_law_394 wd696 wd697 (w_setUnique (hp0 S) (S.1 (99, 0, 0) (i + 1)) 0 6 36 (cu_setUnique S hI (S.1 (99, 0, 0) (i + 1)) 0 (zz _) (Or.inl rfl)) (CO.wq (fun _ => hq9))) rfl (Nat.le_of_ble_eq_true rfl) (Nat.le_of_ble_eq_true rfl) (by decide) (by omega) (by omega) (fun h1 qq => ?_) (fun v h1 qq => ?_) (fun E h1 qq => ?_)
    · obtain ⟨_, _, _, _, _, _, y, -⟩ := pW.wo (by decide) qq; cases y
    rotate_left
    · obtain ⟨_, _, _, _, _, _, y, -⟩ := pW.wo (by decide) qq; cases y
    obtain ⟨S1, S2, D9, k9, v9, rfl, y, q1, cb, ho, em, ji, hR, h90⟩ := pW.wo (by decide) qq
    cases y
    have e2 : MdE S S2 := (em.tr (MdE.q q1)).tr ho.md
    have hS2 : hp S2 (99, 0, 0) = some (.inr (0, n, .inl (S.1 (99, 0, 0)))) := by rw [hp99, e2.1 99 0 0 (by decide), e2.2, hn]
    have u2 := usum_e e2 5
    obtain ⟨c9, hc, hm⟩ := mo_setUnique S hI (S.1 (99, 0, 0) (i + 1)) 0 (zz _) (Or.inl rfl) S1 S2 D9 k9 v9 q1 cb ho em ji hR
    refine x_istore (L' := [xR (99, 0, 0), xR (0, 0, 0), xR (50, 0, 0), xR (90, 0, 0), xR (91, 0, 0), xI i, xI (k9 : Int), none, none]) dL_law_397 (by decide) rfl ?_
    refine x_aload_n dL_law_399 rfl ?_
    refine x_aload_n dL_law_400 rfl ?_
    refine x_iload dL_law_401 rfl ?_
    refine x_iconst dL_law_403 ?_
    refine x_iadd dL_law_404 ?_
    refine x_alds dL_law_405 hS2 rfl (by omega) (by omega) (by omega) ?_
    refine x_aload_n dL_law_406 rfl ?_
    refine x_iload dL_law_407 rfl ?_
    refine x_iconst dL_law_409 ?_
    refine x_iadd dL_law_410 ?_
    refine x_alds dL_law_411 hS2 rfl (by omega) (by omega) (by omega) ?_
    refine x_if_eq (tgt := 419) dL_law_412 (by decide) (zz _) (fun _ => ?_) (fun y => absurd hb y)
    refine x_iconst dL_law_419 ?_
    refine x_callV 20 (c9 + 384) (as := [xI (S.1 (99, 0, 0) (i + 1)), xI 0]) (rest := []) ok_X9_setUnique dL_law_420 wd1291 ⟨wd1292, wd1293⟩ (hp50 S2) rfl rfl hm rfl (Nat.le_of_ble_eq_true rfl) (Nat.le_of_ble_eq_true rfl) (by decide) (by omega) (by omega) (fun h1 qq => ?_) (fun v h1 qq => ?_) (fun E h1 qq => ?_)
    · obtain ⟨_, _, -, y, -⟩ := qq; cases y
    rotate_left
    · obtain ⟨_, _, -, y, -⟩ := qq; cases y
    obtain ⟨T, z9, rfl, y, lT, t1, t2, t3, t4, t25, tv, tu⟩ := qq
    cases y
    have zk : zR (k9 : Int) := t25 ▸ lT.1.1.1 (50, 0, 0) 25
    refine x_istore (L' := [xR (99, 0, 0), xR (0, 0, 0), xR (50, 0, 0), xR (90, 0, 0), xR (91, 0, 0), xI i, xI (k9 : Int), xI z9, none]) dL_law_423 (by decide) rfl ?_
    refine x_aload_n dL_law_425 rfl ?_
    refine x_callV_r (a := 0) (b := 0) (as := []) (rest := []) ok_X9_thrown dL_law_426 wd1191 ⟨wd1192, wd1193⟩ (hp50 T) rfl rfl (m_thrown T lT.1.1) rfl (Nat.le_of_ble_eq_true rfl) (Nat.le_of_ble_eq_true rfl) (by decide) (by omega) (by omega) ?_
    refine x_top (show T.1 (50, 0, 0) 25 = (k9 : Int) from t25) ?_
    refine x_iload dL_law_429 rfl ?_
    refine x_icmp_eq (tgt := 436) dL_law_431 (by decide) zk zk (fun _ => ?_) (fun y => absurd rfl y)
    refine x_iload dL_law_436 rfl ?_
    refine x_if_ne (tgt := 460) dL_law_438 (by decide) zk (fun y => ?_) (fun y => ?_)
    · refine x_goto (tgt := 2700) dL_law_460 (by decide) ?_
      refine X.loc (L' := [xR (99, 0, 0), xR (0, 0, 0), xR (50, 0, 0), xR (90, 0, 0), xR (91, 0, 0), xI i, none, none, none]) ⟨rfl, ⟨rfl, ⟨rfl, ⟨rfl, ⟨rfl, ⟨rfl, trivial⟩⟩⟩⟩⟩⟩ ?_
      exact kont T _ _ lT (by rw [t1, e2.2, hn]) (by omega) (by omega)
    · obtain rfl : k9 = 0 := by omega
      have ez := tv rfl
      subst ez
      refine x_aload_n dL_law_441 rfl ?_
      refine x_iconst dL_law_442 ?_
      refine x_aldj dL_law_443 (hp90 T) (by decide) (by decide) (by decide) (by decide) ?_
      refine x_topJ (show T.2.1 (90, 0, 0) 0 = jI z9 from by rw [t2]; exact h90 rfl) ?_
      refine x_iload dL_law_444 rfl ?_
      have v01 : z9 = 0 ∨ z9 = 1 := hq9 _ _ hR
      rcases v01 with rfl | rfl
      · refine x_if_eq (tgt := 453) dL_law_446 (by decide) ⟨by decide, by decide⟩ (fun _ => ?_) (fun y => absurd rfl y)
        refine x_lconst (v := 0) dL_law_453 (by decide) ?_
        refine x_lcmp dL_law_454 ?_
        refine x_top (lg0.mpr (by decide)) ?_
        refine x_if_eq (tgt := 460) dL_law_455 (by decide) ⟨by decide, by decide⟩ (fun _ => ?_) (fun y => absurd rfl y)
        refine x_goto (tgt := 2700) dL_law_460 (by decide) ?_
        refine X.loc (L' := [xR (99, 0, 0), xR (0, 0, 0), xR (50, 0, 0), xR (90, 0, 0), xR (91, 0, 0), xI i, none, none, none]) ⟨rfl, ⟨rfl, ⟨rfl, ⟨rfl, ⟨rfl, ⟨rfl, trivial⟩⟩⟩⟩⟩⟩ ?_
        exact kont T _ _ lT (by rw [t1, e2.2, hn]) (by omega) (by omega)
      · refine x_if_eq (tgt := 453) dL_law_446 (by decide) ⟨by decide, by decide⟩ (fun y => absurd y (by decide)) (fun _ => ?_)
        refine x_lconst (v := 1) dL_law_449 (by decide) ?_
        refine x_goto (tgt := 454) dL_law_450 (by decide) ?_
        refine x_lcmp dL_law_454 ?_
        refine x_top (lg0.mpr (by decide)) ?_
        refine x_if_eq (tgt := 460) dL_law_455 (by decide) ⟨by decide, by decide⟩ (fun _ => ?_) (fun y => absurd rfl y)
        refine x_goto (tgt := 2700) dL_law_460 (by decide) ?_
        refine X.loc (L' := [xR (99, 0, 0), xR (0, 0, 0), xR (50, 0, 0), xR (90, 0, 0), xR (91, 0, 0), xI i, none, none, none]) ⟨rfl, ⟨rfl, ⟨rfl, ⟨rfl, ⟨rfl, ⟨rfl, trivial⟩⟩⟩⟩⟩⟩ ?_
        exact kont T _ _ lT (by rw [t1, e2.2, hn]) (by omega) (by omega)
  · refine x_aload_n dL_law_372 rfl ?_
    refine x_aload_n dL_law_373 rfl ?_
    refine x_iload dL_law_374 rfl ?_
    refine x_iconst dL_law_376 ?_
    refine x_iadd dL_law_377 ?_
    refine x_alds dL_law_378 hS rfl (by omega) (by omega) (by omega) ?_
    refine x_aload_n dL_law_379 rfl ?_
    refine x_iload dL_law_380 rfl ?_
    refine x_iconst dL_law_382 ?_
    refine x_iadd dL_law_383 ?_
    refine x_alds dL_law_384 hS rfl (by omega) (by omega) (by omega) ?_
    refine x_if_eq (tgt := 392) dL_law_385 (by decide) (zz _) (fun y => absurd y hb) (fun _ => ?_)
    refine x_iconst dL_law_388 ?_
    refine x_goto (tgt := 393) dL_law_389 (by decide) ?_
    refine x_aload_n dL_law_393 rfl ?_
    have hq9 : ∀ v9 D9, R_setUnique S (S.1 (99, 0, 0) (i + 1)) 1 0 v9 D9 → v9 = 0 ∨ v9 = 1 := fun v9 D9 hR => by
      rcases hR with ⟨-, y0, rfl, -⟩ | ⟨y, -⟩
      · exact wfa3 hI.1.1 _
      · exact absurd y (by decide)
    refine x_callSH 6 36 (as := [xR (0, 0, 0), xI (S.1 (99, 0, 0) (i + 1)), xI 1, xR (90, 0, 0)]) (rest := []) ok_L_setUnique dL_law_394 wd696 wd697 (w_setUnique (hp0 S) (S.1 (99, 0, 0) (i + 1)) 1 6 36 (cu_setUnique S hI (S.1 (99, 0, 0) (i + 1)) 1 (zz _) (Or.inr rfl)) (CO.wq (fun _ => hq9))) rfl (Nat.le_of_ble_eq_true rfl) (Nat.le_of_ble_eq_true rfl) (by decide) (by omega) (by omega) (fun h1 qq => ?_) (fun v h1 qq => ?_) (fun E h1 qq => ?_)
    · obtain ⟨_, _, _, _, _, _, y, -⟩ := pW.wo (by decide) qq; cases y
    rotate_left
    · obtain ⟨_, _, _, _, _, _, y, -⟩ := pW.wo (by decide) qq; cases y
    obtain ⟨S1, S2, D9, k9, v9, rfl, y, q1, cb, ho, em, ji, hR, h90⟩ := pW.wo (by decide) qq
    cases y
    have e2 : MdE S S2 := (em.tr (MdE.q q1)).tr ho.md
    have hS2 : hp S2 (99, 0, 0) = some (.inr (0, n, .inl (S.1 (99, 0, 0)))) := by rw [hp99, e2.1 99 0 0 (by decide), e2.2, hn]
    have u2 := usum_e e2 5
    obtain ⟨c9, hc, hm⟩ := mo_setUnique S hI (S.1 (99, 0, 0) (i + 1)) 1 (zz _) (Or.inr rfl) S1 S2 D9 k9 v9 q1 cb ho em ji hR
    refine x_istore (L' := [xR (99, 0, 0), xR (0, 0, 0), xR (50, 0, 0), xR (90, 0, 0), xR (91, 0, 0), xI i, xI (k9 : Int), none, none]) dL_law_397 (by decide) rfl ?_
    refine x_aload_n dL_law_399 rfl ?_
    refine x_aload_n dL_law_400 rfl ?_
    refine x_iload dL_law_401 rfl ?_
    refine x_iconst dL_law_403 ?_
    refine x_iadd dL_law_404 ?_
    refine x_alds dL_law_405 hS2 rfl (by omega) (by omega) (by omega) ?_
    refine x_aload_n dL_law_406 rfl ?_
    refine x_iload dL_law_407 rfl ?_
    refine x_iconst dL_law_409 ?_
    refine x_iadd dL_law_410 ?_
    refine x_alds dL_law_411 hS2 rfl (by omega) (by omega) (by omega) ?_
    refine x_if_eq (tgt := 419) dL_law_412 (by decide) (zz _) (fun y => absurd y hb) (fun _ => ?_)
    refine x_iconst dL_law_415 ?_
    refine x_goto (tgt := 420) dL_law_416 (by decide) ?_
    refine x_callV 20 (c9 + 384) (as := [xI (S.1 (99, 0, 0) (i + 1)), xI 1]) (rest := []) ok_X9_setUnique dL_law_420 wd1291 ⟨wd1292, wd1293⟩ (hp50 S2) rfl rfl hm rfl (Nat.le_of_ble_eq_true rfl) (Nat.le_of_ble_eq_true rfl) (by decide) (by omega) (by omega) (fun h1 qq => ?_) (fun v h1 qq => ?_) (fun E h1 qq => ?_)
    · obtain ⟨_, _, -, y, -⟩ := qq; cases y
    rotate_left
    · obtain ⟨_, _, -, y, -⟩ := qq; cases y
    obtain ⟨T, z9, rfl, y, lT, t1, t2, t3, t4, t25, tv, tu⟩ := qq
    cases y
    have zk : zR (k9 : Int) := t25 ▸ lT.1.1.1 (50, 0, 0) 25
    refine x_istore (L' := [xR (99, 0, 0), xR (0, 0, 0), xR (50, 0, 0), xR (90, 0, 0), xR (91, 0, 0), xI i, xI (k9 : Int), xI z9, none]) dL_law_423 (by decide) rfl ?_
    refine x_aload_n dL_law_425 rfl ?_
    refine x_callV_r (a := 0) (b := 0) (as := []) (rest := []) ok_X9_thrown dL_law_426 wd1191 ⟨wd1192, wd1193⟩ (hp50 T) rfl rfl (m_thrown T lT.1.1) rfl (Nat.le_of_ble_eq_true rfl) (Nat.le_of_ble_eq_true rfl) (by decide) (by omega) (by omega) ?_
    refine x_top (show T.1 (50, 0, 0) 25 = (k9 : Int) from t25) ?_
    refine x_iload dL_law_429 rfl ?_
    refine x_icmp_eq (tgt := 436) dL_law_431 (by decide) zk zk (fun _ => ?_) (fun y => absurd rfl y)
    refine x_iload dL_law_436 rfl ?_
    refine x_if_ne (tgt := 460) dL_law_438 (by decide) zk (fun y => ?_) (fun y => ?_)
    · refine x_goto (tgt := 2700) dL_law_460 (by decide) ?_
      refine X.loc (L' := [xR (99, 0, 0), xR (0, 0, 0), xR (50, 0, 0), xR (90, 0, 0), xR (91, 0, 0), xI i, none, none, none]) ⟨rfl, ⟨rfl, ⟨rfl, ⟨rfl, ⟨rfl, ⟨rfl, trivial⟩⟩⟩⟩⟩⟩ ?_
      exact kont T _ _ lT (by rw [t1, e2.2, hn]) (by omega) (by omega)
    · obtain rfl : k9 = 0 := by omega
      have ez := tv rfl
      subst ez
      refine x_aload_n dL_law_441 rfl ?_
      refine x_iconst dL_law_442 ?_
      refine x_aldj dL_law_443 (hp90 T) (by decide) (by decide) (by decide) (by decide) ?_
      refine x_topJ (show T.2.1 (90, 0, 0) 0 = jI z9 from by rw [t2]; exact h90 rfl) ?_
      refine x_iload dL_law_444 rfl ?_
      have v01 : z9 = 0 ∨ z9 = 1 := hq9 _ _ hR
      rcases v01 with rfl | rfl
      · refine x_if_eq (tgt := 453) dL_law_446 (by decide) ⟨by decide, by decide⟩ (fun _ => ?_) (fun y => absurd rfl y)
        refine x_lconst (v := 0) dL_law_453 (by decide) ?_
        refine x_lcmp dL_law_454 ?_
        refine x_top (lg0.mpr (by decide)) ?_
        refine x_if_eq (tgt := 460) dL_law_455 (by decide) ⟨by decide, by decide⟩ (fun _ => ?_) (fun y => absurd rfl y)
        refine x_goto (tgt := 2700) dL_law_460 (by decide) ?_
        refine X.loc (L' := [xR (99, 0, 0), xR (0, 0, 0), xR (50, 0, 0), xR (90, 0, 0), xR (91, 0, 0), xI i, none, none, none]) ⟨rfl, ⟨rfl, ⟨rfl, ⟨rfl, ⟨rfl, ⟨rfl, trivial⟩⟩⟩⟩⟩⟩ ?_
        exact kont T _ _ lT (by rw [t1, e2.2, hn]) (by omega) (by omega)
      · refine x_if_eq (tgt := 453) dL_law_446 (by decide) ⟨by decide, by decide⟩ (fun y => absurd y (by decide)) (fun _ => ?_)
        refine x_lconst (v := 1) dL_law_449 (by decide) ?_
        refine x_goto (tgt := 454) dL_law_450 (by decide) ?_
        refine x_lcmp dL_law_454 ?_
        refine x_top (lg0.mpr (by decide)) ?_
        refine x_if_eq (tgt := 460) dL_law_455 (by decide) ⟨by decide, by decide⟩ (fun _ => ?_) (fun y => absurd rfl y)
        refine x_goto (tgt := 2700) dL_law_460 (by decide) ?_
        refine X.loc (L' := [xR (99, 0, 0), xR (0, 0, 0), xR (50, 0, 0), xR (90, 0, 0), xR (91, 0, 0), xI i, none, none, none]) ⟨rfl, ⟨rfl, ⟨rfl, ⟨rfl, ⟨rfl, ⟨rfl, trivial⟩⟩⟩⟩⟩⟩ ?_
        exact kont T _ _ lT (by rw [t1, e2.2, hn]) (by omega) (by omega)
