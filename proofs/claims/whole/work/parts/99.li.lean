/-! the law's cases -/
set_option maxHeartbeats 4000000 in
set_option maxRecDepth 100000 in
theorem lc_tell (S : XS) (hI : LwI S) (n : Nat) (hn : S.2.2.2.2.2 = n) (hn2 : n < 1000000) (i : Int) (i0 : 0 ≤ i) (i7 : i + 7 ≤ n) (kc ks : Nat) (hk : 30 ≤ kc) (hs : 82420 ≤ ks + usum S 5) {Q : XO → XH → Prop} (kont : KL n i (kc - 30) (ks + usum S 5 - 500) Q) : X mL_law 188 [xR (99, 0, 0), xR (0, 0, 0), xR (50, 0, 0), xR (90, 0, 0), xR (91, 0, 0), xI i, none, none, none] [] (hp S) kc ks Q := by
  have zz : ∀ j : Int, zR (S.1 (99, 0, 0) j) := fun j => hI.1.1.1 (99, 0, 0) j
  have hS : hp S (99, 0, 0) = some (.inr (0, n, .inl (S.1 (99, 0, 0)))) := by rw [hp99, hn]
  have u0 : usum S 5 ≤ 81920 := usum_le (fun l hl => mrl_gen hI.2.2.1 l hl) 5 (Nat.le_refl _)
  refine x_aload_n dL_law_188 rfl ?_
  refine x_aload_n dL_law_189 rfl ?_
  refine x_iload dL_law_190 rfl ?_
  refine x_iconst dL_law_192 ?_
  refine x_iadd dL_law_193 ?_
  refine x_alds dL_law_194 hS rfl (by omega) (by omega) (by omega) ?_
  refine x_aload_n dL_law_195 rfl ?_
  refine x_iload dL_law_196 rfl ?_
  refine x_iconst dL_law_198 ?_
  refine x_iadd dL_law_199 ?_
  refine x_alds dL_law_200 hS rfl (by omega) (by omega) (by omega) ?_
  refine x_aload_n dL_law_201 rfl ?_
  refine x_iload dL_law_202 rfl ?_
  refine x_iconst dL_law_204 ?_
  refine x_iadd dL_law_205 ?_
  refine x_alds dL_law_206 hS rfl (by omega) (by omega) (by omega) ?_
  refine x_aload_n dL_law_207 rfl ?_
  refine x_iload dL_law_208 rfl ?_
  refine x_iconst dL_law_210 ?_
  refine x_iadd dL_law_211 ?_
  refine x_alds dL_law_212 hS rfl (by omega) (by omega) (by omega) ?_
  refine x_aload_n dL_law_213 rfl ?_
  refine x_callSH 6 36 (as := [xR (0, 0, 0), xI (S.1 (99, 0, 0) (i + 1)), xI (S.1 (99, 0, 0) (i + 2)), xI (S.1 (99, 0, 0) (i + 3)), xI (S.1 (99, 0, 0) (i + 4)), xR (90, 0, 0)]) (rest := []) ok_L_tell dL_law_214 wd484 wd485 (w_tell (hp0 S) (S.1 (99, 0, 0) (i + 1)) (S.1 (99, 0, 0) (i + 2)) (S.1 (99, 0, 0) (i + 3)) (S.1 (99, 0, 0) (i + 4)) 6 36 (cu_tell S hI (S.1 (99, 0, 0) (i + 1)) (S.1 (99, 0, 0) (i + 2)) (S.1 (99, 0, 0) (i + 3)) (S.1 (99, 0, 0) (i + 4)) (zz _) (zz _) (zz _) (zz _)) (CO.wq (fun h => by cases h))) rfl (Nat.le_of_ble_eq_true rfl) (Nat.le_of_ble_eq_true rfl) (by decide) (by omega) (by omega) (fun h1 qq => ?_) (fun v h1 qq => ?_) (fun E h1 qq => ?_)
  · obtain ⟨_, _, _, _, _, _, y, -⟩ := pW.wo (by decide) qq; cases y
  rotate_left
  · obtain ⟨_, _, _, _, _, _, y, -⟩ := pW.wo (by decide) qq; cases y
  obtain ⟨S1, S2, D9, k9, v9, rfl, y, q1, cb, ho, em, ji, hR, h90⟩ := pW.wo (by decide) qq
  cases y
  have e2 : MdE S S2 := (em.tr (MdE.q q1)).tr ho.md
  have hS2 : hp S2 (99, 0, 0) = some (.inr (0, n, .inl (S.1 (99, 0, 0)))) := by rw [hp99, e2.1 99 0 0 (by decide), e2.2, hn]
  have u2 := usum_e e2 5
  obtain ⟨c9, hc, hm⟩ := mo_tell S hI (S.1 (99, 0, 0) (i + 1)) (S.1 (99, 0, 0) (i + 2)) (S.1 (99, 0, 0) (i + 3)) (S.1 (99, 0, 0) (i + 4)) (zz _) (zz _) (zz _) (zz _) S1 S2 D9 k9 v9 q1 cb ho em ji hR
  refine x_istore (L' := [xR (99, 0, 0), xR (0, 0, 0), xR (50, 0, 0), xR (90, 0, 0), xR (91, 0, 0), xI i, xI (k9 : Int), none, none]) dL_law_217 (by decide) rfl ?_
  refine x_aload_n dL_law_219 rfl ?_
  refine x_aload_n dL_law_220 rfl ?_
  refine x_iload dL_law_221 rfl ?_
  refine x_iconst dL_law_223 ?_
  refine x_iadd dL_law_224 ?_
  refine x_alds dL_law_225 hS2 rfl (by omega) (by omega) (by omega) ?_
  refine x_aload_n dL_law_226 rfl ?_
  refine x_iload dL_law_227 rfl ?_
  refine x_iconst dL_law_229 ?_
  refine x_iadd dL_law_230 ?_
  refine x_alds dL_law_231 hS2 rfl (by omega) (by omega) (by omega) ?_
  refine x_aload_n dL_law_232 rfl ?_
  refine x_iload dL_law_233 rfl ?_
  refine x_iconst dL_law_235 ?_
  refine x_iadd dL_law_236 ?_
  refine x_alds dL_law_237 hS2 rfl (by omega) (by omega) (by omega) ?_
  refine x_aload_n dL_law_238 rfl ?_
  refine x_iload dL_law_239 rfl ?_
  refine x_iconst dL_law_241 ?_
  refine x_iadd dL_law_242 ?_
  refine x_alds dL_law_243 hS2 rfl (by omega) (by omega) (by omega) ?_
  refine x_callV 20 (c9 + 384) (as := [xI (S.1 (99, 0, 0) (i + 1)), xI (S.1 (99, 0, 0) (i + 2)), xI (S.1 (99, 0, 0) (i + 3)), xI (S.1 (99, 0, 0) (i + 4))]) (rest := []) ok_X9_tell dL_law_244 wd1200 ⟨wd1201, wd1202⟩ (hp50 S2) rfl rfl hm rfl (Nat.le_of_ble_eq_true rfl) (Nat.le_of_ble_eq_true rfl) (by decide) (by omega) (by omega) (fun h1 qq => ?_) (fun v h1 qq => ?_) (fun E h1 qq => ?_)
  · obtain ⟨_, _, -, y, -⟩ := qq; cases y
  rotate_left
  · obtain ⟨_, _, -, y, -⟩ := qq; cases y
  obtain ⟨T, z9, rfl, y, lT, t1, t2, t3, t4, t25, tv, tu⟩ := qq
  cases y
  have zk : zR (k9 : Int) := t25 ▸ lT.1.1.1 (50, 0, 0) 25
  refine x_istore (L' := [xR (99, 0, 0), xR (0, 0, 0), xR (50, 0, 0), xR (90, 0, 0), xR (91, 0, 0), xI i, xI (k9 : Int), xI z9, none]) dL_law_247 (by decide) rfl ?_
  refine x_aload_n dL_law_249 rfl ?_
  refine x_callV_r (a := 0) (b := 0) (as := []) (rest := []) ok_X9_thrown dL_law_250 wd1196 ⟨wd1197, wd1198⟩ (hp50 T) rfl rfl (m_thrown T lT.1.1) rfl (Nat.le_of_ble_eq_true rfl) (Nat.le_of_ble_eq_true rfl) (by decide) (by omega) (by omega) ?_
  refine x_top (show T.1 (50, 0, 0) 25 = (k9 : Int) from t25) ?_
  refine x_iload dL_law_253 rfl ?_
  refine x_icmp_eq (tgt := 260) dL_law_255 (by decide) zk zk (fun _ => ?_) (fun y => absurd rfl y)
  refine x_iload dL_law_260 rfl ?_
  refine x_if_ne (tgt := 277) dL_law_262 (by decide) zk (fun y => ?_) (fun y => ?_)
  · refine x_goto (tgt := 2700) dL_law_277 (by decide) ?_
    refine X.loc (L' := [xR (99, 0, 0), xR (0, 0, 0), xR (50, 0, 0), xR (90, 0, 0), xR (91, 0, 0), xI i, none, none, none]) ⟨rfl, ⟨rfl, ⟨rfl, ⟨rfl, ⟨rfl, ⟨rfl, trivial⟩⟩⟩⟩⟩⟩ ?_
    exact kont T _ _ lT (by rw [t1, e2.2, hn]) (by omega) (by omega)
  · obtain rfl : k9 = 0 := by omega
    have ez := tv rfl
    subst ez
    refine x_aload_n dL_law_265 rfl ?_
    refine x_iconst dL_law_266 ?_
    refine x_aldj dL_law_267 (hp90 T) (by decide) (by decide) (by decide) (by decide) ?_
    refine x_topJ (show T.2.1 (90, 0, 0) 0 = jI z9 from by rw [t2]; exact h90 rfl) ?_
    refine x_iload dL_law_268 rfl ?_
    refine x_i2l dL_law_270 ?_
    refine x_lcmp dL_law_271 ?_
    refine x_top (lg0.mpr rfl) ?_
    refine x_if_eq (tgt := 277) dL_law_272 (by decide) ⟨by decide, by decide⟩ (fun _ => ?_) (fun y => absurd rfl y)
    refine x_goto (tgt := 2700) dL_law_277 (by decide) ?_
    refine X.loc (L' := [xR (99, 0, 0), xR (0, 0, 0), xR (50, 0, 0), xR (90, 0, 0), xR (91, 0, 0), xI i, none, none, none]) ⟨rfl, ⟨rfl, ⟨rfl, ⟨rfl, ⟨rfl, ⟨rfl, trivial⟩⟩⟩⟩⟩⟩ ?_
    exact kont T _ _ lT (by rw [t1, e2.2, hn]) (by omega) (by omega)
set_option maxHeartbeats 4000000 in
set_option maxRecDepth 100000 in
theorem lc_untell (S : XS) (hI : LwI S) (n : Nat) (hn : S.2.2.2.2.2 = n) (hn2 : n < 1000000) (i : Int) (i0 : 0 ≤ i) (i7 : i + 7 ≤ n) (kc ks : Nat) (hk : 30 ≤ kc) (hs : 82420 ≤ ks + usum S 5) {Q : XO → XH → Prop} (kont : KL n i (kc - 30) (ks + usum S 5 - 500) Q) : X mL_law 280 [xR (99, 0, 0), xR (0, 0, 0), xR (50, 0, 0), xR (90, 0, 0), xR (91, 0, 0), xI i, none, none, none] [] (hp S) kc ks Q := by
  have zz : ∀ j : Int, zR (S.1 (99, 0, 0) j) := fun j => hI.1.1.1 (99, 0, 0) j
  have hS : hp S (99, 0, 0) = some (.inr (0, n, .inl (S.1 (99, 0, 0)))) := by rw [hp99, hn]
  have u0 : usum S 5 ≤ 81920 := usum_le (fun l hl => mrl_gen hI.2.2.1 l hl) 5 (Nat.le_refl _)
  refine x_aload_n dL_law_280 rfl ?_
  refine x_aload_n dL_law_281 rfl ?_
  refine x_iload dL_law_282 rfl ?_
  refine x_iconst dL_law_284 ?_
  refine x_iadd dL_law_285 ?_
  refine x_alds dL_law_286 hS rfl (by omega) (by omega) (by omega) ?_
  refine x_aload_n dL_law_287 rfl ?_
  refine x_iload dL_law_288 rfl ?_
  refine x_iconst dL_law_290 ?_
  refine x_iadd dL_law_291 ?_
  refine x_alds dL_law_292 hS rfl (by omega) (by omega) (by omega) ?_
  refine x_aload_n dL_law_293 rfl ?_
  refine x_iload dL_law_294 rfl ?_
  refine x_iconst dL_law_296 ?_
  refine x_iadd dL_law_297 ?_
  refine x_alds dL_law_298 hS rfl (by omega) (by omega) (by omega) ?_
  refine x_aload_n dL_law_299 rfl ?_
  refine x_iload dL_law_300 rfl ?_
  refine x_iconst dL_law_302 ?_
  refine x_iadd dL_law_303 ?_
  refine x_alds dL_law_304 hS rfl (by omega) (by omega) (by omega) ?_
  refine x_aload_n dL_law_305 rfl ?_
  refine x_callSH 6 36 (as := [xR (0, 0, 0), xI (S.1 (99, 0, 0) (i + 1)), xI (S.1 (99, 0, 0) (i + 2)), xI (S.1 (99, 0, 0) (i + 3)), xI (S.1 (99, 0, 0) (i + 4)), xR (90, 0, 0)]) (rest := []) ok_L_untell dL_law_306 wd689 wd690 (w_untell (hp0 S) (S.1 (99, 0, 0) (i + 1)) (S.1 (99, 0, 0) (i + 2)) (S.1 (99, 0, 0) (i + 3)) (S.1 (99, 0, 0) (i + 4)) 6 36 (cu_untell S hI (S.1 (99, 0, 0) (i + 1)) (S.1 (99, 0, 0) (i + 2)) (S.1 (99, 0, 0) (i + 3)) (S.1 (99, 0, 0) (i + 4)) (zz _) (zz _) (zz _) (zz _)) (CO.wq (fun h => by cases h))) rfl (Nat.le_of_ble_eq_true rfl) (Nat.le_of_ble_eq_true rfl) (by decide) (by omega) (by omega) (fun h1 qq => ?_) (fun v h1 qq => ?_) (fun E h1 qq => ?_)
  · obtain ⟨_, _, _, _, _, _, y, -⟩ := pW.wo (by decide) qq; cases y
  rotate_left
  · obtain ⟨_, _, _, _, _, _, y, -⟩ := pW.wo (by decide) qq; cases y
  obtain ⟨S1, S2, D9, k9, v9, rfl, y, q1, cb, ho, em, ji, hR, h90⟩ := pW.wo (by decide) qq
  cases y
  have e2 : MdE S S2 := (em.tr (MdE.q q1)).tr ho.md
  have hS2 : hp S2 (99, 0, 0) = some (.inr (0, n, .inl (S.1 (99, 0, 0)))) := by rw [hp99, e2.1 99 0 0 (by decide), e2.2, hn]
  have u2 := usum_e e2 5
  obtain ⟨c9, hc, hm⟩ := mo_untell S hI (S.1 (99, 0, 0) (i + 1)) (S.1 (99, 0, 0) (i + 2)) (S.1 (99, 0, 0) (i + 3)) (S.1 (99, 0, 0) (i + 4)) (zz _) (zz _) (zz _) (zz _) S1 S2 D9 k9 v9 q1 cb ho em ji hR
  refine x_istore (L' := [xR (99, 0, 0), xR (0, 0, 0), xR (50, 0, 0), xR (90, 0, 0), xR (91, 0, 0), xI i, xI (k9 : Int), none, none]) dL_law_309 (by decide) rfl ?_
  refine x_aload_n dL_law_311 rfl ?_
  refine x_aload_n dL_law_312 rfl ?_
  refine x_iload dL_law_313 rfl ?_
  refine x_iconst dL_law_315 ?_
  refine x_iadd dL_law_316 ?_
  refine x_alds dL_law_317 hS2 rfl (by omega) (by omega) (by omega) ?_
  refine x_aload_n dL_law_318 rfl ?_
  refine x_iload dL_law_319 rfl ?_
  refine x_iconst dL_law_321 ?_
  refine x_iadd dL_law_322 ?_
  refine x_alds dL_law_323 hS2 rfl (by omega) (by omega) (by omega) ?_
  refine x_aload_n dL_law_324 rfl ?_
  refine x_iload dL_law_325 rfl ?_
  refine x_iconst dL_law_327 ?_
  refine x_iadd dL_law_328 ?_
  refine x_alds dL_law_329 hS2 rfl (by omega) (by omega) (by omega) ?_
  refine x_aload_n dL_law_330 rfl ?_
  refine x_iload dL_law_331 rfl ?_
  refine x_iconst dL_law_333 ?_
  refine x_iadd dL_law_334 ?_
  refine x_alds dL_law_335 hS2 rfl (by omega) (by omega) (by omega) ?_
  refine x_callV 20 (c9 + 384) (as := [xI (S.1 (99, 0, 0) (i + 1)), xI (S.1 (99, 0, 0) (i + 2)), xI (S.1 (99, 0, 0) (i + 3)), xI (S.1 (99, 0, 0) (i + 4))]) (rest := []) ok_X9_untell dL_law_336 wd1292 ⟨wd1293, wd1294⟩ (hp50 S2) rfl rfl hm rfl (Nat.le_of_ble_eq_true rfl) (Nat.le_of_ble_eq_true rfl) (by decide) (by omega) (by omega) (fun h1 qq => ?_) (fun v h1 qq => ?_) (fun E h1 qq => ?_)
  · obtain ⟨_, _, -, y, -⟩ := qq; cases y
  rotate_left
  · obtain ⟨_, _, -, y, -⟩ := qq; cases y
  obtain ⟨T, z9, rfl, y, lT, t1, t2, t3, t4, t25, tv, tu⟩ := qq
  cases y
  have zk : zR (k9 : Int) := t25 ▸ lT.1.1.1 (50, 0, 0) 25
  refine x_istore (L' := [xR (99, 0, 0), xR (0, 0, 0), xR (50, 0, 0), xR (90, 0, 0), xR (91, 0, 0), xI i, xI (k9 : Int), xI z9, none]) dL_law_339 (by decide) rfl ?_
  refine x_aload_n dL_law_341 rfl ?_
  refine x_callV_r (a := 0) (b := 0) (as := []) (rest := []) ok_X9_thrown dL_law_342 wd1196 ⟨wd1197, wd1198⟩ (hp50 T) rfl rfl (m_thrown T lT.1.1) rfl (Nat.le_of_ble_eq_true rfl) (Nat.le_of_ble_eq_true rfl) (by decide) (by omega) (by omega) ?_
  refine x_top (show T.1 (50, 0, 0) 25 = (k9 : Int) from t25) ?_
  refine x_iload dL_law_345 rfl ?_
  refine x_icmp_eq (tgt := 352) dL_law_347 (by decide) zk zk (fun _ => ?_) (fun y => absurd rfl y)
  refine x_iload dL_law_352 rfl ?_
  refine x_if_ne (tgt := 369) dL_law_354 (by decide) zk (fun y => ?_) (fun y => ?_)
  · refine x_goto (tgt := 2700) dL_law_369 (by decide) ?_
    refine X.loc (L' := [xR (99, 0, 0), xR (0, 0, 0), xR (50, 0, 0), xR (90, 0, 0), xR (91, 0, 0), xI i, none, none, none]) ⟨rfl, ⟨rfl, ⟨rfl, ⟨rfl, ⟨rfl, ⟨rfl, trivial⟩⟩⟩⟩⟩⟩ ?_
    exact kont T _ _ lT (by rw [t1, e2.2, hn]) (by omega) (by omega)
  · obtain rfl : k9 = 0 := by omega
    have ez := tv rfl
    subst ez
    refine x_aload_n dL_law_357 rfl ?_
    refine x_iconst dL_law_358 ?_
    refine x_aldj dL_law_359 (hp90 T) (by decide) (by decide) (by decide) (by decide) ?_
    refine x_topJ (show T.2.1 (90, 0, 0) 0 = jI z9 from by rw [t2]; exact h90 rfl) ?_
    refine x_iload dL_law_360 rfl ?_
    refine x_i2l dL_law_362 ?_
    refine x_lcmp dL_law_363 ?_
    refine x_top (lg0.mpr rfl) ?_
    refine x_if_eq (tgt := 369) dL_law_364 (by decide) ⟨by decide, by decide⟩ (fun _ => ?_) (fun y => absurd rfl y)
    refine x_goto (tgt := 2700) dL_law_369 (by decide) ?_
    refine X.loc (L' := [xR (99, 0, 0), xR (0, 0, 0), xR (50, 0, 0), xR (90, 0, 0), xR (91, 0, 0), xI i, none, none, none]) ⟨rfl, ⟨rfl, ⟨rfl, ⟨rfl, ⟨rfl, ⟨rfl, trivial⟩⟩⟩⟩⟩⟩ ?_
    exact kont T _ _ lT (by rw [t1, e2.2, hn]) (by omega) (by omega)
set_option maxHeartbeats 4000000 in
set_option maxRecDepth 100000 in
theorem lc_setUnique (S : XS) (hI : LwI S) (n : Nat) (hn : S.2.2.2.2.2 = n) (hn2 : n < 1000000) (i : Int) (i0 : 0 ≤ i) (i7 : i + 7 ≤ n) (kc ks : Nat) (hk : 30 ≤ kc) (hs : 82420 ≤ ks + usum S 5) {Q : XO → XH → Prop} (kont : KL n i (kc - 30) (ks + usum S 5 - 500) Q) : X mL_law 372 [xR (99, 0, 0), xR (0, 0, 0), xR (50, 0, 0), xR (90, 0, 0), xR (91, 0, 0), xI i, none, none, none] [] (hp S) kc ks Q := by
  have zz : ∀ j : Int, zR (S.1 (99, 0, 0) j) := fun j => hI.1.1.1 (99, 0, 0) j
  have hS : hp S (99, 0, 0) = some (.inr (0, n, .inl (S.1 (99, 0, 0)))) := by rw [hp99, hn]
  have u0 : usum S 5 ≤ 81920 := usum_le (fun l hl => mrl_gen hI.2.2.1 l hl) 5 (Nat.le_refl _)
  by_cases hb : S.1 (99, 0, 0) (i + 2) = 0
  · refine x_aload_n dL_law_372 rfl ?_
    refine x_aload_n dL_law_373 rfl ?_
    refine x_iload dL_law_374 rfl ?_
    refine x_iconst dL_law_376 ?_
    refine x_iadd dL_law_377 ?_
    refine x_alds dL_law_378 hS rfl (by omega) (by omega) (by omega) ?_
    refine x_aload_n dL_law_379 rfl ?_
    refine x_iload dL_law_380 rfl ?_
    refine x_iconst dL_law_382 ?_
    refine x_iadd dL_law_383 ?_
    refine x_alds dL_law_384 hS rfl (by omega) (by omega) (by omega) ?_
    refine x_if_eq (tgt := 392) dL_law_385 (by decide) (zz _) (fun _ => ?_) (fun y => absurd hb y)
    refine x_iconst dL_law_392 ?_
    refine x_aload_n dL_law_393 rfl ?_
    have hq9 : ∀ v9 D9, R_setUnique S (S.1 (99, 0, 0) (i + 1)) 0 0 v9 D9 → v9 = 0 ∨ v9 = 1 := fun v9 D9 hR => by
      rcases hR with ⟨-, y0, rfl, -⟩ | ⟨y, -⟩
      · exact wfa3 hI.1.1 _
      · exact absurd y (by decide)
    refine x_callSH 6 36 (as := [xR (0, 0, 0), xI (S.1 (99, 0, 0) (i + 1)), xI 0, xR (90, 0, 0)]) (rest := []) ok_L_setUnique dL_law_394 wd696 wd697 (w_setUnique (hp0 S) (S.1 (99, 0, 0) (i + 1)) 0 6 36 (cu_setUnique S hI (S.1 (99, 0, 0) (i + 1)) 0 (zz _) (Or.inl rfl)) (CO.wq (fun _ => hq9))) rfl (Nat.le_of_ble_eq_true rfl) (Nat.le_of_ble_eq_true rfl) (by decide) (by omega) (by omega) (fun h1 qq => ?_) (fun v h1 qq => ?_) (fun E h1 qq => ?_)
    · obtain ⟨_, _, _, _, _, _, y, -⟩ := pW.wo (by decide) qq; cases y
    rotate_left
    · obtain ⟨_, _, _, _, _, _, y, -⟩ := pW.wo (by decide) qq; cases y
    obtain ⟨S1, S2, D9, k9, v9, rfl, y, q1, cb, ho, em, ji, hR, h90⟩ := pW.wo (by decide) qq
    cases y
    have e2 : MdE S S2 := (em.tr (MdE.q q1)).tr ho.md
    have hS2 : hp S2 (99, 0, 0) = some (.inr (0, n, .inl (S.1 (99, 0, 0)))) := by rw [hp99, e2.1 99 0 0 (by decide), e2.2, hn]
    have u2 := usum_e e2 5
    obtain ⟨c9, hc, hm⟩ := mo_setUnique S hI (S.1 (99, 0, 0) (i + 1)) 0 (zz _) (Or.inl rfl) S1 S2 D9 k9 v9 q1 cb ho em ji hR
    refine x_istore (L' := [xR (99, 0, 0), xR (0, 0, 0), xR (50, 0, 0), xR (90, 0, 0), xR (91, 0, 0), xI i, xI (k9 : Int), none, none]) dL_law_397 (by decide) rfl ?_
    refine x_aload_n dL_law_399 rfl ?_
    refine x_aload_n dL_law_400 rfl ?_
    refine x_iload dL_law_401 rfl ?_
    refine x_iconst dL_law_403 ?_
    refine x_iadd dL_law_404 ?_
    refine x_alds dL_law_405 hS2 rfl (by omega) (by omega) (by omega) ?_
    refine x_aload_n dL_law_406 rfl ?_
    refine x_iload dL_law_407 rfl ?_
    refine x_iconst dL_law_409 ?_
    refine x_iadd dL_law_410 ?_
    refine x_alds dL_law_411 hS2 rfl (by omega) (by omega) (by omega) ?_
    refine x_if_eq (tgt := 419) dL_law_412 (by decide) (zz _) (fun _ => ?_) (fun y => absurd hb y)
    refine x_iconst dL_law_419 ?_
    refine x_callV 20 (c9 + 384) (as := [xI (S.1 (99, 0, 0) (i + 1)), xI 0]) (rest := []) ok_X9_setUnique dL_law_420 wd1296 ⟨wd1297, wd1298⟩ (hp50 S2) rfl rfl hm rfl (Nat.le_of_ble_eq_true rfl) (Nat.le_of_ble_eq_true rfl) (by decide) (by omega) (by omega) (fun h1 qq => ?_) (fun v h1 qq => ?_) (fun E h1 qq => ?_)
    · obtain ⟨_, _, -, y, -⟩ := qq; cases y
    rotate_left
    · obtain ⟨_, _, -, y, -⟩ := qq; cases y
    obtain ⟨T, z9, rfl, y, lT, t1, t2, t3, t4, t25, tv, tu⟩ := qq
    cases y
    have zk : zR (k9 : Int) := t25 ▸ lT.1.1.1 (50, 0, 0) 25
    refine x_istore (L' := [xR (99, 0, 0), xR (0, 0, 0), xR (50, 0, 0), xR (90, 0, 0), xR (91, 0, 0), xI i, xI (k9 : Int), xI z9, none]) dL_law_423 (by decide) rfl ?_
    refine x_aload_n dL_law_425 rfl ?_
    refine x_callV_r (a := 0) (b := 0) (as := []) (rest := []) ok_X9_thrown dL_law_426 wd1196 ⟨wd1197, wd1198⟩ (hp50 T) rfl rfl (m_thrown T lT.1.1) rfl (Nat.le_of_ble_eq_true rfl) (Nat.le_of_ble_eq_true rfl) (by decide) (by omega) (by omega) ?_
    refine x_top (show T.1 (50, 0, 0) 25 = (k9 : Int) from t25) ?_
    refine x_iload dL_law_429 rfl ?_
    refine x_icmp_eq (tgt := 436) dL_law_431 (by decide) zk zk (fun _ => ?_) (fun y => absurd rfl y)
    refine x_iload dL_law_436 rfl ?_
    refine x_if_ne (tgt := 460) dL_law_438 (by decide) zk (fun y => ?_) (fun y => ?_)
    · refine x_goto (tgt := 2700) dL_law_460 (by decide) ?_
      refine X.loc (L' := [xR (99, 0, 0), xR (0, 0, 0), xR (50, 0, 0), xR (90, 0, 0), xR (91, 0, 0), xI i, none, none, none]) ⟨rfl, ⟨rfl, ⟨rfl, ⟨rfl, ⟨rfl, ⟨rfl, trivial⟩⟩⟩⟩⟩⟩ ?_
      exact kont T _ _ lT (by rw [t1, e2.2, hn]) (by omega) (by omega)
    · obtain rfl : k9 = 0 := by omega
      have ez := tv rfl
      subst ez
      refine x_aload_n dL_law_441 rfl ?_
      refine x_iconst dL_law_442 ?_
      refine x_aldj dL_law_443 (hp90 T) (by decide) (by decide) (by decide) (by decide) ?_
      refine x_topJ (show T.2.1 (90, 0, 0) 0 = jI z9 from by rw [t2]; exact h90 rfl) ?_
      refine x_iload dL_law_444 rfl ?_
      have v01 : z9 = 0 ∨ z9 = 1 := hq9 _ _ hR
      rcases v01 with rfl | rfl
      · refine x_if_eq (tgt := 453) dL_law_446 (by decide) ⟨by decide, by decide⟩ (fun _ => ?_) (fun y => absurd rfl y)
        refine x_lconst (v := 0) dL_law_453 (by decide) ?_
        refine x_lcmp dL_law_454 ?_
        refine x_top (lg0.mpr (by decide)) ?_
        refine x_if_eq (tgt := 460) dL_law_455 (by decide) ⟨by decide, by decide⟩ (fun _ => ?_) (fun y => absurd rfl y)
        refine x_goto (tgt := 2700) dL_law_460 (by decide) ?_
        refine X.loc (L' := [xR (99, 0, 0), xR (0, 0, 0), xR (50, 0, 0), xR (90, 0, 0), xR (91, 0, 0), xI i, none, none, none]) ⟨rfl, ⟨rfl, ⟨rfl, ⟨rfl, ⟨rfl, ⟨rfl, trivial⟩⟩⟩⟩⟩⟩ ?_
        exact kont T _ _ lT (by rw [t1, e2.2, hn]) (by omega) (by omega)
      · refine x_if_eq (tgt := 453) dL_law_446 (by decide) ⟨by decide, by decide⟩ (fun y => absurd y (by decide)) (fun _ => ?_)
        refine x_lconst (v := 1) dL_law_449 (by decide) ?_
        refine x_goto (tgt := 454) dL_law_450 (by decide) ?_
        refine x_lcmp dL_law_454 ?_
        refine x_top (lg0.mpr (by decide)) ?_
        refine x_if_eq (tgt := 460) dL_law_455 (by decide) ⟨by decide, by decide⟩ (fun _ => ?_) (fun y => absurd rfl y)
        refine x_goto (tgt := 2700) dL_law_460 (by decide) ?_
        refine X.loc (L' := [xR (99, 0, 0), xR (0, 0, 0), xR (50, 0, 0), xR (90, 0, 0), xR (91, 0, 0), xI i, none, none, none]) ⟨rfl, ⟨rfl, ⟨rfl, ⟨rfl, ⟨rfl, ⟨rfl, trivial⟩⟩⟩⟩⟩⟩ ?_
        exact kont T _ _ lT (by rw [t1, e2.2, hn]) (by omega) (by omega)
  · refine x_aload_n dL_law_372 rfl ?_
    refine x_aload_n dL_law_373 rfl ?_
    refine x_iload dL_law_374 rfl ?_
    refine x_iconst dL_law_376 ?_
    refine x_iadd dL_law_377 ?_
    refine x_alds dL_law_378 hS rfl (by omega) (by omega) (by omega) ?_
    refine x_aload_n dL_law_379 rfl ?_
    refine x_iload dL_law_380 rfl ?_
    refine x_iconst dL_law_382 ?_
    refine x_iadd dL_law_383 ?_
    refine x_alds dL_law_384 hS rfl (by omega) (by omega) (by omega) ?_
    refine x_if_eq (tgt := 392) dL_law_385 (by decide) (zz _) (fun y => absurd y hb) (fun _ => ?_)
    refine x_iconst dL_law_388 ?_
    refine x_goto (tgt := 393) dL_law_389 (by decide) ?_
    refine x_aload_n dL_law_393 rfl ?_
    have hq9 : ∀ v9 D9, R_setUnique S (S.1 (99, 0, 0) (i + 1)) 1 0 v9 D9 → v9 = 0 ∨ v9 = 1 := fun v9 D9 hR => by
      rcases hR with ⟨-, y0, rfl, -⟩ | ⟨y, -⟩
      · exact wfa3 hI.1.1 _
      · exact absurd y (by decide)
    refine x_callSH 6 36 (as := [xR (0, 0, 0), xI (S.1 (99, 0, 0) (i + 1)), xI 1, xR (90, 0, 0)]) (rest := []) ok_L_setUnique dL_law_394 wd696 wd697 (w_setUnique (hp0 S) (S.1 (99, 0, 0) (i + 1)) 1 6 36 (cu_setUnique S hI (S.1 (99, 0, 0) (i + 1)) 1 (zz _) (Or.inr rfl)) (CO.wq (fun _ => hq9))) rfl (Nat.le_of_ble_eq_true rfl) (Nat.le_of_ble_eq_true rfl) (by decide) (by omega) (by omega) (fun h1 qq => ?_) (fun v h1 qq => ?_) (fun E h1 qq => ?_)
    · obtain ⟨_, _, _, _, _, _, y, -⟩ := pW.wo (by decide) qq; cases y
    rotate_left
    · obtain ⟨_, _, _, _, _, _, y, -⟩ := pW.wo (by decide) qq; cases y
    obtain ⟨S1, S2, D9, k9, v9, rfl, y, q1, cb, ho, em, ji, hR, h90⟩ := pW.wo (by decide) qq
    cases y
    have e2 : MdE S S2 := (em.tr (MdE.q q1)).tr ho.md
    have hS2 : hp S2 (99, 0, 0) = some (.inr (0, n, .inl (S.1 (99, 0, 0)))) := by rw [hp99, e2.1 99 0 0 (by decide), e2.2, hn]
    have u2 := usum_e e2 5
    obtain ⟨c9, hc, hm⟩ := mo_setUnique S hI (S.1 (99, 0, 0) (i + 1)) 1 (zz _) (Or.inr rfl) S1 S2 D9 k9 v9 q1 cb ho em ji hR
    refine x_istore (L' := [xR (99, 0, 0), xR (0, 0, 0), xR (50, 0, 0), xR (90, 0, 0), xR (91, 0, 0), xI i, xI (k9 : Int), none, none]) dL_law_397 (by decide) rfl ?_
    refine x_aload_n dL_law_399 rfl ?_
    refine x_aload_n dL_law_400 rfl ?_
    refine x_iload dL_law_401 rfl ?_
    refine x_iconst dL_law_403 ?_
    refine x_iadd dL_law_404 ?_
    refine x_alds dL_law_405 hS2 rfl (by omega) (by omega) (by omega) ?_
    refine x_aload_n dL_law_406 rfl ?_
    refine x_iload dL_law_407 rfl ?_
    refine x_iconst dL_law_409 ?_
    refine x_iadd dL_law_410 ?_
    refine x_alds dL_law_411 hS2 rfl (by omega) (by omega) (by omega) ?_
    refine x_if_eq (tgt := 419) dL_law_412 (by decide) (zz _) (fun y => absurd y hb) (fun _ => ?_)
    refine x_iconst dL_law_415 ?_
    refine x_goto (tgt := 420) dL_law_416 (by decide) ?_
    refine x_callV 20 (c9 + 384) (as := [xI (S.1 (99, 0, 0) (i + 1)), xI 1]) (rest := []) ok_X9_setUnique dL_law_420 wd1296 ⟨wd1297, wd1298⟩ (hp50 S2) rfl rfl hm rfl (Nat.le_of_ble_eq_true rfl) (Nat.le_of_ble_eq_true rfl) (by decide) (by omega) (by omega) (fun h1 qq => ?_) (fun v h1 qq => ?_) (fun E h1 qq => ?_)
    · obtain ⟨_, _, -, y, -⟩ := qq; cases y
    rotate_left
    · obtain ⟨_, _, -, y, -⟩ := qq; cases y
    obtain ⟨T, z9, rfl, y, lT, t1, t2, t3, t4, t25, tv, tu⟩ := qq
    cases y
    have zk : zR (k9 : Int) := t25 ▸ lT.1.1.1 (50, 0, 0) 25
    refine x_istore (L' := [xR (99, 0, 0), xR (0, 0, 0), xR (50, 0, 0), xR (90, 0, 0), xR (91, 0, 0), xI i, xI (k9 : Int), xI z9, none]) dL_law_423 (by decide) rfl ?_
    refine x_aload_n dL_law_425 rfl ?_
    refine x_callV_r (a := 0) (b := 0) (as := []) (rest := []) ok_X9_thrown dL_law_426 wd1196 ⟨wd1197, wd1198⟩ (hp50 T) rfl rfl (m_thrown T lT.1.1) rfl (Nat.le_of_ble_eq_true rfl) (Nat.le_of_ble_eq_true rfl) (by decide) (by omega) (by omega) ?_
    refine x_top (show T.1 (50, 0, 0) 25 = (k9 : Int) from t25) ?_
    refine x_iload dL_law_429 rfl ?_
    refine x_icmp_eq (tgt := 436) dL_law_431 (by decide) zk zk (fun _ => ?_) (fun y => absurd rfl y)
    refine x_iload dL_law_436 rfl ?_
    refine x_if_ne (tgt := 460) dL_law_438 (by decide) zk (fun y => ?_) (fun y => ?_)
    · refine x_goto (tgt := 2700) dL_law_460 (by decide) ?_
      refine X.loc (L' := [xR (99, 0, 0), xR (0, 0, 0), xR (50, 0, 0), xR (90, 0, 0), xR (91, 0, 0), xI i, none, none, none]) ⟨rfl, ⟨rfl, ⟨rfl, ⟨rfl, ⟨rfl, ⟨rfl, trivial⟩⟩⟩⟩⟩⟩ ?_
      exact kont T _ _ lT (by rw [t1, e2.2, hn]) (by omega) (by omega)
    · obtain rfl : k9 = 0 := by omega
      have ez := tv rfl
      subst ez
      refine x_aload_n dL_law_441 rfl ?_
      refine x_iconst dL_law_442 ?_
      refine x_aldj dL_law_443 (hp90 T) (by decide) (by decide) (by decide) (by decide) ?_
      refine x_topJ (show T.2.1 (90, 0, 0) 0 = jI z9 from by rw [t2]; exact h90 rfl) ?_
      refine x_iload dL_law_444 rfl ?_
      have v01 : z9 = 0 ∨ z9 = 1 := hq9 _ _ hR
      rcases v01 with rfl | rfl
      · refine x_if_eq (tgt := 453) dL_law_446 (by decide) ⟨by decide, by decide⟩ (fun _ => ?_) (fun y => absurd rfl y)
        refine x_lconst (v := 0) dL_law_453 (by decide) ?_
        refine x_lcmp dL_law_454 ?_
        refine x_top (lg0.mpr (by decide)) ?_
        refine x_if_eq (tgt := 460) dL_law_455 (by decide) ⟨by decide, by decide⟩ (fun _ => ?_) (fun y => absurd rfl y)
        refine x_goto (tgt := 2700) dL_law_460 (by decide) ?_
        refine X.loc (L' := [xR (99, 0, 0), xR (0, 0, 0), xR (50, 0, 0), xR (90, 0, 0), xR (91, 0, 0), xI i, none, none, none]) ⟨rfl, ⟨rfl, ⟨rfl, ⟨rfl, ⟨rfl, ⟨rfl, trivial⟩⟩⟩⟩⟩⟩ ?_
        exact kont T _ _ lT (by rw [t1, e2.2, hn]) (by omega) (by omega)
      · refine x_if_eq (tgt := 453) dL_law_446 (by decide) ⟨by decide, by decide⟩ (fun y => absurd y (by decide)) (fun _ => ?_)
        refine x_lconst (v := 1) dL_law_449 (by decide) ?_
        refine x_goto (tgt := 454) dL_law_450 (by decide) ?_
        refine x_lcmp dL_law_454 ?_
        refine x_top (lg0.mpr (by decide)) ?_
        refine x_if_eq (tgt := 460) dL_law_455 (by decide) ⟨by decide, by decide⟩ (fun _ => ?_) (fun y => absurd rfl y)
        refine x_goto (tgt := 2700) dL_law_460 (by decide) ?_
        refine X.loc (L' := [xR (99, 0, 0), xR (0, 0, 0), xR (50, 0, 0), xR (90, 0, 0), xR (91, 0, 0), xI i, none, none, none]) ⟨rfl, ⟨rfl, ⟨rfl, ⟨rfl, ⟨rfl, ⟨rfl, trivial⟩⟩⟩⟩⟩⟩ ?_
        exact kont T _ _ lT (by rw [t1, e2.2, hn]) (by omega) (by omega)
set_option maxHeartbeats 4000000 in
set_option maxRecDepth 100000 in
theorem lc_addRule (S : XS) (hI : LwI S) (n : Nat) (hn : S.2.2.2.2.2 = n) (hn2 : n < 1000000) (i : Int) (i0 : 0 ≤ i) (i7 : i + 7 ≤ n) (kc ks : Nat) (hk : 30 ≤ kc) (hs : 82420 ≤ ks + usum S 5) {Q : XO → XH → Prop} (kont : KL n i (kc - 30) (ks + usum S 5 - 500) Q) : X mL_law 463 [xR (99, 0, 0), xR (0, 0, 0), xR (50, 0, 0), xR (90, 0, 0), xR (91, 0, 0), xI i, none, none, none] [] (hp S) kc ks Q := by
  have zz : ∀ j : Int, zR (S.1 (99, 0, 0) j) := fun j => hI.1.1.1 (99, 0, 0) j
  have hS : hp S (99, 0, 0) = some (.inr (0, n, .inl (S.1 (99, 0, 0)))) := by rw [hp99, hn]
  have u0 : usum S 5 ≤ 81920 := usum_le (fun l hl => mrl_gen hI.2.2.1 l hl) 5 (Nat.le_refl _)
  refine x_aload_n dL_law_463 rfl ?_
  refine x_aload_n dL_law_464 rfl ?_
  refine x_iload dL_law_465 rfl ?_
  refine x_iconst dL_law_467 ?_
  refine x_iadd dL_law_468 ?_
  refine x_alds dL_law_469 hS rfl (by omega) (by omega) (by omega) ?_
  refine x_aload_n dL_law_470 rfl ?_
  refine x_iload dL_law_471 rfl ?_
  refine x_iconst dL_law_473 ?_
  refine x_iadd dL_law_474 ?_
  refine x_alds dL_law_475 hS rfl (by omega) (by omega) (by omega) ?_
  refine x_aload_n dL_law_476 rfl ?_
  refine x_iload dL_law_477 rfl ?_
  refine x_iconst dL_law_479 ?_
  refine x_iadd dL_law_480 ?_
  refine x_alds dL_law_481 hS rfl (by omega) (by omega) (by omega) ?_
  refine x_aload_n dL_law_482 rfl ?_
  refine x_iload dL_law_483 rfl ?_
  refine x_iconst dL_law_485 ?_
  refine x_iadd dL_law_486 ?_
  refine x_alds dL_law_487 hS rfl (by omega) (by omega) (by omega) ?_
  refine x_aload_n dL_law_488 rfl ?_
  refine x_iload dL_law_489 rfl ?_
  refine x_iconst dL_law_491 ?_
  refine x_iadd dL_law_492 ?_
  refine x_alds dL_law_493 hS rfl (by omega) (by omega) (by omega) ?_
  refine x_aload_n dL_law_494 rfl ?_
  refine x_iload dL_law_495 rfl ?_
  refine x_bipush (v := 6) dL_law_497 (by decide) ?_
  refine x_iadd dL_law_499 ?_
  refine x_alds dL_law_500 hS rfl (by omega) (by omega) (by omega) ?_
  refine x_aload_n dL_law_501 rfl ?_
  refine x_callSH 6 36 (as := [xR (0, 0, 0), xI (S.1 (99, 0, 0) (i + 1)), xI (S.1 (99, 0, 0) (i + 2)), xI (S.1 (99, 0, 0) (i + 3)), xI (S.1 (99, 0, 0) (i + 4)), xI (S.1 (99, 0, 0) (i + 5)), xI (S.1 (99, 0, 0) (i + 6)), xR (90, 0, 0)]) (rest := []) ok_L_addRule dL_law_502 wd707 wd708 (w_addRule (hp0 S) (S.1 (99, 0, 0) (i + 1)) (S.1 (99, 0, 0) (i + 2)) (S.1 (99, 0, 0) (i + 3)) (S.1 (99, 0, 0) (i + 4)) (S.1 (99, 0, 0) (i + 5)) (S.1 (99, 0, 0) (i + 6)) 6 36 (cu_addRule S hI (S.1 (99, 0, 0) (i + 1)) (S.1 (99, 0, 0) (i + 2)) (S.1 (99, 0, 0) (i + 3)) (S.1 (99, 0, 0) (i + 4)) (S.1 (99, 0, 0) (i + 5)) (S.1 (99, 0, 0) (i + 6)) (zz _) (zz _) (zz _) (zz _) (zz _) (zz _)) (CO.wq (fun h => by cases h))) rfl (Nat.le_of_ble_eq_true rfl) (Nat.le_of_ble_eq_true rfl) (by decide) (by omega) (by omega) (fun h1 qq => ?_) (fun v h1 qq => ?_) (fun E h1 qq => ?_)
  · obtain ⟨_, _, _, _, _, _, y, -⟩ := pW.wo (by decide) qq; cases y
  rotate_left
  · obtain ⟨_, _, _, _, _, _, y, -⟩ := pW.wo (by decide) qq; cases y
  obtain ⟨S1, S2, D9, k9, v9, rfl, y, q1, cb, ho, em, ji, hR, h90⟩ := pW.wo (by decide) qq
  cases y
  have e2 : MdE S S2 := (em.tr (MdE.q q1)).tr ho.md
  have hS2 : hp S2 (99, 0, 0) = some (.inr (0, n, .inl (S.1 (99, 0, 0)))) := by rw [hp99, e2.1 99 0 0 (by decide), e2.2, hn]
  have u2 := usum_e e2 5
  obtain ⟨c9, hc, hm⟩ := mo_addRule S hI (S.1 (99, 0, 0) (i + 1)) (S.1 (99, 0, 0) (i + 2)) (S.1 (99, 0, 0) (i + 3)) (S.1 (99, 0, 0) (i + 4)) (S.1 (99, 0, 0) (i + 5)) (S.1 (99, 0, 0) (i + 6)) (zz _) (zz _) (zz _) (zz _) (zz _) (zz _) S1 S2 D9 k9 v9 q1 cb ho em ji hR
  refine x_istore (L' := [xR (99, 0, 0), xR (0, 0, 0), xR (50, 0, 0), xR (90, 0, 0), xR (91, 0, 0), xI i, xI (k9 : Int), none, none]) dL_law_505 (by decide) rfl ?_
  refine x_aload_n dL_law_507 rfl ?_
  refine x_aload_n dL_law_508 rfl ?_
  refine x_iload dL_law_509 rfl ?_
  refine x_iconst dL_law_511 ?_
  refine x_iadd dL_law_512 ?_
  refine x_alds dL_law_513 hS2 rfl (by omega) (by omega) (by omega) ?_
  refine x_aload_n dL_law_514 rfl ?_
  refine x_iload dL_law_515 rfl ?_
  refine x_iconst dL_law_517 ?_
  refine x_iadd dL_law_518 ?_
  refine x_alds dL_law_519 hS2 rfl (by omega) (by omega) (by omega) ?_
  refine x_aload_n dL_law_520 rfl ?_
  refine x_iload dL_law_521 rfl ?_
  refine x_iconst dL_law_523 ?_
  refine x_iadd dL_law_524 ?_
  refine x_alds dL_law_525 hS2 rfl (by omega) (by omega) (by omega) ?_
  refine x_aload_n dL_law_526 rfl ?_
  refine x_iload dL_law_527 rfl ?_
  refine x_iconst dL_law_529 ?_
  refine x_iadd dL_law_530 ?_
  refine x_alds dL_law_531 hS2 rfl (by omega) (by omega) (by omega) ?_
  refine x_aload_n dL_law_532 rfl ?_
  refine x_iload dL_law_533 rfl ?_
  refine x_iconst dL_law_535 ?_
  refine x_iadd dL_law_536 ?_
  refine x_alds dL_law_537 hS2 rfl (by omega) (by omega) (by omega) ?_
  refine x_aload_n dL_law_538 rfl ?_
  refine x_iload dL_law_539 rfl ?_
  refine x_bipush (v := 6) dL_law_541 (by decide) ?_
  refine x_iadd dL_law_543 ?_
  refine x_alds dL_law_544 hS2 rfl (by omega) (by omega) (by omega) ?_
  refine x_callV 20 (c9 + 384) (as := [xI (S.1 (99, 0, 0) (i + 1)), xI (S.1 (99, 0, 0) (i + 2)), xI (S.1 (99, 0, 0) (i + 3)), xI (S.1 (99, 0, 0) (i + 4)), xI (S.1 (99, 0, 0) (i + 5)), xI (S.1 (99, 0, 0) (i + 6))]) (rest := []) ok_X9_addRule dL_law_545 wd1300 ⟨wd1301, wd1302⟩ (hp50 S2) rfl rfl hm rfl (Nat.le_of_ble_eq_true rfl) (Nat.le_of_ble_eq_true rfl) (by decide) (by omega) (by omega) (fun h1 qq => ?_) (fun v h1 qq => ?_) (fun E h1 qq => ?_)
  · obtain ⟨_, _, -, y, -⟩ := qq; cases y
  rotate_left
  · obtain ⟨_, _, -, y, -⟩ := qq; cases y
  obtain ⟨T, z9, rfl, y, lT, t1, t2, t3, t4, t25, tv, tu⟩ := qq
  cases y
  have zk : zR (k9 : Int) := t25 ▸ lT.1.1.1 (50, 0, 0) 25
  refine x_istore (L' := [xR (99, 0, 0), xR (0, 0, 0), xR (50, 0, 0), xR (90, 0, 0), xR (91, 0, 0), xI i, xI (k9 : Int), xI z9, none]) dL_law_548 (by decide) rfl ?_
  refine x_aload_n dL_law_550 rfl ?_
  refine x_callV_r (a := 0) (b := 0) (as := []) (rest := []) ok_X9_thrown dL_law_551 wd1196 ⟨wd1197, wd1198⟩ (hp50 T) rfl rfl (m_thrown T lT.1.1) rfl (Nat.le_of_ble_eq_true rfl) (Nat.le_of_ble_eq_true rfl) (by decide) (by omega) (by omega) ?_
  refine x_top (show T.1 (50, 0, 0) 25 = (k9 : Int) from t25) ?_
  refine x_iload dL_law_554 rfl ?_
  refine x_icmp_eq (tgt := 561) dL_law_556 (by decide) zk zk (fun _ => ?_) (fun y => absurd rfl y)
  refine x_iload dL_law_561 rfl ?_
  refine x_if_ne (tgt := 578) dL_law_563 (by decide) zk (fun y => ?_) (fun y => ?_)
  · refine x_goto (tgt := 2700) dL_law_578 (by decide) ?_
    refine X.loc (L' := [xR (99, 0, 0), xR (0, 0, 0), xR (50, 0, 0), xR (90, 0, 0), xR (91, 0, 0), xI i, none, none, none]) ⟨rfl, ⟨rfl, ⟨rfl, ⟨rfl, ⟨rfl, ⟨rfl, trivial⟩⟩⟩⟩⟩⟩ ?_
    exact kont T _ _ lT (by rw [t1, e2.2, hn]) (by omega) (by omega)
  · obtain rfl : k9 = 0 := by omega
    have ez := tv rfl
    subst ez
    refine x_aload_n dL_law_566 rfl ?_
    refine x_iconst dL_law_567 ?_
    refine x_aldj dL_law_568 (hp90 T) (by decide) (by decide) (by decide) (by decide) ?_
    refine x_topJ (show T.2.1 (90, 0, 0) 0 = jI z9 from by rw [t2]; exact h90 rfl) ?_
    refine x_iload dL_law_569 rfl ?_
    refine x_i2l dL_law_571 ?_
    refine x_lcmp dL_law_572 ?_
    refine x_top (lg0.mpr rfl) ?_
    refine x_if_eq (tgt := 578) dL_law_573 (by decide) ⟨by decide, by decide⟩ (fun _ => ?_) (fun y => absurd rfl y)
    refine x_goto (tgt := 2700) dL_law_578 (by decide) ?_
    refine X.loc (L' := [xR (99, 0, 0), xR (0, 0, 0), xR (50, 0, 0), xR (90, 0, 0), xR (91, 0, 0), xI i, none, none, none]) ⟨rfl, ⟨rfl, ⟨rfl, ⟨rfl, ⟨rfl, ⟨rfl, trivial⟩⟩⟩⟩⟩⟩ ?_
    exact kont T _ _ lT (by rw [t1, e2.2, hn]) (by omega) (by omega)
set_option maxHeartbeats 4000000 in
set_option maxRecDepth 100000 in
theorem lc_addCondition (S : XS) (hI : LwI S) (n : Nat) (hn : S.2.2.2.2.2 = n) (hn2 : n < 1000000) (i : Int) (i0 : 0 ≤ i) (i7 : i + 7 ≤ n) (kc ks : Nat) (hk : 30 ≤ kc) (hs : 82420 ≤ ks + usum S 5) {Q : XO → XH → Prop} (kont : KL n i (kc - 30) (ks + usum S 5 - 500) Q) : X mL_law 581 [xR (99, 0, 0), xR (0, 0, 0), xR (50, 0, 0), xR (90, 0, 0), xR (91, 0, 0), xI i, none, none, none] [] (hp S) kc ks Q := by
  have zz : ∀ j : Int, zR (S.1 (99, 0, 0) j) := fun j => hI.1.1.1 (99, 0, 0) j
  have hS : hp S (99, 0, 0) = some (.inr (0, n, .inl (S.1 (99, 0, 0)))) := by rw [hp99, hn]
  have u0 : usum S 5 ≤ 81920 := usum_le (fun l hl => mrl_gen hI.2.2.1 l hl) 5 (Nat.le_refl _)
  by_cases hb : S.1 (99, 0, 0) (i + 5) = 0
  · refine x_aload_n dL_law_581 rfl ?_
    refine x_aload_n dL_law_582 rfl ?_
    refine x_iload dL_law_583 rfl ?_
    refine x_iconst dL_law_585 ?_
    refine x_iadd dL_law_586 ?_
    refine x_alds dL_law_587 hS rfl (by omega) (by omega) (by omega) ?_
    refine x_aload_n dL_law_588 rfl ?_
    refine x_iload dL_law_589 rfl ?_
    refine x_iconst dL_law_591 ?_
    refine x_iadd dL_law_592 ?_
    refine x_alds dL_law_593 hS rfl (by omega) (by omega) (by omega) ?_
    refine x_aload_n dL_law_594 rfl ?_
    refine x_iload dL_law_595 rfl ?_
    refine x_iconst dL_law_597 ?_
    refine x_iadd dL_law_598 ?_
    refine x_alds dL_law_599 hS rfl (by omega) (by omega) (by omega) ?_
    refine x_aload_n dL_law_600 rfl ?_
    refine x_iload dL_law_601 rfl ?_
    refine x_iconst dL_law_603 ?_
    refine x_iadd dL_law_604 ?_
    refine x_alds dL_law_605 hS rfl (by omega) (by omega) (by omega) ?_
    refine x_aload_n dL_law_606 rfl ?_
    refine x_iload dL_law_607 rfl ?_
    refine x_iconst dL_law_609 ?_
    refine x_iadd dL_law_610 ?_
    refine x_alds dL_law_611 hS rfl (by omega) (by omega) (by omega) ?_
    refine x_if_eq (tgt := 619) dL_law_612 (by decide) (zz _) (fun _ => ?_) (fun y => absurd hb y)
    refine x_iconst dL_law_619 ?_
    refine x_aload_n dL_law_620 rfl ?_
    refine x_callSH 6 36 (as := [xR (0, 0, 0), xI (S.1 (99, 0, 0) (i + 1)), xI (S.1 (99, 0, 0) (i + 2)), xI (S.1 (99, 0, 0) (i + 3)), xI (S.1 (99, 0, 0) (i + 4)), xI 0, xR (90, 0, 0)]) (rest := []) ok_L_addCondition dL_law_621 wd738 wd739 (w_addCondition (hp0 S) (S.1 (99, 0, 0) (i + 1)) (S.1 (99, 0, 0) (i + 2)) (S.1 (99, 0, 0) (i + 3)) (S.1 (99, 0, 0) (i + 4)) 0 6 36 (cu_addCondition S hI (S.1 (99, 0, 0) (i + 1)) (S.1 (99, 0, 0) (i + 2)) (S.1 (99, 0, 0) (i + 3)) (S.1 (99, 0, 0) (i + 4)) 0 (zz _) (zz _) (zz _) (zz _) (Or.inl rfl)) (CO.wq (fun h => by cases h))) rfl (Nat.le_of_ble_eq_true rfl) (Nat.le_of_ble_eq_true rfl) (by decide) (by omega) (by omega) (fun h1 qq => ?_) (fun v h1 qq => ?_) (fun E h1 qq => ?_)
    · obtain ⟨_, _, _, _, _, _, y, -⟩ := pW.wo (by decide) qq; cases y
    rotate_left
    · obtain ⟨_, _, _, _, _, _, y, -⟩ := pW.wo (by decide) qq; cases y
    obtain ⟨S1, S2, D9, k9, v9, rfl, y, q1, cb, ho, em, ji, hR, h90⟩ := pW.wo (by decide) qq
    cases y
    have e2 : MdE S S2 := (em.tr (MdE.q q1)).tr ho.md
    have hS2 : hp S2 (99, 0, 0) = some (.inr (0, n, .inl (S.1 (99, 0, 0)))) := by rw [hp99, e2.1 99 0 0 (by decide), e2.2, hn]
    have u2 := usum_e e2 5
    obtain ⟨c9, hc, hm⟩ := mo_addCondition S hI (S.1 (99, 0, 0) (i + 1)) (S.1 (99, 0, 0) (i + 2)) (S.1 (99, 0, 0) (i + 3)) (S.1 (99, 0, 0) (i + 4)) 0 (zz _) (zz _) (zz _) (zz _) (Or.inl rfl) S1 S2 D9 k9 v9 q1 cb ho em ji hR
    refine x_istore (L' := [xR (99, 0, 0), xR (0, 0, 0), xR (50, 0, 0), xR (90, 0, 0), xR (91, 0, 0), xI i, xI (k9 : Int), none, none]) dL_law_624 (by decide) rfl ?_
    refine x_aload_n dL_law_626 rfl ?_
    refine x_aload_n dL_law_627 rfl ?_
    refine x_iload dL_law_628 rfl ?_
    refine x_iconst dL_law_630 ?_
    refine x_iadd dL_law_631 ?_
    refine x_alds dL_law_632 hS2 rfl (by omega) (by omega) (by omega) ?_
    refine x_aload_n dL_law_633 rfl ?_
    refine x_iload dL_law_634 rfl ?_
    refine x_iconst dL_law_636 ?_
    refine x_iadd dL_law_637 ?_
    refine x_alds dL_law_638 hS2 rfl (by omega) (by omega) (by omega) ?_
    refine x_aload_n dL_law_639 rfl ?_
    refine x_iload dL_law_640 rfl ?_
    refine x_iconst dL_law_642 ?_
    refine x_iadd dL_law_643 ?_
    refine x_alds dL_law_644 hS2 rfl (by omega) (by omega) (by omega) ?_
    refine x_aload_n dL_law_645 rfl ?_
    refine x_iload dL_law_646 rfl ?_
    refine x_iconst dL_law_648 ?_
    refine x_iadd dL_law_649 ?_
    refine x_alds dL_law_650 hS2 rfl (by omega) (by omega) (by omega) ?_
    refine x_aload_n dL_law_651 rfl ?_
    refine x_iload dL_law_652 rfl ?_
    refine x_iconst dL_law_654 ?_
    refine x_iadd dL_law_655 ?_
    refine x_alds dL_law_656 hS2 rfl (by omega) (by omega) (by omega) ?_
    refine x_if_eq (tgt := 664) dL_law_657 (by decide) (zz _) (fun _ => ?_) (fun y => absurd hb y)
    refine x_iconst dL_law_664 ?_
    refine x_callV 20 (c9 + 384) (as := [xI (S.1 (99, 0, 0) (i + 1)), xI (S.1 (99, 0, 0) (i + 2)), xI (S.1 (99, 0, 0) (i + 3)), xI (S.1 (99, 0, 0) (i + 4)), xI 0]) (rest := []) ok_X9_addCondition dL_law_665 wd1311 ⟨wd1312, wd1313⟩ (hp50 S2) rfl rfl hm rfl (Nat.le_of_ble_eq_true rfl) (Nat.le_of_ble_eq_true rfl) (by decide) (by omega) (by omega) (fun h1 qq => ?_) (fun v h1 qq => ?_) (fun E h1 qq => ?_)
    · obtain ⟨_, _, -, y, -⟩ := qq; cases y
    rotate_left
    · obtain ⟨_, _, -, y, -⟩ := qq; cases y
    obtain ⟨T, z9, rfl, y, lT, t1, t2, t3, t4, t25, tv, tu⟩ := qq
    cases y
    have zk : zR (k9 : Int) := t25 ▸ lT.1.1.1 (50, 0, 0) 25
    refine x_istore (L' := [xR (99, 0, 0), xR (0, 0, 0), xR (50, 0, 0), xR (90, 0, 0), xR (91, 0, 0), xI i, xI (k9 : Int), xI z9, none]) dL_law_668 (by decide) rfl ?_
    refine x_aload_n dL_law_670 rfl ?_
    refine x_callV_r (a := 0) (b := 0) (as := []) (rest := []) ok_X9_thrown dL_law_671 wd1196 ⟨wd1197, wd1198⟩ (hp50 T) rfl rfl (m_thrown T lT.1.1) rfl (Nat.le_of_ble_eq_true rfl) (Nat.le_of_ble_eq_true rfl) (by decide) (by omega) (by omega) ?_
    refine x_top (show T.1 (50, 0, 0) 25 = (k9 : Int) from t25) ?_
    refine x_iload dL_law_674 rfl ?_
    refine x_icmp_eq (tgt := 681) dL_law_676 (by decide) zk zk (fun _ => ?_) (fun y => absurd rfl y)
    refine x_iload dL_law_681 rfl ?_
    refine x_if_ne (tgt := 698) dL_law_683 (by decide) zk (fun y => ?_) (fun y => ?_)
    · refine x_goto (tgt := 2700) dL_law_698 (by decide) ?_
      refine X.loc (L' := [xR (99, 0, 0), xR (0, 0, 0), xR (50, 0, 0), xR (90, 0, 0), xR (91, 0, 0), xI i, none, none, none]) ⟨rfl, ⟨rfl, ⟨rfl, ⟨rfl, ⟨rfl, ⟨rfl, trivial⟩⟩⟩⟩⟩⟩ ?_
      exact kont T _ _ lT (by rw [t1, e2.2, hn]) (by omega) (by omega)
    · obtain rfl : k9 = 0 := by omega
      have ez := tv rfl
      subst ez
      refine x_aload_n dL_law_686 rfl ?_
      refine x_iconst dL_law_687 ?_
      refine x_aldj dL_law_688 (hp90 T) (by decide) (by decide) (by decide) (by decide) ?_
      refine x_topJ (show T.2.1 (90, 0, 0) 0 = jI z9 from by rw [t2]; exact h90 rfl) ?_
      refine x_iload dL_law_689 rfl ?_
      refine x_i2l dL_law_691 ?_
      refine x_lcmp dL_law_692 ?_
      refine x_top (lg0.mpr rfl) ?_
      refine x_if_eq (tgt := 698) dL_law_693 (by decide) ⟨by decide, by decide⟩ (fun _ => ?_) (fun y => absurd rfl y)
      refine x_goto (tgt := 2700) dL_law_698 (by decide) ?_
      refine X.loc (L' := [xR (99, 0, 0), xR (0, 0, 0), xR (50, 0, 0), xR (90, 0, 0), xR (91, 0, 0), xI i, none, none, none]) ⟨rfl, ⟨rfl, ⟨rfl, ⟨rfl, ⟨rfl, ⟨rfl, trivial⟩⟩⟩⟩⟩⟩ ?_
      exact kont T _ _ lT (by rw [t1, e2.2, hn]) (by omega) (by omega)
  · refine x_aload_n dL_law_581 rfl ?_
    refine x_aload_n dL_law_582 rfl ?_
    refine x_iload dL_law_583 rfl ?_
    refine x_iconst dL_law_585 ?_
    refine x_iadd dL_law_586 ?_
    refine x_alds dL_law_587 hS rfl (by omega) (by omega) (by omega) ?_
    refine x_aload_n dL_law_588 rfl ?_
    refine x_iload dL_law_589 rfl ?_
    refine x_iconst dL_law_591 ?_
    refine x_iadd dL_law_592 ?_
    refine x_alds dL_law_593 hS rfl (by omega) (by omega) (by omega) ?_
    refine x_aload_n dL_law_594 rfl ?_
    refine x_iload dL_law_595 rfl ?_
    refine x_iconst dL_law_597 ?_
    refine x_iadd dL_law_598 ?_
    refine x_alds dL_law_599 hS rfl (by omega) (by omega) (by omega) ?_
    refine x_aload_n dL_law_600 rfl ?_
    refine x_iload dL_law_601 rfl ?_
    refine x_iconst dL_law_603 ?_
    refine x_iadd dL_law_604 ?_
    refine x_alds dL_law_605 hS rfl (by omega) (by omega) (by omega) ?_
    refine x_aload_n dL_law_606 rfl ?_
    refine x_iload dL_law_607 rfl ?_
    refine x_iconst dL_law_609 ?_
    refine x_iadd dL_law_610 ?_
    refine x_alds dL_law_611 hS rfl (by omega) (by omega) (by omega) ?_
    refine x_if_eq (tgt := 619) dL_law_612 (by decide) (zz _) (fun y => absurd y hb) (fun _ => ?_)
    refine x_iconst dL_law_615 ?_
    refine x_goto (tgt := 620) dL_law_616 (by decide) ?_
    refine x_aload_n dL_law_620 rfl ?_
    refine x_callSH 6 36 (as := [xR (0, 0, 0), xI (S.1 (99, 0, 0) (i + 1)), xI (S.1 (99, 0, 0) (i + 2)), xI (S.1 (99, 0, 0) (i + 3)), xI (S.1 (99, 0, 0) (i + 4)), xI 1, xR (90, 0, 0)]) (rest := []) ok_L_addCondition dL_law_621 wd738 wd739 (w_addCondition (hp0 S) (S.1 (99, 0, 0) (i + 1)) (S.1 (99, 0, 0) (i + 2)) (S.1 (99, 0, 0) (i + 3)) (S.1 (99, 0, 0) (i + 4)) 1 6 36 (cu_addCondition S hI (S.1 (99, 0, 0) (i + 1)) (S.1 (99, 0, 0) (i + 2)) (S.1 (99, 0, 0) (i + 3)) (S.1 (99, 0, 0) (i + 4)) 1 (zz _) (zz _) (zz _) (zz _) (Or.inr rfl)) (CO.wq (fun h => by cases h))) rfl (Nat.le_of_ble_eq_true rfl) (Nat.le_of_ble_eq_true rfl) (by decide) (by omega) (by omega) (fun h1 qq => ?_) (fun v h1 qq => ?_) (fun E h1 qq => ?_)
    · obtain ⟨_, _, _, _, _, _, y, -⟩ := pW.wo (by decide) qq; cases y
    rotate_left
    · obtain ⟨_, _, _, _, _, _, y, -⟩ := pW.wo (by decide) qq; cases y
    obtain ⟨S1, S2, D9, k9, v9, rfl, y, q1, cb, ho, em, ji, hR, h90⟩ := pW.wo (by decide) qq
    cases y
    have e2 : MdE S S2 := (em.tr (MdE.q q1)).tr ho.md
    have hS2 : hp S2 (99, 0, 0) = some (.inr (0, n, .inl (S.1 (99, 0, 0)))) := by rw [hp99, e2.1 99 0 0 (by decide), e2.2, hn]
    have u2 := usum_e e2 5
    obtain ⟨c9, hc, hm⟩ := mo_addCondition S hI (S.1 (99, 0, 0) (i + 1)) (S.1 (99, 0, 0) (i + 2)) (S.1 (99, 0, 0) (i + 3)) (S.1 (99, 0, 0) (i + 4)) 1 (zz _) (zz _) (zz _) (zz _) (Or.inr rfl) S1 S2 D9 k9 v9 q1 cb ho em ji hR
    refine x_istore (L' := [xR (99, 0, 0), xR (0, 0, 0), xR (50, 0, 0), xR (90, 0, 0), xR (91, 0, 0), xI i, xI (k9 : Int), none, none]) dL_law_624 (by decide) rfl ?_
    refine x_aload_n dL_law_626 rfl ?_
    refine x_aload_n dL_law_627 rfl ?_
    refine x_iload dL_law_628 rfl ?_
    refine x_iconst dL_law_630 ?_
    refine x_iadd dL_law_631 ?_
    refine x_alds dL_law_632 hS2 rfl (by omega) (by omega) (by omega) ?_
    refine x_aload_n dL_law_633 rfl ?_
    refine x_iload dL_law_634 rfl ?_
    refine x_iconst dL_law_636 ?_
    refine x_iadd dL_law_637 ?_
    refine x_alds dL_law_638 hS2 rfl (by omega) (by omega) (by omega) ?_
    refine x_aload_n dL_law_639 rfl ?_
    refine x_iload dL_law_640 rfl ?_
    refine x_iconst dL_law_642 ?_
    refine x_iadd dL_law_643 ?_
    refine x_alds dL_law_644 hS2 rfl (by omega) (by omega) (by omega) ?_
    refine x_aload_n dL_law_645 rfl ?_
    refine x_iload dL_law_646 rfl ?_
    refine x_iconst dL_law_648 ?_
    refine x_iadd dL_law_649 ?_
    refine x_alds dL_law_650 hS2 rfl (by omega) (by omega) (by omega) ?_
    refine x_aload_n dL_law_651 rfl ?_
    refine x_iload dL_law_652 rfl ?_
    refine x_iconst dL_law_654 ?_
    refine x_iadd dL_law_655 ?_
    refine x_alds dL_law_656 hS2 rfl (by omega) (by omega) (by omega) ?_
    refine x_if_eq (tgt := 664) dL_law_657 (by decide) (zz _) (fun y => absurd y hb) (fun _ => ?_)
    refine x_iconst dL_law_660 ?_
    refine x_goto (tgt := 665) dL_law_661 (by decide) ?_
    refine x_callV 20 (c9 + 384) (as := [xI (S.1 (99, 0, 0) (i + 1)), xI (S.1 (99, 0, 0) (i + 2)), xI (S.1 (99, 0, 0) (i + 3)), xI (S.1 (99, 0, 0) (i + 4)), xI 1]) (rest := []) ok_X9_addCondition dL_law_665 wd1311 ⟨wd1312, wd1313⟩ (hp50 S2) rfl rfl hm rfl (Nat.le_of_ble_eq_true rfl) (Nat.le_of_ble_eq_true rfl) (by decide) (by omega) (by omega) (fun h1 qq => ?_) (fun v h1 qq => ?_) (fun E h1 qq => ?_)
    · obtain ⟨_, _, -, y, -⟩ := qq; cases y
    rotate_left
    · obtain ⟨_, _, -, y, -⟩ := qq; cases y
    obtain ⟨T, z9, rfl, y, lT, t1, t2, t3, t4, t25, tv, tu⟩ := qq
    cases y
    have zk : zR (k9 : Int) := t25 ▸ lT.1.1.1 (50, 0, 0) 25
    refine x_istore (L' := [xR (99, 0, 0), xR (0, 0, 0), xR (50, 0, 0), xR (90, 0, 0), xR (91, 0, 0), xI i, xI (k9 : Int), xI z9, none]) dL_law_668 (by decide) rfl ?_
    refine x_aload_n dL_law_670 rfl ?_
    refine x_callV_r (a := 0) (b := 0) (as := []) (rest := []) ok_X9_thrown dL_law_671 wd1196 ⟨wd1197, wd1198⟩ (hp50 T) rfl rfl (m_thrown T lT.1.1) rfl (Nat.le_of_ble_eq_true rfl) (Nat.le_of_ble_eq_true rfl) (by decide) (by omega) (by omega) ?_
    refine x_top (show T.1 (50, 0, 0) 25 = (k9 : Int) from t25) ?_
    refine x_iload dL_law_674 rfl ?_
    refine x_icmp_eq (tgt := 681) dL_law_676 (by decide) zk zk (fun _ => ?_) (fun y => absurd rfl y)
    refine x_iload dL_law_681 rfl ?_
    refine x_if_ne (tgt := 698) dL_law_683 (by decide) zk (fun y => ?_) (fun y => ?_)
    · refine x_goto (tgt := 2700) dL_law_698 (by decide) ?_
      refine X.loc (L' := [xR (99, 0, 0), xR (0, 0, 0), xR (50, 0, 0), xR (90, 0, 0), xR (91, 0, 0), xI i, none, none, none]) ⟨rfl, ⟨rfl, ⟨rfl, ⟨rfl, ⟨rfl, ⟨rfl, trivial⟩⟩⟩⟩⟩⟩ ?_
      exact kont T _ _ lT (by rw [t1, e2.2, hn]) (by omega) (by omega)
    · obtain rfl : k9 = 0 := by omega
      have ez := tv rfl
      subst ez
      refine x_aload_n dL_law_686 rfl ?_
      refine x_iconst dL_law_687 ?_
      refine x_aldj dL_law_688 (hp90 T) (by decide) (by decide) (by decide) (by decide) ?_
      refine x_topJ (show T.2.1 (90, 0, 0) 0 = jI z9 from by rw [t2]; exact h90 rfl) ?_
      refine x_iload dL_law_689 rfl ?_
      refine x_i2l dL_law_691 ?_
      refine x_lcmp dL_law_692 ?_
      refine x_top (lg0.mpr rfl) ?_
      refine x_if_eq (tgt := 698) dL_law_693 (by decide) ⟨by decide, by decide⟩ (fun _ => ?_) (fun y => absurd rfl y)
      refine x_goto (tgt := 2700) dL_law_698 (by decide) ?_
      refine X.loc (L' := [xR (99, 0, 0), xR (0, 0, 0), xR (50, 0, 0), xR (90, 0, 0), xR (91, 0, 0), xI i, none, none, none]) ⟨rfl, ⟨rfl, ⟨rfl, ⟨rfl, ⟨rfl, ⟨rfl, trivial⟩⟩⟩⟩⟩⟩ ?_
      exact kont T _ _ lT (by rw [t1, e2.2, hn]) (by omega) (by omega)
set_option maxHeartbeats 4000000 in
set_option maxRecDepth 100000 in
theorem lc_turn (S : XS) (hI : LwI S) (n : Nat) (hn : S.2.2.2.2.2 = n) (hn2 : n < 1000000) (i : Int) (i0 : 0 ≤ i) (i7 : i + 7 ≤ n) (kc ks : Nat) (hk : 30 ≤ kc) (hs : 82420 ≤ ks + usum S 5) {Q : XO → XH → Prop} (kont : KL n i (kc - 30) (ks + usum S 5 - 500) Q) : X mL_law 701 [xR (99, 0, 0), xR (0, 0, 0), xR (50, 0, 0), xR (90, 0, 0), xR (91, 0, 0), xI i, none, none, none] [] (hp S) kc ks Q := by
  have zz : ∀ j : Int, zR (S.1 (99, 0, 0) j) := fun j => hI.1.1.1 (99, 0, 0) j
  have hS : hp S (99, 0, 0) = some (.inr (0, n, .inl (S.1 (99, 0, 0)))) := by rw [hp99, hn]
  have u0 : usum S 5 ≤ 81920 := usum_le (fun l hl => mrl_gen hI.2.2.1 l hl) 5 (Nat.le_refl _)
  by_cases hb : S.1 (99, 0, 0) (i + 3) = 0
  · refine x_aload_n dL_law_701 rfl ?_
    refine x_aload_n dL_law_702 rfl ?_
    refine x_iload dL_law_703 rfl ?_
    refine x_iconst dL_law_705 ?_
    refine x_iadd dL_law_706 ?_
    refine x_alds dL_law_707 hS rfl (by omega) (by omega) (by omega) ?_
    refine x_aload_n dL_law_708 rfl ?_
    refine x_iload dL_law_709 rfl ?_
    refine x_iconst dL_law_711 ?_
    refine x_iadd dL_law_712 ?_
    refine x_alds dL_law_713 hS rfl (by omega) (by omega) (by omega) ?_
    refine x_aload_n dL_law_714 rfl ?_
    refine x_iload dL_law_715 rfl ?_
    refine x_iconst dL_law_717 ?_
    refine x_iadd dL_law_718 ?_
    refine x_alds dL_law_719 hS rfl (by omega) (by omega) (by omega) ?_
    refine x_if_eq (tgt := 727) dL_law_720 (by decide) (zz _) (fun _ => ?_) (fun y => absurd hb y)
    refine x_iconst dL_law_727 ?_
    refine x_aload_n dL_law_728 rfl ?_
    refine x_callSH 6 36 (as := [xR (0, 0, 0), xI (S.1 (99, 0, 0) (i + 1)), xI (S.1 (99, 0, 0) (i + 2)), xI 0, xR (90, 0, 0)]) (rest := []) ok_L_turn dL_law_729 wd751 wd752 (w_turn (hp0 S) (S.1 (99, 0, 0) (i + 1)) (S.1 (99, 0, 0) (i + 2)) 0 6 36 (cu_turn S hI (S.1 (99, 0, 0) (i + 1)) (S.1 (99, 0, 0) (i + 2)) 0 (zz _) (zz _) (Or.inl rfl)) (CO.wq (fun h => by cases h))) rfl (Nat.le_of_ble_eq_true rfl) (Nat.le_of_ble_eq_true rfl) (by decide) (by omega) (by omega) (fun h1 qq => ?_) (fun v h1 qq => ?_) (fun E h1 qq => ?_)
    · obtain ⟨_, _, _, _, _, _, y, -⟩ := pW.wo (by decide) qq; cases y
    rotate_left
    · obtain ⟨_, _, _, _, _, _, y, -⟩ := pW.wo (by decide) qq; cases y
    obtain ⟨S1, S2, D9, k9, v9, rfl, y, q1, cb, ho, em, ji, hR, h90⟩ := pW.wo (by decide) qq
    cases y
    have e2 : MdE S S2 := (em.tr (MdE.q q1)).tr ho.md
    have hS2 : hp S2 (99, 0, 0) = some (.inr (0, n, .inl (S.1 (99, 0, 0)))) := by rw [hp99, e2.1 99 0 0 (by decide), e2.2, hn]
    have u2 := usum_e e2 5
    obtain ⟨c9, hc, hm⟩ := mo_turn S hI (S.1 (99, 0, 0) (i + 1)) (S.1 (99, 0, 0) (i + 2)) 0 (zz _) (zz _) (Or.inl rfl) S1 S2 D9 k9 v9 q1 cb ho em ji hR
    refine x_istore (L' := [xR (99, 0, 0), xR (0, 0, 0), xR (50, 0, 0), xR (90, 0, 0), xR (91, 0, 0), xI i, xI (k9 : Int), none, none]) dL_law_732 (by decide) rfl ?_
    refine x_aload_n dL_law_734 rfl ?_
    refine x_aload_n dL_law_735 rfl ?_
    refine x_iload dL_law_736 rfl ?_
    refine x_iconst dL_law_738 ?_
    refine x_iadd dL_law_739 ?_
    refine x_alds dL_law_740 hS2 rfl (by omega) (by omega) (by omega) ?_
    refine x_aload_n dL_law_741 rfl ?_
    refine x_iload dL_law_742 rfl ?_
    refine x_iconst dL_law_744 ?_
    refine x_iadd dL_law_745 ?_
    refine x_alds dL_law_746 hS2 rfl (by omega) (by omega) (by omega) ?_
    refine x_aload_n dL_law_747 rfl ?_
    refine x_iload dL_law_748 rfl ?_
    refine x_iconst dL_law_750 ?_
    refine x_iadd dL_law_751 ?_
    refine x_alds dL_law_752 hS2 rfl (by omega) (by omega) (by omega) ?_
    refine x_if_eq (tgt := 760) dL_law_753 (by decide) (zz _) (fun _ => ?_) (fun y => absurd hb y)
    refine x_iconst dL_law_760 ?_
    refine x_callV 20 (c9 + 384) (as := [xI (S.1 (99, 0, 0) (i + 1)), xI (S.1 (99, 0, 0) (i + 2)), xI 0]) (rest := []) ok_X9_turn dL_law_761 wd1315 ⟨wd1316, wd1317⟩ (hp50 S2) rfl rfl hm rfl (Nat.le_of_ble_eq_true rfl) (Nat.le_of_ble_eq_true rfl) (by decide) (by omega) (by omega) (fun h1 qq => ?_) (fun v h1 qq => ?_) (fun E h1 qq => ?_)
    · obtain ⟨_, _, -, y, -⟩ := qq; cases y
    rotate_left
    · obtain ⟨_, _, -, y, -⟩ := qq; cases y
    obtain ⟨T, z9, rfl, y, lT, t1, t2, t3, t4, t25, tv, tu⟩ := qq
    cases y
    have zk : zR (k9 : Int) := t25 ▸ lT.1.1.1 (50, 0, 0) 25
    refine x_istore (L' := [xR (99, 0, 0), xR (0, 0, 0), xR (50, 0, 0), xR (90, 0, 0), xR (91, 0, 0), xI i, xI (k9 : Int), xI z9, none]) dL_law_764 (by decide) rfl ?_
    refine x_aload_n dL_law_766 rfl ?_
    refine x_callV_r (a := 0) (b := 0) (as := []) (rest := []) ok_X9_thrown dL_law_767 wd1196 ⟨wd1197, wd1198⟩ (hp50 T) rfl rfl (m_thrown T lT.1.1) rfl (Nat.le_of_ble_eq_true rfl) (Nat.le_of_ble_eq_true rfl) (by decide) (by omega) (by omega) ?_
    refine x_top (show T.1 (50, 0, 0) 25 = (k9 : Int) from t25) ?_
    refine x_iload dL_law_770 rfl ?_
    refine x_icmp_eq (tgt := 777) dL_law_772 (by decide) zk zk (fun _ => ?_) (fun y => absurd rfl y)
    refine x_iload dL_law_777 rfl ?_
    refine x_if_ne (tgt := 794) dL_law_779 (by decide) zk (fun y => ?_) (fun y => ?_)
    · refine x_goto (tgt := 2700) dL_law_794 (by decide) ?_
      refine X.loc (L' := [xR (99, 0, 0), xR (0, 0, 0), xR (50, 0, 0), xR (90, 0, 0), xR (91, 0, 0), xI i, none, none, none]) ⟨rfl, ⟨rfl, ⟨rfl, ⟨rfl, ⟨rfl, ⟨rfl, trivial⟩⟩⟩⟩⟩⟩ ?_
      exact kont T _ _ lT (by rw [t1, e2.2, hn]) (by omega) (by omega)
    · obtain rfl : k9 = 0 := by omega
      have ez := tv rfl
      subst ez
      refine x_aload_n dL_law_782 rfl ?_
      refine x_iconst dL_law_783 ?_
      refine x_aldj dL_law_784 (hp90 T) (by decide) (by decide) (by decide) (by decide) ?_
      refine x_topJ (show T.2.1 (90, 0, 0) 0 = jI z9 from by rw [t2]; exact h90 rfl) ?_
      refine x_iload dL_law_785 rfl ?_
      refine x_i2l dL_law_787 ?_
      refine x_lcmp dL_law_788 ?_
      refine x_top (lg0.mpr rfl) ?_
      refine x_if_eq (tgt := 794) dL_law_789 (by decide) ⟨by decide, by decide⟩ (fun _ => ?_) (fun y => absurd rfl y)
      refine x_goto (tgt := 2700) dL_law_794 (by decide) ?_
      refine X.loc (L' := [xR (99, 0, 0), xR (0, 0, 0), xR (50, 0, 0), xR (90, 0, 0), xR (91, 0, 0), xI i, none, none, none]) ⟨rfl, ⟨rfl, ⟨rfl, ⟨rfl, ⟨rfl, ⟨rfl, trivial⟩⟩⟩⟩⟩⟩ ?_
      exact kont T _ _ lT (by rw [t1, e2.2, hn]) (by omega) (by omega)
  · refine x_aload_n dL_law_701 rfl ?_
    refine x_aload_n dL_law_702 rfl ?_
    refine x_iload dL_law_703 rfl ?_
    refine x_iconst dL_law_705 ?_
    refine x_iadd dL_law_706 ?_
    refine x_alds dL_law_707 hS rfl (by omega) (by omega) (by omega) ?_
    refine x_aload_n dL_law_708 rfl ?_
    refine x_iload dL_law_709 rfl ?_
    refine x_iconst dL_law_711 ?_
    refine x_iadd dL_law_712 ?_
    refine x_alds dL_law_713 hS rfl (by omega) (by omega) (by omega) ?_
    refine x_aload_n dL_law_714 rfl ?_
    refine x_iload dL_law_715 rfl ?_
    refine x_iconst dL_law_717 ?_
    refine x_iadd dL_law_718 ?_
    refine x_alds dL_law_719 hS rfl (by omega) (by omega) (by omega) ?_
    refine x_if_eq (tgt := 727) dL_law_720 (by decide) (zz _) (fun y => absurd y hb) (fun _ => ?_)
    refine x_iconst dL_law_723 ?_
    refine x_goto (tgt := 728) dL_law_724 (by decide) ?_
    refine x_aload_n dL_law_728 rfl ?_
    refine x_callSH 6 36 (as := [xR (0, 0, 0), xI (S.1 (99, 0, 0) (i + 1)), xI (S.1 (99, 0, 0) (i + 2)), xI 1, xR (90, 0, 0)]) (rest := []) ok_L_turn dL_law_729 wd751 wd752 (w_turn (hp0 S) (S.1 (99, 0, 0) (i + 1)) (S.1 (99, 0, 0) (i + 2)) 1 6 36 (cu_turn S hI (S.1 (99, 0, 0) (i + 1)) (S.1 (99, 0, 0) (i + 2)) 1 (zz _) (zz _) (Or.inr rfl)) (CO.wq (fun h => by cases h))) rfl (Nat.le_of_ble_eq_true rfl) (Nat.le_of_ble_eq_true rfl) (by decide) (by omega) (by omega) (fun h1 qq => ?_) (fun v h1 qq => ?_) (fun E h1 qq => ?_)
    · obtain ⟨_, _, _, _, _, _, y, -⟩ := pW.wo (by decide) qq; cases y
    rotate_left
    · obtain ⟨_, _, _, _, _, _, y, -⟩ := pW.wo (by decide) qq; cases y
    obtain ⟨S1, S2, D9, k9, v9, rfl, y, q1, cb, ho, em, ji, hR, h90⟩ := pW.wo (by decide) qq
    cases y
    have e2 : MdE S S2 := (em.tr (MdE.q q1)).tr ho.md
    have hS2 : hp S2 (99, 0, 0) = some (.inr (0, n, .inl (S.1 (99, 0, 0)))) := by rw [hp99, e2.1 99 0 0 (by decide), e2.2, hn]
    have u2 := usum_e e2 5
    obtain ⟨c9, hc, hm⟩ := mo_turn S hI (S.1 (99, 0, 0) (i + 1)) (S.1 (99, 0, 0) (i + 2)) 1 (zz _) (zz _) (Or.inr rfl) S1 S2 D9 k9 v9 q1 cb ho em ji hR
    refine x_istore (L' := [xR (99, 0, 0), xR (0, 0, 0), xR (50, 0, 0), xR (90, 0, 0), xR (91, 0, 0), xI i, xI (k9 : Int), none, none]) dL_law_732 (by decide) rfl ?_
    refine x_aload_n dL_law_734 rfl ?_
    refine x_aload_n dL_law_735 rfl ?_
    refine x_iload dL_law_736 rfl ?_
    refine x_iconst dL_law_738 ?_
    refine x_iadd dL_law_739 ?_
    refine x_alds dL_law_740 hS2 rfl (by omega) (by omega) (by omega) ?_
    refine x_aload_n dL_law_741 rfl ?_
    refine x_iload dL_law_742 rfl ?_
    refine x_iconst dL_law_744 ?_
    refine x_iadd dL_law_745 ?_
    refine x_alds dL_law_746 hS2 rfl (by omega) (by omega) (by omega) ?_
    refine x_aload_n dL_law_747 rfl ?_
    refine x_iload dL_law_748 rfl ?_
    refine x_iconst dL_law_750 ?_
    refine x_iadd dL_law_751 ?_
    refine x_alds dL_law_752 hS2 rfl (by omega) (by omega) (by omega) ?_
    refine x_if_eq (tgt := 760) dL_law_753 (by decide) (zz _) (fun y => absurd y hb) (fun _ => ?_)
    refine x_iconst dL_law_756 ?_
    refine x_goto (tgt := 761) dL_law_757 (by decide) ?_
    refine x_callV 20 (c9 + 384) (as := [xI (S.1 (99, 0, 0) (i + 1)), xI (S.1 (99, 0, 0) (i + 2)), xI 1]) (rest := []) ok_X9_turn dL_law_761 wd1315 ⟨wd1316, wd1317⟩ (hp50 S2) rfl rfl hm rfl (Nat.le_of_ble_eq_true rfl) (Nat.le_of_ble_eq_true rfl) (by decide) (by omega) (by omega) (fun h1 qq => ?_) (fun v h1 qq => ?_) (fun E h1 qq => ?_)
    · obtain ⟨_, _, -, y, -⟩ := qq; cases y
    rotate_left
    · obtain ⟨_, _, -, y, -⟩ := qq; cases y
    obtain ⟨T, z9, rfl, y, lT, t1, t2, t3, t4, t25, tv, tu⟩ := qq
    cases y
    have zk : zR (k9 : Int) := t25 ▸ lT.1.1.1 (50, 0, 0) 25
    refine x_istore (L' := [xR (99, 0, 0), xR (0, 0, 0), xR (50, 0, 0), xR (90, 0, 0), xR (91, 0, 0), xI i, xI (k9 : Int), xI z9, none]) dL_law_764 (by decide) rfl ?_
    refine x_aload_n dL_law_766 rfl ?_
    refine x_callV_r (a := 0) (b := 0) (as := []) (rest := []) ok_X9_thrown dL_law_767 wd1196 ⟨wd1197, wd1198⟩ (hp50 T) rfl rfl (m_thrown T lT.1.1) rfl (Nat.le_of_ble_eq_true rfl) (Nat.le_of_ble_eq_true rfl) (by decide) (by omega) (by omega) ?_
    refine x_top (show T.1 (50, 0, 0) 25 = (k9 : Int) from t25) ?_
    refine x_iload dL_law_770 rfl ?_
    refine x_icmp_eq (tgt := 777) dL_law_772 (by decide) zk zk (fun _ => ?_) (fun y => absurd rfl y)
    refine x_iload dL_law_777 rfl ?_
    refine x_if_ne (tgt := 794) dL_law_779 (by decide) zk (fun y => ?_) (fun y => ?_)
    · refine x_goto (tgt := 2700) dL_law_794 (by decide) ?_
      refine X.loc (L' := [xR (99, 0, 0), xR (0, 0, 0), xR (50, 0, 0), xR (90, 0, 0), xR (91, 0, 0), xI i, none, none, none]) ⟨rfl, ⟨rfl, ⟨rfl, ⟨rfl, ⟨rfl, ⟨rfl, trivial⟩⟩⟩⟩⟩⟩ ?_
      exact kont T _ _ lT (by rw [t1, e2.2, hn]) (by omega) (by omega)
    · obtain rfl : k9 = 0 := by omega
      have ez := tv rfl
      subst ez
      refine x_aload_n dL_law_782 rfl ?_
      refine x_iconst dL_law_783 ?_
      refine x_aldj dL_law_784 (hp90 T) (by decide) (by decide) (by decide) (by decide) ?_
      refine x_topJ (show T.2.1 (90, 0, 0) 0 = jI z9 from by rw [t2]; exact h90 rfl) ?_
      refine x_iload dL_law_785 rfl ?_
      refine x_i2l dL_law_787 ?_
      refine x_lcmp dL_law_788 ?_
      refine x_top (lg0.mpr rfl) ?_
      refine x_if_eq (tgt := 794) dL_law_789 (by decide) ⟨by decide, by decide⟩ (fun _ => ?_) (fun y => absurd rfl y)
      refine x_goto (tgt := 2700) dL_law_794 (by decide) ?_
      refine X.loc (L' := [xR (99, 0, 0), xR (0, 0, 0), xR (50, 0, 0), xR (90, 0, 0), xR (91, 0, 0), xI i, none, none, none]) ⟨rfl, ⟨rfl, ⟨rfl, ⟨rfl, ⟨rfl, ⟨rfl, trivial⟩⟩⟩⟩⟩⟩ ?_
      exact kont T _ _ lT (by rw [t1, e2.2, hn]) (by omega) (by omega)
set_option maxHeartbeats 4000000 in
set_option maxRecDepth 100000 in
theorem lc_isOn (S : XS) (hI : LwI S) (n : Nat) (hn : S.2.2.2.2.2 = n) (hn2 : n < 1000000) (i : Int) (i0 : 0 ≤ i) (i7 : i + 7 ≤ n) (kc ks : Nat) (hk : 30 ≤ kc) (hs : 82420 ≤ ks + usum S 5) {Q : XO → XH → Prop} (kont : KL n i (kc - 30) (ks + usum S 5 - 500) Q) : X mL_law 797 [xR (99, 0, 0), xR (0, 0, 0), xR (50, 0, 0), xR (90, 0, 0), xR (91, 0, 0), xI i, none, none, none] [] (hp S) kc ks Q := by
  have zz : ∀ j : Int, zR (S.1 (99, 0, 0) j) := fun j => hI.1.1.1 (99, 0, 0) j
  have hS : hp S (99, 0, 0) = some (.inr (0, n, .inl (S.1 (99, 0, 0)))) := by rw [hp99, hn]
  have u0 : usum S 5 ≤ 81920 := usum_le (fun l hl => mrl_gen hI.2.2.1 l hl) 5 (Nat.le_refl _)
  refine x_aload_n dL_law_797 rfl ?_
  refine x_aload_n dL_law_798 rfl ?_
  refine x_iload dL_law_799 rfl ?_
  refine x_iconst dL_law_801 ?_
  refine x_iadd dL_law_802 ?_
  refine x_alds dL_law_803 hS rfl (by omega) (by omega) (by omega) ?_
  refine x_aload_n dL_law_804 rfl ?_
  refine x_iload dL_law_805 rfl ?_
  refine x_iconst dL_law_807 ?_
  refine x_iadd dL_law_808 ?_
  refine x_alds dL_law_809 hS rfl (by omega) (by omega) (by omega) ?_
  refine x_aload_n dL_law_810 rfl ?_
  refine x_iload dL_law_811 rfl ?_
  refine x_iconst dL_law_813 ?_
  refine x_iadd dL_law_814 ?_
  refine x_alds dL_law_815 hS rfl (by omega) (by omega) (by omega) ?_
  refine x_aload_n dL_law_816 rfl ?_
  have hq9 : ∀ v9 D9, R_isOn S (S.1 (99, 0, 0) (i + 1)) (S.1 (99, 0, 0) (i + 2)) (S.1 (99, 0, 0) (i + 3)) 0 v9 D9 → v9 = 0 ∨ v9 = 1 := fun v9 D9 hR => by
    rcases hR with ⟨-, y0, rfl, -⟩ | ⟨y, -⟩
    · exact bI_01 _
    · exact absurd y (by decide)
  refine x_callSH 6 36 (as := [xR (0, 0, 0), xI (S.1 (99, 0, 0) (i + 1)), xI (S.1 (99, 0, 0) (i + 2)), xI (S.1 (99, 0, 0) (i + 3)), xR (90, 0, 0)]) (rest := []) ok_L_isOn dL_law_817 wd768 wd769 (w_isOn (hp0 S) (S.1 (99, 0, 0) (i + 1)) (S.1 (99, 0, 0) (i + 2)) (S.1 (99, 0, 0) (i + 3)) 6 36 (cu_isOn S hI (S.1 (99, 0, 0) (i + 1)) (S.1 (99, 0, 0) (i + 2)) (S.1 (99, 0, 0) (i + 3)) (zz _) (zz _) (zz _)) (CO.wq (fun _ => hq9))) rfl (Nat.le_of_ble_eq_true rfl) (Nat.le_of_ble_eq_true rfl) (by decide) (by omega) (by omega) (fun h1 qq => ?_) (fun v h1 qq => ?_) (fun E h1 qq => ?_)
  · obtain ⟨_, _, _, _, _, _, y, -⟩ := pW.wo (by decide) qq; cases y
  rotate_left
  · obtain ⟨_, _, _, _, _, _, y, -⟩ := pW.wo (by decide) qq; cases y
  obtain ⟨S1, S2, D9, k9, v9, rfl, y, q1, cb, ho, em, ji, hR, h90⟩ := pW.wo (by decide) qq
  cases y
  have e2 : MdE S S2 := (em.tr (MdE.q q1)).tr ho.md
  have hS2 : hp S2 (99, 0, 0) = some (.inr (0, n, .inl (S.1 (99, 0, 0)))) := by rw [hp99, e2.1 99 0 0 (by decide), e2.2, hn]
  have u2 := usum_e e2 5
  obtain ⟨c9, hc, hm⟩ := mo_isOn S hI (S.1 (99, 0, 0) (i + 1)) (S.1 (99, 0, 0) (i + 2)) (S.1 (99, 0, 0) (i + 3)) (zz _) (zz _) (zz _) S1 S2 D9 k9 v9 q1 cb ho em ji hR
  refine x_istore (L' := [xR (99, 0, 0), xR (0, 0, 0), xR (50, 0, 0), xR (90, 0, 0), xR (91, 0, 0), xI i, xI (k9 : Int), none, none]) dL_law_820 (by decide) rfl ?_
  refine x_aload_n dL_law_822 rfl ?_
  refine x_aload_n dL_law_823 rfl ?_
  refine x_iload dL_law_824 rfl ?_
  refine x_iconst dL_law_826 ?_
  refine x_iadd dL_law_827 ?_
  refine x_alds dL_law_828 hS2 rfl (by omega) (by omega) (by omega) ?_
  refine x_aload_n dL_law_829 rfl ?_
  refine x_iload dL_law_830 rfl ?_
  refine x_iconst dL_law_832 ?_
  refine x_iadd dL_law_833 ?_
  refine x_alds dL_law_834 hS2 rfl (by omega) (by omega) (by omega) ?_
  refine x_aload_n dL_law_835 rfl ?_
  refine x_iload dL_law_836 rfl ?_
  refine x_iconst dL_law_838 ?_
  refine x_iadd dL_law_839 ?_
  refine x_alds dL_law_840 hS2 rfl (by omega) (by omega) (by omega) ?_
  refine x_callV 20 (c9 + 384) (as := [xI (S.1 (99, 0, 0) (i + 1)), xI (S.1 (99, 0, 0) (i + 2)), xI (S.1 (99, 0, 0) (i + 3))]) (rest := []) ok_X9_isOn dL_law_841 wd1327 ⟨wd1328, wd1329⟩ (hp50 S2) rfl rfl hm rfl (Nat.le_of_ble_eq_true rfl) (Nat.le_of_ble_eq_true rfl) (by decide) (by omega) (by omega) (fun h1 qq => ?_) (fun v h1 qq => ?_) (fun E h1 qq => ?_)
  · obtain ⟨_, _, -, y, -⟩ := qq; cases y
  rotate_left
  · obtain ⟨_, _, -, y, -⟩ := qq; cases y
  obtain ⟨T, z9, rfl, y, lT, t1, t2, t3, t4, t25, tv, tu⟩ := qq
  cases y
  have zk : zR (k9 : Int) := t25 ▸ lT.1.1.1 (50, 0, 0) 25
  refine x_istore (L' := [xR (99, 0, 0), xR (0, 0, 0), xR (50, 0, 0), xR (90, 0, 0), xR (91, 0, 0), xI i, xI (k9 : Int), xI z9, none]) dL_law_844 (by decide) rfl ?_
  refine x_aload_n dL_law_846 rfl ?_
  refine x_callV_r (a := 0) (b := 0) (as := []) (rest := []) ok_X9_thrown dL_law_847 wd1196 ⟨wd1197, wd1198⟩ (hp50 T) rfl rfl (m_thrown T lT.1.1) rfl (Nat.le_of_ble_eq_true rfl) (Nat.le_of_ble_eq_true rfl) (by decide) (by omega) (by omega) ?_
  refine x_top (show T.1 (50, 0, 0) 25 = (k9 : Int) from t25) ?_
  refine x_iload dL_law_850 rfl ?_
  refine x_icmp_eq (tgt := 857) dL_law_852 (by decide) zk zk (fun _ => ?_) (fun y => absurd rfl y)
  refine x_iload dL_law_857 rfl ?_
  refine x_if_ne (tgt := 881) dL_law_859 (by decide) zk (fun y => ?_) (fun y => ?_)
  · refine x_goto (tgt := 2700) dL_law_881 (by decide) ?_
    refine X.loc (L' := [xR (99, 0, 0), xR (0, 0, 0), xR (50, 0, 0), xR (90, 0, 0), xR (91, 0, 0), xI i, none, none, none]) ⟨rfl, ⟨rfl, ⟨rfl, ⟨rfl, ⟨rfl, ⟨rfl, trivial⟩⟩⟩⟩⟩⟩ ?_
    exact kont T _ _ lT (by rw [t1, e2.2, hn]) (by omega) (by omega)
  · obtain rfl : k9 = 0 := by omega
    have ez := tv rfl
    subst ez
    refine x_aload_n dL_law_862 rfl ?_
    refine x_iconst dL_law_863 ?_
    refine x_aldj dL_law_864 (hp90 T) (by decide) (by decide) (by decide) (by decide) ?_
    refine x_topJ (show T.2.1 (90, 0, 0) 0 = jI z9 from by rw [t2]; exact h90 rfl) ?_
    refine x_iload dL_law_865 rfl ?_
    have v01 : z9 = 0 ∨ z9 = 1 := hq9 _ _ hR
    rcases v01 with rfl | rfl
    · refine x_if_eq (tgt := 874) dL_law_867 (by decide) ⟨by decide, by decide⟩ (fun _ => ?_) (fun y => absurd rfl y)
      refine x_lconst (v := 0) dL_law_874 (by decide) ?_
      refine x_lcmp dL_law_875 ?_
      refine x_top (lg0.mpr (by decide)) ?_
      refine x_if_eq (tgt := 881) dL_law_876 (by decide) ⟨by decide, by decide⟩ (fun _ => ?_) (fun y => absurd rfl y)
      refine x_goto (tgt := 2700) dL_law_881 (by decide) ?_
      refine X.loc (L' := [xR (99, 0, 0), xR (0, 0, 0), xR (50, 0, 0), xR (90, 0, 0), xR (91, 0, 0), xI i, none, none, none]) ⟨rfl, ⟨rfl, ⟨rfl, ⟨rfl, ⟨rfl, ⟨rfl, trivial⟩⟩⟩⟩⟩⟩ ?_
      exact kont T _ _ lT (by rw [t1, e2.2, hn]) (by omega) (by omega)
    · refine x_if_eq (tgt := 874) dL_law_867 (by decide) ⟨by decide, by decide⟩ (fun y => absurd y (by decide)) (fun _ => ?_)
      refine x_lconst (v := 1) dL_law_870 (by decide) ?_
      refine x_goto (tgt := 875) dL_law_871 (by decide) ?_
      refine x_lcmp dL_law_875 ?_
      refine x_top (lg0.mpr (by decide)) ?_
      refine x_if_eq (tgt := 881) dL_law_876 (by decide) ⟨by decide, by decide⟩ (fun _ => ?_) (fun y => absurd rfl y)
      refine x_goto (tgt := 2700) dL_law_881 (by decide) ?_
      refine X.loc (L' := [xR (99, 0, 0), xR (0, 0, 0), xR (50, 0, 0), xR (90, 0, 0), xR (91, 0, 0), xI i, none, none, none]) ⟨rfl, ⟨rfl, ⟨rfl, ⟨rfl, ⟨rfl, ⟨rfl, trivial⟩⟩⟩⟩⟩⟩ ?_
      exact kont T _ _ lT (by rw [t1, e2.2, hn]) (by omega) (by omega)
set_option maxHeartbeats 4000000 in
set_option maxRecDepth 100000 in
theorem lc_layer (S : XS) (hI : LwI S) (n : Nat) (hn : S.2.2.2.2.2 = n) (hn2 : n < 1000000) (i : Int) (i0 : 0 ≤ i) (i7 : i + 7 ≤ n) (kc ks : Nat) (hk : 30 ≤ kc) (hs : 82420 ≤ ks + usum S 5) {Q : XO → XH → Prop} (kont : KL n i (kc - 30) (ks + usum S 5 - 500) Q) : X mL_law 884 [xR (99, 0, 0), xR (0, 0, 0), xR (50, 0, 0), xR (90, 0, 0), xR (91, 0, 0), xI i, none, none, none] [] (hp S) kc ks Q := by
  have zz : ∀ j : Int, zR (S.1 (99, 0, 0) j) := fun j => hI.1.1.1 (99, 0, 0) j
  have hS : hp S (99, 0, 0) = some (.inr (0, n, .inl (S.1 (99, 0, 0)))) := by rw [hp99, hn]
  have u0 : usum S 5 ≤ 81920 := usum_le (fun l hl => mrl_gen hI.2.2.1 l hl) 5 (Nat.le_refl _)
  refine x_aload_n dL_law_884 rfl ?_
  refine x_aload_n dL_law_885 rfl ?_
  refine x_iload dL_law_886 rfl ?_
  refine x_iconst dL_law_888 ?_
  refine x_iadd dL_law_889 ?_
  refine x_alds dL_law_890 hS rfl (by omega) (by omega) (by omega) ?_
  refine x_aload_n dL_law_891 rfl ?_
  refine x_iload dL_law_892 rfl ?_
  refine x_iconst dL_law_894 ?_
  refine x_iadd dL_law_895 ?_
  refine x_alds dL_law_896 hS rfl (by omega) (by omega) (by omega) ?_
  refine x_aload_n dL_law_897 rfl ?_
  refine x_callSH 6 36 (as := [xR (0, 0, 0), xI (S.1 (99, 0, 0) (i + 1)), xI (S.1 (99, 0, 0) (i + 2)), xR (90, 0, 0)]) (rest := []) ok_L_layer dL_law_898 wd780 wd781 (w_layer (hp0 S) (S.1 (99, 0, 0) (i + 1)) (S.1 (99, 0, 0) (i + 2)) 6 36 (cu_layer S hI (S.1 (99, 0, 0) (i + 1)) (S.1 (99, 0, 0) (i + 2)) (zz _) (zz _)) (CO.wq (fun h => by cases h))) rfl (Nat.le_of_ble_eq_true rfl) (Nat.le_of_ble_eq_true rfl) (by decide) (by omega) (by omega) (fun h1 qq => ?_) (fun v h1 qq => ?_) (fun E h1 qq => ?_)
  · obtain ⟨_, _, _, _, _, _, y, -⟩ := pW.wo (by decide) qq; cases y
  rotate_left
  · obtain ⟨_, _, _, _, _, _, y, -⟩ := pW.wo (by decide) qq; cases y
  obtain ⟨S1, S2, D9, k9, v9, rfl, y, q1, cb, ho, em, ji, hR, h90⟩ := pW.wo (by decide) qq
  cases y
  have e2 : MdE S S2 := (em.tr (MdE.q q1)).tr ho.md
  have hS2 : hp S2 (99, 0, 0) = some (.inr (0, n, .inl (S.1 (99, 0, 0)))) := by rw [hp99, e2.1 99 0 0 (by decide), e2.2, hn]
  have u2 := usum_e e2 5
  obtain ⟨c9, hc, hm⟩ := mo_layer S hI (S.1 (99, 0, 0) (i + 1)) (S.1 (99, 0, 0) (i + 2)) (zz _) (zz _) S1 S2 D9 k9 v9 q1 cb ho em ji hR
  refine x_istore (L' := [xR (99, 0, 0), xR (0, 0, 0), xR (50, 0, 0), xR (90, 0, 0), xR (91, 0, 0), xI i, xI (k9 : Int), none, none]) dL_law_901 (by decide) rfl ?_
  refine x_aload_n dL_law_903 rfl ?_
  refine x_aload_n dL_law_904 rfl ?_
  refine x_iload dL_law_905 rfl ?_
  refine x_iconst dL_law_907 ?_
  refine x_iadd dL_law_908 ?_
  refine x_alds dL_law_909 hS2 rfl (by omega) (by omega) (by omega) ?_
  refine x_aload_n dL_law_910 rfl ?_
  refine x_iload dL_law_911 rfl ?_
  refine x_iconst dL_law_913 ?_
  refine x_iadd dL_law_914 ?_
  refine x_alds dL_law_915 hS2 rfl (by omega) (by omega) (by omega) ?_
  refine x_callV 20 (c9 + 384) (as := [xI (S.1 (99, 0, 0) (i + 1)), xI (S.1 (99, 0, 0) (i + 2))]) (rest := []) ok_X9_layer dL_law_916 wd1335 ⟨wd1336, wd1337⟩ (hp50 S2) rfl rfl hm rfl (Nat.le_of_ble_eq_true rfl) (Nat.le_of_ble_eq_true rfl) (by decide) (by omega) (by omega) (fun h1 qq => ?_) (fun v h1 qq => ?_) (fun E h1 qq => ?_)
  · obtain ⟨_, _, -, y, -⟩ := qq; cases y
  rotate_left
  · obtain ⟨_, _, -, y, -⟩ := qq; cases y
  obtain ⟨T, z9, rfl, y, lT, t1, t2, t3, t4, t25, tv, tu⟩ := qq
  cases y
  have zk : zR (k9 : Int) := t25 ▸ lT.1.1.1 (50, 0, 0) 25
  refine x_istore (L' := [xR (99, 0, 0), xR (0, 0, 0), xR (50, 0, 0), xR (90, 0, 0), xR (91, 0, 0), xI i, xI (k9 : Int), xI z9, none]) dL_law_919 (by decide) rfl ?_
  refine x_aload_n dL_law_921 rfl ?_
  refine x_callV_r (a := 0) (b := 0) (as := []) (rest := []) ok_X9_thrown dL_law_922 wd1196 ⟨wd1197, wd1198⟩ (hp50 T) rfl rfl (m_thrown T lT.1.1) rfl (Nat.le_of_ble_eq_true rfl) (Nat.le_of_ble_eq_true rfl) (by decide) (by omega) (by omega) ?_
  refine x_top (show T.1 (50, 0, 0) 25 = (k9 : Int) from t25) ?_
  refine x_iload dL_law_925 rfl ?_
  refine x_icmp_eq (tgt := 932) dL_law_927 (by decide) zk zk (fun _ => ?_) (fun y => absurd rfl y)
  refine x_iload dL_law_932 rfl ?_
  refine x_if_ne (tgt := 949) dL_law_934 (by decide) zk (fun y => ?_) (fun y => ?_)
  · refine x_goto (tgt := 2700) dL_law_949 (by decide) ?_
    refine X.loc (L' := [xR (99, 0, 0), xR (0, 0, 0), xR (50, 0, 0), xR (90, 0, 0), xR (91, 0, 0), xI i, none, none, none]) ⟨rfl, ⟨rfl, ⟨rfl, ⟨rfl, ⟨rfl, ⟨rfl, trivial⟩⟩⟩⟩⟩⟩ ?_
    exact kont T _ _ lT (by rw [t1, e2.2, hn]) (by omega) (by omega)
  · obtain rfl : k9 = 0 := by omega
    have ez := tv rfl
    subst ez
    refine x_aload_n dL_law_937 rfl ?_
    refine x_iconst dL_law_938 ?_
    refine x_aldj dL_law_939 (hp90 T) (by decide) (by decide) (by decide) (by decide) ?_
    refine x_topJ (show T.2.1 (90, 0, 0) 0 = jI z9 from by rw [t2]; exact h90 rfl) ?_
    refine x_iload dL_law_940 rfl ?_
    refine x_i2l dL_law_942 ?_
    refine x_lcmp dL_law_943 ?_
    refine x_top (lg0.mpr rfl) ?_
    refine x_if_eq (tgt := 949) dL_law_944 (by decide) ⟨by decide, by decide⟩ (fun _ => ?_) (fun y => absurd rfl y)
    refine x_goto (tgt := 2700) dL_law_949 (by decide) ?_
    refine X.loc (L' := [xR (99, 0, 0), xR (0, 0, 0), xR (50, 0, 0), xR (90, 0, 0), xR (91, 0, 0), xI i, none, none, none]) ⟨rfl, ⟨rfl, ⟨rfl, ⟨rfl, ⟨rfl, ⟨rfl, trivial⟩⟩⟩⟩⟩⟩ ?_
    exact kont T _ _ lT (by rw [t1, e2.2, hn]) (by omega) (by omega)
set_option maxHeartbeats 4000000 in
set_option maxRecDepth 100000 in
theorem lc_knowing (S : XS) (hI : LwI S) (n : Nat) (hn : S.2.2.2.2.2 = n) (hn2 : n < 1000000) (i : Int) (i0 : 0 ≤ i) (i7 : i + 7 ≤ n) (kc ks : Nat) (hk : 30 ≤ kc) (hs : 82420 ≤ ks + usum S 5) {Q : XO → XH → Prop} (kont : KL n i (kc - 30) (ks + usum S 5 - 500) Q) : X mL_law 952 [xR (99, 0, 0), xR (0, 0, 0), xR (50, 0, 0), xR (90, 0, 0), xR (91, 0, 0), xI i, none, none, none] [] (hp S) kc ks Q := by
  have zz : ∀ j : Int, zR (S.1 (99, 0, 0) j) := fun j => hI.1.1.1 (99, 0, 0) j
  have hS : hp S (99, 0, 0) = some (.inr (0, n, .inl (S.1 (99, 0, 0)))) := by rw [hp99, hn]
  have u0 : usum S 5 ≤ 81920 := usum_le (fun l hl => mrl_gen hI.2.2.1 l hl) 5 (Nat.le_refl _)
  refine x_aload_n dL_law_952 rfl ?_
  refine x_aload_n dL_law_953 rfl ?_
  refine x_iload dL_law_954 rfl ?_
  refine x_iconst dL_law_956 ?_
  refine x_iadd dL_law_957 ?_
  refine x_alds dL_law_958 hS rfl (by omega) (by omega) (by omega) ?_
  refine x_aload_n dL_law_959 rfl ?_
  refine x_callSH 6 36 (as := [xR (0, 0, 0), xI (S.1 (99, 0, 0) (i + 1)), xR (90, 0, 0)]) (rest := []) ok_L_knowing dL_law_960 wd788 wd789 (w_knowing (hp0 S) (S.1 (99, 0, 0) (i + 1)) 6 36 (cu_knowing S hI (S.1 (99, 0, 0) (i + 1)) (zz _)) (CO.wq (fun h => by cases h))) rfl (Nat.le_of_ble_eq_true rfl) (Nat.le_of_ble_eq_true rfl) (by decide) (by omega) (by omega) (fun h1 qq => ?_) (fun v h1 qq => ?_) (fun E h1 qq => ?_)
  · obtain ⟨_, _, _, _, _, _, y, -⟩ := pW.wo (by decide) qq; cases y
  rotate_left
  · obtain ⟨_, _, _, _, _, _, y, -⟩ := pW.wo (by decide) qq; cases y
  obtain ⟨S1, S2, D9, k9, v9, rfl, y, q1, cb, ho, em, ji, hR, h90⟩ := pW.wo (by decide) qq
  cases y
  have e2 : MdE S S2 := (em.tr (MdE.q q1)).tr ho.md
  have hS2 : hp S2 (99, 0, 0) = some (.inr (0, n, .inl (S.1 (99, 0, 0)))) := by rw [hp99, e2.1 99 0 0 (by decide), e2.2, hn]
  have u2 := usum_e e2 5
  obtain ⟨c9, hc, hm⟩ := mo_knowing S hI (S.1 (99, 0, 0) (i + 1)) (zz _) S1 S2 D9 k9 v9 q1 cb ho em ji hR
  refine x_istore (L' := [xR (99, 0, 0), xR (0, 0, 0), xR (50, 0, 0), xR (90, 0, 0), xR (91, 0, 0), xI i, xI (k9 : Int), none, none]) dL_law_963 (by decide) rfl ?_
  refine x_aload_n dL_law_965 rfl ?_
  refine x_aload_n dL_law_966 rfl ?_
  refine x_iload dL_law_967 rfl ?_
  refine x_iconst dL_law_969 ?_
  refine x_iadd dL_law_970 ?_
  refine x_alds dL_law_971 hS2 rfl (by omega) (by omega) (by omega) ?_
  refine x_callV 20 (c9 + 384) (as := [xI (S.1 (99, 0, 0) (i + 1))]) (rest := []) ok_X9_knowing dL_law_972 wd1339 ⟨wd1340, wd1341⟩ (hp50 S2) rfl rfl hm rfl (Nat.le_of_ble_eq_true rfl) (Nat.le_of_ble_eq_true rfl) (by decide) (by omega) (by omega) (fun h1 qq => ?_) (fun v h1 qq => ?_) (fun E h1 qq => ?_)
  · obtain ⟨_, _, -, y, -⟩ := qq; cases y
  rotate_left
  · obtain ⟨_, _, -, y, -⟩ := qq; cases y
  obtain ⟨T, z9, rfl, y, lT, t1, t2, t3, t4, t25, tv, tu⟩ := qq
  cases y
  have zk : zR (k9 : Int) := t25 ▸ lT.1.1.1 (50, 0, 0) 25
  refine x_istore (L' := [xR (99, 0, 0), xR (0, 0, 0), xR (50, 0, 0), xR (90, 0, 0), xR (91, 0, 0), xI i, xI (k9 : Int), xI z9, none]) dL_law_975 (by decide) rfl ?_
  refine x_aload_n dL_law_977 rfl ?_
  refine x_callV_r (a := 0) (b := 0) (as := []) (rest := []) ok_X9_thrown dL_law_978 wd1196 ⟨wd1197, wd1198⟩ (hp50 T) rfl rfl (m_thrown T lT.1.1) rfl (Nat.le_of_ble_eq_true rfl) (Nat.le_of_ble_eq_true rfl) (by decide) (by omega) (by omega) ?_
  refine x_top (show T.1 (50, 0, 0) 25 = (k9 : Int) from t25) ?_
  refine x_iload dL_law_981 rfl ?_
  refine x_icmp_eq (tgt := 988) dL_law_983 (by decide) zk zk (fun _ => ?_) (fun y => absurd rfl y)
  refine x_iload dL_law_988 rfl ?_
  refine x_if_ne (tgt := 1005) dL_law_990 (by decide) zk (fun y => ?_) (fun y => ?_)
  · refine x_goto (tgt := 2700) dL_law_1005 (by decide) ?_
    refine X.loc (L' := [xR (99, 0, 0), xR (0, 0, 0), xR (50, 0, 0), xR (90, 0, 0), xR (91, 0, 0), xI i, none, none, none]) ⟨rfl, ⟨rfl, ⟨rfl, ⟨rfl, ⟨rfl, ⟨rfl, trivial⟩⟩⟩⟩⟩⟩ ?_
    exact kont T _ _ lT (by rw [t1, e2.2, hn]) (by omega) (by omega)
  · obtain rfl : k9 = 0 := by omega
    have ez := tv rfl
    subst ez
    refine x_aload_n dL_law_993 rfl ?_
    refine x_iconst dL_law_994 ?_
    refine x_aldj dL_law_995 (hp90 T) (by decide) (by decide) (by decide) (by decide) ?_
    refine x_topJ (show T.2.1 (90, 0, 0) 0 = jI z9 from by rw [t2]; exact h90 rfl) ?_
    refine x_iload dL_law_996 rfl ?_
    refine x_i2l dL_law_998 ?_
    refine x_lcmp dL_law_999 ?_
    refine x_top (lg0.mpr rfl) ?_
    refine x_if_eq (tgt := 1005) dL_law_1000 (by decide) ⟨by decide, by decide⟩ (fun _ => ?_) (fun y => absurd rfl y)
    refine x_goto (tgt := 2700) dL_law_1005 (by decide) ?_
    refine X.loc (L' := [xR (99, 0, 0), xR (0, 0, 0), xR (50, 0, 0), xR (90, 0, 0), xR (91, 0, 0), xI i, none, none, none]) ⟨rfl, ⟨rfl, ⟨rfl, ⟨rfl, ⟨rfl, ⟨rfl, trivial⟩⟩⟩⟩⟩⟩ ?_
    exact kont T _ _ lT (by rw [t1, e2.2, hn]) (by omega) (by omega)
set_option maxHeartbeats 4000000 in
set_option maxRecDepth 100000 in
theorem lc_holds (S : XS) (hI : LwI S) (n : Nat) (hn : S.2.2.2.2.2 = n) (hn2 : n < 1000000) (i : Int) (i0 : 0 ≤ i) (i7 : i + 7 ≤ n) (kc ks : Nat) (hk : 30 ≤ kc) (hs : 82420 ≤ ks + usum S 5) {Q : XO → XH → Prop} (kont : KL n i (kc - 30) (ks + usum S 5 - 500) Q) : X mL_law 1008 [xR (99, 0, 0), xR (0, 0, 0), xR (50, 0, 0), xR (90, 0, 0), xR (91, 0, 0), xI i, none, none, none] [] (hp S) kc ks Q := by
  have zz : ∀ j : Int, zR (S.1 (99, 0, 0) j) := fun j => hI.1.1.1 (99, 0, 0) j
  have hS : hp S (99, 0, 0) = some (.inr (0, n, .inl (S.1 (99, 0, 0)))) := by rw [hp99, hn]
  have u0 : usum S 5 ≤ 81920 := usum_le (fun l hl => mrl_gen hI.2.2.1 l hl) 5 (Nat.le_refl _)
  refine x_aload_n dL_law_1008 rfl ?_
  refine x_aload_n dL_law_1009 rfl ?_
  refine x_iload dL_law_1010 rfl ?_
  refine x_iconst dL_law_1012 ?_
  refine x_iadd dL_law_1013 ?_
  refine x_alds dL_law_1014 hS rfl (by omega) (by omega) (by omega) ?_
  refine x_aload_n dL_law_1015 rfl ?_
  refine x_iload dL_law_1016 rfl ?_
  refine x_iconst dL_law_1018 ?_
  refine x_iadd dL_law_1019 ?_
  refine x_alds dL_law_1020 hS rfl (by omega) (by omega) (by omega) ?_
  refine x_aload_n dL_law_1021 rfl ?_
  refine x_iload dL_law_1022 rfl ?_
  refine x_iconst dL_law_1024 ?_
  refine x_iadd dL_law_1025 ?_
  refine x_alds dL_law_1026 hS rfl (by omega) (by omega) (by omega) ?_
  refine x_aload_n dL_law_1027 rfl ?_
  refine x_iload dL_law_1028 rfl ?_
  refine x_iconst dL_law_1030 ?_
  refine x_iadd dL_law_1031 ?_
  refine x_alds dL_law_1032 hS rfl (by omega) (by omega) (by omega) ?_
  refine x_aload_n dL_law_1033 rfl ?_
  have hq9 : ∀ v9 D9, R_holds S (S.1 (99, 0, 0) (i + 1)) (S.1 (99, 0, 0) (i + 2)) (S.1 (99, 0, 0) (i + 3)) (S.1 (99, 0, 0) (i + 4)) 0 v9 D9 → v9 = 0 ∨ v9 = 1 := fun v9 D9 hR => by
    rcases hR with ⟨-, y0, y1, rfl, -⟩ | ⟨y, -⟩ | ⟨y, -⟩
    · exact bI_01 _
    · exact absurd y (by decide)
    · exact absurd y (by decide)
  refine x_callSH 6 36 (as := [xR (0, 0, 0), xI (S.1 (99, 0, 0) (i + 1)), xI (S.1 (99, 0, 0) (i + 2)), xI (S.1 (99, 0, 0) (i + 3)), xI (S.1 (99, 0, 0) (i + 4)), xR (90, 0, 0)]) (rest := []) ok_L_holds dL_law_1034 wd795 wd796 (w_holds (hp0 S) (S.1 (99, 0, 0) (i + 1)) (S.1 (99, 0, 0) (i + 2)) (S.1 (99, 0, 0) (i + 3)) (S.1 (99, 0, 0) (i + 4)) 6 36 (cu_holds S hI (S.1 (99, 0, 0) (i + 1)) (S.1 (99, 0, 0) (i + 2)) (S.1 (99, 0, 0) (i + 3)) (S.1 (99, 0, 0) (i + 4)) (zz _) (zz _) (zz _) (zz _)) (CO.wq (fun _ => hq9))) rfl (Nat.le_of_ble_eq_true rfl) (Nat.le_of_ble_eq_true rfl) (by decide) (by omega) (by omega) (fun h1 qq => ?_) (fun v h1 qq => ?_) (fun E h1 qq => ?_)
  · obtain ⟨_, _, _, _, _, _, y, -⟩ := pW.wo (by decide) qq; cases y
  rotate_left
  · obtain ⟨_, _, _, _, _, _, y, -⟩ := pW.wo (by decide) qq; cases y
  obtain ⟨S1, S2, D9, k9, v9, rfl, y, q1, cb, ho, em, ji, hR, h90⟩ := pW.wo (by decide) qq
  cases y
  have e2 : MdE S S2 := (em.tr (MdE.q q1)).tr ho.md
  have hS2 : hp S2 (99, 0, 0) = some (.inr (0, n, .inl (S.1 (99, 0, 0)))) := by rw [hp99, e2.1 99 0 0 (by decide), e2.2, hn]
  have u2 := usum_e e2 5
  obtain ⟨c9, hc, hm⟩ := mo_holds S hI (S.1 (99, 0, 0) (i + 1)) (S.1 (99, 0, 0) (i + 2)) (S.1 (99, 0, 0) (i + 3)) (S.1 (99, 0, 0) (i + 4)) (zz _) (zz _) (zz _) (zz _) S1 S2 D9 k9 v9 q1 cb ho em ji hR
  refine x_istore (L' := [xR (99, 0, 0), xR (0, 0, 0), xR (50, 0, 0), xR (90, 0, 0), xR (91, 0, 0), xI i, xI (k9 : Int), none, none]) dL_law_1037 (by decide) rfl ?_
  refine x_aload_n dL_law_1039 rfl ?_
  refine x_aload_n dL_law_1040 rfl ?_
  refine x_iload dL_law_1041 rfl ?_
  refine x_iconst dL_law_1043 ?_
  refine x_iadd dL_law_1044 ?_
  refine x_alds dL_law_1045 hS2 rfl (by omega) (by omega) (by omega) ?_
  refine x_aload_n dL_law_1046 rfl ?_
  refine x_iload dL_law_1047 rfl ?_
  refine x_iconst dL_law_1049 ?_
  refine x_iadd dL_law_1050 ?_
  refine x_alds dL_law_1051 hS2 rfl (by omega) (by omega) (by omega) ?_
  refine x_aload_n dL_law_1052 rfl ?_
  refine x_iload dL_law_1053 rfl ?_
  refine x_iconst dL_law_1055 ?_
  refine x_iadd dL_law_1056 ?_
  refine x_alds dL_law_1057 hS2 rfl (by omega) (by omega) (by omega) ?_
  refine x_aload_n dL_law_1058 rfl ?_
  refine x_iload dL_law_1059 rfl ?_
  refine x_iconst dL_law_1061 ?_
  refine x_iadd dL_law_1062 ?_
  refine x_alds dL_law_1063 hS2 rfl (by omega) (by omega) (by omega) ?_
  refine x_callV 20 (c9 + 384) (as := [xI (S.1 (99, 0, 0) (i + 1)), xI (S.1 (99, 0, 0) (i + 2)), xI (S.1 (99, 0, 0) (i + 3)), xI (S.1 (99, 0, 0) (i + 4))]) (rest := []) ok_X9_holds dL_law_1064 wd1343 ⟨wd1344, wd1345⟩ (hp50 S2) rfl rfl hm rfl (Nat.le_of_ble_eq_true rfl) (Nat.le_of_ble_eq_true rfl) (by decide) (by omega) (by omega) (fun h1 qq => ?_) (fun v h1 qq => ?_) (fun E h1 qq => ?_)
  · obtain ⟨_, _, -, y, -⟩ := qq; cases y
  rotate_left
  · obtain ⟨_, _, -, y, -⟩ := qq; cases y
  obtain ⟨T, z9, rfl, y, lT, t1, t2, t3, t4, t25, tv, tu⟩ := qq
  cases y
  have zk : zR (k9 : Int) := t25 ▸ lT.1.1.1 (50, 0, 0) 25
  refine x_istore (L' := [xR (99, 0, 0), xR (0, 0, 0), xR (50, 0, 0), xR (90, 0, 0), xR (91, 0, 0), xI i, xI (k9 : Int), xI z9, none]) dL_law_1067 (by decide) rfl ?_
  refine x_aload_n dL_law_1069 rfl ?_
  refine x_callV_r (a := 0) (b := 0) (as := []) (rest := []) ok_X9_thrown dL_law_1070 wd1196 ⟨wd1197, wd1198⟩ (hp50 T) rfl rfl (m_thrown T lT.1.1) rfl (Nat.le_of_ble_eq_true rfl) (Nat.le_of_ble_eq_true rfl) (by decide) (by omega) (by omega) ?_
  refine x_top (show T.1 (50, 0, 0) 25 = (k9 : Int) from t25) ?_
  refine x_iload dL_law_1073 rfl ?_
  refine x_icmp_eq (tgt := 1080) dL_law_1075 (by decide) zk zk (fun _ => ?_) (fun y => absurd rfl y)
  refine x_iload dL_law_1080 rfl ?_
  refine x_if_ne (tgt := 1104) dL_law_1082 (by decide) zk (fun y => ?_) (fun y => ?_)
  · refine x_goto (tgt := 2700) dL_law_1104 (by decide) ?_
    refine X.loc (L' := [xR (99, 0, 0), xR (0, 0, 0), xR (50, 0, 0), xR (90, 0, 0), xR (91, 0, 0), xI i, none, none, none]) ⟨rfl, ⟨rfl, ⟨rfl, ⟨rfl, ⟨rfl, ⟨rfl, trivial⟩⟩⟩⟩⟩⟩ ?_
    exact kont T _ _ lT (by rw [t1, e2.2, hn]) (by omega) (by omega)
  · obtain rfl : k9 = 0 := by omega
    have ez := tv rfl
    subst ez
    refine x_aload_n dL_law_1085 rfl ?_
    refine x_iconst dL_law_1086 ?_
    refine x_aldj dL_law_1087 (hp90 T) (by decide) (by decide) (by decide) (by decide) ?_
    refine x_topJ (show T.2.1 (90, 0, 0) 0 = jI z9 from by rw [t2]; exact h90 rfl) ?_
    refine x_iload dL_law_1088 rfl ?_
    have v01 : z9 = 0 ∨ z9 = 1 := hq9 _ _ hR
    rcases v01 with rfl | rfl
    · refine x_if_eq (tgt := 1097) dL_law_1090 (by decide) ⟨by decide, by decide⟩ (fun _ => ?_) (fun y => absurd rfl y)
      refine x_lconst (v := 0) dL_law_1097 (by decide) ?_
      refine x_lcmp dL_law_1098 ?_
      refine x_top (lg0.mpr (by decide)) ?_
      refine x_if_eq (tgt := 1104) dL_law_1099 (by decide) ⟨by decide, by decide⟩ (fun _ => ?_) (fun y => absurd rfl y)
      refine x_goto (tgt := 2700) dL_law_1104 (by decide) ?_
      refine X.loc (L' := [xR (99, 0, 0), xR (0, 0, 0), xR (50, 0, 0), xR (90, 0, 0), xR (91, 0, 0), xI i, none, none, none]) ⟨rfl, ⟨rfl, ⟨rfl, ⟨rfl, ⟨rfl, ⟨rfl, trivial⟩⟩⟩⟩⟩⟩ ?_
      exact kont T _ _ lT (by rw [t1, e2.2, hn]) (by omega) (by omega)
    · refine x_if_eq (tgt := 1097) dL_law_1090 (by decide) ⟨by decide, by decide⟩ (fun y => absurd y (by decide)) (fun _ => ?_)
      refine x_lconst (v := 1) dL_law_1093 (by decide) ?_
      refine x_goto (tgt := 1098) dL_law_1094 (by decide) ?_
      refine x_lcmp dL_law_1098 ?_
      refine x_top (lg0.mpr (by decide)) ?_
      refine x_if_eq (tgt := 1104) dL_law_1099 (by decide) ⟨by decide, by decide⟩ (fun _ => ?_) (fun y => absurd rfl y)
      refine x_goto (tgt := 2700) dL_law_1104 (by decide) ?_
      refine X.loc (L' := [xR (99, 0, 0), xR (0, 0, 0), xR (50, 0, 0), xR (90, 0, 0), xR (91, 0, 0), xI i, none, none, none]) ⟨rfl, ⟨rfl, ⟨rfl, ⟨rfl, ⟨rfl, ⟨rfl, trivial⟩⟩⟩⟩⟩⟩ ?_
      exact kont T _ _ lT (by rw [t1, e2.2, hn]) (by omega) (by omega)
set_option maxHeartbeats 4000000 in
set_option maxRecDepth 100000 in
theorem lc_holdsAnew (S : XS) (hI : LwI S) (n : Nat) (hn : S.2.2.2.2.2 = n) (hn2 : n < 1000000) (i : Int) (i0 : 0 ≤ i) (i7 : i + 7 ≤ n) (kc ks : Nat) (hk : 30 ≤ kc) (hs : 82420 ≤ ks + usum S 5) {Q : XO → XH → Prop} (kont : KL n i (kc - 30) (ks + usum S 5 - 500) Q) : X mL_law 1107 [xR (99, 0, 0), xR (0, 0, 0), xR (50, 0, 0), xR (90, 0, 0), xR (91, 0, 0), xI i, none, none, none] [] (hp S) kc ks Q := by
  have zz : ∀ j : Int, zR (S.1 (99, 0, 0) j) := fun j => hI.1.1.1 (99, 0, 0) j
  have hS : hp S (99, 0, 0) = some (.inr (0, n, .inl (S.1 (99, 0, 0)))) := by rw [hp99, hn]
  have u0 : usum S 5 ≤ 81920 := usum_le (fun l hl => mrl_gen hI.2.2.1 l hl) 5 (Nat.le_refl _)
  refine x_aload_n dL_law_1107 rfl ?_
  refine x_aload_n dL_law_1108 rfl ?_
  refine x_iload dL_law_1109 rfl ?_
  refine x_iconst dL_law_1111 ?_
  refine x_iadd dL_law_1112 ?_
  refine x_alds dL_law_1113 hS rfl (by omega) (by omega) (by omega) ?_
  refine x_aload_n dL_law_1114 rfl ?_
  refine x_iload dL_law_1115 rfl ?_
  refine x_iconst dL_law_1117 ?_
  refine x_iadd dL_law_1118 ?_
  refine x_alds dL_law_1119 hS rfl (by omega) (by omega) (by omega) ?_
  refine x_aload_n dL_law_1120 rfl ?_
  refine x_iload dL_law_1121 rfl ?_
  refine x_iconst dL_law_1123 ?_
  refine x_iadd dL_law_1124 ?_
  refine x_alds dL_law_1125 hS rfl (by omega) (by omega) (by omega) ?_
  refine x_aload_n dL_law_1126 rfl ?_
  refine x_iload dL_law_1127 rfl ?_
  refine x_iconst dL_law_1129 ?_
  refine x_iadd dL_law_1130 ?_
  refine x_alds dL_law_1131 hS rfl (by omega) (by omega) (by omega) ?_
  refine x_aload_n dL_law_1132 rfl ?_
  have hq9 : ∀ v9 D9, R_holdsAnew S (S.1 (99, 0, 0) (i + 1)) (S.1 (99, 0, 0) (i + 2)) (S.1 (99, 0, 0) (i + 3)) (S.1 (99, 0, 0) (i + 4)) 0 v9 D9 → v9 = 0 ∨ v9 = 1 := fun v9 D9 hR => by
    rcases hR with ⟨-, y0, y1, rfl, -⟩ | ⟨y, -⟩ | ⟨y, -⟩
    · exact bI_01 _
    · exact absurd y (by decide)
    · exact absurd y (by decide)
  refine x_callSH 6 36 (as := [xR (0, 0, 0), xI (S.1 (99, 0, 0) (i + 1)), xI (S.1 (99, 0, 0) (i + 2)), xI (S.1 (99, 0, 0) (i + 3)), xI (S.1 (99, 0, 0) (i + 4)), xR (90, 0, 0)]) (rest := []) ok_L_holdsAnew dL_law_1133 wd813 wd814 (w_holdsAnew (hp0 S) (S.1 (99, 0, 0) (i + 1)) (S.1 (99, 0, 0) (i + 2)) (S.1 (99, 0, 0) (i + 3)) (S.1 (99, 0, 0) (i + 4)) 6 36 (cu_holdsAnew S hI (S.1 (99, 0, 0) (i + 1)) (S.1 (99, 0, 0) (i + 2)) (S.1 (99, 0, 0) (i + 3)) (S.1 (99, 0, 0) (i + 4)) (zz _) (zz _) (zz _) (zz _)) (CO.wq (fun _ => hq9))) rfl (Nat.le_of_ble_eq_true rfl) (Nat.le_of_ble_eq_true rfl) (by decide) (by omega) (by omega) (fun h1 qq => ?_) (fun v h1 qq => ?_) (fun E h1 qq => ?_)
  · obtain ⟨_, _, _, _, _, _, y, -⟩ := pW.wo (by decide) qq; cases y
  rotate_left
  · obtain ⟨_, _, _, _, _, _, y, -⟩ := pW.wo (by decide) qq; cases y
  obtain ⟨S1, S2, D9, k9, v9, rfl, y, q1, cb, ho, em, ji, hR, h90⟩ := pW.wo (by decide) qq
  cases y
  have e2 : MdE S S2 := (em.tr (MdE.q q1)).tr ho.md
  have hS2 : hp S2 (99, 0, 0) = some (.inr (0, n, .inl (S.1 (99, 0, 0)))) := by rw [hp99, e2.1 99 0 0 (by decide), e2.2, hn]
  have u2 := usum_e e2 5
  obtain ⟨c9, hc, hm⟩ := mo_holdsAnew S hI (S.1 (99, 0, 0) (i + 1)) (S.1 (99, 0, 0) (i + 2)) (S.1 (99, 0, 0) (i + 3)) (S.1 (99, 0, 0) (i + 4)) (zz _) (zz _) (zz _) (zz _) S1 S2 D9 k9 v9 q1 cb ho em ji hR
  refine x_istore (L' := [xR (99, 0, 0), xR (0, 0, 0), xR (50, 0, 0), xR (90, 0, 0), xR (91, 0, 0), xI i, xI (k9 : Int), none, none]) dL_law_1136 (by decide) rfl ?_
  refine x_aload_n dL_law_1138 rfl ?_
  refine x_aload_n dL_law_1139 rfl ?_
  refine x_iload dL_law_1140 rfl ?_
  refine x_iconst dL_law_1142 ?_
  refine x_iadd dL_law_1143 ?_
  refine x_alds dL_law_1144 hS2 rfl (by omega) (by omega) (by omega) ?_
  refine x_aload_n dL_law_1145 rfl ?_
  refine x_iload dL_law_1146 rfl ?_
  refine x_iconst dL_law_1148 ?_
  refine x_iadd dL_law_1149 ?_
  refine x_alds dL_law_1150 hS2 rfl (by omega) (by omega) (by omega) ?_
  refine x_aload_n dL_law_1151 rfl ?_
  refine x_iload dL_law_1152 rfl ?_
  refine x_iconst dL_law_1154 ?_
  refine x_iadd dL_law_1155 ?_
  refine x_alds dL_law_1156 hS2 rfl (by omega) (by omega) (by omega) ?_
  refine x_aload_n dL_law_1157 rfl ?_
  refine x_iload dL_law_1158 rfl ?_
  refine x_iconst dL_law_1160 ?_
  refine x_iadd dL_law_1161 ?_
  refine x_alds dL_law_1162 hS2 rfl (by omega) (by omega) (by omega) ?_
  refine x_callV 20 (c9 + 384) (as := [xI (S.1 (99, 0, 0) (i + 1)), xI (S.1 (99, 0, 0) (i + 2)), xI (S.1 (99, 0, 0) (i + 3)), xI (S.1 (99, 0, 0) (i + 4))]) (rest := []) ok_X9_holdsAnew dL_law_1163 wd1355 ⟨wd1356, wd1357⟩ (hp50 S2) rfl rfl hm rfl (Nat.le_of_ble_eq_true rfl) (Nat.le_of_ble_eq_true rfl) (by decide) (by omega) (by omega) (fun h1 qq => ?_) (fun v h1 qq => ?_) (fun E h1 qq => ?_)
  · obtain ⟨_, _, -, y, -⟩ := qq; cases y
  rotate_left
  · obtain ⟨_, _, -, y, -⟩ := qq; cases y
  obtain ⟨T, z9, rfl, y, lT, t1, t2, t3, t4, t25, tv, tu⟩ := qq
  cases y
  have zk : zR (k9 : Int) := t25 ▸ lT.1.1.1 (50, 0, 0) 25
  refine x_istore (L' := [xR (99, 0, 0), xR (0, 0, 0), xR (50, 0, 0), xR (90, 0, 0), xR (91, 0, 0), xI i, xI (k9 : Int), xI z9, none]) dL_law_1166 (by decide) rfl ?_
  refine x_aload_n dL_law_1168 rfl ?_
  refine x_callV_r (a := 0) (b := 0) (as := []) (rest := []) ok_X9_thrown dL_law_1169 wd1196 ⟨wd1197, wd1198⟩ (hp50 T) rfl rfl (m_thrown T lT.1.1) rfl (Nat.le_of_ble_eq_true rfl) (Nat.le_of_ble_eq_true rfl) (by decide) (by omega) (by omega) ?_
  refine x_top (show T.1 (50, 0, 0) 25 = (k9 : Int) from t25) ?_
  refine x_iload dL_law_1172 rfl ?_
  refine x_icmp_eq (tgt := 1179) dL_law_1174 (by decide) zk zk (fun _ => ?_) (fun y => absurd rfl y)
  refine x_iload dL_law_1179 rfl ?_
  refine x_if_ne (tgt := 1203) dL_law_1181 (by decide) zk (fun y => ?_) (fun y => ?_)
  · refine x_goto (tgt := 2700) dL_law_1203 (by decide) ?_
    refine X.loc (L' := [xR (99, 0, 0), xR (0, 0, 0), xR (50, 0, 0), xR (90, 0, 0), xR (91, 0, 0), xI i, none, none, none]) ⟨rfl, ⟨rfl, ⟨rfl, ⟨rfl, ⟨rfl, ⟨rfl, trivial⟩⟩⟩⟩⟩⟩ ?_
    exact kont T _ _ lT (by rw [t1, e2.2, hn]) (by omega) (by omega)
  · obtain rfl : k9 = 0 := by omega
    have ez := tv rfl
    subst ez
    refine x_aload_n dL_law_1184 rfl ?_
    refine x_iconst dL_law_1185 ?_
    refine x_aldj dL_law_1186 (hp90 T) (by decide) (by decide) (by decide) (by decide) ?_
    refine x_topJ (show T.2.1 (90, 0, 0) 0 = jI z9 from by rw [t2]; exact h90 rfl) ?_
    refine x_iload dL_law_1187 rfl ?_
    have v01 : z9 = 0 ∨ z9 = 1 := hq9 _ _ hR
    rcases v01 with rfl | rfl
    · refine x_if_eq (tgt := 1196) dL_law_1189 (by decide) ⟨by decide, by decide⟩ (fun _ => ?_) (fun y => absurd rfl y)
      refine x_lconst (v := 0) dL_law_1196 (by decide) ?_
      refine x_lcmp dL_law_1197 ?_
      refine x_top (lg0.mpr (by decide)) ?_
      refine x_if_eq (tgt := 1203) dL_law_1198 (by decide) ⟨by decide, by decide⟩ (fun _ => ?_) (fun y => absurd rfl y)
      refine x_goto (tgt := 2700) dL_law_1203 (by decide) ?_
      refine X.loc (L' := [xR (99, 0, 0), xR (0, 0, 0), xR (50, 0, 0), xR (90, 0, 0), xR (91, 0, 0), xI i, none, none, none]) ⟨rfl, ⟨rfl, ⟨rfl, ⟨rfl, ⟨rfl, ⟨rfl, trivial⟩⟩⟩⟩⟩⟩ ?_
      exact kont T _ _ lT (by rw [t1, e2.2, hn]) (by omega) (by omega)
    · refine x_if_eq (tgt := 1196) dL_law_1189 (by decide) ⟨by decide, by decide⟩ (fun y => absurd y (by decide)) (fun _ => ?_)
      refine x_lconst (v := 1) dL_law_1192 (by decide) ?_
      refine x_goto (tgt := 1197) dL_law_1193 (by decide) ?_
      refine x_lcmp dL_law_1197 ?_
      refine x_top (lg0.mpr (by decide)) ?_
      refine x_if_eq (tgt := 1203) dL_law_1198 (by decide) ⟨by decide, by decide⟩ (fun _ => ?_) (fun y => absurd rfl y)
      refine x_goto (tgt := 2700) dL_law_1203 (by decide) ?_
      refine X.loc (L' := [xR (99, 0, 0), xR (0, 0, 0), xR (50, 0, 0), xR (90, 0, 0), xR (91, 0, 0), xI i, none, none, none]) ⟨rfl, ⟨rfl, ⟨rfl, ⟨rfl, ⟨rfl, ⟨rfl, trivial⟩⟩⟩⟩⟩⟩ ?_
      exact kont T _ _ lT (by rw [t1, e2.2, hn]) (by omega) (by omega)
set_option maxHeartbeats 4000000 in
set_option maxRecDepth 100000 in
theorem lc_count (S : XS) (hI : LwI S) (n : Nat) (hn : S.2.2.2.2.2 = n) (hn2 : n < 1000000) (i : Int) (i0 : 0 ≤ i) (i7 : i + 7 ≤ n) (kc ks : Nat) (hk : 30 ≤ kc) (hs : 82420 ≤ ks + usum S 5) {Q : XO → XH → Prop} (kont : KL n i (kc - 30) (ks + usum S 5 - 500) Q) : X mL_law 1206 [xR (99, 0, 0), xR (0, 0, 0), xR (50, 0, 0), xR (90, 0, 0), xR (91, 0, 0), xI i, none, none, none] [] (hp S) kc ks Q := by
  have zz : ∀ j : Int, zR (S.1 (99, 0, 0) j) := fun j => hI.1.1.1 (99, 0, 0) j
  have hS : hp S (99, 0, 0) = some (.inr (0, n, .inl (S.1 (99, 0, 0)))) := by rw [hp99, hn]
  have u0 : usum S 5 ≤ 81920 := usum_le (fun l hl => mrl_gen hI.2.2.1 l hl) 5 (Nat.le_refl _)
  refine x_aload_n dL_law_1206 rfl ?_
  refine x_aload_n dL_law_1207 rfl ?_
  refine x_iload dL_law_1208 rfl ?_
  refine x_iconst dL_law_1210 ?_
  refine x_iadd dL_law_1211 ?_
  refine x_alds dL_law_1212 hS rfl (by omega) (by omega) (by omega) ?_
  refine x_aload_n dL_law_1213 rfl ?_
  refine x_iload dL_law_1214 rfl ?_
  refine x_iconst dL_law_1216 ?_
  refine x_iadd dL_law_1217 ?_
  refine x_alds dL_law_1218 hS rfl (by omega) (by omega) (by omega) ?_
  refine x_aload_n dL_law_1219 rfl ?_
  refine x_iload dL_law_1220 rfl ?_
  refine x_iconst dL_law_1222 ?_
  refine x_iadd dL_law_1223 ?_
  refine x_alds dL_law_1224 hS rfl (by omega) (by omega) (by omega) ?_
  refine x_aload_n dL_law_1225 rfl ?_
  refine x_iload dL_law_1226 rfl ?_
  refine x_iconst dL_law_1228 ?_
  refine x_iadd dL_law_1229 ?_
  refine x_alds dL_law_1230 hS rfl (by omega) (by omega) (by omega) ?_
  refine x_aload_n dL_law_1231 rfl ?_
  refine x_callSH 6 36 (as := [xR (0, 0, 0), xI (S.1 (99, 0, 0) (i + 1)), xI (S.1 (99, 0, 0) (i + 2)), xI (S.1 (99, 0, 0) (i + 3)), xI (S.1 (99, 0, 0) (i + 4)), xR (90, 0, 0)]) (rest := []) ok_L_count dL_law_1232 wd820 wd821 (w_count (hp0 S) (S.1 (99, 0, 0) (i + 1)) (S.1 (99, 0, 0) (i + 2)) (S.1 (99, 0, 0) (i + 3)) (S.1 (99, 0, 0) (i + 4)) 6 36 (cu_count S hI (S.1 (99, 0, 0) (i + 1)) (S.1 (99, 0, 0) (i + 2)) (S.1 (99, 0, 0) (i + 3)) (S.1 (99, 0, 0) (i + 4)) (zz _) (zz _) (zz _) (zz _)) (CO.wq (fun h => by cases h))) rfl (Nat.le_of_ble_eq_true rfl) (Nat.le_of_ble_eq_true rfl) (by decide) (by omega) (by omega) (fun h1 qq => ?_) (fun v h1 qq => ?_) (fun E h1 qq => ?_)
  · obtain ⟨_, _, _, _, _, _, y, -⟩ := pW.wo (by decide) qq; cases y
  rotate_left
  · obtain ⟨_, _, _, _, _, _, y, -⟩ := pW.wo (by decide) qq; cases y
  obtain ⟨S1, S2, D9, k9, v9, rfl, y, q1, cb, ho, em, ji, hR, h90⟩ := pW.wo (by decide) qq
  cases y
  have e2 : MdE S S2 := (em.tr (MdE.q q1)).tr ho.md
  have hS2 : hp S2 (99, 0, 0) = some (.inr (0, n, .inl (S.1 (99, 0, 0)))) := by rw [hp99, e2.1 99 0 0 (by decide), e2.2, hn]
  have u2 := usum_e e2 5
  obtain ⟨c9, hc, hm⟩ := mo_count S hI (S.1 (99, 0, 0) (i + 1)) (S.1 (99, 0, 0) (i + 2)) (S.1 (99, 0, 0) (i + 3)) (S.1 (99, 0, 0) (i + 4)) (zz _) (zz _) (zz _) (zz _) S1 S2 D9 k9 v9 q1 cb ho em ji hR
  refine x_istore (L' := [xR (99, 0, 0), xR (0, 0, 0), xR (50, 0, 0), xR (90, 0, 0), xR (91, 0, 0), xI i, xI (k9 : Int), none, none]) dL_law_1235 (by decide) rfl ?_
  refine x_aload_n dL_law_1237 rfl ?_
  refine x_aload_n dL_law_1238 rfl ?_
  refine x_iload dL_law_1239 rfl ?_
  refine x_iconst dL_law_1241 ?_
  refine x_iadd dL_law_1242 ?_
  refine x_alds dL_law_1243 hS2 rfl (by omega) (by omega) (by omega) ?_
  refine x_aload_n dL_law_1244 rfl ?_
  refine x_iload dL_law_1245 rfl ?_
  refine x_iconst dL_law_1247 ?_
  refine x_iadd dL_law_1248 ?_
  refine x_alds dL_law_1249 hS2 rfl (by omega) (by omega) (by omega) ?_
  refine x_aload_n dL_law_1250 rfl ?_
  refine x_iload dL_law_1251 rfl ?_
  refine x_iconst dL_law_1253 ?_
  refine x_iadd dL_law_1254 ?_
  refine x_alds dL_law_1255 hS2 rfl (by omega) (by omega) (by omega) ?_
  refine x_aload_n dL_law_1256 rfl ?_
  refine x_iload dL_law_1257 rfl ?_
  refine x_iconst dL_law_1259 ?_
  refine x_iadd dL_law_1260 ?_
  refine x_alds dL_law_1261 hS2 rfl (by omega) (by omega) (by omega) ?_
  refine x_callV 20 (c9 + 384) (as := [xI (S.1 (99, 0, 0) (i + 1)), xI (S.1 (99, 0, 0) (i + 2)), xI (S.1 (99, 0, 0) (i + 3)), xI (S.1 (99, 0, 0) (i + 4))]) (rest := []) ok_X9_count dL_law_1262 wd1360 ⟨wd1361, wd1362⟩ (hp50 S2) rfl rfl hm rfl (Nat.le_of_ble_eq_true rfl) (Nat.le_of_ble_eq_true rfl) (by decide) (by omega) (by omega) (fun h1 qq => ?_) (fun v h1 qq => ?_) (fun E h1 qq => ?_)
  · obtain ⟨_, _, -, y, -⟩ := qq; cases y
  rotate_left
  · obtain ⟨_, _, -, y, -⟩ := qq; cases y
  obtain ⟨T, z9, rfl, y, lT, t1, t2, t3, t4, t25, tv, tu⟩ := qq
  cases y
  have zk : zR (k9 : Int) := t25 ▸ lT.1.1.1 (50, 0, 0) 25
  refine x_istore (L' := [xR (99, 0, 0), xR (0, 0, 0), xR (50, 0, 0), xR (90, 0, 0), xR (91, 0, 0), xI i, xI (k9 : Int), xI z9, none]) dL_law_1265 (by decide) rfl ?_
  refine x_aload_n dL_law_1267 rfl ?_
  refine x_callV_r (a := 0) (b := 0) (as := []) (rest := []) ok_X9_thrown dL_law_1268 wd1196 ⟨wd1197, wd1198⟩ (hp50 T) rfl rfl (m_thrown T lT.1.1) rfl (Nat.le_of_ble_eq_true rfl) (Nat.le_of_ble_eq_true rfl) (by decide) (by omega) (by omega) ?_
  refine x_top (show T.1 (50, 0, 0) 25 = (k9 : Int) from t25) ?_
  refine x_iload dL_law_1271 rfl ?_
  refine x_icmp_eq (tgt := 1278) dL_law_1273 (by decide) zk zk (fun _ => ?_) (fun y => absurd rfl y)
  refine x_iload dL_law_1278 rfl ?_
  refine x_if_ne (tgt := 1295) dL_law_1280 (by decide) zk (fun y => ?_) (fun y => ?_)
  · refine x_goto (tgt := 2700) dL_law_1295 (by decide) ?_
    refine X.loc (L' := [xR (99, 0, 0), xR (0, 0, 0), xR (50, 0, 0), xR (90, 0, 0), xR (91, 0, 0), xI i, none, none, none]) ⟨rfl, ⟨rfl, ⟨rfl, ⟨rfl, ⟨rfl, ⟨rfl, trivial⟩⟩⟩⟩⟩⟩ ?_
    exact kont T _ _ lT (by rw [t1, e2.2, hn]) (by omega) (by omega)
  · obtain rfl : k9 = 0 := by omega
    have ez := tv rfl
    subst ez
    refine x_aload_n dL_law_1283 rfl ?_
    refine x_iconst dL_law_1284 ?_
    refine x_aldj dL_law_1285 (hp90 T) (by decide) (by decide) (by decide) (by decide) ?_
    refine x_topJ (show T.2.1 (90, 0, 0) 0 = jI z9 from by rw [t2]; exact h90 rfl) ?_
    refine x_iload dL_law_1286 rfl ?_
    refine x_i2l dL_law_1288 ?_
    refine x_lcmp dL_law_1289 ?_
    refine x_top (lg0.mpr rfl) ?_
    refine x_if_eq (tgt := 1295) dL_law_1290 (by decide) ⟨by decide, by decide⟩ (fun _ => ?_) (fun y => absurd rfl y)
    refine x_goto (tgt := 2700) dL_law_1295 (by decide) ?_
    refine X.loc (L' := [xR (99, 0, 0), xR (0, 0, 0), xR (50, 0, 0), xR (90, 0, 0), xR (91, 0, 0), xI i, none, none, none]) ⟨rfl, ⟨rfl, ⟨rfl, ⟨rfl, ⟨rfl, ⟨rfl, trivial⟩⟩⟩⟩⟩⟩ ?_
    exact kont T _ _ lT (by rw [t1, e2.2, hn]) (by omega) (by omega)
set_option maxHeartbeats 4000000 in
set_option maxRecDepth 100000 in
theorem lc_spanFrom (S : XS) (hI : LwI S) (n : Nat) (hn : S.2.2.2.2.2 = n) (hn2 : n < 1000000) (i : Int) (i0 : 0 ≤ i) (i7 : i + 7 ≤ n) (kc ks : Nat) (hk : 30 ≤ kc) (hs : 82420 ≤ ks + usum S 5) {Q : XO → XH → Prop} (kont : KL n i (kc - 30) (ks + usum S 5 - 500) Q) : X mL_law 1298 [xR (99, 0, 0), xR (0, 0, 0), xR (50, 0, 0), xR (90, 0, 0), xR (91, 0, 0), xI i, none, none, none] [] (hp S) kc ks Q := by
  have zz : ∀ j : Int, zR (S.1 (99, 0, 0) j) := fun j => hI.1.1.1 (99, 0, 0) j
  have hS : hp S (99, 0, 0) = some (.inr (0, n, .inl (S.1 (99, 0, 0)))) := by rw [hp99, hn]
  have u0 : usum S 5 ≤ 81920 := usum_le (fun l hl => mrl_gen hI.2.2.1 l hl) 5 (Nat.le_refl _)
  refine x_aload_n dL_law_1298 rfl ?_
  refine x_aload_n dL_law_1299 rfl ?_
  refine x_iload dL_law_1300 rfl ?_
  refine x_iconst dL_law_1302 ?_
  refine x_iadd dL_law_1303 ?_
  refine x_alds dL_law_1304 hS rfl (by omega) (by omega) (by omega) ?_
  refine x_aload_n dL_law_1305 rfl ?_
  refine x_iload dL_law_1306 rfl ?_
  refine x_iconst dL_law_1308 ?_
  refine x_iadd dL_law_1309 ?_
  refine x_alds dL_law_1310 hS rfl (by omega) (by omega) (by omega) ?_
  refine x_aload_n dL_law_1311 rfl ?_
  refine x_iload dL_law_1312 rfl ?_
  refine x_iconst dL_law_1314 ?_
  refine x_iadd dL_law_1315 ?_
  refine x_alds dL_law_1316 hS rfl (by omega) (by omega) (by omega) ?_
  refine x_aload_n dL_law_1317 rfl ?_
  refine x_iload dL_law_1318 rfl ?_
  refine x_iconst dL_law_1320 ?_
  refine x_iadd dL_law_1321 ?_
  refine x_alds dL_law_1322 hS rfl (by omega) (by omega) (by omega) ?_
  refine x_aload_n dL_law_1323 rfl ?_
  refine x_callSH 6 36 (as := [xR (0, 0, 0), xI (S.1 (99, 0, 0) (i + 1)), xI (S.1 (99, 0, 0) (i + 2)), xI (S.1 (99, 0, 0) (i + 3)), xI (S.1 (99, 0, 0) (i + 4)), xR (90, 0, 0)]) (rest := []) ok_L_spanFrom dL_law_1324 wd828 wd829 (w_spanFrom (hp0 S) (S.1 (99, 0, 0) (i + 1)) (S.1 (99, 0, 0) (i + 2)) (S.1 (99, 0, 0) (i + 3)) (S.1 (99, 0, 0) (i + 4)) 6 36 (cu_spanFrom S hI (S.1 (99, 0, 0) (i + 1)) (S.1 (99, 0, 0) (i + 2)) (S.1 (99, 0, 0) (i + 3)) (S.1 (99, 0, 0) (i + 4)) (zz _) (zz _) (zz _) (zz _)) (CO.wq (fun h => by cases h))) rfl (Nat.le_of_ble_eq_true rfl) (Nat.le_of_ble_eq_true rfl) (by decide) (by omega) (by omega) (fun h1 qq => ?_) (fun v h1 qq => ?_) (fun E h1 qq => ?_)
  · obtain ⟨_, _, _, _, _, _, y, -⟩ := pW.wo (by decide) qq; cases y
  rotate_left
  · obtain ⟨_, _, _, _, _, _, y, -⟩ := pW.wo (by decide) qq; cases y
  obtain ⟨S1, S2, D9, k9, v9, rfl, y, q1, cb, ho, em, ji, hR, h90⟩ := pW.wo (by decide) qq
  cases y
  have e2 : MdE S S2 := (em.tr (MdE.q q1)).tr ho.md
  have hS2 : hp S2 (99, 0, 0) = some (.inr (0, n, .inl (S.1 (99, 0, 0)))) := by rw [hp99, e2.1 99 0 0 (by decide), e2.2, hn]
  have u2 := usum_e e2 5
  obtain ⟨c9, hc, hm⟩ := mo_spanFrom S hI (S.1 (99, 0, 0) (i + 1)) (S.1 (99, 0, 0) (i + 2)) (S.1 (99, 0, 0) (i + 3)) (S.1 (99, 0, 0) (i + 4)) (zz _) (zz _) (zz _) (zz _) S1 S2 D9 k9 v9 q1 cb ho em ji hR
  refine x_istore (L' := [xR (99, 0, 0), xR (0, 0, 0), xR (50, 0, 0), xR (90, 0, 0), xR (91, 0, 0), xI i, xI (k9 : Int), none, none]) dL_law_1327 (by decide) rfl ?_
  refine x_aload_n dL_law_1329 rfl ?_
  refine x_aload_n dL_law_1330 rfl ?_
  refine x_iload dL_law_1331 rfl ?_
  refine x_iconst dL_law_1333 ?_
  refine x_iadd dL_law_1334 ?_
  refine x_alds dL_law_1335 hS2 rfl (by omega) (by omega) (by omega) ?_
  refine x_aload_n dL_law_1336 rfl ?_
  refine x_iload dL_law_1337 rfl ?_
  refine x_iconst dL_law_1339 ?_
  refine x_iadd dL_law_1340 ?_
  refine x_alds dL_law_1341 hS2 rfl (by omega) (by omega) (by omega) ?_
  refine x_aload_n dL_law_1342 rfl ?_
  refine x_iload dL_law_1343 rfl ?_
  refine x_iconst dL_law_1345 ?_
  refine x_iadd dL_law_1346 ?_
  refine x_alds dL_law_1347 hS2 rfl (by omega) (by omega) (by omega) ?_
  refine x_aload_n dL_law_1348 rfl ?_
  refine x_iload dL_law_1349 rfl ?_
  refine x_iconst dL_law_1351 ?_
  refine x_iadd dL_law_1352 ?_
  refine x_alds dL_law_1353 hS2 rfl (by omega) (by omega) (by omega) ?_
  refine x_callV 20 (c9 + 384) (as := [xI (S.1 (99, 0, 0) (i + 1)), xI (S.1 (99, 0, 0) (i + 2)), xI (S.1 (99, 0, 0) (i + 3)), xI (S.1 (99, 0, 0) (i + 4))]) (rest := []) ok_X9_spanFrom dL_law_1354 wd1364 ⟨wd1365, wd1366⟩ (hp50 S2) rfl rfl hm rfl (Nat.le_of_ble_eq_true rfl) (Nat.le_of_ble_eq_true rfl) (by decide) (by omega) (by omega) (fun h1 qq => ?_) (fun v h1 qq => ?_) (fun E h1 qq => ?_)
  · obtain ⟨_, _, -, y, -⟩ := qq; cases y
  rotate_left
  · obtain ⟨_, _, -, y, -⟩ := qq; cases y
  obtain ⟨T, z9, rfl, y, lT, t1, t2, t3, t4, t25, tv, tu⟩ := qq
  cases y
  have zk : zR (k9 : Int) := t25 ▸ lT.1.1.1 (50, 0, 0) 25
  refine x_istore (L' := [xR (99, 0, 0), xR (0, 0, 0), xR (50, 0, 0), xR (90, 0, 0), xR (91, 0, 0), xI i, xI (k9 : Int), xI z9, none]) dL_law_1357 (by decide) rfl ?_
  refine x_aload_n dL_law_1359 rfl ?_
  refine x_callV_r (a := 0) (b := 0) (as := []) (rest := []) ok_X9_thrown dL_law_1360 wd1196 ⟨wd1197, wd1198⟩ (hp50 T) rfl rfl (m_thrown T lT.1.1) rfl (Nat.le_of_ble_eq_true rfl) (Nat.le_of_ble_eq_true rfl) (by decide) (by omega) (by omega) ?_
  refine x_top (show T.1 (50, 0, 0) 25 = (k9 : Int) from t25) ?_
  refine x_iload dL_law_1363 rfl ?_
  refine x_icmp_eq (tgt := 1370) dL_law_1365 (by decide) zk zk (fun _ => ?_) (fun y => absurd rfl y)
  refine x_iload dL_law_1370 rfl ?_
  refine x_if_ne (tgt := 1387) dL_law_1372 (by decide) zk (fun y => ?_) (fun y => ?_)
  · refine x_goto (tgt := 2700) dL_law_1387 (by decide) ?_
    refine X.loc (L' := [xR (99, 0, 0), xR (0, 0, 0), xR (50, 0, 0), xR (90, 0, 0), xR (91, 0, 0), xI i, none, none, none]) ⟨rfl, ⟨rfl, ⟨rfl, ⟨rfl, ⟨rfl, ⟨rfl, trivial⟩⟩⟩⟩⟩⟩ ?_
    exact kont T _ _ lT (by rw [t1, e2.2, hn]) (by omega) (by omega)
  · obtain rfl : k9 = 0 := by omega
    have ez := tv rfl
    subst ez
    refine x_aload_n dL_law_1375 rfl ?_
    refine x_iconst dL_law_1376 ?_
    refine x_aldj dL_law_1377 (hp90 T) (by decide) (by decide) (by decide) (by decide) ?_
    refine x_topJ (show T.2.1 (90, 0, 0) 0 = jI z9 from by rw [t2]; exact h90 rfl) ?_
    refine x_iload dL_law_1378 rfl ?_
    refine x_i2l dL_law_1380 ?_
    refine x_lcmp dL_law_1381 ?_
    refine x_top (lg0.mpr rfl) ?_
    refine x_if_eq (tgt := 1387) dL_law_1382 (by decide) ⟨by decide, by decide⟩ (fun _ => ?_) (fun y => absurd rfl y)
    refine x_goto (tgt := 2700) dL_law_1387 (by decide) ?_
    refine X.loc (L' := [xR (99, 0, 0), xR (0, 0, 0), xR (50, 0, 0), xR (90, 0, 0), xR (91, 0, 0), xI i, none, none, none]) ⟨rfl, ⟨rfl, ⟨rfl, ⟨rfl, ⟨rfl, ⟨rfl, trivial⟩⟩⟩⟩⟩⟩ ?_
    exact kont T _ _ lT (by rw [t1, e2.2, hn]) (by omega) (by omega)
set_option maxHeartbeats 4000000 in
set_option maxRecDepth 100000 in
theorem lc_spanTo (S : XS) (hI : LwI S) (n : Nat) (hn : S.2.2.2.2.2 = n) (hn2 : n < 1000000) (i : Int) (i0 : 0 ≤ i) (i7 : i + 7 ≤ n) (kc ks : Nat) (hk : 30 ≤ kc) (hs : 82420 ≤ ks + usum S 5) {Q : XO → XH → Prop} (kont : KL n i (kc - 30) (ks + usum S 5 - 500) Q) : X mL_law 1390 [xR (99, 0, 0), xR (0, 0, 0), xR (50, 0, 0), xR (90, 0, 0), xR (91, 0, 0), xI i, none, none, none] [] (hp S) kc ks Q := by
  have zz : ∀ j : Int, zR (S.1 (99, 0, 0) j) := fun j => hI.1.1.1 (99, 0, 0) j
  have hS : hp S (99, 0, 0) = some (.inr (0, n, .inl (S.1 (99, 0, 0)))) := by rw [hp99, hn]
  have u0 : usum S 5 ≤ 81920 := usum_le (fun l hl => mrl_gen hI.2.2.1 l hl) 5 (Nat.le_refl _)
  refine x_aload_n dL_law_1390 rfl ?_
  refine x_aload_n dL_law_1391 rfl ?_
  refine x_iload dL_law_1392 rfl ?_
  refine x_iconst dL_law_1394 ?_
  refine x_iadd dL_law_1395 ?_
  refine x_alds dL_law_1396 hS rfl (by omega) (by omega) (by omega) ?_
  refine x_aload_n dL_law_1397 rfl ?_
  refine x_iload dL_law_1398 rfl ?_
  refine x_iconst dL_law_1400 ?_
  refine x_iadd dL_law_1401 ?_
  refine x_alds dL_law_1402 hS rfl (by omega) (by omega) (by omega) ?_
  refine x_aload_n dL_law_1403 rfl ?_
  refine x_iload dL_law_1404 rfl ?_
  refine x_iconst dL_law_1406 ?_
  refine x_iadd dL_law_1407 ?_
  refine x_alds dL_law_1408 hS rfl (by omega) (by omega) (by omega) ?_
  refine x_aload_n dL_law_1409 rfl ?_
  refine x_iload dL_law_1410 rfl ?_
  refine x_iconst dL_law_1412 ?_
  refine x_iadd dL_law_1413 ?_
  refine x_alds dL_law_1414 hS rfl (by omega) (by omega) (by omega) ?_
  refine x_aload_n dL_law_1415 rfl ?_
  refine x_callSH 6 36 (as := [xR (0, 0, 0), xI (S.1 (99, 0, 0) (i + 1)), xI (S.1 (99, 0, 0) (i + 2)), xI (S.1 (99, 0, 0) (i + 3)), xI (S.1 (99, 0, 0) (i + 4)), xR (90, 0, 0)]) (rest := []) ok_L_spanTo dL_law_1416 wd855 wd856 (w_spanTo (hp0 S) (S.1 (99, 0, 0) (i + 1)) (S.1 (99, 0, 0) (i + 2)) (S.1 (99, 0, 0) (i + 3)) (S.1 (99, 0, 0) (i + 4)) 6 36 (cu_spanTo S hI (S.1 (99, 0, 0) (i + 1)) (S.1 (99, 0, 0) (i + 2)) (S.1 (99, 0, 0) (i + 3)) (S.1 (99, 0, 0) (i + 4)) (zz _) (zz _) (zz _) (zz _)) (CO.wq (fun h => by cases h))) rfl (Nat.le_of_ble_eq_true rfl) (Nat.le_of_ble_eq_true rfl) (by decide) (by omega) (by omega) (fun h1 qq => ?_) (fun v h1 qq => ?_) (fun E h1 qq => ?_)
  · obtain ⟨_, _, _, _, _, _, y, -⟩ := pW.wo (by decide) qq; cases y
  rotate_left
  · obtain ⟨_, _, _, _, _, _, y, -⟩ := pW.wo (by decide) qq; cases y
  obtain ⟨S1, S2, D9, k9, v9, rfl, y, q1, cb, ho, em, ji, hR, h90⟩ := pW.wo (by decide) qq
  cases y
  have e2 : MdE S S2 := (em.tr (MdE.q q1)).tr ho.md
  have hS2 : hp S2 (99, 0, 0) = some (.inr (0, n, .inl (S.1 (99, 0, 0)))) := by rw [hp99, e2.1 99 0 0 (by decide), e2.2, hn]
  have u2 := usum_e e2 5
  obtain ⟨c9, hc, hm⟩ := mo_spanTo S hI (S.1 (99, 0, 0) (i + 1)) (S.1 (99, 0, 0) (i + 2)) (S.1 (99, 0, 0) (i + 3)) (S.1 (99, 0, 0) (i + 4)) (zz _) (zz _) (zz _) (zz _) S1 S2 D9 k9 v9 q1 cb ho em ji hR
  refine x_istore (L' := [xR (99, 0, 0), xR (0, 0, 0), xR (50, 0, 0), xR (90, 0, 0), xR (91, 0, 0), xI i, xI (k9 : Int), none, none]) dL_law_1419 (by decide) rfl ?_
  refine x_aload_n dL_law_1421 rfl ?_
  refine x_aload_n dL_law_1422 rfl ?_
  refine x_iload dL_law_1423 rfl ?_
  refine x_iconst dL_law_1425 ?_
  refine x_iadd dL_law_1426 ?_
  refine x_alds dL_law_1427 hS2 rfl (by omega) (by omega) (by omega) ?_
  refine x_aload_n dL_law_1428 rfl ?_
  refine x_iload dL_law_1429 rfl ?_
  refine x_iconst dL_law_1431 ?_
  refine x_iadd dL_law_1432 ?_
  refine x_alds dL_law_1433 hS2 rfl (by omega) (by omega) (by omega) ?_
  refine x_aload_n dL_law_1434 rfl ?_
  refine x_iload dL_law_1435 rfl ?_
  refine x_iconst dL_law_1437 ?_
  refine x_iadd dL_law_1438 ?_
  refine x_alds dL_law_1439 hS2 rfl (by omega) (by omega) (by omega) ?_
  refine x_aload_n dL_law_1440 rfl ?_
  refine x_iload dL_law_1441 rfl ?_
  refine x_iconst dL_law_1443 ?_
  refine x_iadd dL_law_1444 ?_
  refine x_alds dL_law_1445 hS2 rfl (by omega) (by omega) (by omega) ?_
  refine x_callV 20 (c9 + 384) (as := [xI (S.1 (99, 0, 0) (i + 1)), xI (S.1 (99, 0, 0) (i + 2)), xI (S.1 (99, 0, 0) (i + 3)), xI (S.1 (99, 0, 0) (i + 4))]) (rest := []) ok_X9_spanTo dL_law_1446 wd1372 ⟨wd1373, wd1374⟩ (hp50 S2) rfl rfl hm rfl (Nat.le_of_ble_eq_true rfl) (Nat.le_of_ble_eq_true rfl) (by decide) (by omega) (by omega) (fun h1 qq => ?_) (fun v h1 qq => ?_) (fun E h1 qq => ?_)
  · obtain ⟨_, _, -, y, -⟩ := qq; cases y
  rotate_left
  · obtain ⟨_, _, -, y, -⟩ := qq; cases y
  obtain ⟨T, z9, rfl, y, lT, t1, t2, t3, t4, t25, tv, tu⟩ := qq
  cases y
  have zk : zR (k9 : Int) := t25 ▸ lT.1.1.1 (50, 0, 0) 25
  refine x_istore (L' := [xR (99, 0, 0), xR (0, 0, 0), xR (50, 0, 0), xR (90, 0, 0), xR (91, 0, 0), xI i, xI (k9 : Int), xI z9, none]) dL_law_1449 (by decide) rfl ?_
  refine x_aload_n dL_law_1451 rfl ?_
  refine x_callV_r (a := 0) (b := 0) (as := []) (rest := []) ok_X9_thrown dL_law_1452 wd1196 ⟨wd1197, wd1198⟩ (hp50 T) rfl rfl (m_thrown T lT.1.1) rfl (Nat.le_of_ble_eq_true rfl) (Nat.le_of_ble_eq_true rfl) (by decide) (by omega) (by omega) ?_
  refine x_top (show T.1 (50, 0, 0) 25 = (k9 : Int) from t25) ?_
  refine x_iload dL_law_1455 rfl ?_
  refine x_icmp_eq (tgt := 1462) dL_law_1457 (by decide) zk zk (fun _ => ?_) (fun y => absurd rfl y)
  refine x_iload dL_law_1462 rfl ?_
  refine x_if_ne (tgt := 1479) dL_law_1464 (by decide) zk (fun y => ?_) (fun y => ?_)
  · refine x_goto (tgt := 2700) dL_law_1479 (by decide) ?_
    refine X.loc (L' := [xR (99, 0, 0), xR (0, 0, 0), xR (50, 0, 0), xR (90, 0, 0), xR (91, 0, 0), xI i, none, none, none]) ⟨rfl, ⟨rfl, ⟨rfl, ⟨rfl, ⟨rfl, ⟨rfl, trivial⟩⟩⟩⟩⟩⟩ ?_
    exact kont T _ _ lT (by rw [t1, e2.2, hn]) (by omega) (by omega)
  · obtain rfl : k9 = 0 := by omega
    have ez := tv rfl
    subst ez
    refine x_aload_n dL_law_1467 rfl ?_
    refine x_iconst dL_law_1468 ?_
    refine x_aldj dL_law_1469 (hp90 T) (by decide) (by decide) (by decide) (by decide) ?_
    refine x_topJ (show T.2.1 (90, 0, 0) 0 = jI z9 from by rw [t2]; exact h90 rfl) ?_
    refine x_iload dL_law_1470 rfl ?_
    refine x_i2l dL_law_1472 ?_
    refine x_lcmp dL_law_1473 ?_
    refine x_top (lg0.mpr rfl) ?_
    refine x_if_eq (tgt := 1479) dL_law_1474 (by decide) ⟨by decide, by decide⟩ (fun _ => ?_) (fun y => absurd rfl y)
    refine x_goto (tgt := 2700) dL_law_1479 (by decide) ?_
    refine X.loc (L' := [xR (99, 0, 0), xR (0, 0, 0), xR (50, 0, 0), xR (90, 0, 0), xR (91, 0, 0), xI i, none, none, none]) ⟨rfl, ⟨rfl, ⟨rfl, ⟨rfl, ⟨rfl, ⟨rfl, trivial⟩⟩⟩⟩⟩⟩ ?_
    exact kont T _ _ lT (by rw [t1, e2.2, hn]) (by omega) (by omega)
set_option maxHeartbeats 4000000 in
set_option maxRecDepth 100000 in
theorem lc_since (S : XS) (hI : LwI S) (n : Nat) (hn : S.2.2.2.2.2 = n) (hn2 : n < 1000000) (i : Int) (i0 : 0 ≤ i) (i7 : i + 7 ≤ n) (kc ks : Nat) (hk : 30 ≤ kc) (hs : 82420 ≤ ks + usum S 5) {Q : XO → XH → Prop} (kont : KL n i (kc - 30) (ks + usum S 5 - 500) Q) : X mL_law 1482 [xR (99, 0, 0), xR (0, 0, 0), xR (50, 0, 0), xR (90, 0, 0), xR (91, 0, 0), xI i, none, none, none] [] (hp S) kc ks Q := by
  have zz : ∀ j : Int, zR (S.1 (99, 0, 0) j) := fun j => hI.1.1.1 (99, 0, 0) j
  have hS : hp S (99, 0, 0) = some (.inr (0, n, .inl (S.1 (99, 0, 0)))) := by rw [hp99, hn]
  have u0 : usum S 5 ≤ 81920 := usum_le (fun l hl => mrl_gen hI.2.2.1 l hl) 5 (Nat.le_refl _)
  refine x_aload_n dL_law_1482 rfl ?_
  refine x_aload_n dL_law_1483 rfl ?_
  refine x_iload dL_law_1484 rfl ?_
  refine x_iconst dL_law_1486 ?_
  refine x_iadd dL_law_1487 ?_
  refine x_alds dL_law_1488 hS rfl (by omega) (by omega) (by omega) ?_
  refine x_aload_n dL_law_1489 rfl ?_
  refine x_iload dL_law_1490 rfl ?_
  refine x_iconst dL_law_1492 ?_
  refine x_iadd dL_law_1493 ?_
  refine x_alds dL_law_1494 hS rfl (by omega) (by omega) (by omega) ?_
  refine x_aload_n dL_law_1495 rfl ?_
  refine x_iload dL_law_1496 rfl ?_
  refine x_iconst dL_law_1498 ?_
  refine x_iadd dL_law_1499 ?_
  refine x_alds dL_law_1500 hS rfl (by omega) (by omega) (by omega) ?_
  refine x_aload_n dL_law_1501 rfl ?_
  refine x_callSH 6 36 (as := [xR (0, 0, 0), xI (S.1 (99, 0, 0) (i + 1)), xI (S.1 (99, 0, 0) (i + 2)), xI (S.1 (99, 0, 0) (i + 3)), xR (90, 0, 0)]) (rest := []) ok_L_since dL_law_1502 wd862 wd863 (w_since (hp0 S) (S.1 (99, 0, 0) (i + 1)) (S.1 (99, 0, 0) (i + 2)) (S.1 (99, 0, 0) (i + 3)) 6 36 (cu_since S hI (S.1 (99, 0, 0) (i + 1)) (S.1 (99, 0, 0) (i + 2)) (S.1 (99, 0, 0) (i + 3)) (zz _) (zz _) (zz _)) (CO.wq (fun h => by cases h))) rfl (Nat.le_of_ble_eq_true rfl) (Nat.le_of_ble_eq_true rfl) (by decide) (by omega) (by omega) (fun h1 qq => ?_) (fun v h1 qq => ?_) (fun E h1 qq => ?_)
  · obtain ⟨_, _, _, _, _, _, y, -⟩ := pW.wo (by decide) qq; cases y
  rotate_left
  · obtain ⟨_, _, _, _, _, _, y, -⟩ := pW.wo (by decide) qq; cases y
  obtain ⟨S1, S2, D9, k9, v9, rfl, y, q1, cb, ho, em, ji, hR, h90⟩ := pW.wo (by decide) qq
  cases y
  have e2 : MdE S S2 := (em.tr (MdE.q q1)).tr ho.md
  have hS2 : hp S2 (99, 0, 0) = some (.inr (0, n, .inl (S.1 (99, 0, 0)))) := by rw [hp99, e2.1 99 0 0 (by decide), e2.2, hn]
  have u2 := usum_e e2 5
  obtain ⟨c9, hc, hm⟩ := mo_since S hI (S.1 (99, 0, 0) (i + 1)) (S.1 (99, 0, 0) (i + 2)) (S.1 (99, 0, 0) (i + 3)) (zz _) (zz _) (zz _) S1 S2 D9 k9 v9 q1 cb ho em ji hR
  refine x_istore (L' := [xR (99, 0, 0), xR (0, 0, 0), xR (50, 0, 0), xR (90, 0, 0), xR (91, 0, 0), xI i, xI (k9 : Int), none, none]) dL_law_1505 (by decide) rfl ?_
  refine x_aload_n dL_law_1507 rfl ?_
  refine x_aload_n dL_law_1508 rfl ?_
  refine x_iload dL_law_1509 rfl ?_
  refine x_iconst dL_law_1511 ?_
  refine x_iadd dL_law_1512 ?_
  refine x_alds dL_law_1513 hS2 rfl (by omega) (by omega) (by omega) ?_
  refine x_aload_n dL_law_1514 rfl ?_
  refine x_iload dL_law_1515 rfl ?_
  refine x_iconst dL_law_1517 ?_
  refine x_iadd dL_law_1518 ?_
  refine x_alds dL_law_1519 hS2 rfl (by omega) (by omega) (by omega) ?_
  refine x_aload_n dL_law_1520 rfl ?_
  refine x_iload dL_law_1521 rfl ?_
  refine x_iconst dL_law_1523 ?_
  refine x_iadd dL_law_1524 ?_
  refine x_alds dL_law_1525 hS2 rfl (by omega) (by omega) (by omega) ?_
  refine x_callV 20 (c9 + 384) (as := [xI (S.1 (99, 0, 0) (i + 1)), xI (S.1 (99, 0, 0) (i + 2)), xI (S.1 (99, 0, 0) (i + 3))]) (rest := []) ok_X9_since dL_law_1526 wd1376 ⟨wd1377, wd1378⟩ (hp50 S2) rfl rfl hm rfl (Nat.le_of_ble_eq_true rfl) (Nat.le_of_ble_eq_true rfl) (by decide) (by omega) (by omega) (fun h1 qq => ?_) (fun v h1 qq => ?_) (fun E h1 qq => ?_)
  · obtain ⟨_, _, -, y, -⟩ := qq; cases y
  rotate_left
  · obtain ⟨_, _, -, y, -⟩ := qq; cases y
  obtain ⟨T, z9, rfl, y, lT, t1, t2, t3, t4, t25, tv, tu⟩ := qq
  cases y
  have zk : zR (k9 : Int) := t25 ▸ lT.1.1.1 (50, 0, 0) 25
  refine x_istore (L' := [xR (99, 0, 0), xR (0, 0, 0), xR (50, 0, 0), xR (90, 0, 0), xR (91, 0, 0), xI i, xI (k9 : Int), xI z9, none]) dL_law_1529 (by decide) rfl ?_
  refine x_aload_n dL_law_1531 rfl ?_
  refine x_callV_r (a := 0) (b := 0) (as := []) (rest := []) ok_X9_thrown dL_law_1532 wd1196 ⟨wd1197, wd1198⟩ (hp50 T) rfl rfl (m_thrown T lT.1.1) rfl (Nat.le_of_ble_eq_true rfl) (Nat.le_of_ble_eq_true rfl) (by decide) (by omega) (by omega) ?_
  refine x_top (show T.1 (50, 0, 0) 25 = (k9 : Int) from t25) ?_
  refine x_iload dL_law_1535 rfl ?_
  refine x_icmp_eq (tgt := 1542) dL_law_1537 (by decide) zk zk (fun _ => ?_) (fun y => absurd rfl y)
  refine x_iload dL_law_1542 rfl ?_
  refine x_if_ne (tgt := 1559) dL_law_1544 (by decide) zk (fun y => ?_) (fun y => ?_)
  · refine x_goto (tgt := 2700) dL_law_1559 (by decide) ?_
    refine X.loc (L' := [xR (99, 0, 0), xR (0, 0, 0), xR (50, 0, 0), xR (90, 0, 0), xR (91, 0, 0), xI i, none, none, none]) ⟨rfl, ⟨rfl, ⟨rfl, ⟨rfl, ⟨rfl, ⟨rfl, trivial⟩⟩⟩⟩⟩⟩ ?_
    exact kont T _ _ lT (by rw [t1, e2.2, hn]) (by omega) (by omega)
  · obtain rfl : k9 = 0 := by omega
    have ez := tv rfl
    subst ez
    refine x_aload_n dL_law_1547 rfl ?_
    refine x_iconst dL_law_1548 ?_
    refine x_aldj dL_law_1549 (hp90 T) (by decide) (by decide) (by decide) (by decide) ?_
    refine x_topJ (show T.2.1 (90, 0, 0) 0 = jI z9 from by rw [t2]; exact h90 rfl) ?_
    refine x_iload dL_law_1550 rfl ?_
    refine x_i2l dL_law_1552 ?_
    refine x_lcmp dL_law_1553 ?_
    refine x_top (lg0.mpr rfl) ?_
    refine x_if_eq (tgt := 1559) dL_law_1554 (by decide) ⟨by decide, by decide⟩ (fun _ => ?_) (fun y => absurd rfl y)
    refine x_goto (tgt := 2700) dL_law_1559 (by decide) ?_
    refine X.loc (L' := [xR (99, 0, 0), xR (0, 0, 0), xR (50, 0, 0), xR (90, 0, 0), xR (91, 0, 0), xI i, none, none, none]) ⟨rfl, ⟨rfl, ⟨rfl, ⟨rfl, ⟨rfl, ⟨rfl, trivial⟩⟩⟩⟩⟩⟩ ?_
    exact kont T _ _ lT (by rw [t1, e2.2, hn]) (by omega) (by omega)
set_option maxHeartbeats 4000000 in
set_option maxRecDepth 100000 in
theorem lc_rank (S : XS) (hI : LwI S) (n : Nat) (hn : S.2.2.2.2.2 = n) (hn2 : n < 1000000) (i : Int) (i0 : 0 ≤ i) (i7 : i + 7 ≤ n) (kc ks : Nat) (hk : 30 ≤ kc) (hs : 82420 ≤ ks + usum S 5) {Q : XO → XH → Prop} (kont : KL n i (kc - 30) (ks + usum S 5 - 500) Q) : X mL_law 1562 [xR (99, 0, 0), xR (0, 0, 0), xR (50, 0, 0), xR (90, 0, 0), xR (91, 0, 0), xI i, none, none, none] [] (hp S) kc ks Q := by
  have zz : ∀ j : Int, zR (S.1 (99, 0, 0) j) := fun j => hI.1.1.1 (99, 0, 0) j
  have hS : hp S (99, 0, 0) = some (.inr (0, n, .inl (S.1 (99, 0, 0)))) := by rw [hp99, hn]
  have u0 : usum S 5 ≤ 81920 := usum_le (fun l hl => mrl_gen hI.2.2.1 l hl) 5 (Nat.le_refl _)
  refine x_aload_n dL_law_1562 rfl ?_
  refine x_aload_n dL_law_1563 rfl ?_
  refine x_iload dL_law_1564 rfl ?_
  refine x_iconst dL_law_1566 ?_
  refine x_iadd dL_law_1567 ?_
  refine x_alds dL_law_1568 hS rfl (by omega) (by omega) (by omega) ?_
  refine x_aload_n dL_law_1569 rfl ?_
  refine x_iload dL_law_1570 rfl ?_
  refine x_iconst dL_law_1572 ?_
  refine x_iadd dL_law_1573 ?_
  refine x_alds dL_law_1574 hS rfl (by omega) (by omega) (by omega) ?_
  refine x_aload_n dL_law_1575 rfl ?_
  refine x_iload dL_law_1576 rfl ?_
  refine x_iconst dL_law_1578 ?_
  refine x_iadd dL_law_1579 ?_
  refine x_alds dL_law_1580 hS rfl (by omega) (by omega) (by omega) ?_
  refine x_aload_n dL_law_1581 rfl ?_
  refine x_iload dL_law_1582 rfl ?_
  refine x_iconst dL_law_1584 ?_
  refine x_iadd dL_law_1585 ?_
  refine x_alds dL_law_1586 hS rfl (by omega) (by omega) (by omega) ?_
  refine x_aload_n dL_law_1587 rfl ?_
  refine x_callSH 6 36 (as := [xR (0, 0, 0), xI (S.1 (99, 0, 0) (i + 1)), xI (S.1 (99, 0, 0) (i + 2)), xI (S.1 (99, 0, 0) (i + 3)), xI (S.1 (99, 0, 0) (i + 4)), xR (90, 0, 0)]) (rest := []) ok_L_rank dL_law_1588 wd869 wd870 (w_rank (hp0 S) (S.1 (99, 0, 0) (i + 1)) (S.1 (99, 0, 0) (i + 2)) (S.1 (99, 0, 0) (i + 3)) (S.1 (99, 0, 0) (i + 4)) 6 36 (cu_rank S hI (S.1 (99, 0, 0) (i + 1)) (S.1 (99, 0, 0) (i + 2)) (S.1 (99, 0, 0) (i + 3)) (S.1 (99, 0, 0) (i + 4)) (zz _) (zz _) (zz _) (zz _)) (CO.wq (fun h => by cases h))) rfl (Nat.le_of_ble_eq_true rfl) (Nat.le_of_ble_eq_true rfl) (by decide) (by omega) (by omega) (fun h1 qq => ?_) (fun v h1 qq => ?_) (fun E h1 qq => ?_)
  · obtain ⟨_, _, _, _, _, _, y, -⟩ := pW.wo (by decide) qq; cases y
  rotate_left
  · obtain ⟨_, _, _, _, _, _, y, -⟩ := pW.wo (by decide) qq; cases y
  obtain ⟨S1, S2, D9, k9, v9, rfl, y, q1, cb, ho, em, ji, hR, h90⟩ := pW.wo (by decide) qq
  cases y
  have e2 : MdE S S2 := (em.tr (MdE.q q1)).tr ho.md
  have hS2 : hp S2 (99, 0, 0) = some (.inr (0, n, .inl (S.1 (99, 0, 0)))) := by rw [hp99, e2.1 99 0 0 (by decide), e2.2, hn]
  have u2 := usum_e e2 5
  obtain ⟨c9, hc, hm⟩ := mo_rank S hI (S.1 (99, 0, 0) (i + 1)) (S.1 (99, 0, 0) (i + 2)) (S.1 (99, 0, 0) (i + 3)) (S.1 (99, 0, 0) (i + 4)) (zz _) (zz _) (zz _) (zz _) S1 S2 D9 k9 v9 q1 cb ho em ji hR
  refine x_istore (L' := [xR (99, 0, 0), xR (0, 0, 0), xR (50, 0, 0), xR (90, 0, 0), xR (91, 0, 0), xI i, xI (k9 : Int), none, none]) dL_law_1591 (by decide) rfl ?_
  refine x_aload_n dL_law_1593 rfl ?_
  refine x_aload_n dL_law_1594 rfl ?_
  refine x_iload dL_law_1595 rfl ?_
  refine x_iconst dL_law_1597 ?_
  refine x_iadd dL_law_1598 ?_
  refine x_alds dL_law_1599 hS2 rfl (by omega) (by omega) (by omega) ?_
  refine x_aload_n dL_law_1600 rfl ?_
  refine x_iload dL_law_1601 rfl ?_
  refine x_iconst dL_law_1603 ?_
  refine x_iadd dL_law_1604 ?_
  refine x_alds dL_law_1605 hS2 rfl (by omega) (by omega) (by omega) ?_
  refine x_aload_n dL_law_1606 rfl ?_
  refine x_iload dL_law_1607 rfl ?_
  refine x_iconst dL_law_1609 ?_
  refine x_iadd dL_law_1610 ?_
  refine x_alds dL_law_1611 hS2 rfl (by omega) (by omega) (by omega) ?_
  refine x_aload_n dL_law_1612 rfl ?_
  refine x_iload dL_law_1613 rfl ?_
  refine x_iconst dL_law_1615 ?_
  refine x_iadd dL_law_1616 ?_
  refine x_alds dL_law_1617 hS2 rfl (by omega) (by omega) (by omega) ?_
  refine x_callV 20 (c9 + 384) (as := [xI (S.1 (99, 0, 0) (i + 1)), xI (S.1 (99, 0, 0) (i + 2)), xI (S.1 (99, 0, 0) (i + 3)), xI (S.1 (99, 0, 0) (i + 4))]) (rest := []) ok_X9_rank dL_law_1618 wd1380 ⟨wd1381, wd1382⟩ (hp50 S2) rfl rfl hm rfl (Nat.le_of_ble_eq_true rfl) (Nat.le_of_ble_eq_true rfl) (by decide) (by omega) (by omega) (fun h1 qq => ?_) (fun v h1 qq => ?_) (fun E h1 qq => ?_)
  · obtain ⟨_, _, -, y, -⟩ := qq; cases y
  rotate_left
  · obtain ⟨_, _, -, y, -⟩ := qq; cases y
  obtain ⟨T, z9, rfl, y, lT, t1, t2, t3, t4, t25, tv, tu⟩ := qq
  cases y
  have zk : zR (k9 : Int) := t25 ▸ lT.1.1.1 (50, 0, 0) 25
  refine x_istore (L' := [xR (99, 0, 0), xR (0, 0, 0), xR (50, 0, 0), xR (90, 0, 0), xR (91, 0, 0), xI i, xI (k9 : Int), xI z9, none]) dL_law_1621 (by decide) rfl ?_
  refine x_aload_n dL_law_1623 rfl ?_
  refine x_callV_r (a := 0) (b := 0) (as := []) (rest := []) ok_X9_thrown dL_law_1624 wd1196 ⟨wd1197, wd1198⟩ (hp50 T) rfl rfl (m_thrown T lT.1.1) rfl (Nat.le_of_ble_eq_true rfl) (Nat.le_of_ble_eq_true rfl) (by decide) (by omega) (by omega) ?_
  refine x_top (show T.1 (50, 0, 0) 25 = (k9 : Int) from t25) ?_
  refine x_iload dL_law_1627 rfl ?_
  refine x_icmp_eq (tgt := 1634) dL_law_1629 (by decide) zk zk (fun _ => ?_) (fun y => absurd rfl y)
  refine x_iload dL_law_1634 rfl ?_
  refine x_if_ne (tgt := 1651) dL_law_1636 (by decide) zk (fun y => ?_) (fun y => ?_)
  · refine x_goto (tgt := 2700) dL_law_1651 (by decide) ?_
    refine X.loc (L' := [xR (99, 0, 0), xR (0, 0, 0), xR (50, 0, 0), xR (90, 0, 0), xR (91, 0, 0), xI i, none, none, none]) ⟨rfl, ⟨rfl, ⟨rfl, ⟨rfl, ⟨rfl, ⟨rfl, trivial⟩⟩⟩⟩⟩⟩ ?_
    exact kont T _ _ lT (by rw [t1, e2.2, hn]) (by omega) (by omega)
  · obtain rfl : k9 = 0 := by omega
    have ez := tv rfl
    subst ez
    refine x_aload_n dL_law_1639 rfl ?_
    refine x_iconst dL_law_1640 ?_
    refine x_aldj dL_law_1641 (hp90 T) (by decide) (by decide) (by decide) (by decide) ?_
    refine x_topJ (show T.2.1 (90, 0, 0) 0 = jI z9 from by rw [t2]; exact h90 rfl) ?_
    refine x_iload dL_law_1642 rfl ?_
    refine x_i2l dL_law_1644 ?_
    refine x_lcmp dL_law_1645 ?_
    refine x_top (lg0.mpr rfl) ?_
    refine x_if_eq (tgt := 1651) dL_law_1646 (by decide) ⟨by decide, by decide⟩ (fun _ => ?_) (fun y => absurd rfl y)
    refine x_goto (tgt := 2700) dL_law_1651 (by decide) ?_
    refine X.loc (L' := [xR (99, 0, 0), xR (0, 0, 0), xR (50, 0, 0), xR (90, 0, 0), xR (91, 0, 0), xI i, none, none, none]) ⟨rfl, ⟨rfl, ⟨rfl, ⟨rfl, ⟨rfl, ⟨rfl, trivial⟩⟩⟩⟩⟩⟩ ?_
    exact kont T _ _ lT (by rw [t1, e2.2, hn]) (by omega) (by omega)
set_option maxHeartbeats 4000000 in
set_option maxRecDepth 100000 in
theorem lc_reason (S : XS) (hI : LwI S) (n : Nat) (hn : S.2.2.2.2.2 = n) (hn2 : n < 1000000) (i : Int) (i0 : 0 ≤ i) (i7 : i + 7 ≤ n) (kc ks : Nat) (hk : 30 ≤ kc) (hs : 82420 ≤ ks + usum S 5) {Q : XO → XH → Prop} (kont : KL n i (kc - 30) (ks + usum S 5 - 500) Q) : X mL_law 1654 [xR (99, 0, 0), xR (0, 0, 0), xR (50, 0, 0), xR (90, 0, 0), xR (91, 0, 0), xI i, none, none, none] [] (hp S) kc ks Q := by
  have zz : ∀ j : Int, zR (S.1 (99, 0, 0) j) := fun j => hI.1.1.1 (99, 0, 0) j
  have hS : hp S (99, 0, 0) = some (.inr (0, n, .inl (S.1 (99, 0, 0)))) := by rw [hp99, hn]
  have u0 : usum S 5 ≤ 81920 := usum_le (fun l hl => mrl_gen hI.2.2.1 l hl) 5 (Nat.le_refl _)
  refine x_aload_n dL_law_1654 rfl ?_
  refine x_aload_n dL_law_1655 rfl ?_
  refine x_iload dL_law_1656 rfl ?_
  refine x_iconst dL_law_1658 ?_
  refine x_iadd dL_law_1659 ?_
  refine x_alds dL_law_1660 hS rfl (by omega) (by omega) (by omega) ?_
  refine x_aload_n dL_law_1661 rfl ?_
  refine x_iload dL_law_1662 rfl ?_
  refine x_iconst dL_law_1664 ?_
  refine x_iadd dL_law_1665 ?_
  refine x_alds dL_law_1666 hS rfl (by omega) (by omega) (by omega) ?_
  refine x_aload_n dL_law_1667 rfl ?_
  refine x_iload dL_law_1668 rfl ?_
  refine x_iconst dL_law_1670 ?_
  refine x_iadd dL_law_1671 ?_
  refine x_alds dL_law_1672 hS rfl (by omega) (by omega) (by omega) ?_
  refine x_aload_n dL_law_1673 rfl ?_
  refine x_iload dL_law_1674 rfl ?_
  refine x_iconst dL_law_1676 ?_
  refine x_iadd dL_law_1677 ?_
  refine x_alds dL_law_1678 hS rfl (by omega) (by omega) (by omega) ?_
  refine x_aload_n dL_law_1679 rfl ?_
  refine x_callSH 6 36 (as := [xR (0, 0, 0), xI (S.1 (99, 0, 0) (i + 1)), xI (S.1 (99, 0, 0) (i + 2)), xI (S.1 (99, 0, 0) (i + 3)), xI (S.1 (99, 0, 0) (i + 4)), xR (90, 0, 0)]) (rest := []) ok_L_reason dL_law_1680 wd911 wd912 (w_reason (hp0 S) (S.1 (99, 0, 0) (i + 1)) (S.1 (99, 0, 0) (i + 2)) (S.1 (99, 0, 0) (i + 3)) (S.1 (99, 0, 0) (i + 4)) 6 36 (cu_reason S hI (S.1 (99, 0, 0) (i + 1)) (S.1 (99, 0, 0) (i + 2)) (S.1 (99, 0, 0) (i + 3)) (S.1 (99, 0, 0) (i + 4)) (zz _) (zz _) (zz _) (zz _)) (CO.wq (fun h => by cases h))) rfl (Nat.le_of_ble_eq_true rfl) (Nat.le_of_ble_eq_true rfl) (by decide) (by omega) (by omega) (fun h1 qq => ?_) (fun v h1 qq => ?_) (fun E h1 qq => ?_)
  · obtain ⟨_, _, _, _, _, _, y, -⟩ := pW.wo (by decide) qq; cases y
  rotate_left
  · obtain ⟨_, _, _, _, _, _, y, -⟩ := pW.wo (by decide) qq; cases y
  obtain ⟨S1, S2, D9, k9, v9, rfl, y, q1, cb, ho, em, ji, hR, h90⟩ := pW.wo (by decide) qq
  cases y
  have e2 : MdE S S2 := (em.tr (MdE.q q1)).tr ho.md
  have hS2 : hp S2 (99, 0, 0) = some (.inr (0, n, .inl (S.1 (99, 0, 0)))) := by rw [hp99, e2.1 99 0 0 (by decide), e2.2, hn]
  have u2 := usum_e e2 5
  obtain ⟨c9, hc, hm⟩ := mo_reason S hI (S.1 (99, 0, 0) (i + 1)) (S.1 (99, 0, 0) (i + 2)) (S.1 (99, 0, 0) (i + 3)) (S.1 (99, 0, 0) (i + 4)) (zz _) (zz _) (zz _) (zz _) S1 S2 D9 k9 v9 q1 cb ho em ji hR
  refine x_istore (L' := [xR (99, 0, 0), xR (0, 0, 0), xR (50, 0, 0), xR (90, 0, 0), xR (91, 0, 0), xI i, xI (k9 : Int), none, none]) dL_law_1683 (by decide) rfl ?_
  refine x_aload_n dL_law_1685 rfl ?_
  refine x_aload_n dL_law_1686 rfl ?_
  refine x_iload dL_law_1687 rfl ?_
  refine x_iconst dL_law_1689 ?_
  refine x_iadd dL_law_1690 ?_
  refine x_alds dL_law_1691 hS2 rfl (by omega) (by omega) (by omega) ?_
  refine x_aload_n dL_law_1692 rfl ?_
  refine x_iload dL_law_1693 rfl ?_
  refine x_iconst dL_law_1695 ?_
  refine x_iadd dL_law_1696 ?_
  refine x_alds dL_law_1697 hS2 rfl (by omega) (by omega) (by omega) ?_
  refine x_aload_n dL_law_1698 rfl ?_
  refine x_iload dL_law_1699 rfl ?_
  refine x_iconst dL_law_1701 ?_
  refine x_iadd dL_law_1702 ?_
  refine x_alds dL_law_1703 hS2 rfl (by omega) (by omega) (by omega) ?_
  refine x_aload_n dL_law_1704 rfl ?_
  refine x_iload dL_law_1705 rfl ?_
  refine x_iconst dL_law_1707 ?_
  refine x_iadd dL_law_1708 ?_
  refine x_alds dL_law_1709 hS2 rfl (by omega) (by omega) (by omega) ?_
  refine x_callV 20 (c9 + 384) (as := [xI (S.1 (99, 0, 0) (i + 1)), xI (S.1 (99, 0, 0) (i + 2)), xI (S.1 (99, 0, 0) (i + 3)), xI (S.1 (99, 0, 0) (i + 4))]) (rest := []) ok_X9_reason dL_law_1710 wd1384 ⟨wd1385, wd1386⟩ (hp50 S2) rfl rfl hm rfl (Nat.le_of_ble_eq_true rfl) (Nat.le_of_ble_eq_true rfl) (by decide) (by omega) (by omega) (fun h1 qq => ?_) (fun v h1 qq => ?_) (fun E h1 qq => ?_)
  · obtain ⟨_, _, -, y, -⟩ := qq; cases y
  rotate_left
  · obtain ⟨_, _, -, y, -⟩ := qq; cases y
  obtain ⟨T, z9, rfl, y, lT, t1, t2, t3, t4, t25, tv, tu⟩ := qq
  cases y
  have zk : zR (k9 : Int) := t25 ▸ lT.1.1.1 (50, 0, 0) 25
  refine x_istore (L' := [xR (99, 0, 0), xR (0, 0, 0), xR (50, 0, 0), xR (90, 0, 0), xR (91, 0, 0), xI i, xI (k9 : Int), xI z9, none]) dL_law_1713 (by decide) rfl ?_
  refine x_aload_n dL_law_1715 rfl ?_
  refine x_callV_r (a := 0) (b := 0) (as := []) (rest := []) ok_X9_thrown dL_law_1716 wd1196 ⟨wd1197, wd1198⟩ (hp50 T) rfl rfl (m_thrown T lT.1.1) rfl (Nat.le_of_ble_eq_true rfl) (Nat.le_of_ble_eq_true rfl) (by decide) (by omega) (by omega) ?_
  refine x_top (show T.1 (50, 0, 0) 25 = (k9 : Int) from t25) ?_
  refine x_iload dL_law_1719 rfl ?_
  refine x_icmp_eq (tgt := 1726) dL_law_1721 (by decide) zk zk (fun _ => ?_) (fun y => absurd rfl y)
  refine x_iload dL_law_1726 rfl ?_
  refine x_if_ne (tgt := 1743) dL_law_1728 (by decide) zk (fun y => ?_) (fun y => ?_)
  · refine x_goto (tgt := 2700) dL_law_1743 (by decide) ?_
    refine X.loc (L' := [xR (99, 0, 0), xR (0, 0, 0), xR (50, 0, 0), xR (90, 0, 0), xR (91, 0, 0), xI i, none, none, none]) ⟨rfl, ⟨rfl, ⟨rfl, ⟨rfl, ⟨rfl, ⟨rfl, trivial⟩⟩⟩⟩⟩⟩ ?_
    exact kont T _ _ lT (by rw [t1, e2.2, hn]) (by omega) (by omega)
  · obtain rfl : k9 = 0 := by omega
    have ez := tv rfl
    subst ez
    refine x_aload_n dL_law_1731 rfl ?_
    refine x_iconst dL_law_1732 ?_
    refine x_aldj dL_law_1733 (hp90 T) (by decide) (by decide) (by decide) (by decide) ?_
    refine x_topJ (show T.2.1 (90, 0, 0) 0 = jI z9 from by rw [t2]; exact h90 rfl) ?_
    refine x_iload dL_law_1734 rfl ?_
    refine x_i2l dL_law_1736 ?_
    refine x_lcmp dL_law_1737 ?_
    refine x_top (lg0.mpr rfl) ?_
    refine x_if_eq (tgt := 1743) dL_law_1738 (by decide) ⟨by decide, by decide⟩ (fun _ => ?_) (fun y => absurd rfl y)
    refine x_goto (tgt := 2700) dL_law_1743 (by decide) ?_
    refine X.loc (L' := [xR (99, 0, 0), xR (0, 0, 0), xR (50, 0, 0), xR (90, 0, 0), xR (91, 0, 0), xI i, none, none, none]) ⟨rfl, ⟨rfl, ⟨rfl, ⟨rfl, ⟨rfl, ⟨rfl, trivial⟩⟩⟩⟩⟩⟩ ?_
    exact kont T _ _ lT (by rw [t1, e2.2, hn]) (by omega) (by omega)
set_option maxHeartbeats 4000000 in
set_option maxRecDepth 100000 in
theorem lc_reasonFact (S : XS) (hI : LwI S) (n : Nat) (hn : S.2.2.2.2.2 = n) (hn2 : n < 1000000) (i : Int) (i0 : 0 ≤ i) (i7 : i + 7 ≤ n) (kc ks : Nat) (hk : 30 ≤ kc) (hs : 82420 ≤ ks + usum S 5) {Q : XO → XH → Prop} (kont : KL n i (kc - 30) (ks + usum S 5 - 500) Q) : X mL_law 1746 [xR (99, 0, 0), xR (0, 0, 0), xR (50, 0, 0), xR (90, 0, 0), xR (91, 0, 0), xI i, none, none, none] [] (hp S) kc ks Q := by
  have zz : ∀ j : Int, zR (S.1 (99, 0, 0) j) := fun j => hI.1.1.1 (99, 0, 0) j
  have hS : hp S (99, 0, 0) = some (.inr (0, n, .inl (S.1 (99, 0, 0)))) := by rw [hp99, hn]
  have u0 : usum S 5 ≤ 81920 := usum_le (fun l hl => mrl_gen hI.2.2.1 l hl) 5 (Nat.le_refl _)
  refine x_aload_n dL_law_1746 rfl ?_
  refine x_aload_n dL_law_1747 rfl ?_
  refine x_iload dL_law_1748 rfl ?_
  refine x_iconst dL_law_1750 ?_
  refine x_iadd dL_law_1751 ?_
  refine x_alds dL_law_1752 hS rfl (by omega) (by omega) (by omega) ?_
  refine x_aload_n dL_law_1753 rfl ?_
  refine x_iload dL_law_1754 rfl ?_
  refine x_iconst dL_law_1756 ?_
  refine x_iadd dL_law_1757 ?_
  refine x_alds dL_law_1758 hS rfl (by omega) (by omega) (by omega) ?_
  refine x_aload_n dL_law_1759 rfl ?_
  refine x_iload dL_law_1760 rfl ?_
  refine x_iconst dL_law_1762 ?_
  refine x_iadd dL_law_1763 ?_
  refine x_alds dL_law_1764 hS rfl (by omega) (by omega) (by omega) ?_
  refine x_aload_n dL_law_1765 rfl ?_
  refine x_iload dL_law_1766 rfl ?_
  refine x_iconst dL_law_1768 ?_
  refine x_iadd dL_law_1769 ?_
  refine x_alds dL_law_1770 hS rfl (by omega) (by omega) (by omega) ?_
  refine x_aload_n dL_law_1771 rfl ?_
  refine x_iload dL_law_1772 rfl ?_
  refine x_iconst dL_law_1774 ?_
  refine x_iadd dL_law_1775 ?_
  refine x_alds dL_law_1776 hS rfl (by omega) (by omega) (by omega) ?_
  refine x_aload_n dL_law_1777 rfl ?_
  refine x_callSH 6 36 (as := [xR (0, 0, 0), xI (S.1 (99, 0, 0) (i + 1)), xI (S.1 (99, 0, 0) (i + 2)), xI (S.1 (99, 0, 0) (i + 3)), xI (S.1 (99, 0, 0) (i + 4)), xI (S.1 (99, 0, 0) (i + 5)), xR (90, 0, 0)]) (rest := []) ok_L_reasonFact dL_law_1778 wd922 wd923 (w_reasonFact (hp0 S) (S.1 (99, 0, 0) (i + 1)) (S.1 (99, 0, 0) (i + 2)) (S.1 (99, 0, 0) (i + 3)) (S.1 (99, 0, 0) (i + 4)) (S.1 (99, 0, 0) (i + 5)) 6 36 (cu_reasonFact S hI (S.1 (99, 0, 0) (i + 1)) (S.1 (99, 0, 0) (i + 2)) (S.1 (99, 0, 0) (i + 3)) (S.1 (99, 0, 0) (i + 4)) (S.1 (99, 0, 0) (i + 5)) (zz _) (zz _) (zz _) (zz _) (zz _)) (CO.wq (fun h => by cases h))) rfl (Nat.le_of_ble_eq_true rfl) (Nat.le_of_ble_eq_true rfl) (by decide) (by omega) (by omega) (fun h1 qq => ?_) (fun v h1 qq => ?_) (fun E h1 qq => ?_)
  · obtain ⟨_, _, _, _, _, _, y, -⟩ := pW.wo (by decide) qq; cases y
  rotate_left
  · obtain ⟨_, _, _, _, _, _, y, -⟩ := pW.wo (by decide) qq; cases y
  obtain ⟨S1, S2, D9, k9, v9, rfl, y, q1, cb, ho, em, ji, hR, h90⟩ := pW.wo (by decide) qq
  cases y
  have e2 : MdE S S2 := (em.tr (MdE.q q1)).tr ho.md
  have hS2 : hp S2 (99, 0, 0) = some (.inr (0, n, .inl (S.1 (99, 0, 0)))) := by rw [hp99, e2.1 99 0 0 (by decide), e2.2, hn]
  have u2 := usum_e e2 5
  obtain ⟨c9, hc, hm⟩ := mo_reasonFact S hI (S.1 (99, 0, 0) (i + 1)) (S.1 (99, 0, 0) (i + 2)) (S.1 (99, 0, 0) (i + 3)) (S.1 (99, 0, 0) (i + 4)) (S.1 (99, 0, 0) (i + 5)) (zz _) (zz _) (zz _) (zz _) (zz _) S1 S2 D9 k9 v9 q1 cb ho em ji hR
  refine x_istore (L' := [xR (99, 0, 0), xR (0, 0, 0), xR (50, 0, 0), xR (90, 0, 0), xR (91, 0, 0), xI i, xI (k9 : Int), none, none]) dL_law_1781 (by decide) rfl ?_
  refine x_aload_n dL_law_1783 rfl ?_
  refine x_aload_n dL_law_1784 rfl ?_
  refine x_iload dL_law_1785 rfl ?_
  refine x_iconst dL_law_1787 ?_
  refine x_iadd dL_law_1788 ?_
  refine x_alds dL_law_1789 hS2 rfl (by omega) (by omega) (by omega) ?_
  refine x_aload_n dL_law_1790 rfl ?_
  refine x_iload dL_law_1791 rfl ?_
  refine x_iconst dL_law_1793 ?_
  refine x_iadd dL_law_1794 ?_
  refine x_alds dL_law_1795 hS2 rfl (by omega) (by omega) (by omega) ?_
  refine x_aload_n dL_law_1796 rfl ?_
  refine x_iload dL_law_1797 rfl ?_
  refine x_iconst dL_law_1799 ?_
  refine x_iadd dL_law_1800 ?_
  refine x_alds dL_law_1801 hS2 rfl (by omega) (by omega) (by omega) ?_
  refine x_aload_n dL_law_1802 rfl ?_
  refine x_iload dL_law_1803 rfl ?_
  refine x_iconst dL_law_1805 ?_
  refine x_iadd dL_law_1806 ?_
  refine x_alds dL_law_1807 hS2 rfl (by omega) (by omega) (by omega) ?_
  refine x_aload_n dL_law_1808 rfl ?_
  refine x_iload dL_law_1809 rfl ?_
  refine x_iconst dL_law_1811 ?_
  refine x_iadd dL_law_1812 ?_
  refine x_alds dL_law_1813 hS2 rfl (by omega) (by omega) (by omega) ?_
  refine x_callV 20 (c9 + 384) (as := [xI (S.1 (99, 0, 0) (i + 1)), xI (S.1 (99, 0, 0) (i + 2)), xI (S.1 (99, 0, 0) (i + 3)), xI (S.1 (99, 0, 0) (i + 4)), xI (S.1 (99, 0, 0) (i + 5))]) (rest := []) ok_X9_reasonFact dL_law_1814 wd1392 ⟨wd1393, wd1394⟩ (hp50 S2) rfl rfl hm rfl (Nat.le_of_ble_eq_true rfl) (Nat.le_of_ble_eq_true rfl) (by decide) (by omega) (by omega) (fun h1 qq => ?_) (fun v h1 qq => ?_) (fun E h1 qq => ?_)
  · obtain ⟨_, _, -, y, -⟩ := qq; cases y
  rotate_left
  · obtain ⟨_, _, -, y, -⟩ := qq; cases y
  obtain ⟨T, z9, rfl, y, lT, t1, t2, t3, t4, t25, tv, tu⟩ := qq
  cases y
  have zk : zR (k9 : Int) := t25 ▸ lT.1.1.1 (50, 0, 0) 25
  refine x_istore (L' := [xR (99, 0, 0), xR (0, 0, 0), xR (50, 0, 0), xR (90, 0, 0), xR (91, 0, 0), xI i, xI (k9 : Int), xI z9, none]) dL_law_1817 (by decide) rfl ?_
  refine x_aload_n dL_law_1819 rfl ?_
  refine x_callV_r (a := 0) (b := 0) (as := []) (rest := []) ok_X9_thrown dL_law_1820 wd1196 ⟨wd1197, wd1198⟩ (hp50 T) rfl rfl (m_thrown T lT.1.1) rfl (Nat.le_of_ble_eq_true rfl) (Nat.le_of_ble_eq_true rfl) (by decide) (by omega) (by omega) ?_
  refine x_top (show T.1 (50, 0, 0) 25 = (k9 : Int) from t25) ?_
  refine x_iload dL_law_1823 rfl ?_
  refine x_icmp_eq (tgt := 1830) dL_law_1825 (by decide) zk zk (fun _ => ?_) (fun y => absurd rfl y)
  refine x_iload dL_law_1830 rfl ?_
  refine x_if_ne (tgt := 1847) dL_law_1832 (by decide) zk (fun y => ?_) (fun y => ?_)
  · refine x_goto (tgt := 2700) dL_law_1847 (by decide) ?_
    refine X.loc (L' := [xR (99, 0, 0), xR (0, 0, 0), xR (50, 0, 0), xR (90, 0, 0), xR (91, 0, 0), xI i, none, none, none]) ⟨rfl, ⟨rfl, ⟨rfl, ⟨rfl, ⟨rfl, ⟨rfl, trivial⟩⟩⟩⟩⟩⟩ ?_
    exact kont T _ _ lT (by rw [t1, e2.2, hn]) (by omega) (by omega)
  · obtain rfl : k9 = 0 := by omega
    have ez := tv rfl
    subst ez
    refine x_aload_n dL_law_1835 rfl ?_
    refine x_iconst dL_law_1836 ?_
    refine x_aldj dL_law_1837 (hp90 T) (by decide) (by decide) (by decide) (by decide) ?_
    refine x_topJ (show T.2.1 (90, 0, 0) 0 = jI z9 from by rw [t2]; exact h90 rfl) ?_
    refine x_iload dL_law_1838 rfl ?_
    refine x_i2l dL_law_1840 ?_
    refine x_lcmp dL_law_1841 ?_
    refine x_top (lg0.mpr rfl) ?_
    refine x_if_eq (tgt := 1847) dL_law_1842 (by decide) ⟨by decide, by decide⟩ (fun _ => ?_) (fun y => absurd rfl y)
    refine x_goto (tgt := 2700) dL_law_1847 (by decide) ?_
    refine X.loc (L' := [xR (99, 0, 0), xR (0, 0, 0), xR (50, 0, 0), xR (90, 0, 0), xR (91, 0, 0), xI i, none, none, none]) ⟨rfl, ⟨rfl, ⟨rfl, ⟨rfl, ⟨rfl, ⟨rfl, trivial⟩⟩⟩⟩⟩⟩ ?_
    exact kont T _ _ lT (by rw [t1, e2.2, hn]) (by omega) (by omega)
set_option maxHeartbeats 4000000 in
set_option maxRecDepth 100000 in
theorem lc_proof (S : XS) (hI : LwI S) (n : Nat) (hn : S.2.2.2.2.2 = n) (hn2 : n < 1000000) (i : Int) (i0 : 0 ≤ i) (i7 : i + 7 ≤ n) (kc ks : Nat) (hk : 30 ≤ kc) (hs : 82420 ≤ ks + usum S 5) {Q : XO → XH → Prop} (kont : KL n i (kc - 30) (ks + usum S 5 - 500) Q) : X mL_law 1850 [xR (99, 0, 0), xR (0, 0, 0), xR (50, 0, 0), xR (90, 0, 0), xR (91, 0, 0), xI i, none, none, none] [] (hp S) kc ks Q := by
  have zz : ∀ j : Int, zR (S.1 (99, 0, 0) j) := fun j => hI.1.1.1 (99, 0, 0) j
  have hS : hp S (99, 0, 0) = some (.inr (0, n, .inl (S.1 (99, 0, 0)))) := by rw [hp99, hn]
  have u0 : usum S 5 ≤ 81920 := usum_le (fun l hl => mrl_gen hI.2.2.1 l hl) 5 (Nat.le_refl _)
  refine x_aload_n dL_law_1850 rfl ?_
  refine x_aload_n dL_law_1851 rfl ?_
  refine x_iload dL_law_1852 rfl ?_
  refine x_iconst dL_law_1854 ?_
  refine x_iadd dL_law_1855 ?_
  refine x_alds dL_law_1856 hS rfl (by omega) (by omega) (by omega) ?_
  refine x_aload_n dL_law_1857 rfl ?_
  refine x_iload dL_law_1858 rfl ?_
  refine x_iconst dL_law_1860 ?_
  refine x_iadd dL_law_1861 ?_
  refine x_alds dL_law_1862 hS rfl (by omega) (by omega) (by omega) ?_
  refine x_aload_n dL_law_1863 rfl ?_
  refine x_iload dL_law_1864 rfl ?_
  refine x_iconst dL_law_1866 ?_
  refine x_iadd dL_law_1867 ?_
  refine x_alds dL_law_1868 hS rfl (by omega) (by omega) (by omega) ?_
  refine x_aload_n dL_law_1869 rfl ?_
  refine x_iload dL_law_1870 rfl ?_
  refine x_iconst dL_law_1872 ?_
  refine x_iadd dL_law_1873 ?_
  refine x_alds dL_law_1874 hS rfl (by omega) (by omega) (by omega) ?_
  refine x_aload_n dL_law_1875 rfl ?_
  refine x_callSH 6 36 (as := [xR (0, 0, 0), xI (S.1 (99, 0, 0) (i + 1)), xI (S.1 (99, 0, 0) (i + 2)), xI (S.1 (99, 0, 0) (i + 3)), xI (S.1 (99, 0, 0) (i + 4)), xR (90, 0, 0)]) (rest := []) ok_L_proof dL_law_1876 wd934 wd935 (w_proof (hp0 S) (S.1 (99, 0, 0) (i + 1)) (S.1 (99, 0, 0) (i + 2)) (S.1 (99, 0, 0) (i + 3)) (S.1 (99, 0, 0) (i + 4)) 6 36 (cu_proof S hI (S.1 (99, 0, 0) (i + 1)) (S.1 (99, 0, 0) (i + 2)) (S.1 (99, 0, 0) (i + 3)) (S.1 (99, 0, 0) (i + 4)) (zz _) (zz _) (zz _) (zz _)) (CO.wq (fun h => by cases h))) rfl (Nat.le_of_ble_eq_true rfl) (Nat.le_of_ble_eq_true rfl) (by decide) (by omega) (by omega) (fun h1 qq => ?_) (fun v h1 qq => ?_) (fun E h1 qq => ?_)
  · obtain ⟨_, _, _, _, _, _, y, -⟩ := pW.wo (by decide) qq; cases y
  rotate_left
  · obtain ⟨_, _, _, _, _, _, y, -⟩ := pW.wo (by decide) qq; cases y
  obtain ⟨S1, S2, D9, k9, v9, rfl, y, q1, cb, ho, em, ji, hR, h90⟩ := pW.wo (by decide) qq
  cases y
  have e2 : MdE S S2 := (em.tr (MdE.q q1)).tr ho.md
  have hS2 : hp S2 (99, 0, 0) = some (.inr (0, n, .inl (S.1 (99, 0, 0)))) := by rw [hp99, e2.1 99 0 0 (by decide), e2.2, hn]
  have u2 := usum_e e2 5
  obtain ⟨c9, hc, hm⟩ := mo_proof S hI (S.1 (99, 0, 0) (i + 1)) (S.1 (99, 0, 0) (i + 2)) (S.1 (99, 0, 0) (i + 3)) (S.1 (99, 0, 0) (i + 4)) (zz _) (zz _) (zz _) (zz _) S1 S2 D9 k9 v9 q1 cb ho em ji hR
  refine x_istore (L' := [xR (99, 0, 0), xR (0, 0, 0), xR (50, 0, 0), xR (90, 0, 0), xR (91, 0, 0), xI i, xI (k9 : Int), none, none]) dL_law_1879 (by decide) rfl ?_
  refine x_aload_n dL_law_1881 rfl ?_
  refine x_aload_n dL_law_1882 rfl ?_
  refine x_iload dL_law_1883 rfl ?_
  refine x_iconst dL_law_1885 ?_
  refine x_iadd dL_law_1886 ?_
  refine x_alds dL_law_1887 hS2 rfl (by omega) (by omega) (by omega) ?_
  refine x_aload_n dL_law_1888 rfl ?_
  refine x_iload dL_law_1889 rfl ?_
  refine x_iconst dL_law_1891 ?_
  refine x_iadd dL_law_1892 ?_
  refine x_alds dL_law_1893 hS2 rfl (by omega) (by omega) (by omega) ?_
  refine x_aload_n dL_law_1894 rfl ?_
  refine x_iload dL_law_1895 rfl ?_
  refine x_iconst dL_law_1897 ?_
  refine x_iadd dL_law_1898 ?_
  refine x_alds dL_law_1899 hS2 rfl (by omega) (by omega) (by omega) ?_
  refine x_aload_n dL_law_1900 rfl ?_
  refine x_iload dL_law_1901 rfl ?_
  refine x_iconst dL_law_1903 ?_
  refine x_iadd dL_law_1904 ?_
  refine x_alds dL_law_1905 hS2 rfl (by omega) (by omega) (by omega) ?_
  refine x_callV 20 (c9 + 384) (as := [xI (S.1 (99, 0, 0) (i + 1)), xI (S.1 (99, 0, 0) (i + 2)), xI (S.1 (99, 0, 0) (i + 3)), xI (S.1 (99, 0, 0) (i + 4))]) (rest := []) ok_X9_proof dL_law_1906 wd1396 ⟨wd1397, wd1398⟩ (hp50 S2) rfl rfl hm rfl (Nat.le_of_ble_eq_true rfl) (Nat.le_of_ble_eq_true rfl) (by decide) (by omega) (by omega) (fun h1 qq => ?_) (fun v h1 qq => ?_) (fun E h1 qq => ?_)
  · obtain ⟨_, _, -, y, -⟩ := qq; cases y
  rotate_left
  · obtain ⟨_, _, -, y, -⟩ := qq; cases y
  obtain ⟨T, z9, rfl, y, lT, t1, t2, t3, t4, t25, tv, tu⟩ := qq
  cases y
  have zk : zR (k9 : Int) := t25 ▸ lT.1.1.1 (50, 0, 0) 25
  refine x_istore (L' := [xR (99, 0, 0), xR (0, 0, 0), xR (50, 0, 0), xR (90, 0, 0), xR (91, 0, 0), xI i, xI (k9 : Int), xI z9, none]) dL_law_1909 (by decide) rfl ?_
  refine x_aload_n dL_law_1911 rfl ?_
  refine x_callV_r (a := 0) (b := 0) (as := []) (rest := []) ok_X9_thrown dL_law_1912 wd1196 ⟨wd1197, wd1198⟩ (hp50 T) rfl rfl (m_thrown T lT.1.1) rfl (Nat.le_of_ble_eq_true rfl) (Nat.le_of_ble_eq_true rfl) (by decide) (by omega) (by omega) ?_
  refine x_top (show T.1 (50, 0, 0) 25 = (k9 : Int) from t25) ?_
  refine x_iload dL_law_1915 rfl ?_
  refine x_icmp_eq (tgt := 1922) dL_law_1917 (by decide) zk zk (fun _ => ?_) (fun y => absurd rfl y)
  refine x_iload dL_law_1922 rfl ?_
  refine x_if_ne (tgt := 1939) dL_law_1924 (by decide) zk (fun y => ?_) (fun y => ?_)
  · refine x_goto (tgt := 2700) dL_law_1939 (by decide) ?_
    refine X.loc (L' := [xR (99, 0, 0), xR (0, 0, 0), xR (50, 0, 0), xR (90, 0, 0), xR (91, 0, 0), xI i, none, none, none]) ⟨rfl, ⟨rfl, ⟨rfl, ⟨rfl, ⟨rfl, ⟨rfl, trivial⟩⟩⟩⟩⟩⟩ ?_
    exact kont T _ _ lT (by rw [t1, e2.2, hn]) (by omega) (by omega)
  · obtain rfl : k9 = 0 := by omega
    have ez := tv rfl
    subst ez
    refine x_aload_n dL_law_1927 rfl ?_
    refine x_iconst dL_law_1928 ?_
    refine x_aldj dL_law_1929 (hp90 T) (by decide) (by decide) (by decide) (by decide) ?_
    refine x_topJ (show T.2.1 (90, 0, 0) 0 = jI z9 from by rw [t2]; exact h90 rfl) ?_
    refine x_iload dL_law_1930 rfl ?_
    refine x_i2l dL_law_1932 ?_
    refine x_lcmp dL_law_1933 ?_
    refine x_top (lg0.mpr rfl) ?_
    refine x_if_eq (tgt := 1939) dL_law_1934 (by decide) ⟨by decide, by decide⟩ (fun _ => ?_) (fun y => absurd rfl y)
    refine x_goto (tgt := 2700) dL_law_1939 (by decide) ?_
    refine X.loc (L' := [xR (99, 0, 0), xR (0, 0, 0), xR (50, 0, 0), xR (90, 0, 0), xR (91, 0, 0), xI i, none, none, none]) ⟨rfl, ⟨rfl, ⟨rfl, ⟨rfl, ⟨rfl, ⟨rfl, trivial⟩⟩⟩⟩⟩⟩ ?_
    exact kont T _ _ lT (by rw [t1, e2.2, hn]) (by omega) (by omega)
set_option maxHeartbeats 4000000 in
set_option maxRecDepth 100000 in
theorem lc_forget (S : XS) (hI : LwI S) (n : Nat) (hn : S.2.2.2.2.2 = n) (hn2 : n < 1000000) (i : Int) (i0 : 0 ≤ i) (i7 : i + 7 ≤ n) (kc ks : Nat) (hk : 30 ≤ kc) (hs : 82420 ≤ ks + usum S 5) {Q : XO → XH → Prop} (kont : KL n i (kc - 30) (ks + usum S 5 - 500) Q) : X mL_law 1942 [xR (99, 0, 0), xR (0, 0, 0), xR (50, 0, 0), xR (90, 0, 0), xR (91, 0, 0), xI i, none, none, none] [] (hp S) kc ks Q := by
  have zz : ∀ j : Int, zR (S.1 (99, 0, 0) j) := fun j => hI.1.1.1 (99, 0, 0) j
  have hS : hp S (99, 0, 0) = some (.inr (0, n, .inl (S.1 (99, 0, 0)))) := by rw [hp99, hn]
  have u0 : usum S 5 ≤ 81920 := usum_le (fun l hl => mrl_gen hI.2.2.1 l hl) 5 (Nat.le_refl _)
  refine x_aload_n dL_law_1942 rfl ?_
  refine x_aload_n dL_law_1943 rfl ?_
  refine x_iload dL_law_1944 rfl ?_
  refine x_iconst dL_law_1946 ?_
  refine x_iadd dL_law_1947 ?_
  refine x_alds dL_law_1948 hS rfl (by omega) (by omega) (by omega) ?_
  refine x_aload_n dL_law_1949 rfl ?_
  refine x_callSH 6 36 (as := [xR (0, 0, 0), xI (S.1 (99, 0, 0) (i + 1)), xR (90, 0, 0)]) (rest := []) ok_L_forget dL_law_1950 wd950 wd951 (w_forget (hp0 S) (S.1 (99, 0, 0) (i + 1)) 6 36 (cu_forget S hI (S.1 (99, 0, 0) (i + 1)) (zz _)) (CO.wq (fun h => by cases h))) rfl (Nat.le_of_ble_eq_true rfl) (Nat.le_of_ble_eq_true rfl) (by decide) (by omega) (by omega) (fun h1 qq => ?_) (fun v h1 qq => ?_) (fun E h1 qq => ?_)
  · obtain ⟨_, _, _, _, _, _, y, -⟩ := pW.wo (by decide) qq; cases y
  rotate_left
  · obtain ⟨_, _, _, _, _, _, y, -⟩ := pW.wo (by decide) qq; cases y
  obtain ⟨S1, S2, D9, k9, v9, rfl, y, q1, cb, ho, em, ji, hR, h90⟩ := pW.wo (by decide) qq
  cases y
  have e2 : MdE S S2 := (em.tr (MdE.q q1)).tr ho.md
  have hS2 : hp S2 (99, 0, 0) = some (.inr (0, n, .inl (S.1 (99, 0, 0)))) := by rw [hp99, e2.1 99 0 0 (by decide), e2.2, hn]
  have u2 := usum_e e2 5
  obtain ⟨c9, hc, hm⟩ := mo_forget S hI (S.1 (99, 0, 0) (i + 1)) (zz _) S1 S2 D9 k9 v9 q1 cb ho em ji hR
  refine x_istore (L' := [xR (99, 0, 0), xR (0, 0, 0), xR (50, 0, 0), xR (90, 0, 0), xR (91, 0, 0), xI i, xI (k9 : Int), none, none]) dL_law_1953 (by decide) rfl ?_
  refine x_aload_n dL_law_1955 rfl ?_
  refine x_aload_n dL_law_1956 rfl ?_
  refine x_iload dL_law_1957 rfl ?_
  refine x_iconst dL_law_1959 ?_
  refine x_iadd dL_law_1960 ?_
  refine x_alds dL_law_1961 hS2 rfl (by omega) (by omega) (by omega) ?_
  refine x_callV 20 (c9 + 384) (as := [xI (S.1 (99, 0, 0) (i + 1))]) (rest := []) ok_X9_forget dL_law_1962 wd1400 ⟨wd1401, wd1402⟩ (hp50 S2) rfl rfl hm rfl (Nat.le_of_ble_eq_true rfl) (Nat.le_of_ble_eq_true rfl) (by decide) (by omega) (by omega) (fun h1 qq => ?_) (fun v h1 qq => ?_) (fun E h1 qq => ?_)
  · obtain ⟨_, _, -, y, -⟩ := qq; cases y
  rotate_left
  · obtain ⟨_, _, -, y, -⟩ := qq; cases y
  obtain ⟨T, z9, rfl, y, lT, t1, t2, t3, t4, t25, tv, tu⟩ := qq
  cases y
  have zk : zR (k9 : Int) := t25 ▸ lT.1.1.1 (50, 0, 0) 25
  refine x_istore (L' := [xR (99, 0, 0), xR (0, 0, 0), xR (50, 0, 0), xR (90, 0, 0), xR (91, 0, 0), xI i, xI (k9 : Int), xI z9, none]) dL_law_1965 (by decide) rfl ?_
  refine x_aload_n dL_law_1967 rfl ?_
  refine x_callV_r (a := 0) (b := 0) (as := []) (rest := []) ok_X9_thrown dL_law_1968 wd1196 ⟨wd1197, wd1198⟩ (hp50 T) rfl rfl (m_thrown T lT.1.1) rfl (Nat.le_of_ble_eq_true rfl) (Nat.le_of_ble_eq_true rfl) (by decide) (by omega) (by omega) ?_
  refine x_top (show T.1 (50, 0, 0) 25 = (k9 : Int) from t25) ?_
  refine x_iload dL_law_1971 rfl ?_
  refine x_icmp_eq (tgt := 1978) dL_law_1973 (by decide) zk zk (fun _ => ?_) (fun y => absurd rfl y)
  refine x_iload dL_law_1978 rfl ?_
  refine x_if_ne (tgt := 1995) dL_law_1980 (by decide) zk (fun y => ?_) (fun y => ?_)
  · refine x_goto (tgt := 2700) dL_law_1995 (by decide) ?_
    refine X.loc (L' := [xR (99, 0, 0), xR (0, 0, 0), xR (50, 0, 0), xR (90, 0, 0), xR (91, 0, 0), xI i, none, none, none]) ⟨rfl, ⟨rfl, ⟨rfl, ⟨rfl, ⟨rfl, ⟨rfl, trivial⟩⟩⟩⟩⟩⟩ ?_
    exact kont T _ _ lT (by rw [t1, e2.2, hn]) (by omega) (by omega)
  · obtain rfl : k9 = 0 := by omega
    have ez := tv rfl
    subst ez
    refine x_aload_n dL_law_1983 rfl ?_
    refine x_iconst dL_law_1984 ?_
    refine x_aldj dL_law_1985 (hp90 T) (by decide) (by decide) (by decide) (by decide) ?_
    refine x_topJ (show T.2.1 (90, 0, 0) 0 = jI z9 from by rw [t2]; exact h90 rfl) ?_
    refine x_iload dL_law_1986 rfl ?_
    refine x_i2l dL_law_1988 ?_
    refine x_lcmp dL_law_1989 ?_
    refine x_top (lg0.mpr rfl) ?_
    refine x_if_eq (tgt := 1995) dL_law_1990 (by decide) ⟨by decide, by decide⟩ (fun _ => ?_) (fun y => absurd rfl y)
    refine x_goto (tgt := 2700) dL_law_1995 (by decide) ?_
    refine X.loc (L' := [xR (99, 0, 0), xR (0, 0, 0), xR (50, 0, 0), xR (90, 0, 0), xR (91, 0, 0), xI i, none, none, none]) ⟨rfl, ⟨rfl, ⟨rfl, ⟨rfl, ⟨rfl, ⟨rfl, trivial⟩⟩⟩⟩⟩⟩ ?_
    exact kont T _ _ lT (by rw [t1, e2.2, hn]) (by omega) (by omega)
set_option maxHeartbeats 4000000 in
set_option maxRecDepth 100000 in
theorem lc_isForgotten (S : XS) (hI : LwI S) (n : Nat) (hn : S.2.2.2.2.2 = n) (hn2 : n < 1000000) (i : Int) (i0 : 0 ≤ i) (i7 : i + 7 ≤ n) (kc ks : Nat) (hk : 30 ≤ kc) (hs : 82420 ≤ ks + usum S 5) {Q : XO → XH → Prop} (kont : KL n i (kc - 30) (ks + usum S 5 - 500) Q) : X mL_law 1998 [xR (99, 0, 0), xR (0, 0, 0), xR (50, 0, 0), xR (90, 0, 0), xR (91, 0, 0), xI i, none, none, none] [] (hp S) kc ks Q := by
  have zz : ∀ j : Int, zR (S.1 (99, 0, 0) j) := fun j => hI.1.1.1 (99, 0, 0) j
  have hS : hp S (99, 0, 0) = some (.inr (0, n, .inl (S.1 (99, 0, 0)))) := by rw [hp99, hn]
  have u0 : usum S 5 ≤ 81920 := usum_le (fun l hl => mrl_gen hI.2.2.1 l hl) 5 (Nat.le_refl _)
  refine x_aload_n dL_law_1998 rfl ?_
  refine x_aload_n dL_law_1999 rfl ?_
  refine x_iload dL_law_2000 rfl ?_
  refine x_iconst dL_law_2002 ?_
  refine x_iadd dL_law_2003 ?_
  refine x_alds dL_law_2004 hS rfl (by omega) (by omega) (by omega) ?_
  refine x_aload_n dL_law_2005 rfl ?_
  refine x_iload dL_law_2006 rfl ?_
  refine x_iconst dL_law_2008 ?_
  refine x_iadd dL_law_2009 ?_
  refine x_alds dL_law_2010 hS rfl (by omega) (by omega) (by omega) ?_
  refine x_aload_n dL_law_2011 rfl ?_
  have hq9 : ∀ v9 D9, R_isForgotten S (S.1 (99, 0, 0) (i + 1)) (S.1 (99, 0, 0) (i + 2)) 0 v9 D9 → v9 = 0 ∨ v9 = 1 := fun v9 D9 hR => by
    rcases hR with ⟨-, y0, rfl, -⟩ | ⟨y, -⟩
    · exact wf13_6 hI.1.1 (by have := wf0_6 hI.1.1; omega) (by have := wf0_6 hI.1.1; omega) (by omega) (by have := wf9_3 hI.1.1 (b := (S.1 (99, 0, 0) (i + 1))) (by omega) (by have := wf0_6 hI.1.1; omega); omega)
    · exact absurd y (by decide)
  refine x_callSH 6 36 (as := [xR (0, 0, 0), xI (S.1 (99, 0, 0) (i + 1)), xI (S.1 (99, 0, 0) (i + 2)), xR (90, 0, 0)]) (rest := []) ok_L_isForgotten dL_law_2012 wd966 wd967 (w_isForgotten (hp0 S) (S.1 (99, 0, 0) (i + 1)) (S.1 (99, 0, 0) (i + 2)) 6 36 (cu_isForgotten S hI (S.1 (99, 0, 0) (i + 1)) (S.1 (99, 0, 0) (i + 2)) (zz _) (zz _)) (CO.wq (fun _ => hq9))) rfl (Nat.le_of_ble_eq_true rfl) (Nat.le_of_ble_eq_true rfl) (by decide) (by omega) (by omega) (fun h1 qq => ?_) (fun v h1 qq => ?_) (fun E h1 qq => ?_)
  · obtain ⟨_, _, _, _, _, _, y, -⟩ := pW.wo (by decide) qq; cases y
  rotate_left
  · obtain ⟨_, _, _, _, _, _, y, -⟩ := pW.wo (by decide) qq; cases y
  obtain ⟨S1, S2, D9, k9, v9, rfl, y, q1, cb, ho, em, ji, hR, h90⟩ := pW.wo (by decide) qq
  cases y
  have e2 : MdE S S2 := (em.tr (MdE.q q1)).tr ho.md
  have hS2 : hp S2 (99, 0, 0) = some (.inr (0, n, .inl (S.1 (99, 0, 0)))) := by rw [hp99, e2.1 99 0 0 (by decide), e2.2, hn]
  have u2 := usum_e e2 5
  obtain ⟨c9, hc, hm⟩ := mo_isForgotten S hI (S.1 (99, 0, 0) (i + 1)) (S.1 (99, 0, 0) (i + 2)) (zz _) (zz _) S1 S2 D9 k9 v9 q1 cb ho em ji hR
  refine x_istore (L' := [xR (99, 0, 0), xR (0, 0, 0), xR (50, 0, 0), xR (90, 0, 0), xR (91, 0, 0), xI i, xI (k9 : Int), none, none]) dL_law_2015 (by decide) rfl ?_
  refine x_aload_n dL_law_2017 rfl ?_
  refine x_aload_n dL_law_2018 rfl ?_
  refine x_iload dL_law_2019 rfl ?_
  refine x_iconst dL_law_2021 ?_
  refine x_iadd dL_law_2022 ?_
  refine x_alds dL_law_2023 hS2 rfl (by omega) (by omega) (by omega) ?_
  refine x_aload_n dL_law_2024 rfl ?_
  refine x_iload dL_law_2025 rfl ?_
  refine x_iconst dL_law_2027 ?_
  refine x_iadd dL_law_2028 ?_
  refine x_alds dL_law_2029 hS2 rfl (by omega) (by omega) (by omega) ?_
  refine x_callV 20 (c9 + 384) (as := [xI (S.1 (99, 0, 0) (i + 1)), xI (S.1 (99, 0, 0) (i + 2))]) (rest := []) ok_X9_isForgotten dL_law_2030 wd1404 ⟨wd1405, wd1406⟩ (hp50 S2) rfl rfl hm rfl (Nat.le_of_ble_eq_true rfl) (Nat.le_of_ble_eq_true rfl) (by decide) (by omega) (by omega) (fun h1 qq => ?_) (fun v h1 qq => ?_) (fun E h1 qq => ?_)
  · obtain ⟨_, _, -, y, -⟩ := qq; cases y
  rotate_left
  · obtain ⟨_, _, -, y, -⟩ := qq; cases y
  obtain ⟨T, z9, rfl, y, lT, t1, t2, t3, t4, t25, tv, tu⟩ := qq
  cases y
  have zk : zR (k9 : Int) := t25 ▸ lT.1.1.1 (50, 0, 0) 25
  refine x_istore (L' := [xR (99, 0, 0), xR (0, 0, 0), xR (50, 0, 0), xR (90, 0, 0), xR (91, 0, 0), xI i, xI (k9 : Int), xI z9, none]) dL_law_2033 (by decide) rfl ?_
  refine x_aload_n dL_law_2035 rfl ?_
  refine x_callV_r (a := 0) (b := 0) (as := []) (rest := []) ok_X9_thrown dL_law_2036 wd1196 ⟨wd1197, wd1198⟩ (hp50 T) rfl rfl (m_thrown T lT.1.1) rfl (Nat.le_of_ble_eq_true rfl) (Nat.le_of_ble_eq_true rfl) (by decide) (by omega) (by omega) ?_
  refine x_top (show T.1 (50, 0, 0) 25 = (k9 : Int) from t25) ?_
  refine x_iload dL_law_2039 rfl ?_
  refine x_icmp_eq (tgt := 2046) dL_law_2041 (by decide) zk zk (fun _ => ?_) (fun y => absurd rfl y)
  refine x_iload dL_law_2046 rfl ?_
  refine x_if_ne (tgt := 2070) dL_law_2048 (by decide) zk (fun y => ?_) (fun y => ?_)
  · refine x_goto (tgt := 2700) dL_law_2070 (by decide) ?_
    refine X.loc (L' := [xR (99, 0, 0), xR (0, 0, 0), xR (50, 0, 0), xR (90, 0, 0), xR (91, 0, 0), xI i, none, none, none]) ⟨rfl, ⟨rfl, ⟨rfl, ⟨rfl, ⟨rfl, ⟨rfl, trivial⟩⟩⟩⟩⟩⟩ ?_
    exact kont T _ _ lT (by rw [t1, e2.2, hn]) (by omega) (by omega)
  · obtain rfl : k9 = 0 := by omega
    have ez := tv rfl
    subst ez
    refine x_aload_n dL_law_2051 rfl ?_
    refine x_iconst dL_law_2052 ?_
    refine x_aldj dL_law_2053 (hp90 T) (by decide) (by decide) (by decide) (by decide) ?_
    refine x_topJ (show T.2.1 (90, 0, 0) 0 = jI z9 from by rw [t2]; exact h90 rfl) ?_
    refine x_iload dL_law_2054 rfl ?_
    have v01 : z9 = 0 ∨ z9 = 1 := hq9 _ _ hR
    rcases v01 with rfl | rfl
    · refine x_if_eq (tgt := 2063) dL_law_2056 (by decide) ⟨by decide, by decide⟩ (fun _ => ?_) (fun y => absurd rfl y)
      refine x_lconst (v := 0) dL_law_2063 (by decide) ?_
      refine x_lcmp dL_law_2064 ?_
      refine x_top (lg0.mpr (by decide)) ?_
      refine x_if_eq (tgt := 2070) dL_law_2065 (by decide) ⟨by decide, by decide⟩ (fun _ => ?_) (fun y => absurd rfl y)
      refine x_goto (tgt := 2700) dL_law_2070 (by decide) ?_
      refine X.loc (L' := [xR (99, 0, 0), xR (0, 0, 0), xR (50, 0, 0), xR (90, 0, 0), xR (91, 0, 0), xI i, none, none, none]) ⟨rfl, ⟨rfl, ⟨rfl, ⟨rfl, ⟨rfl, ⟨rfl, trivial⟩⟩⟩⟩⟩⟩ ?_
      exact kont T _ _ lT (by rw [t1, e2.2, hn]) (by omega) (by omega)
    · refine x_if_eq (tgt := 2063) dL_law_2056 (by decide) ⟨by decide, by decide⟩ (fun y => absurd y (by decide)) (fun _ => ?_)
      refine x_lconst (v := 1) dL_law_2059 (by decide) ?_
      refine x_goto (tgt := 2064) dL_law_2060 (by decide) ?_
      refine x_lcmp dL_law_2064 ?_
      refine x_top (lg0.mpr (by decide)) ?_
      refine x_if_eq (tgt := 2070) dL_law_2065 (by decide) ⟨by decide, by decide⟩ (fun _ => ?_) (fun y => absurd rfl y)
      refine x_goto (tgt := 2700) dL_law_2070 (by decide) ?_
      refine X.loc (L' := [xR (99, 0, 0), xR (0, 0, 0), xR (50, 0, 0), xR (90, 0, 0), xR (91, 0, 0), xI i, none, none, none]) ⟨rfl, ⟨rfl, ⟨rfl, ⟨rfl, ⟨rfl, ⟨rfl, trivial⟩⟩⟩⟩⟩⟩ ?_
      exact kont T _ _ lT (by rw [t1, e2.2, hn]) (by omega) (by omega)
set_option maxHeartbeats 4000000 in
set_option maxRecDepth 100000 in
theorem lc_seal (S : XS) (hI : LwI S) (n : Nat) (hn : S.2.2.2.2.2 = n) (hn2 : n < 1000000) (i : Int) (i0 : 0 ≤ i) (i7 : i + 7 ≤ n) (kc ks : Nat) (hk : 30 ≤ kc) (hs : 82420 ≤ ks + usum S 5) {Q : XO → XH → Prop} (kont : KL n i (kc - 30) (ks + usum S 5 - 500) Q) : X mL_law 2073 [xR (99, 0, 0), xR (0, 0, 0), xR (50, 0, 0), xR (90, 0, 0), xR (91, 0, 0), xI i, none, none, none] [] (hp S) kc ks Q := by
  have zz : ∀ j : Int, zR (S.1 (99, 0, 0) j) := fun j => hI.1.1.1 (99, 0, 0) j
  have hS : hp S (99, 0, 0) = some (.inr (0, n, .inl (S.1 (99, 0, 0)))) := by rw [hp99, hn]
  have u0 : usum S 5 ≤ 81920 := usum_le (fun l hl => mrl_gen hI.2.2.1 l hl) 5 (Nat.le_refl _)
  refine x_aload_n dL_law_2073 rfl ?_
  refine x_aload_n dL_law_2074 rfl ?_
  refine x_iload dL_law_2075 rfl ?_
  refine x_iconst dL_law_2077 ?_
  refine x_iadd dL_law_2078 ?_
  refine x_alds dL_law_2079 hS rfl (by omega) (by omega) (by omega) ?_
  refine x_aload_n dL_law_2080 rfl ?_
  refine x_iload dL_law_2081 rfl ?_
  refine x_iconst dL_law_2083 ?_
  refine x_iadd dL_law_2084 ?_
  refine x_alds dL_law_2085 hS rfl (by omega) (by omega) (by omega) ?_
  refine x_aload_n dL_law_2086 rfl ?_
  refine x_callSH 6 36 (as := [xR (0, 0, 0), xI (S.1 (99, 0, 0) (i + 1)), xI (S.1 (99, 0, 0) (i + 2)), xR (90, 0, 0)]) (rest := []) ok_L_seal dL_law_2087 wd974 wd975 (w_seal (hp0 S) (S.1 (99, 0, 0) (i + 1)) (S.1 (99, 0, 0) (i + 2)) 6 36 (cu_seal S hI (S.1 (99, 0, 0) (i + 1)) (S.1 (99, 0, 0) (i + 2)) (zz _) (zz _)) (CO.wq (fun h => by cases h))) rfl (Nat.le_of_ble_eq_true rfl) (Nat.le_of_ble_eq_true rfl) (by decide) (by omega) (by omega) (fun h1 qq => ?_) (fun v h1 qq => ?_) (fun E h1 qq => ?_)
  · obtain ⟨_, _, _, _, _, _, y, -⟩ := pW.wo (by decide) qq; cases y
  rotate_left
  · obtain ⟨_, _, _, _, _, _, y, -⟩ := pW.wo (by decide) qq; cases y
  obtain ⟨S1, S2, D9, k9, v9, rfl, y, q1, cb, ho, em, ji, hR, h90⟩ := pW.wo (by decide) qq
  cases y
  have e2 : MdE S S2 := (em.tr (MdE.q q1)).tr ho.md
  have hS2 : hp S2 (99, 0, 0) = some (.inr (0, n, .inl (S.1 (99, 0, 0)))) := by rw [hp99, e2.1 99 0 0 (by decide), e2.2, hn]
  have u2 := usum_e e2 5
  obtain ⟨c9, hc, hm⟩ := mo_seal S hI (S.1 (99, 0, 0) (i + 1)) (S.1 (99, 0, 0) (i + 2)) (zz _) (zz _) S1 S2 D9 k9 v9 q1 cb ho em ji hR
  refine x_istore (L' := [xR (99, 0, 0), xR (0, 0, 0), xR (50, 0, 0), xR (90, 0, 0), xR (91, 0, 0), xI i, xI (k9 : Int), none, none]) dL_law_2090 (by decide) rfl ?_
  refine x_aload_n dL_law_2092 rfl ?_
  refine x_aload_n dL_law_2093 rfl ?_
  refine x_iload dL_law_2094 rfl ?_
  refine x_iconst dL_law_2096 ?_
  refine x_iadd dL_law_2097 ?_
  refine x_alds dL_law_2098 hS2 rfl (by omega) (by omega) (by omega) ?_
  refine x_aload_n dL_law_2099 rfl ?_
  refine x_iload dL_law_2100 rfl ?_
  refine x_iconst dL_law_2102 ?_
  refine x_iadd dL_law_2103 ?_
  refine x_alds dL_law_2104 hS2 rfl (by omega) (by omega) (by omega) ?_
  refine x_callV 20 (c9 + 384) (as := [xI (S.1 (99, 0, 0) (i + 1)), xI (S.1 (99, 0, 0) (i + 2))]) (rest := []) ok_X9_seal dL_law_2105 wd1408 ⟨wd1409, wd1410⟩ (hp50 S2) rfl rfl hm rfl (Nat.le_of_ble_eq_true rfl) (Nat.le_of_ble_eq_true rfl) (by decide) (by omega) (by omega) (fun h1 qq => ?_) (fun v h1 qq => ?_) (fun E h1 qq => ?_)
  · obtain ⟨_, _, -, y, -⟩ := qq; cases y
  rotate_left
  · obtain ⟨_, _, -, y, -⟩ := qq; cases y
  obtain ⟨T, z9, rfl, y, lT, t1, t2, t3, t4, t25, tv, tu⟩ := qq
  cases y
  have zk : zR (k9 : Int) := t25 ▸ lT.1.1.1 (50, 0, 0) 25
  refine x_istore (L' := [xR (99, 0, 0), xR (0, 0, 0), xR (50, 0, 0), xR (90, 0, 0), xR (91, 0, 0), xI i, xI (k9 : Int), xI z9, none]) dL_law_2108 (by decide) rfl ?_
  refine x_aload_n dL_law_2110 rfl ?_
  refine x_callV_r (a := 0) (b := 0) (as := []) (rest := []) ok_X9_thrown dL_law_2111 wd1196 ⟨wd1197, wd1198⟩ (hp50 T) rfl rfl (m_thrown T lT.1.1) rfl (Nat.le_of_ble_eq_true rfl) (Nat.le_of_ble_eq_true rfl) (by decide) (by omega) (by omega) ?_
  refine x_top (show T.1 (50, 0, 0) 25 = (k9 : Int) from t25) ?_
  refine x_iload dL_law_2114 rfl ?_
  refine x_icmp_eq (tgt := 2121) dL_law_2116 (by decide) zk zk (fun _ => ?_) (fun y => absurd rfl y)
  refine x_iload dL_law_2121 rfl ?_
  refine x_if_ne (tgt := 2138) dL_law_2123 (by decide) zk (fun y => ?_) (fun y => ?_)
  · refine x_goto (tgt := 2700) dL_law_2138 (by decide) ?_
    refine X.loc (L' := [xR (99, 0, 0), xR (0, 0, 0), xR (50, 0, 0), xR (90, 0, 0), xR (91, 0, 0), xI i, none, none, none]) ⟨rfl, ⟨rfl, ⟨rfl, ⟨rfl, ⟨rfl, ⟨rfl, trivial⟩⟩⟩⟩⟩⟩ ?_
    exact kont T _ _ lT (by rw [t1, e2.2, hn]) (by omega) (by omega)
  · obtain rfl : k9 = 0 := by omega
    have ez := tv rfl
    subst ez
    refine x_aload_n dL_law_2126 rfl ?_
    refine x_iconst dL_law_2127 ?_
    refine x_aldj dL_law_2128 (hp90 T) (by decide) (by decide) (by decide) (by decide) ?_
    refine x_topJ (show T.2.1 (90, 0, 0) 0 = jI z9 from by rw [t2]; exact h90 rfl) ?_
    refine x_iload dL_law_2129 rfl ?_
    refine x_i2l dL_law_2131 ?_
    refine x_lcmp dL_law_2132 ?_
    refine x_top (lg0.mpr rfl) ?_
    refine x_if_eq (tgt := 2138) dL_law_2133 (by decide) ⟨by decide, by decide⟩ (fun _ => ?_) (fun y => absurd rfl y)
    refine x_goto (tgt := 2700) dL_law_2138 (by decide) ?_
    refine X.loc (L' := [xR (99, 0, 0), xR (0, 0, 0), xR (50, 0, 0), xR (90, 0, 0), xR (91, 0, 0), xI i, none, none, none]) ⟨rfl, ⟨rfl, ⟨rfl, ⟨rfl, ⟨rfl, ⟨rfl, trivial⟩⟩⟩⟩⟩⟩ ?_
    exact kont T _ _ lT (by rw [t1, e2.2, hn]) (by omega) (by omega)
set_option maxHeartbeats 4000000 in
set_option maxRecDepth 100000 in
theorem lc_fork (S : XS) (hI : LwI S) (n : Nat) (hn : S.2.2.2.2.2 = n) (hn2 : n < 1000000) (i : Int) (i0 : 0 ≤ i) (i7 : i + 7 ≤ n) (kc ks : Nat) (hk : 30 ≤ kc) (hs : 82420 ≤ ks + usum S 5) {Q : XO → XH → Prop} (kont : KL n i (kc - 30) (ks + usum S 5 - 500) Q) : X mL_law 2141 [xR (99, 0, 0), xR (0, 0, 0), xR (50, 0, 0), xR (90, 0, 0), xR (91, 0, 0), xI i, none, none, none] [] (hp S) kc ks Q := by
  have zz : ∀ j : Int, zR (S.1 (99, 0, 0) j) := fun j => hI.1.1.1 (99, 0, 0) j
  have hS : hp S (99, 0, 0) = some (.inr (0, n, .inl (S.1 (99, 0, 0)))) := by rw [hp99, hn]
  have u0 : usum S 5 ≤ 81920 := usum_le (fun l hl => mrl_gen hI.2.2.1 l hl) 5 (Nat.le_refl _)
  refine x_aload_n dL_law_2141 rfl ?_
  refine x_aload_n dL_law_2142 rfl ?_
  refine x_iload dL_law_2143 rfl ?_
  refine x_iconst dL_law_2145 ?_
  refine x_iadd dL_law_2146 ?_
  refine x_alds dL_law_2147 hS rfl (by omega) (by omega) (by omega) ?_
  refine x_aload_n dL_law_2148 rfl ?_
  refine x_iload dL_law_2149 rfl ?_
  refine x_iconst dL_law_2151 ?_
  refine x_iadd dL_law_2152 ?_
  refine x_alds dL_law_2153 hS rfl (by omega) (by omega) (by omega) ?_
  refine x_aload_n dL_law_2154 rfl ?_
  refine x_callSH 6 36 (as := [xR (0, 0, 0), xI (S.1 (99, 0, 0) (i + 1)), xI (S.1 (99, 0, 0) (i + 2)), xR (90, 0, 0)]) (rest := []) ok_L_fork dL_law_2155 wd981 wd982 (w_fork (hp0 S) (S.1 (99, 0, 0) (i + 1)) (S.1 (99, 0, 0) (i + 2)) 6 36 (cu_fork S hI (S.1 (99, 0, 0) (i + 1)) (S.1 (99, 0, 0) (i + 2)) (zz _) (zz _)) (CO.wq (fun h => by cases h))) rfl (Nat.le_of_ble_eq_true rfl) (Nat.le_of_ble_eq_true rfl) (by decide) (by omega) (by omega) (fun h1 qq => ?_) (fun v h1 qq => ?_) (fun E h1 qq => ?_)
  · obtain ⟨_, _, _, _, _, _, y, -⟩ := pW.wo (by decide) qq; cases y
  rotate_left
  · obtain ⟨_, _, _, _, _, _, y, -⟩ := pW.wo (by decide) qq; cases y
  obtain ⟨S1, S2, D9, k9, v9, rfl, y, q1, cb, ho, em, ji, hR, h90⟩ := pW.wo (by decide) qq
  cases y
  have e2 : MdE S S2 := (em.tr (MdE.q q1)).tr ho.md
  have hS2 : hp S2 (99, 0, 0) = some (.inr (0, n, .inl (S.1 (99, 0, 0)))) := by rw [hp99, e2.1 99 0 0 (by decide), e2.2, hn]
  have u2 := usum_e e2 5
  obtain ⟨c9, hc, hm⟩ := mo_fork S hI (S.1 (99, 0, 0) (i + 1)) (S.1 (99, 0, 0) (i + 2)) (zz _) (zz _) S1 S2 D9 k9 v9 q1 cb ho em ji hR
  refine x_istore (L' := [xR (99, 0, 0), xR (0, 0, 0), xR (50, 0, 0), xR (90, 0, 0), xR (91, 0, 0), xI i, xI (k9 : Int), none, none]) dL_law_2158 (by decide) rfl ?_
  refine x_aload_n dL_law_2160 rfl ?_
  refine x_aload_n dL_law_2161 rfl ?_
  refine x_iload dL_law_2162 rfl ?_
  refine x_iconst dL_law_2164 ?_
  refine x_iadd dL_law_2165 ?_
  refine x_alds dL_law_2166 hS2 rfl (by omega) (by omega) (by omega) ?_
  refine x_aload_n dL_law_2167 rfl ?_
  refine x_iload dL_law_2168 rfl ?_
  refine x_iconst dL_law_2170 ?_
  refine x_iadd dL_law_2171 ?_
  refine x_alds dL_law_2172 hS2 rfl (by omega) (by omega) (by omega) ?_
  refine x_callV 20 (c9 + 384) (as := [xI (S.1 (99, 0, 0) (i + 1)), xI (S.1 (99, 0, 0) (i + 2))]) (rest := []) ok_X9_fork dL_law_2173 wd1422 ⟨wd1423, wd1424⟩ (hp50 S2) rfl rfl hm rfl (Nat.le_of_ble_eq_true rfl) (Nat.le_of_ble_eq_true rfl) (by decide) (by omega) (by omega) (fun h1 qq => ?_) (fun v h1 qq => ?_) (fun E h1 qq => ?_)
  · obtain ⟨_, _, -, y, -⟩ := qq; cases y
  rotate_left
  · obtain ⟨_, _, -, y, -⟩ := qq; cases y
  obtain ⟨T, z9, rfl, y, lT, t1, t2, t3, t4, t25, tv, tu⟩ := qq
  cases y
  have zk : zR (k9 : Int) := t25 ▸ lT.1.1.1 (50, 0, 0) 25
  refine x_istore (L' := [xR (99, 0, 0), xR (0, 0, 0), xR (50, 0, 0), xR (90, 0, 0), xR (91, 0, 0), xI i, xI (k9 : Int), xI z9, none]) dL_law_2176 (by decide) rfl ?_
  refine x_aload_n dL_law_2178 rfl ?_
  refine x_callV_r (a := 0) (b := 0) (as := []) (rest := []) ok_X9_thrown dL_law_2179 wd1196 ⟨wd1197, wd1198⟩ (hp50 T) rfl rfl (m_thrown T lT.1.1) rfl (Nat.le_of_ble_eq_true rfl) (Nat.le_of_ble_eq_true rfl) (by decide) (by omega) (by omega) ?_
  refine x_top (show T.1 (50, 0, 0) 25 = (k9 : Int) from t25) ?_
  refine x_iload dL_law_2182 rfl ?_
  refine x_icmp_eq (tgt := 2189) dL_law_2184 (by decide) zk zk (fun _ => ?_) (fun y => absurd rfl y)
  refine x_iload dL_law_2189 rfl ?_
  refine x_if_ne (tgt := 2206) dL_law_2191 (by decide) zk (fun y => ?_) (fun y => ?_)
  · refine x_goto (tgt := 2700) dL_law_2206 (by decide) ?_
    refine X.loc (L' := [xR (99, 0, 0), xR (0, 0, 0), xR (50, 0, 0), xR (90, 0, 0), xR (91, 0, 0), xI i, none, none, none]) ⟨rfl, ⟨rfl, ⟨rfl, ⟨rfl, ⟨rfl, ⟨rfl, trivial⟩⟩⟩⟩⟩⟩ ?_
    exact kont T _ _ lT (by rw [t1, e2.2, hn]) (by omega) (by omega)
  · obtain rfl : k9 = 0 := by omega
    have ez := tv rfl
    subst ez
    refine x_aload_n dL_law_2194 rfl ?_
    refine x_iconst dL_law_2195 ?_
    refine x_aldj dL_law_2196 (hp90 T) (by decide) (by decide) (by decide) (by decide) ?_
    refine x_topJ (show T.2.1 (90, 0, 0) 0 = jI z9 from by rw [t2]; exact h90 rfl) ?_
    refine x_iload dL_law_2197 rfl ?_
    refine x_i2l dL_law_2199 ?_
    refine x_lcmp dL_law_2200 ?_
    refine x_top (lg0.mpr rfl) ?_
    refine x_if_eq (tgt := 2206) dL_law_2201 (by decide) ⟨by decide, by decide⟩ (fun _ => ?_) (fun y => absurd rfl y)
    refine x_goto (tgt := 2700) dL_law_2206 (by decide) ?_
    refine X.loc (L' := [xR (99, 0, 0), xR (0, 0, 0), xR (50, 0, 0), xR (90, 0, 0), xR (91, 0, 0), xI i, none, none, none]) ⟨rfl, ⟨rfl, ⟨rfl, ⟨rfl, ⟨rfl, ⟨rfl, trivial⟩⟩⟩⟩⟩⟩ ?_
    exact kont T _ _ lT (by rw [t1, e2.2, hn]) (by omega) (by omega)
set_option maxHeartbeats 4000000 in
set_option maxRecDepth 100000 in
theorem lc_merge (S : XS) (hI : LwI S) (n : Nat) (hn : S.2.2.2.2.2 = n) (hn2 : n < 1000000) (i : Int) (i0 : 0 ≤ i) (i7 : i + 7 ≤ n) (kc ks : Nat) (hk : 30 ≤ kc) (hs : 82420 ≤ ks + usum S 5) {Q : XO → XH → Prop} (kont : KL n i (kc - 30) (ks + usum S 5 - 500) Q) : X mL_law 2209 [xR (99, 0, 0), xR (0, 0, 0), xR (50, 0, 0), xR (90, 0, 0), xR (91, 0, 0), xI i, none, none, none] [] (hp S) kc ks Q := by
  have zz : ∀ j : Int, zR (S.1 (99, 0, 0) j) := fun j => hI.1.1.1 (99, 0, 0) j
  have hS : hp S (99, 0, 0) = some (.inr (0, n, .inl (S.1 (99, 0, 0)))) := by rw [hp99, hn]
  have u0 : usum S 5 ≤ 81920 := usum_le (fun l hl => mrl_gen hI.2.2.1 l hl) 5 (Nat.le_refl _)
  refine x_aload_n dL_law_2209 rfl ?_
  refine x_aload_n dL_law_2210 rfl ?_
  refine x_iload dL_law_2211 rfl ?_
  refine x_iconst dL_law_2213 ?_
  refine x_iadd dL_law_2214 ?_
  refine x_alds dL_law_2215 hS rfl (by omega) (by omega) (by omega) ?_
  refine x_aload_n dL_law_2216 rfl ?_
  refine x_callSH 6 36 (as := [xR (0, 0, 0), xI (S.1 (99, 0, 0) (i + 1)), xR (90, 0, 0)]) (rest := []) ok_L_merge dL_law_2217 wd997 wd998 (w_merge (hp0 S) (S.1 (99, 0, 0) (i + 1)) 6 36 (cu_merge S hI (S.1 (99, 0, 0) (i + 1)) (zz _)) (CO.wq (fun h => by cases h))) rfl (Nat.le_of_ble_eq_true rfl) (Nat.le_of_ble_eq_true rfl) (by decide) (by omega) (by omega) (fun h1 qq => ?_) (fun v h1 qq => ?_) (fun E h1 qq => ?_)
  · obtain ⟨_, _, _, _, _, _, y, -⟩ := pW.wo (by decide) qq; cases y
  rotate_left
  · obtain ⟨_, _, _, _, _, _, y, -⟩ := pW.wo (by decide) qq; cases y
  obtain ⟨S1, S2, D9, k9, v9, rfl, y, q1, cb, ho, em, ji, hR, h90⟩ := pW.wo (by decide) qq
  cases y
  have e2 : MdE S S2 := (em.tr (MdE.q q1)).tr ho.md
  have hS2 : hp S2 (99, 0, 0) = some (.inr (0, n, .inl (S.1 (99, 0, 0)))) := by rw [hp99, e2.1 99 0 0 (by decide), e2.2, hn]
  have u2 := usum_e e2 5
  obtain ⟨c9, hc, hm⟩ := mo_merge S hI (S.1 (99, 0, 0) (i + 1)) (zz _) S1 S2 D9 k9 v9 q1 cb ho em ji hR
  refine x_istore (L' := [xR (99, 0, 0), xR (0, 0, 0), xR (50, 0, 0), xR (90, 0, 0), xR (91, 0, 0), xI i, xI (k9 : Int), none, none]) dL_law_2220 (by decide) rfl ?_
  refine x_aload_n dL_law_2222 rfl ?_
  refine x_aload_n dL_law_2223 rfl ?_
  refine x_iload dL_law_2224 rfl ?_
  refine x_iconst dL_law_2226 ?_
  refine x_iadd dL_law_2227 ?_
  refine x_alds dL_law_2228 hS2 rfl (by omega) (by omega) (by omega) ?_
  refine x_callV 20 (c9 + 384) (as := [xI (S.1 (99, 0, 0) (i + 1))]) (rest := []) ok_X9_merge dL_law_2229 wd1426 ⟨wd1427, wd1428⟩ (hp50 S2) rfl rfl hm rfl (Nat.le_of_ble_eq_true rfl) (Nat.le_of_ble_eq_true rfl) (by decide) (by omega) (by omega) (fun h1 qq => ?_) (fun v h1 qq => ?_) (fun E h1 qq => ?_)
  · obtain ⟨_, _, -, y, -⟩ := qq; cases y
  rotate_left
  · obtain ⟨_, _, -, y, -⟩ := qq; cases y
  obtain ⟨T, z9, rfl, y, lT, t1, t2, t3, t4, t25, tv, tu⟩ := qq
  cases y
  have zk : zR (k9 : Int) := t25 ▸ lT.1.1.1 (50, 0, 0) 25
  refine x_istore (L' := [xR (99, 0, 0), xR (0, 0, 0), xR (50, 0, 0), xR (90, 0, 0), xR (91, 0, 0), xI i, xI (k9 : Int), xI z9, none]) dL_law_2232 (by decide) rfl ?_
  refine x_aload_n dL_law_2234 rfl ?_
  refine x_callV_r (a := 0) (b := 0) (as := []) (rest := []) ok_X9_thrown dL_law_2235 wd1196 ⟨wd1197, wd1198⟩ (hp50 T) rfl rfl (m_thrown T lT.1.1) rfl (Nat.le_of_ble_eq_true rfl) (Nat.le_of_ble_eq_true rfl) (by decide) (by omega) (by omega) ?_
  refine x_top (show T.1 (50, 0, 0) 25 = (k9 : Int) from t25) ?_
  refine x_iload dL_law_2238 rfl ?_
  refine x_icmp_eq (tgt := 2245) dL_law_2240 (by decide) zk zk (fun _ => ?_) (fun y => absurd rfl y)
  refine x_iload dL_law_2245 rfl ?_
  refine x_if_ne (tgt := 2262) dL_law_2247 (by decide) zk (fun y => ?_) (fun y => ?_)
  · refine x_goto (tgt := 2700) dL_law_2262 (by decide) ?_
    refine X.loc (L' := [xR (99, 0, 0), xR (0, 0, 0), xR (50, 0, 0), xR (90, 0, 0), xR (91, 0, 0), xI i, none, none, none]) ⟨rfl, ⟨rfl, ⟨rfl, ⟨rfl, ⟨rfl, ⟨rfl, trivial⟩⟩⟩⟩⟩⟩ ?_
    exact kont T _ _ lT (by rw [t1, e2.2, hn]) (by omega) (by omega)
  · obtain rfl : k9 = 0 := by omega
    have ez := tv rfl
    subst ez
    refine x_aload_n dL_law_2250 rfl ?_
    refine x_iconst dL_law_2251 ?_
    refine x_aldj dL_law_2252 (hp90 T) (by decide) (by decide) (by decide) (by decide) ?_
    refine x_topJ (show T.2.1 (90, 0, 0) 0 = jI z9 from by rw [t2]; exact h90 rfl) ?_
    refine x_iload dL_law_2253 rfl ?_
    refine x_i2l dL_law_2255 ?_
    refine x_lcmp dL_law_2256 ?_
    refine x_top (lg0.mpr rfl) ?_
    refine x_if_eq (tgt := 2262) dL_law_2257 (by decide) ⟨by decide, by decide⟩ (fun _ => ?_) (fun y => absurd rfl y)
    refine x_goto (tgt := 2700) dL_law_2262 (by decide) ?_
    refine X.loc (L' := [xR (99, 0, 0), xR (0, 0, 0), xR (50, 0, 0), xR (90, 0, 0), xR (91, 0, 0), xI i, none, none, none]) ⟨rfl, ⟨rfl, ⟨rfl, ⟨rfl, ⟨rfl, ⟨rfl, trivial⟩⟩⟩⟩⟩⟩ ?_
    exact kont T _ _ lT (by rw [t1, e2.2, hn]) (by omega) (by omega)
set_option maxHeartbeats 4000000 in
set_option maxRecDepth 100000 in
theorem lc_listen (S : XS) (hI : LwI S) (n : Nat) (hn : S.2.2.2.2.2 = n) (hn2 : n < 1000000) (i : Int) (i0 : 0 ≤ i) (i7 : i + 7 ≤ n) (kc ks : Nat) (hk : 30 ≤ kc) (hs : 82420 ≤ ks + usum S 5) {Q : XO → XH → Prop} (kont : KL n i (kc - 30) (ks + usum S 5 - 500) Q) : X mL_law 2278 [xR (99, 0, 0), xR (0, 0, 0), xR (50, 0, 0), xR (90, 0, 0), xR (91, 0, 0), xI i, none, none, none] [] (hp S) kc ks Q := by
  have zz : ∀ j : Int, zR (S.1 (99, 0, 0) j) := fun j => hI.1.1.1 (99, 0, 0) j
  have hS : hp S (99, 0, 0) = some (.inr (0, n, .inl (S.1 (99, 0, 0)))) := by rw [hp99, hn]
  have u0 : usum S 5 ≤ 81920 := usum_le (fun l hl => mrl_gen hI.2.2.1 l hl) 5 (Nat.le_refl _)
  refine x_aload_n dL_law_2278 rfl ?_
  refine x_aload_n dL_law_2279 rfl ?_
  refine x_iload dL_law_2280 rfl ?_
  refine x_iconst dL_law_2282 ?_
  refine x_iadd dL_law_2283 ?_
  refine x_alds dL_law_2284 hS rfl (by omega) (by omega) (by omega) ?_
  refine x_aload_n dL_law_2285 rfl ?_
  refine x_iload dL_law_2286 rfl ?_
  refine x_iconst dL_law_2288 ?_
  refine x_iadd dL_law_2289 ?_
  refine x_alds dL_law_2290 hS rfl (by omega) (by omega) (by omega) ?_
  refine x_aload_n dL_law_2291 rfl ?_
  refine x_iload dL_law_2292 rfl ?_
  refine x_iconst dL_law_2294 ?_
  refine x_iadd dL_law_2295 ?_
  refine x_alds dL_law_2296 hS rfl (by omega) (by omega) (by omega) ?_
  refine x_aload_n dL_law_2297 rfl ?_
  refine x_iload dL_law_2298 rfl ?_
  refine x_iconst dL_law_2300 ?_
  refine x_iadd dL_law_2301 ?_
  refine x_alds dL_law_2302 hS rfl (by omega) (by omega) (by omega) ?_
  refine x_aload_n dL_law_2303 rfl ?_
  refine x_iload dL_law_2304 rfl ?_
  refine x_iconst dL_law_2306 ?_
  refine x_iadd dL_law_2307 ?_
  refine x_alds dL_law_2308 hS rfl (by omega) (by omega) (by omega) ?_
  refine x_aload_n dL_law_2309 rfl ?_
  refine x_callSH 6 36 (as := [xR (0, 0, 0), xI (S.1 (99, 0, 0) (i + 1)), xI (S.1 (99, 0, 0) (i + 2)), xI (S.1 (99, 0, 0) (i + 3)), xI (S.1 (99, 0, 0) (i + 4)), xI (S.1 (99, 0, 0) (i + 5)), xR (90, 0, 0)]) (rest := []) ok_L_listen dL_law_2310 wd1017 wd1018 (w_listen (hp0 S) (S.1 (99, 0, 0) (i + 1)) (S.1 (99, 0, 0) (i + 2)) (S.1 (99, 0, 0) (i + 3)) (S.1 (99, 0, 0) (i + 4)) (S.1 (99, 0, 0) (i + 5)) 6 36 (cu_listen S hI (S.1 (99, 0, 0) (i + 1)) (S.1 (99, 0, 0) (i + 2)) (S.1 (99, 0, 0) (i + 3)) (S.1 (99, 0, 0) (i + 4)) (S.1 (99, 0, 0) (i + 5)) (zz _) (zz _) (zz _) (zz _) (zz _)) (CO.wq (fun h => by cases h))) rfl (Nat.le_of_ble_eq_true rfl) (Nat.le_of_ble_eq_true rfl) (by decide) (by omega) (by omega) (fun h1 qq => ?_) (fun v h1 qq => ?_) (fun E h1 qq => ?_)
  · obtain ⟨_, _, _, _, _, _, y, -⟩ := pW.wo (by decide) qq; cases y
  rotate_left
  · obtain ⟨_, _, _, _, _, _, y, -⟩ := pW.wo (by decide) qq; cases y
  obtain ⟨S1, S2, D9, k9, v9, rfl, y, q1, cb, ho, em, ji, hR, h90⟩ := pW.wo (by decide) qq
  cases y
  have e2 : MdE S S2 := (em.tr (MdE.q q1)).tr ho.md
  have hS2 : hp S2 (99, 0, 0) = some (.inr (0, n, .inl (S.1 (99, 0, 0)))) := by rw [hp99, e2.1 99 0 0 (by decide), e2.2, hn]
  have u2 := usum_e e2 5
  obtain ⟨c9, hc, hm⟩ := mo_listen S hI (S.1 (99, 0, 0) (i + 1)) (S.1 (99, 0, 0) (i + 2)) (S.1 (99, 0, 0) (i + 3)) (S.1 (99, 0, 0) (i + 4)) (S.1 (99, 0, 0) (i + 5)) (zz _) (zz _) (zz _) (zz _) (zz _) S1 S2 D9 k9 v9 q1 cb ho em ji hR
  refine x_istore (L' := [xR (99, 0, 0), xR (0, 0, 0), xR (50, 0, 0), xR (90, 0, 0), xR (91, 0, 0), xI i, xI (k9 : Int), none, none]) dL_law_2313 (by decide) rfl ?_
  refine x_aload_n dL_law_2315 rfl ?_
  refine x_aload_n dL_law_2316 rfl ?_
  refine x_iload dL_law_2317 rfl ?_
  refine x_iconst dL_law_2319 ?_
  refine x_iadd dL_law_2320 ?_
  refine x_alds dL_law_2321 hS2 rfl (by omega) (by omega) (by omega) ?_
  refine x_aload_n dL_law_2322 rfl ?_
  refine x_iload dL_law_2323 rfl ?_
  refine x_iconst dL_law_2325 ?_
  refine x_iadd dL_law_2326 ?_
  refine x_alds dL_law_2327 hS2 rfl (by omega) (by omega) (by omega) ?_
  refine x_aload_n dL_law_2328 rfl ?_
  refine x_iload dL_law_2329 rfl ?_
  refine x_iconst dL_law_2331 ?_
  refine x_iadd dL_law_2332 ?_
  refine x_alds dL_law_2333 hS2 rfl (by omega) (by omega) (by omega) ?_
  refine x_aload_n dL_law_2334 rfl ?_
  refine x_iload dL_law_2335 rfl ?_
  refine x_iconst dL_law_2337 ?_
  refine x_iadd dL_law_2338 ?_
  refine x_alds dL_law_2339 hS2 rfl (by omega) (by omega) (by omega) ?_
  refine x_aload_n dL_law_2340 rfl ?_
  refine x_iload dL_law_2341 rfl ?_
  refine x_iconst dL_law_2343 ?_
  refine x_iadd dL_law_2344 ?_
  refine x_alds dL_law_2345 hS2 rfl (by omega) (by omega) (by omega) ?_
  refine x_callV 20 (c9 + 384) (as := [xI (S.1 (99, 0, 0) (i + 1)), xI (S.1 (99, 0, 0) (i + 2)), xI (S.1 (99, 0, 0) (i + 3)), xI (S.1 (99, 0, 0) (i + 4)), xI (S.1 (99, 0, 0) (i + 5))]) (rest := []) ok_X9_listen dL_law_2346 wd1442 ⟨wd1443, wd1444⟩ (hp50 S2) rfl rfl hm rfl (Nat.le_of_ble_eq_true rfl) (Nat.le_of_ble_eq_true rfl) (by decide) (by omega) (by omega) (fun h1 qq => ?_) (fun v h1 qq => ?_) (fun E h1 qq => ?_)
  · obtain ⟨_, _, -, y, -⟩ := qq; cases y
  rotate_left
  · obtain ⟨_, _, -, y, -⟩ := qq; cases y
  obtain ⟨T, z9, rfl, y, lT, t1, t2, t3, t4, t25, tv, tu⟩ := qq
  cases y
  have zk : zR (k9 : Int) := t25 ▸ lT.1.1.1 (50, 0, 0) 25
  refine x_istore (L' := [xR (99, 0, 0), xR (0, 0, 0), xR (50, 0, 0), xR (90, 0, 0), xR (91, 0, 0), xI i, xI (k9 : Int), xI z9, none]) dL_law_2349 (by decide) rfl ?_
  refine x_aload_n dL_law_2351 rfl ?_
  refine x_callV_r (a := 0) (b := 0) (as := []) (rest := []) ok_X9_thrown dL_law_2352 wd1196 ⟨wd1197, wd1198⟩ (hp50 T) rfl rfl (m_thrown T lT.1.1) rfl (Nat.le_of_ble_eq_true rfl) (Nat.le_of_ble_eq_true rfl) (by decide) (by omega) (by omega) ?_
  refine x_top (show T.1 (50, 0, 0) 25 = (k9 : Int) from t25) ?_
  refine x_iload dL_law_2355 rfl ?_
  refine x_icmp_eq (tgt := 2362) dL_law_2357 (by decide) zk zk (fun _ => ?_) (fun y => absurd rfl y)
  refine x_iload dL_law_2362 rfl ?_
  refine x_if_ne (tgt := 2379) dL_law_2364 (by decide) zk (fun y => ?_) (fun y => ?_)
  · refine x_goto (tgt := 2700) dL_law_2379 (by decide) ?_
    refine X.loc (L' := [xR (99, 0, 0), xR (0, 0, 0), xR (50, 0, 0), xR (90, 0, 0), xR (91, 0, 0), xI i, none, none, none]) ⟨rfl, ⟨rfl, ⟨rfl, ⟨rfl, ⟨rfl, ⟨rfl, trivial⟩⟩⟩⟩⟩⟩ ?_
    exact kont T _ _ lT (by rw [t1, e2.2, hn]) (by omega) (by omega)
  · obtain rfl : k9 = 0 := by omega
    have ez := tv rfl
    subst ez
    refine x_aload_n dL_law_2367 rfl ?_
    refine x_iconst dL_law_2368 ?_
    refine x_aldj dL_law_2369 (hp90 T) (by decide) (by decide) (by decide) (by decide) ?_
    refine x_topJ (show T.2.1 (90, 0, 0) 0 = jI z9 from by rw [t2]; exact h90 rfl) ?_
    refine x_iload dL_law_2370 rfl ?_
    refine x_i2l dL_law_2372 ?_
    refine x_lcmp dL_law_2373 ?_
    refine x_top (lg0.mpr rfl) ?_
    refine x_if_eq (tgt := 2379) dL_law_2374 (by decide) ⟨by decide, by decide⟩ (fun _ => ?_) (fun y => absurd rfl y)
    refine x_goto (tgt := 2700) dL_law_2379 (by decide) ?_
    refine X.loc (L' := [xR (99, 0, 0), xR (0, 0, 0), xR (50, 0, 0), xR (90, 0, 0), xR (91, 0, 0), xI i, none, none, none]) ⟨rfl, ⟨rfl, ⟨rfl, ⟨rfl, ⟨rfl, ⟨rfl, trivial⟩⟩⟩⟩⟩⟩ ?_
    exact kont T _ _ lT (by rw [t1, e2.2, hn]) (by omega) (by omega)
set_option maxHeartbeats 4000000 in
set_option maxRecDepth 100000 in
theorem lc_waiting (S : XS) (hI : LwI S) (n : Nat) (hn : S.2.2.2.2.2 = n) (hn2 : n < 1000000) (i : Int) (i0 : 0 ≤ i) (i7 : i + 7 ≤ n) (kc ks : Nat) (hk : 30 ≤ kc) (hs : 82420 ≤ ks + usum S 5) {Q : XO → XH → Prop} (kont : KL n i (kc - 30) (ks + usum S 5 - 500) Q) : X mL_law 2382 [xR (99, 0, 0), xR (0, 0, 0), xR (50, 0, 0), xR (90, 0, 0), xR (91, 0, 0), xI i, none, none, none] [] (hp S) kc ks Q := by
  have zz : ∀ j : Int, zR (S.1 (99, 0, 0) j) := fun j => hI.1.1.1 (99, 0, 0) j
  have hS : hp S (99, 0, 0) = some (.inr (0, n, .inl (S.1 (99, 0, 0)))) := by rw [hp99, hn]
  have u0 : usum S 5 ≤ 81920 := usum_le (fun l hl => mrl_gen hI.2.2.1 l hl) 5 (Nat.le_refl _)
  refine x_aload_n dL_law_2382 rfl ?_
  refine x_aload_n dL_law_2383 rfl ?_
  refine x_iload dL_law_2384 rfl ?_
  refine x_iconst dL_law_2386 ?_
  refine x_iadd dL_law_2387 ?_
  refine x_alds dL_law_2388 hS rfl (by omega) (by omega) (by omega) ?_
  refine x_aload_n dL_law_2389 rfl ?_
  refine x_callSH 6 36 (as := [xR (0, 0, 0), xI (S.1 (99, 0, 0) (i + 1)), xR (90, 0, 0)]) (rest := []) ok_L_waiting dL_law_2390 wd1033 wd1034 (w_waiting (hp0 S) (S.1 (99, 0, 0) (i + 1)) 6 36 (cu_waiting S hI (S.1 (99, 0, 0) (i + 1)) (zz _)) (CO.wq (fun h => by cases h))) rfl (Nat.le_of_ble_eq_true rfl) (Nat.le_of_ble_eq_true rfl) (by decide) (by omega) (by omega) (fun h1 qq => ?_) (fun v h1 qq => ?_) (fun E h1 qq => ?_)
  · obtain ⟨_, _, _, _, _, _, y, -⟩ := pW.wo (by decide) qq; cases y
  rotate_left
  · obtain ⟨_, _, _, _, _, _, y, -⟩ := pW.wo (by decide) qq; cases y
  obtain ⟨S1, S2, D9, k9, v9, rfl, y, q1, cb, ho, em, ji, hR, h90⟩ := pW.wo (by decide) qq
  cases y
  have e2 : MdE S S2 := (em.tr (MdE.q q1)).tr ho.md
  have hS2 : hp S2 (99, 0, 0) = some (.inr (0, n, .inl (S.1 (99, 0, 0)))) := by rw [hp99, e2.1 99 0 0 (by decide), e2.2, hn]
  have u2 := usum_e e2 5
  obtain ⟨c9, hc, hm⟩ := mo_waiting S hI (S.1 (99, 0, 0) (i + 1)) (zz _) S1 S2 D9 k9 v9 q1 cb ho em ji hR
  refine x_istore (L' := [xR (99, 0, 0), xR (0, 0, 0), xR (50, 0, 0), xR (90, 0, 0), xR (91, 0, 0), xI i, xI (k9 : Int), none, none]) dL_law_2393 (by decide) rfl ?_
  refine x_aload_n dL_law_2395 rfl ?_
  refine x_aload_n dL_law_2396 rfl ?_
  refine x_iload dL_law_2397 rfl ?_
  refine x_iconst dL_law_2399 ?_
  refine x_iadd dL_law_2400 ?_
  refine x_alds dL_law_2401 hS2 rfl (by omega) (by omega) (by omega) ?_
  refine x_callV 20 (c9 + 384) (as := [xI (S.1 (99, 0, 0) (i + 1))]) (rest := []) ok_X9_waiting dL_law_2402 wd1446 ⟨wd1447, wd1448⟩ (hp50 S2) rfl rfl hm rfl (Nat.le_of_ble_eq_true rfl) (Nat.le_of_ble_eq_true rfl) (by decide) (by omega) (by omega) (fun h1 qq => ?_) (fun v h1 qq => ?_) (fun E h1 qq => ?_)
  · obtain ⟨_, _, -, y, -⟩ := qq; cases y
  rotate_left
  · obtain ⟨_, _, -, y, -⟩ := qq; cases y
  obtain ⟨T, z9, rfl, y, lT, t1, t2, t3, t4, t25, tv, tu⟩ := qq
  cases y
  have zk : zR (k9 : Int) := t25 ▸ lT.1.1.1 (50, 0, 0) 25
  refine x_istore (L' := [xR (99, 0, 0), xR (0, 0, 0), xR (50, 0, 0), xR (90, 0, 0), xR (91, 0, 0), xI i, xI (k9 : Int), xI z9, none]) dL_law_2405 (by decide) rfl ?_
  refine x_aload_n dL_law_2407 rfl ?_
  refine x_callV_r (a := 0) (b := 0) (as := []) (rest := []) ok_X9_thrown dL_law_2408 wd1196 ⟨wd1197, wd1198⟩ (hp50 T) rfl rfl (m_thrown T lT.1.1) rfl (Nat.le_of_ble_eq_true rfl) (Nat.le_of_ble_eq_true rfl) (by decide) (by omega) (by omega) ?_
  refine x_top (show T.1 (50, 0, 0) 25 = (k9 : Int) from t25) ?_
  refine x_iload dL_law_2411 rfl ?_
  refine x_icmp_eq (tgt := 2418) dL_law_2413 (by decide) zk zk (fun _ => ?_) (fun y => absurd rfl y)
  refine x_iload dL_law_2418 rfl ?_
  refine x_if_ne (tgt := 2435) dL_law_2420 (by decide) zk (fun y => ?_) (fun y => ?_)
  · refine x_goto (tgt := 2700) dL_law_2435 (by decide) ?_
    refine X.loc (L' := [xR (99, 0, 0), xR (0, 0, 0), xR (50, 0, 0), xR (90, 0, 0), xR (91, 0, 0), xI i, none, none, none]) ⟨rfl, ⟨rfl, ⟨rfl, ⟨rfl, ⟨rfl, ⟨rfl, trivial⟩⟩⟩⟩⟩⟩ ?_
    exact kont T _ _ lT (by rw [t1, e2.2, hn]) (by omega) (by omega)
  · obtain rfl : k9 = 0 := by omega
    have ez := tv rfl
    subst ez
    refine x_aload_n dL_law_2423 rfl ?_
    refine x_iconst dL_law_2424 ?_
    refine x_aldj dL_law_2425 (hp90 T) (by decide) (by decide) (by decide) (by decide) ?_
    refine x_topJ (show T.2.1 (90, 0, 0) 0 = jI z9 from by rw [t2]; exact h90 rfl) ?_
    refine x_iload dL_law_2426 rfl ?_
    refine x_i2l dL_law_2428 ?_
    refine x_lcmp dL_law_2429 ?_
    refine x_top (lg0.mpr rfl) ?_
    refine x_if_eq (tgt := 2435) dL_law_2430 (by decide) ⟨by decide, by decide⟩ (fun _ => ?_) (fun y => absurd rfl y)
    refine x_goto (tgt := 2700) dL_law_2435 (by decide) ?_
    refine X.loc (L' := [xR (99, 0, 0), xR (0, 0, 0), xR (50, 0, 0), xR (90, 0, 0), xR (91, 0, 0), xI i, none, none, none]) ⟨rfl, ⟨rfl, ⟨rfl, ⟨rfl, ⟨rfl, ⟨rfl, trivial⟩⟩⟩⟩⟩⟩ ?_
    exact kont T _ _ lT (by rw [t1, e2.2, hn]) (by omega) (by omega)
set_option maxHeartbeats 4000000 in
set_option maxRecDepth 100000 in
theorem lc_next (S : XS) (hI : LwI S) (n : Nat) (hn : S.2.2.2.2.2 = n) (hn2 : n < 1000000) (i : Int) (i0 : 0 ≤ i) (i7 : i + 7 ≤ n) (kc ks : Nat) (hk : 30 ≤ kc) (hs : 82420 ≤ ks + usum S 5) {Q : XO → XH → Prop} (kont : KL n i (kc - 30) (ks + usum S 5 - 500) Q) : X mL_law 2438 [xR (99, 0, 0), xR (0, 0, 0), xR (50, 0, 0), xR (90, 0, 0), xR (91, 0, 0), xI i, none, none, none] [] (hp S) kc ks Q := by
  have zz : ∀ j : Int, zR (S.1 (99, 0, 0) j) := fun j => hI.1.1.1 (99, 0, 0) j
  have hS : hp S (99, 0, 0) = some (.inr (0, n, .inl (S.1 (99, 0, 0)))) := by rw [hp99, hn]
  have u0 : usum S 5 ≤ 81920 := usum_le (fun l hl => mrl_gen hI.2.2.1 l hl) 5 (Nat.le_refl _)
  refine x_aload_n dL_law_2438 rfl ?_
  refine x_aload_n dL_law_2439 rfl ?_
  refine x_iload dL_law_2440 rfl ?_
  refine x_iconst dL_law_2442 ?_
  refine x_iadd dL_law_2443 ?_
  refine x_alds dL_law_2444 hS rfl (by omega) (by omega) (by omega) ?_
  refine x_aload_n dL_law_2445 rfl ?_
  refine x_callSH 6 36 (as := [xR (0, 0, 0), xI (S.1 (99, 0, 0) (i + 1)), xR (90, 0, 0)]) (rest := []) ok_L_next dL_law_2446 wd1045 wd1046 (w_next (hp0 S) (S.1 (99, 0, 0) (i + 1)) 6 36 (cu_next S hI (S.1 (99, 0, 0) (i + 1)) (zz _)) (CO.wq (fun h => by cases h))) rfl (Nat.le_of_ble_eq_true rfl) (Nat.le_of_ble_eq_true rfl) (by decide) (by omega) (by omega) (fun h1 qq => ?_) (fun v h1 qq => ?_) (fun E h1 qq => ?_)
  · obtain ⟨_, _, _, _, _, _, y, -⟩ := pW.wo (by decide) qq; cases y
  rotate_left
  · obtain ⟨_, _, _, _, _, _, y, -⟩ := pW.wo (by decide) qq; cases y
  obtain ⟨S1, S2, D9, k9, v9, rfl, y, q1, cb, ho, em, ji, hR, h90⟩ := pW.wo (by decide) qq
  cases y
  have e2 : MdE S S2 := (em.tr (MdE.q q1)).tr ho.md
  have hS2 : hp S2 (99, 0, 0) = some (.inr (0, n, .inl (S.1 (99, 0, 0)))) := by rw [hp99, e2.1 99 0 0 (by decide), e2.2, hn]
  have u2 := usum_e e2 5
  obtain ⟨c9, hc, hm⟩ := mo_next S hI (S.1 (99, 0, 0) (i + 1)) (zz _) S1 S2 D9 k9 v9 q1 cb ho em ji hR
  refine x_istore (L' := [xR (99, 0, 0), xR (0, 0, 0), xR (50, 0, 0), xR (90, 0, 0), xR (91, 0, 0), xI i, xI (k9 : Int), none, none]) dL_law_2449 (by decide) rfl ?_
  refine x_aload_n dL_law_2451 rfl ?_
  refine x_aload_n dL_law_2452 rfl ?_
  refine x_iload dL_law_2453 rfl ?_
  refine x_iconst dL_law_2455 ?_
  refine x_iadd dL_law_2456 ?_
  refine x_alds dL_law_2457 hS2 rfl (by omega) (by omega) (by omega) ?_
  refine x_callV 20 (c9 + 384) (as := [xI (S.1 (99, 0, 0) (i + 1))]) (rest := []) ok_X9_next dL_law_2458 wd1450 ⟨wd1451, wd1452⟩ (hp50 S2) rfl rfl hm rfl (Nat.le_of_ble_eq_true rfl) (Nat.le_of_ble_eq_true rfl) (by decide) (by omega) (by omega) (fun h1 qq => ?_) (fun v h1 qq => ?_) (fun E h1 qq => ?_)
  · obtain ⟨_, _, -, y, -⟩ := qq; cases y
  rotate_left
  · obtain ⟨_, _, -, y, -⟩ := qq; cases y
  obtain ⟨T, z9, rfl, y, lT, t1, t2, t3, t4, t25, tv, tu⟩ := qq
  cases y
  have zk : zR (k9 : Int) := t25 ▸ lT.1.1.1 (50, 0, 0) 25
  refine x_istore (L' := [xR (99, 0, 0), xR (0, 0, 0), xR (50, 0, 0), xR (90, 0, 0), xR (91, 0, 0), xI i, xI (k9 : Int), xI z9, none]) dL_law_2461 (by decide) rfl ?_
  refine x_aload_n dL_law_2463 rfl ?_
  refine x_callV_r (a := 0) (b := 0) (as := []) (rest := []) ok_X9_thrown dL_law_2464 wd1196 ⟨wd1197, wd1198⟩ (hp50 T) rfl rfl (m_thrown T lT.1.1) rfl (Nat.le_of_ble_eq_true rfl) (Nat.le_of_ble_eq_true rfl) (by decide) (by omega) (by omega) ?_
  refine x_top (show T.1 (50, 0, 0) 25 = (k9 : Int) from t25) ?_
  refine x_iload dL_law_2467 rfl ?_
  refine x_icmp_eq (tgt := 2474) dL_law_2469 (by decide) zk zk (fun _ => ?_) (fun y => absurd rfl y)
  refine x_iload dL_law_2474 rfl ?_
  refine x_if_ne (tgt := 2491) dL_law_2476 (by decide) zk (fun y => ?_) (fun y => ?_)
  · refine x_goto (tgt := 2700) dL_law_2491 (by decide) ?_
    refine X.loc (L' := [xR (99, 0, 0), xR (0, 0, 0), xR (50, 0, 0), xR (90, 0, 0), xR (91, 0, 0), xI i, none, none, none]) ⟨rfl, ⟨rfl, ⟨rfl, ⟨rfl, ⟨rfl, ⟨rfl, trivial⟩⟩⟩⟩⟩⟩ ?_
    exact kont T _ _ lT (by rw [t1, e2.2, hn]) (by omega) (by omega)
  · obtain rfl : k9 = 0 := by omega
    have ez := tv rfl
    subst ez
    refine x_aload_n dL_law_2479 rfl ?_
    refine x_iconst dL_law_2480 ?_
    refine x_aldj dL_law_2481 (hp90 T) (by decide) (by decide) (by decide) (by decide) ?_
    refine x_topJ (show T.2.1 (90, 0, 0) 0 = jI z9 from by rw [t2]; exact h90 rfl) ?_
    refine x_iload dL_law_2482 rfl ?_
    refine x_i2l dL_law_2484 ?_
    refine x_lcmp dL_law_2485 ?_
    refine x_top (lg0.mpr rfl) ?_
    refine x_if_eq (tgt := 2491) dL_law_2486 (by decide) ⟨by decide, by decide⟩ (fun _ => ?_) (fun y => absurd rfl y)
    refine x_goto (tgt := 2700) dL_law_2491 (by decide) ?_
    refine X.loc (L' := [xR (99, 0, 0), xR (0, 0, 0), xR (50, 0, 0), xR (90, 0, 0), xR (91, 0, 0), xI i, none, none, none]) ⟨rfl, ⟨rfl, ⟨rfl, ⟨rfl, ⟨rfl, ⟨rfl, trivial⟩⟩⟩⟩⟩⟩ ?_
    exact kont T _ _ lT (by rw [t1, e2.2, hn]) (by omega) (by omega)
