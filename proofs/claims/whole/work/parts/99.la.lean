/-! the law's wrappers -/
/-- what a wrapper leaves: the answer in its cell and 0, or the exception's number -/
def pW (Es : List String) (Q : XO → XH → Prop) : XO → XH → Prop := fun o h' => (∃ (x : Int) (f : Int → Int64) (h1 : XH), Q (.inl (some (xI x))) h1 ∧ h1 (90, 0, 0) = some (.inr (1, 1, .inr (.inl f))) ∧ o = .inl (some (xI 0)) ∧ h' = xUp h1 (90, 0, 0) (.inr (1, 1, .inr (.inl (xUpd f 0 (jI x)))))) ∨ ∃ (E : String) (k : Nat), Q (.inr E) h' ∧ Es[k]? = some E ∧ o = .inl (some (xI ((k : Int) + 1)))
/-- what the call's end must be -/
def pWq (b : Bool) (Es : List String) (Q : XO → XH → Prop) : Prop := ∀ o h', Q o h' → (∃ (x : Int) (f : Int → Int64), o = .inl (some (xI x)) ∧ h' (90, 0, 0) = some (.inr (1, 1, .inr (.inl f))) ∧ (b = true → x = 0 ∨ x = 1)) ∨ ∃ (E : String) (k : Nat), o = .inr E ∧ Es[k]? = some E
/-- the same with a double -/
def pWD (Es : List String) (Q : XO → XH → Prop) : XO → XH → Prop := fun o h' => (∃ (x : UInt64) (f : Int → UInt64) (h1 : XH), Q (.inl (some (xD x))) h1 ∧ h1 (91, 0, 0) = some (.inr (4, 1, .inr (.inr (.inl f)))) ∧ o = .inl (some (xI 0)) ∧ h' = xUp h1 (91, 0, 0) (.inr (4, 1, .inr (.inr (.inl (xUpd f 0 x)))))) ∨ ∃ (E : String) (k : Nat), Q (.inr E) h' ∧ Es[k]? = some E ∧ o = .inl (some (xI ((k : Int) + 1)))
def pWDq (Es : List String) (Q : XO → XH → Prop) : Prop := ∀ o h', Q o h' → (∃ (x : UInt64) (f : Int → UInt64), o = .inl (some (xD x)) ∧ h' (91, 0, 0) = some (.inr (4, 1, .inr (.inr (.inl f))))) ∨ ∃ (E : String) (k : Nat), o = .inr E ∧ Es[k]? = some E
/-- the same with a float -/
def pWF (Es : List String) (Q : XO → XH → Prop) : XO → XH → Prop := fun o h' => (∃ (x : UInt32) (f : Int → UInt64) (h1 : XH), Q (.inl (some (xF x))) h1 ∧ h1 (91, 0, 0) = some (.inr (4, 1, .inr (.inr (.inl f)))) ∧ o = .inl (some (xI 0)) ∧ h' = xUp h1 (91, 0, 0) (.inr (4, 1, .inr (.inr (.inl (xUpd f 0 (FP.f2d x))))))) ∨ ∃ (E : String) (k : Nat), Q (.inr E) h' ∧ Es[k]? = some E ∧ o = .inl (some (xI ((k : Int) + 1)))
def pWFq (Es : List String) (Q : XO → XH → Prop) : Prop := ∀ o h', Q o h' → (∃ (x : UInt32) (f : Int → UInt64), o = .inl (some (xF x)) ∧ h' (91, 0, 0) = some (.inr (4, 1, .inr (.inr (.inl f)))) ∧ vf_n64 (FP.f2d x)) ∨ ∃ (E : String) (k : Nat), o = .inr E ∧ Es[k]? = some E

theorem wdL8 : Cond.classLink RL 8 "Versefold" ∈ xW := xw 74 (by decide +kernel) rfl
theorem wdL13 : Cond.classLink RL 13 "java/lang/IndexOutOfBoundsException" ∈ xW := xw 487 (by decide +kernel) rfl
theorem wdL15 : Cond.classLink RL 15 "java/lang/IllegalArgumentException" ∈ xW := xw 567 (by decide +kernel) rfl
theorem wdL17 : Cond.classLink RL 17 "java/lang/UnsupportedOperationException" ∈ xW := xw 568 (by decide +kernel) rfl
theorem wdL19 : Cond.classLink RL 19 "java/lang/IllegalStateException" ∈ xW := xw 569 (by decide +kernel) rfl
theorem wdL65 : Cond.classLink RL 65 "java/util/NoSuchElementException" ∈ xW := xw 831 (by decide +kernel) rfl
theorem wdL116 : Cond.classLink RL 116 "java/lang/ArithmeticException" ∈ xW := xw 1065 (by decide +kernel) rfl
theorem wdL123 : Cond.classLink RL 123 "VersefoldModel" ∈ xW := xw 1093 (by decide +kernel) rfl
set_option maxHeartbeats 4000000 in
set_option maxRecDepth 100000 in
theorem w_tell {h : XH} {fs : List XV} (h0 : h (0, 0, 0) = some (.inl (8, fs))) (p0 p1 p2 p3 : Int) (a b : Nat) {Q1 : XO → XH → Prop} (hc : X mX8_tell 0 (xEnt mX8_tell [xR (0, 0, 0), xI p0, xI p1, xI p2, xI p3]) [] h a b Q1) (hq : pWq false ["java/lang/IndexOutOfBoundsException", "java/lang/IllegalArgumentException", "java/lang/UnsupportedOperationException", "java/lang/IllegalStateException"] Q1) : X mL_tell 0 (xEnt mL_tell [xR (0, 0, 0), xI p0, xI p1, xI p2, xI p3, xR (90, 0, 0)]) [] h a b (pW ["java/lang/IndexOutOfBoundsException", "java/lang/IllegalArgumentException", "java/lang/UnsupportedOperationException", "java/lang/IllegalStateException"] Q1) := by
  show X mL_tell 0 [xR (0, 0, 0), xI p0, xI p1, xI p2, xI p3, xR (90, 0, 0), none] [] h a b _
  refine x_aload dL_tell_0 rfl ?_
  refine x_iconst dL_tell_2 ?_
  refine x_aload_n dL_tell_3 rfl ?_
  refine x_iload_n dL_tell_4 rfl ?_
  refine x_iload_n dL_tell_5 rfl ?_
  refine x_iload_n dL_tell_6 rfl ?_
  refine x_iload dL_tell_7 rfl ?_
  refine x_callV a b (as := [xI p0, xI p1, xI p2, xI p3]) (rest := [xI 0, xR (90, 0, 0)]) ok_X8_tell dL_tell_9 wd570 ⟨wd571, wd572⟩ h0 rfl rfl hc rfl (Nat.le_of_ble_eq_true rfl) (Nat.le_of_ble_eq_true rfl) (by decide) (Nat.le_refl _) (Nat.le_refl _) (fun h1 q => ?_) (fun v h1 q => ?_) (fun E h1 q => ?_)
  · rcases hq _ _ q with ⟨x, f, e, -⟩ | ⟨E, k, e, -⟩ <;> cases e
  · rcases hq _ _ q with ⟨x, f, e, hf, -⟩ | ⟨E, k, e, -⟩
    · cases e
      refine x_i2l dL_tell_12 ?_
      refine x_astj dL_tell_13 hf (by decide) (by decide) (by decide) (by decide) ?_
      refine x_goto (tgt := 33) dL_tell_14 (by decide) ?_
      refine x_iconst dL_tell_33 ?_
      exact x_iret dL_tell_34 rfl (Or.inl ⟨x, f, _, q, hf, rfl, rfl⟩)
    · cases e
  · rcases hq _ _ q with ⟨x, f, e, -⟩ | ⟨E2, k, e, hk⟩
    · cases e
    · cases e
      match k, hk with
      | 0, hk =>
        cases hk
        refine XX.catch [] (0, 14, 17, 13) [(0, 14, 21, 15), (0, 14, 25, 17), (0, 14, 29, 19)] rfl (by decide) (fun _ h => absurd h List.not_mem_nil) ⟨by decide, by decide⟩ (by decide) wdL13 ?_
        refine x_astoreX (L' := [xR (0, 0, 0), xI p0, xI p1, xI p2, xI p3, xR (90, 0, 0), none]) dL_tell_17 (by decide) rfl ?_
        refine x_iconst dL_tell_19 ?_
        exact x_iret dL_tell_20 rfl (Or.inr ⟨_, 0, q, rfl, rfl⟩)
      | 1, hk =>
        cases hk
        refine XX.catch [(0, 14, 17, 13)] (0, 14, 21, 15) [(0, 14, 25, 17), (0, 14, 29, 19)] rfl (by decide) (List.forall_mem_cons.mpr ⟨⟨by decide, "java/lang/IndexOutOfBoundsException", by decide, wdL13, by decide⟩, (fun _ h => absurd h List.not_mem_nil)⟩) ⟨by decide, by decide⟩ (by decide) wdL15 ?_
        refine x_astoreX (L' := [xR (0, 0, 0), xI p0, xI p1, xI p2, xI p3, xR (90, 0, 0), none]) dL_tell_21 (by decide) rfl ?_
        refine x_iconst dL_tell_23 ?_
        exact x_iret dL_tell_24 rfl (Or.inr ⟨_, 1, q, rfl, rfl⟩)
      | 2, hk =>
        cases hk
        refine XX.catch [(0, 14, 17, 13), (0, 14, 21, 15)] (0, 14, 25, 17) [(0, 14, 29, 19)] rfl (by decide) (List.forall_mem_cons.mpr ⟨⟨by decide, "java/lang/IndexOutOfBoundsException", by decide, wdL13, by decide⟩, (List.forall_mem_cons.mpr ⟨⟨by decide, "java/lang/IllegalArgumentException", by decide, wdL15, by decide⟩, (fun _ h => absurd h List.not_mem_nil)⟩)⟩) ⟨by decide, by decide⟩ (by decide) wdL17 ?_
        refine x_astoreX (L' := [xR (0, 0, 0), xI p0, xI p1, xI p2, xI p3, xR (90, 0, 0), none]) dL_tell_25 (by decide) rfl ?_
        refine x_iconst dL_tell_27 ?_
        exact x_iret dL_tell_28 rfl (Or.inr ⟨_, 2, q, rfl, rfl⟩)
      | 3, hk =>
        cases hk
        refine XX.catch [(0, 14, 17, 13), (0, 14, 21, 15), (0, 14, 25, 17)] (0, 14, 29, 19) [] rfl (by decide) (List.forall_mem_cons.mpr ⟨⟨by decide, "java/lang/IndexOutOfBoundsException", by decide, wdL13, by decide⟩, (List.forall_mem_cons.mpr ⟨⟨by decide, "java/lang/IllegalArgumentException", by decide, wdL15, by decide⟩, (List.forall_mem_cons.mpr ⟨⟨by decide, "java/lang/UnsupportedOperationException", by decide, wdL17, by decide⟩, (fun _ h => absurd h List.not_mem_nil)⟩)⟩)⟩) ⟨by decide, by decide⟩ (by decide) wdL19 ?_
        refine x_astoreX (L' := [xR (0, 0, 0), xI p0, xI p1, xI p2, xI p3, xR (90, 0, 0), none]) dL_tell_29 (by decide) rfl ?_
        refine x_iconst dL_tell_31 ?_
        exact x_iret dL_tell_32 rfl (Or.inr ⟨_, 3, q, rfl, rfl⟩)
      | k + 4, hk => exact absurd hk (by simp)
set_option maxHeartbeats 4000000 in
set_option maxRecDepth 100000 in
theorem w_untell {h : XH} {fs : List XV} (h0 : h (0, 0, 0) = some (.inl (8, fs))) (p0 p1 p2 p3 : Int) (a b : Nat) {Q1 : XO → XH → Prop} (hc : X mX8_untell 0 (xEnt mX8_untell [xR (0, 0, 0), xI p0, xI p1, xI p2, xI p3]) [] h a b Q1) (hq : pWq false ["java/lang/IndexOutOfBoundsException", "java/lang/IllegalArgumentException", "java/lang/IllegalStateException"] Q1) : X mL_untell 0 (xEnt mL_untell [xR (0, 0, 0), xI p0, xI p1, xI p2, xI p3, xR (90, 0, 0)]) [] h a b (pW ["java/lang/IndexOutOfBoundsException", "java/lang/IllegalArgumentException", "java/lang/IllegalStateException"] Q1) := by
  show X mL_untell 0 [xR (0, 0, 0), xI p0, xI p1, xI p2, xI p3, xR (90, 0, 0), none] [] h a b _
  refine x_aload dL_untell_0 rfl ?_
  refine x_iconst dL_untell_2 ?_
  refine x_aload_n dL_untell_3 rfl ?_
  refine x_iload_n dL_untell_4 rfl ?_
  refine x_iload_n dL_untell_5 rfl ?_
  refine x_iload_n dL_untell_6 rfl ?_
  refine x_iload dL_untell_7 rfl ?_
  refine x_callV a b (as := [xI p0, xI p1, xI p2, xI p3]) (rest := [xI 0, xR (90, 0, 0)]) ok_X8_untell dL_untell_9 wd692 ⟨wd693, wd694⟩ h0 rfl rfl hc rfl (Nat.le_of_ble_eq_true rfl) (Nat.le_of_ble_eq_true rfl) (by decide) (Nat.le_refl _) (Nat.le_refl _) (fun h1 q => ?_) (fun v h1 q => ?_) (fun E h1 q => ?_)
  · rcases hq _ _ q with ⟨x, f, e, -⟩ | ⟨E, k, e, -⟩ <;> cases e
  · rcases hq _ _ q with ⟨x, f, e, hf, -⟩ | ⟨E, k, e, -⟩
    · cases e
      refine x_i2l dL_untell_12 ?_
      refine x_astj dL_untell_13 hf (by decide) (by decide) (by decide) (by decide) ?_
      refine x_goto (tgt := 29) dL_untell_14 (by decide) ?_
      refine x_iconst dL_untell_29 ?_
      exact x_iret dL_untell_30 rfl (Or.inl ⟨x, f, _, q, hf, rfl, rfl⟩)
    · cases e
  · rcases hq _ _ q with ⟨x, f, e, -⟩ | ⟨E2, k, e, hk⟩
    · cases e
    · cases e
      match k, hk with
      | 0, hk =>
        cases hk
        refine XX.catch [] (0, 14, 17, 13) [(0, 14, 21, 15), (0, 14, 25, 19)] rfl (by decide) (fun _ h => absurd h List.not_mem_nil) ⟨by decide, by decide⟩ (by decide) wdL13 ?_
        refine x_astoreX (L' := [xR (0, 0, 0), xI p0, xI p1, xI p2, xI p3, xR (90, 0, 0), none]) dL_untell_17 (by decide) rfl ?_
        refine x_iconst dL_untell_19 ?_
        exact x_iret dL_untell_20 rfl (Or.inr ⟨_, 0, q, rfl, rfl⟩)
      | 1, hk =>
        cases hk
        refine XX.catch [(0, 14, 17, 13)] (0, 14, 21, 15) [(0, 14, 25, 19)] rfl (by decide) (List.forall_mem_cons.mpr ⟨⟨by decide, "java/lang/IndexOutOfBoundsException", by decide, wdL13, by decide⟩, (fun _ h => absurd h List.not_mem_nil)⟩) ⟨by decide, by decide⟩ (by decide) wdL15 ?_
        refine x_astoreX (L' := [xR (0, 0, 0), xI p0, xI p1, xI p2, xI p3, xR (90, 0, 0), none]) dL_untell_21 (by decide) rfl ?_
        refine x_iconst dL_untell_23 ?_
        exact x_iret dL_untell_24 rfl (Or.inr ⟨_, 1, q, rfl, rfl⟩)
      | 2, hk =>
        cases hk
        refine XX.catch [(0, 14, 17, 13), (0, 14, 21, 15)] (0, 14, 25, 19) [] rfl (by decide) (List.forall_mem_cons.mpr ⟨⟨by decide, "java/lang/IndexOutOfBoundsException", by decide, wdL13, by decide⟩, (List.forall_mem_cons.mpr ⟨⟨by decide, "java/lang/IllegalArgumentException", by decide, wdL15, by decide⟩, (fun _ h => absurd h List.not_mem_nil)⟩)⟩) ⟨by decide, by decide⟩ (by decide) wdL19 ?_
        refine x_astoreX (L' := [xR (0, 0, 0), xI p0, xI p1, xI p2, xI p3, xR (90, 0, 0), none]) dL_untell_25 (by decide) rfl ?_
        refine x_iconst dL_untell_27 ?_
        exact x_iret dL_untell_28 rfl (Or.inr ⟨_, 2, q, rfl, rfl⟩)
      | k + 3, hk => exact absurd hk (by simp)
set_option maxHeartbeats 4000000 in
set_option maxRecDepth 100000 in
theorem w_setUnique {h : XH} {fs : List XV} (h0 : h (0, 0, 0) = some (.inl (8, fs))) (p0 p1 : Int) (a b : Nat) {Q1 : XO → XH → Prop} (hc : X mX8_setUnique 0 (xEnt mX8_setUnique [xR (0, 0, 0), xI p0, xI p1]) [] h a b Q1) (hq : pWq true ["java/lang/IllegalArgumentException"] Q1) : X mL_setUnique 0 (xEnt mL_setUnique [xR (0, 0, 0), xI p0, xI p1, xR (90, 0, 0)]) [] h a b (pW ["java/lang/IllegalArgumentException"] Q1) := by
  show X mL_setUnique 0 [xR (0, 0, 0), xI p0, xI p1, xR (90, 0, 0), none] [] h a b _
  refine x_aload_n dL_setUnique_0 rfl ?_
  refine x_iconst dL_setUnique_1 ?_
  refine x_aload_n dL_setUnique_2 rfl ?_
  refine x_iload_n dL_setUnique_3 rfl ?_
  refine x_iload_n dL_setUnique_4 rfl ?_
  refine x_callV a b (as := [xI p0, xI p1]) (rest := [xI 0, xR (90, 0, 0)]) ok_X8_setUnique dL_setUnique_5 wd699 ⟨wd700, wd701⟩ h0 rfl rfl hc rfl (Nat.le_of_ble_eq_true rfl) (Nat.le_of_ble_eq_true rfl) (by decide) (Nat.le_refl _) (Nat.le_refl _) (fun h1 q => ?_) (fun v h1 q => ?_) (fun E h1 q => ?_)
  · rcases hq _ _ q with ⟨x, f, e, -⟩ | ⟨E, k, e, -⟩ <;> cases e
  · rcases hq _ _ q with ⟨x, f, e, hf, hx⟩ | ⟨E, k, e, -⟩
    · cases e
      rcases hx rfl with rfl | rfl
      · refine x_if_eq (tgt := 15) dL_setUnique_8 (by decide) ⟨by decide, by decide⟩ (fun _ => ?_) (fun z => absurd rfl z)
        refine x_lconst (v := 0) dL_setUnique_15 (by decide) ?_
        refine x_astj dL_setUnique_16 hf (by decide) (by decide) (by decide) (by decide) ?_
        refine x_goto (tgt := 24) dL_setUnique_17 (by decide) ?_
        refine x_iconst dL_setUnique_24 ?_
        exact x_iret dL_setUnique_25 rfl (Or.inl ⟨0, f, _, q, hf, rfl, congrArg (fun y => xUp h1 (90, 0, 0) (.inr (1, 1, .inr (.inl (xUpd f 0 y))))) (by decide)⟩)
      · refine x_if_eq (tgt := 15) dL_setUnique_8 (by decide) ⟨by decide, by decide⟩ (fun z => absurd z (by decide)) (fun _ => ?_)
        refine x_lconst (v := 1) dL_setUnique_11 (by decide) ?_
        refine x_goto (tgt := 16) dL_setUnique_12 (by decide) ?_
        refine x_astj dL_setUnique_16 hf (by decide) (by decide) (by decide) (by decide) ?_
        refine x_goto (tgt := 24) dL_setUnique_17 (by decide) ?_
        refine x_iconst dL_setUnique_24 ?_
        exact x_iret dL_setUnique_25 rfl (Or.inl ⟨1, f, _, q, hf, rfl, congrArg (fun y => xUp h1 (90, 0, 0) (.inr (1, 1, .inr (.inl (xUpd f 0 y))))) (by decide)⟩)
    · cases e
  · rcases hq _ _ q with ⟨x, f, e, -⟩ | ⟨E2, k, e, hk⟩
    · cases e
    · cases e
      match k, hk with
      | 0, hk =>
        cases hk
        refine XX.catch [] (0, 17, 20, 15) [] rfl (by decide) (fun _ h => absurd h List.not_mem_nil) ⟨by decide, by decide⟩ (by decide) wdL15 ?_
        refine x_astoreX (L' := [xR (0, 0, 0), xI p0, xI p1, xR (90, 0, 0), none]) dL_setUnique_20 (by decide) rfl ?_
        refine x_iconst dL_setUnique_22 ?_
        exact x_iret dL_setUnique_23 rfl (Or.inr ⟨_, 0, q, rfl, rfl⟩)
      | k + 1, hk => exact absurd hk (by simp)
set_option maxHeartbeats 4000000 in
set_option maxRecDepth 100000 in
theorem w_addRule {h : XH} {fs : List XV} (h0 : h (0, 0, 0) = some (.inl (8, fs))) (p0 p1 p2 p3 p4 p5 : Int) (a b : Nat) {Q1 : XO → XH → Prop} (hc : X mX8_addRule 0 (xEnt mX8_addRule [xR (0, 0, 0), xI p0, xI p1, xI p2, xI p3, xI p4, xI p5]) [] h a b Q1) (hq : pWq false ["java/lang/IllegalArgumentException", "java/lang/IllegalStateException"] Q1) : X mL_addRule 0 (xEnt mL_addRule [xR (0, 0, 0), xI p0, xI p1, xI p2, xI p3, xI p4, xI p5, xR (90, 0, 0)]) [] h a b (pW ["java/lang/IllegalArgumentException", "java/lang/IllegalStateException"] Q1) := by
  show X mL_addRule 0 [xR (0, 0, 0), xI p0, xI p1, xI p2, xI p3, xI p4, xI p5, xR (90, 0, 0), none] [] h a b _
  refine x_aload dL_addRule_0 rfl ?_
  refine x_iconst dL_addRule_2 ?_
  refine x_aload_n dL_addRule_3 rfl ?_
  refine x_iload_n dL_addRule_4 rfl ?_
  refine x_iload_n dL_addRule_5 rfl ?_
  refine x_iload_n dL_addRule_6 rfl ?_
  refine x_iload dL_addRule_7 rfl ?_
  refine x_iload dL_addRule_9 rfl ?_
  refine x_iload dL_addRule_11 rfl ?_
  refine x_callV a b (as := [xI p0, xI p1, xI p2, xI p3, xI p4, xI p5]) (rest := [xI 0, xR (90, 0, 0)]) ok_X8_addRule dL_addRule_13 wd710 ⟨wd711, wd712⟩ h0 rfl rfl hc rfl (Nat.le_of_ble_eq_true rfl) (Nat.le_of_ble_eq_true rfl) (by decide) (Nat.le_refl _) (Nat.le_refl _) (fun h1 q => ?_) (fun v h1 q => ?_) (fun E h1 q => ?_)
  · rcases hq _ _ q with ⟨x, f, e, -⟩ | ⟨E, k, e, -⟩ <;> cases e
  · rcases hq _ _ q with ⟨x, f, e, hf, -⟩ | ⟨E, k, e, -⟩
    · cases e
      refine x_i2l dL_addRule_16 ?_
      refine x_astj dL_addRule_17 hf (by decide) (by decide) (by decide) (by decide) ?_
      refine x_goto (tgt := 29) dL_addRule_18 (by decide) ?_
      refine x_iconst dL_addRule_29 ?_
      exact x_iret dL_addRule_30 rfl (Or.inl ⟨x, f, _, q, hf, rfl, rfl⟩)
    · cases e
  · rcases hq _ _ q with ⟨x, f, e, -⟩ | ⟨E2, k, e, hk⟩
    · cases e
    · cases e
      match k, hk with
      | 0, hk =>
        cases hk
        refine XX.catch [] (0, 18, 21, 15) [(0, 18, 25, 19)] rfl (by decide) (fun _ h => absurd h List.not_mem_nil) ⟨by decide, by decide⟩ (by decide) wdL15 ?_
        refine x_astoreX (L' := [xR (0, 0, 0), xI p0, xI p1, xI p2, xI p3, xI p4, xI p5, xR (90, 0, 0), none]) dL_addRule_21 (by decide) rfl ?_
        refine x_iconst dL_addRule_23 ?_
        exact x_iret dL_addRule_24 rfl (Or.inr ⟨_, 0, q, rfl, rfl⟩)
      | 1, hk =>
        cases hk
        refine XX.catch [(0, 18, 21, 15)] (0, 18, 25, 19) [] rfl (by decide) (List.forall_mem_cons.mpr ⟨⟨by decide, "java/lang/IllegalArgumentException", by decide, wdL15, by decide⟩, (fun _ h => absurd h List.not_mem_nil)⟩) ⟨by decide, by decide⟩ (by decide) wdL19 ?_
        refine x_astoreX (L' := [xR (0, 0, 0), xI p0, xI p1, xI p2, xI p3, xI p4, xI p5, xR (90, 0, 0), none]) dL_addRule_25 (by decide) rfl ?_
        refine x_iconst dL_addRule_27 ?_
        exact x_iret dL_addRule_28 rfl (Or.inr ⟨_, 1, q, rfl, rfl⟩)
      | k + 2, hk => exact absurd hk (by simp)
set_option maxHeartbeats 4000000 in
set_option maxRecDepth 100000 in
theorem w_addCondition {h : XH} {fs : List XV} (h0 : h (0, 0, 0) = some (.inl (8, fs))) (p0 p1 p2 p3 p4 : Int) (a b : Nat) {Q1 : XO → XH → Prop} (hc : X mX8_addCondition 0 (xEnt mX8_addCondition [xR (0, 0, 0), xI p0, xI p1, xI p2, xI p3, xI p4]) [] h a b Q1) (hq : pWq false ["java/lang/IndexOutOfBoundsException", "java/lang/IllegalArgumentException", "java/lang/IllegalStateException"] Q1) : X mL_addCondition 0 (xEnt mL_addCondition [xR (0, 0, 0), xI p0, xI p1, xI p2, xI p3, xI p4, xR (90, 0, 0)]) [] h a b (pW ["java/lang/IndexOutOfBoundsException", "java/lang/IllegalArgumentException", "java/lang/IllegalStateException"] Q1) := by
  show X mL_addCondition 0 [xR (0, 0, 0), xI p0, xI p1, xI p2, xI p3, xI p4, xR (90, 0, 0), none] [] h a b _
  refine x_aload dL_addCondition_0 rfl ?_
  refine x_iconst dL_addCondition_2 ?_
  refine x_aload_n dL_addCondition_3 rfl ?_
  refine x_iload_n dL_addCondition_4 rfl ?_
  refine x_iload_n dL_addCondition_5 rfl ?_
  refine x_iload_n dL_addCondition_6 rfl ?_
  refine x_iload dL_addCondition_7 rfl ?_
  refine x_iload dL_addCondition_9 rfl ?_
  refine x_callV a b (as := [xI p0, xI p1, xI p2, xI p3, xI p4]) (rest := [xI 0, xR (90, 0, 0)]) ok_X8_addCondition dL_addCondition_11 wd741 ⟨wd742, wd743⟩ h0 rfl rfl hc rfl (Nat.le_of_ble_eq_true rfl) (Nat.le_of_ble_eq_true rfl) (by decide) (Nat.le_refl _) (Nat.le_refl _) (fun h1 q => ?_) (fun v h1 q => ?_) (fun E h1 q => ?_)
  · rcases hq _ _ q with ⟨x, f, e, -⟩ | ⟨E, k, e, -⟩ <;> cases e
  · rcases hq _ _ q with ⟨x, f, e, hf, -⟩ | ⟨E, k, e, -⟩
    · cases e
      refine x_i2l dL_addCondition_14 ?_
      refine x_astj dL_addCondition_15 hf (by decide) (by decide) (by decide) (by decide) ?_
      refine x_goto (tgt := 31) dL_addCondition_16 (by decide) ?_
      refine x_iconst dL_addCondition_31 ?_
      exact x_iret dL_addCondition_32 rfl (Or.inl ⟨x, f, _, q, hf, rfl, rfl⟩)
    · cases e
  · rcases hq _ _ q with ⟨x, f, e, -⟩ | ⟨E2, k, e, hk⟩
    · cases e
    · cases e
      match k, hk with
      | 0, hk =>
        cases hk
        refine XX.catch [] (0, 16, 19, 13) [(0, 16, 23, 15), (0, 16, 27, 19)] rfl (by decide) (fun _ h => absurd h List.not_mem_nil) ⟨by decide, by decide⟩ (by decide) wdL13 ?_
        refine x_astoreX (L' := [xR (0, 0, 0), xI p0, xI p1, xI p2, xI p3, xI p4, xR (90, 0, 0), none]) dL_addCondition_19 (by decide) rfl ?_
        refine x_iconst dL_addCondition_21 ?_
        exact x_iret dL_addCondition_22 rfl (Or.inr ⟨_, 0, q, rfl, rfl⟩)
      | 1, hk =>
        cases hk
        refine XX.catch [(0, 16, 19, 13)] (0, 16, 23, 15) [(0, 16, 27, 19)] rfl (by decide) (List.forall_mem_cons.mpr ⟨⟨by decide, "java/lang/IndexOutOfBoundsException", by decide, wdL13, by decide⟩, (fun _ h => absurd h List.not_mem_nil)⟩) ⟨by decide, by decide⟩ (by decide) wdL15 ?_
        refine x_astoreX (L' := [xR (0, 0, 0), xI p0, xI p1, xI p2, xI p3, xI p4, xR (90, 0, 0), none]) dL_addCondition_23 (by decide) rfl ?_
        refine x_iconst dL_addCondition_25 ?_
        exact x_iret dL_addCondition_26 rfl (Or.inr ⟨_, 1, q, rfl, rfl⟩)
      | 2, hk =>
        cases hk
        refine XX.catch [(0, 16, 19, 13), (0, 16, 23, 15)] (0, 16, 27, 19) [] rfl (by decide) (List.forall_mem_cons.mpr ⟨⟨by decide, "java/lang/IndexOutOfBoundsException", by decide, wdL13, by decide⟩, (List.forall_mem_cons.mpr ⟨⟨by decide, "java/lang/IllegalArgumentException", by decide, wdL15, by decide⟩, (fun _ h => absurd h List.not_mem_nil)⟩)⟩) ⟨by decide, by decide⟩ (by decide) wdL19 ?_
        refine x_astoreX (L' := [xR (0, 0, 0), xI p0, xI p1, xI p2, xI p3, xI p4, xR (90, 0, 0), none]) dL_addCondition_27 (by decide) rfl ?_
        refine x_iconst dL_addCondition_29 ?_
        exact x_iret dL_addCondition_30 rfl (Or.inr ⟨_, 2, q, rfl, rfl⟩)
      | k + 3, hk => exact absurd hk (by simp)
set_option maxHeartbeats 4000000 in
set_option maxRecDepth 100000 in
theorem w_turn {h : XH} {fs : List XV} (h0 : h (0, 0, 0) = some (.inl (8, fs))) (p0 p1 p2 : Int) (a b : Nat) {Q1 : XO → XH → Prop} (hc : X mX8_turn 0 (xEnt mX8_turn [xR (0, 0, 0), xI p0, xI p1, xI p2]) [] h a b Q1) (hq : pWq false ["java/lang/IndexOutOfBoundsException", "java/lang/UnsupportedOperationException", "java/lang/IllegalStateException"] Q1) : X mL_turn 0 (xEnt mL_turn [xR (0, 0, 0), xI p0, xI p1, xI p2, xR (90, 0, 0)]) [] h a b (pW ["java/lang/IndexOutOfBoundsException", "java/lang/UnsupportedOperationException", "java/lang/IllegalStateException"] Q1) := by
  show X mL_turn 0 [xR (0, 0, 0), xI p0, xI p1, xI p2, xR (90, 0, 0), none] [] h a b _
  refine x_aload dL_turn_0 rfl ?_
  refine x_iconst dL_turn_2 ?_
  refine x_aload_n dL_turn_3 rfl ?_
  refine x_iload_n dL_turn_4 rfl ?_
  refine x_iload_n dL_turn_5 rfl ?_
  refine x_iload_n dL_turn_6 rfl ?_
  refine x_callV a b (as := [xI p0, xI p1, xI p2]) (rest := [xI 0, xR (90, 0, 0)]) ok_X8_turn dL_turn_7 wd754 ⟨wd755, wd756⟩ h0 rfl rfl hc rfl (Nat.le_of_ble_eq_true rfl) (Nat.le_of_ble_eq_true rfl) (by decide) (Nat.le_refl _) (Nat.le_refl _) (fun h1 q => ?_) (fun v h1 q => ?_) (fun E h1 q => ?_)
  · rcases hq _ _ q with ⟨x, f, e, -⟩ | ⟨E, k, e, -⟩ <;> cases e
  · rcases hq _ _ q with ⟨x, f, e, hf, -⟩ | ⟨E, k, e, -⟩
    · cases e
      refine x_i2l dL_turn_10 ?_
      refine x_astj dL_turn_11 hf (by decide) (by decide) (by decide) (by decide) ?_
      refine x_goto (tgt := 27) dL_turn_12 (by decide) ?_
      refine x_iconst dL_turn_27 ?_
      exact x_iret dL_turn_28 rfl (Or.inl ⟨x, f, _, q, hf, rfl, rfl⟩)
    · cases e
  · rcases hq _ _ q with ⟨x, f, e, -⟩ | ⟨E2, k, e, hk⟩
    · cases e
    · cases e
      match k, hk with
      | 0, hk =>
        cases hk
        refine XX.catch [] (0, 12, 15, 13) [(0, 12, 19, 17), (0, 12, 23, 19)] rfl (by decide) (fun _ h => absurd h List.not_mem_nil) ⟨by decide, by decide⟩ (by decide) wdL13 ?_
        refine x_astoreX (L' := [xR (0, 0, 0), xI p0, xI p1, xI p2, xR (90, 0, 0), none]) dL_turn_15 (by decide) rfl ?_
        refine x_iconst dL_turn_17 ?_
        exact x_iret dL_turn_18 rfl (Or.inr ⟨_, 0, q, rfl, rfl⟩)
      | 1, hk =>
        cases hk
        refine XX.catch [(0, 12, 15, 13)] (0, 12, 19, 17) [(0, 12, 23, 19)] rfl (by decide) (List.forall_mem_cons.mpr ⟨⟨by decide, "java/lang/IndexOutOfBoundsException", by decide, wdL13, by decide⟩, (fun _ h => absurd h List.not_mem_nil)⟩) ⟨by decide, by decide⟩ (by decide) wdL17 ?_
        refine x_astoreX (L' := [xR (0, 0, 0), xI p0, xI p1, xI p2, xR (90, 0, 0), none]) dL_turn_19 (by decide) rfl ?_
        refine x_iconst dL_turn_21 ?_
        exact x_iret dL_turn_22 rfl (Or.inr ⟨_, 1, q, rfl, rfl⟩)
      | 2, hk =>
        cases hk
        refine XX.catch [(0, 12, 15, 13), (0, 12, 19, 17)] (0, 12, 23, 19) [] rfl (by decide) (List.forall_mem_cons.mpr ⟨⟨by decide, "java/lang/IndexOutOfBoundsException", by decide, wdL13, by decide⟩, (List.forall_mem_cons.mpr ⟨⟨by decide, "java/lang/UnsupportedOperationException", by decide, wdL17, by decide⟩, (fun _ h => absurd h List.not_mem_nil)⟩)⟩) ⟨by decide, by decide⟩ (by decide) wdL19 ?_
        refine x_astoreX (L' := [xR (0, 0, 0), xI p0, xI p1, xI p2, xR (90, 0, 0), none]) dL_turn_23 (by decide) rfl ?_
        refine x_iconst dL_turn_25 ?_
        exact x_iret dL_turn_26 rfl (Or.inr ⟨_, 2, q, rfl, rfl⟩)
      | k + 3, hk => exact absurd hk (by simp)
set_option maxHeartbeats 4000000 in
set_option maxRecDepth 100000 in
theorem w_isOn {h : XH} {fs : List XV} (h0 : h (0, 0, 0) = some (.inl (8, fs))) (p0 p1 p2 : Int) (a b : Nat) {Q1 : XO → XH → Prop} (hc : X mX8_isOn 0 (xEnt mX8_isOn [xR (0, 0, 0), xI p0, xI p1, xI p2]) [] h a b Q1) (hq : pWq true ["java/lang/IndexOutOfBoundsException"] Q1) : X mL_isOn 0 (xEnt mL_isOn [xR (0, 0, 0), xI p0, xI p1, xI p2, xR (90, 0, 0)]) [] h a b (pW ["java/lang/IndexOutOfBoundsException"] Q1) := by
  show X mL_isOn 0 [xR (0, 0, 0), xI p0, xI p1, xI p2, xR (90, 0, 0), none] [] h a b _
  refine x_aload dL_isOn_0 rfl ?_
  refine x_iconst dL_isOn_2 ?_
  refine x_aload_n dL_isOn_3 rfl ?_
  refine x_iload_n dL_isOn_4 rfl ?_
  refine x_iload_n dL_isOn_5 rfl ?_
  refine x_iload_n dL_isOn_6 rfl ?_
  refine x_callV a b (as := [xI p0, xI p1, xI p2]) (rest := [xI 0, xR (90, 0, 0)]) ok_X8_isOn dL_isOn_7 wd771 ⟨wd772, wd773⟩ h0 rfl rfl hc rfl (Nat.le_of_ble_eq_true rfl) (Nat.le_of_ble_eq_true rfl) (by decide) (Nat.le_refl _) (Nat.le_refl _) (fun h1 q => ?_) (fun v h1 q => ?_) (fun E h1 q => ?_)
  · rcases hq _ _ q with ⟨x, f, e, -⟩ | ⟨E, k, e, -⟩ <;> cases e
  · rcases hq _ _ q with ⟨x, f, e, hf, hx⟩ | ⟨E, k, e, -⟩
    · cases e
      rcases hx rfl with rfl | rfl
      · refine x_if_eq (tgt := 17) dL_isOn_10 (by decide) ⟨by decide, by decide⟩ (fun _ => ?_) (fun z => absurd rfl z)
        refine x_lconst (v := 0) dL_isOn_17 (by decide) ?_
        refine x_astj dL_isOn_18 hf (by decide) (by decide) (by decide) (by decide) ?_
        refine x_goto (tgt := 26) dL_isOn_19 (by decide) ?_
        refine x_iconst dL_isOn_26 ?_
        exact x_iret dL_isOn_27 rfl (Or.inl ⟨0, f, _, q, hf, rfl, congrArg (fun y => xUp h1 (90, 0, 0) (.inr (1, 1, .inr (.inl (xUpd f 0 y))))) (by decide)⟩)
      · refine x_if_eq (tgt := 17) dL_isOn_10 (by decide) ⟨by decide, by decide⟩ (fun z => absurd z (by decide)) (fun _ => ?_)
        refine x_lconst (v := 1) dL_isOn_13 (by decide) ?_
        refine x_goto (tgt := 18) dL_isOn_14 (by decide) ?_
        refine x_astj dL_isOn_18 hf (by decide) (by decide) (by decide) (by decide) ?_
        refine x_goto (tgt := 26) dL_isOn_19 (by decide) ?_
        refine x_iconst dL_isOn_26 ?_
        exact x_iret dL_isOn_27 rfl (Or.inl ⟨1, f, _, q, hf, rfl, congrArg (fun y => xUp h1 (90, 0, 0) (.inr (1, 1, .inr (.inl (xUpd f 0 y))))) (by decide)⟩)
    · cases e
  · rcases hq _ _ q with ⟨x, f, e, -⟩ | ⟨E2, k, e, hk⟩
    · cases e
    · cases e
      match k, hk with
      | 0, hk =>
        cases hk
        refine XX.catch [] (0, 19, 22, 13) [] rfl (by decide) (fun _ h => absurd h List.not_mem_nil) ⟨by decide, by decide⟩ (by decide) wdL13 ?_
        refine x_astoreX (L' := [xR (0, 0, 0), xI p0, xI p1, xI p2, xR (90, 0, 0), none]) dL_isOn_22 (by decide) rfl ?_
        refine x_iconst dL_isOn_24 ?_
        exact x_iret dL_isOn_25 rfl (Or.inr ⟨_, 0, q, rfl, rfl⟩)
      | k + 1, hk => exact absurd hk (by simp)
set_option maxHeartbeats 4000000 in
set_option maxRecDepth 100000 in
theorem w_layer {h : XH} {fs : List XV} (h0 : h (0, 0, 0) = some (.inl (8, fs))) (p0 p1 : Int) (a b : Nat) {Q1 : XO → XH → Prop} (hc : X mX8_layer 0 (xEnt mX8_layer [xR (0, 0, 0), xI p0, xI p1]) [] h a b Q1) (hq : pWq false ["java/lang/IndexOutOfBoundsException", "java/lang/IllegalArgumentException"] Q1) : X mL_layer 0 (xEnt mL_layer [xR (0, 0, 0), xI p0, xI p1, xR (90, 0, 0)]) [] h a b (pW ["java/lang/IndexOutOfBoundsException", "java/lang/IllegalArgumentException"] Q1) := by
  show X mL_layer 0 [xR (0, 0, 0), xI p0, xI p1, xR (90, 0, 0), none] [] h a b _
  refine x_aload_n dL_layer_0 rfl ?_
  refine x_iconst dL_layer_1 ?_
  refine x_aload_n dL_layer_2 rfl ?_
  refine x_iload_n dL_layer_3 rfl ?_
  refine x_iload_n dL_layer_4 rfl ?_
  refine x_callV a b (as := [xI p0, xI p1]) (rest := [xI 0, xR (90, 0, 0)]) ok_X8_layer dL_layer_5 wd783 ⟨wd784, wd785⟩ h0 rfl rfl hc rfl (Nat.le_of_ble_eq_true rfl) (Nat.le_of_ble_eq_true rfl) (by decide) (Nat.le_refl _) (Nat.le_refl _) (fun h1 q => ?_) (fun v h1 q => ?_) (fun E h1 q => ?_)
  · rcases hq _ _ q with ⟨x, f, e, -⟩ | ⟨E, k, e, -⟩ <;> cases e
  · rcases hq _ _ q with ⟨x, f, e, hf, -⟩ | ⟨E, k, e, -⟩
    · cases e
      refine x_i2l dL_layer_8 ?_
      refine x_astj dL_layer_9 hf (by decide) (by decide) (by decide) (by decide) ?_
      refine x_goto (tgt := 21) dL_layer_10 (by decide) ?_
      refine x_iconst dL_layer_21 ?_
      exact x_iret dL_layer_22 rfl (Or.inl ⟨x, f, _, q, hf, rfl, rfl⟩)
    · cases e
  · rcases hq _ _ q with ⟨x, f, e, -⟩ | ⟨E2, k, e, hk⟩
    · cases e
    · cases e
      match k, hk with
      | 0, hk =>
        cases hk
        refine XX.catch [] (0, 10, 13, 13) [(0, 10, 17, 15)] rfl (by decide) (fun _ h => absurd h List.not_mem_nil) ⟨by decide, by decide⟩ (by decide) wdL13 ?_
        refine x_astoreX (L' := [xR (0, 0, 0), xI p0, xI p1, xR (90, 0, 0), none]) dL_layer_13 (by decide) rfl ?_
        refine x_iconst dL_layer_15 ?_
        exact x_iret dL_layer_16 rfl (Or.inr ⟨_, 0, q, rfl, rfl⟩)
      | 1, hk =>
        cases hk
        refine XX.catch [(0, 10, 13, 13)] (0, 10, 17, 15) [] rfl (by decide) (List.forall_mem_cons.mpr ⟨⟨by decide, "java/lang/IndexOutOfBoundsException", by decide, wdL13, by decide⟩, (fun _ h => absurd h List.not_mem_nil)⟩) ⟨by decide, by decide⟩ (by decide) wdL15 ?_
        refine x_astoreX (L' := [xR (0, 0, 0), xI p0, xI p1, xR (90, 0, 0), none]) dL_layer_17 (by decide) rfl ?_
        refine x_iconst dL_layer_19 ?_
        exact x_iret dL_layer_20 rfl (Or.inr ⟨_, 1, q, rfl, rfl⟩)
      | k + 2, hk => exact absurd hk (by simp)
set_option maxHeartbeats 4000000 in
set_option maxRecDepth 100000 in
theorem w_knowing {h : XH} {fs : List XV} (h0 : h (0, 0, 0) = some (.inl (8, fs))) (p0 : Int) (a b : Nat) {Q1 : XO → XH → Prop} (hc : X mX8_knowing 0 (xEnt mX8_knowing [xR (0, 0, 0), xI p0]) [] h a b Q1) (hq : pWq false ["java/lang/IndexOutOfBoundsException"] Q1) : X mL_knowing 0 (xEnt mL_knowing [xR (0, 0, 0), xI p0, xR (90, 0, 0)]) [] h a b (pW ["java/lang/IndexOutOfBoundsException"] Q1) := by
  show X mL_knowing 0 [xR (0, 0, 0), xI p0, xR (90, 0, 0), none] [] h a b _
  refine x_aload_n dL_knowing_0 rfl ?_
  refine x_iconst dL_knowing_1 ?_
  refine x_aload_n dL_knowing_2 rfl ?_
  refine x_iload_n dL_knowing_3 rfl ?_
  refine x_callV a b (as := [xI p0]) (rest := [xI 0, xR (90, 0, 0)]) ok_X8_knowing dL_knowing_4 wd791 ⟨wd792, wd793⟩ h0 rfl rfl hc rfl (Nat.le_of_ble_eq_true rfl) (Nat.le_of_ble_eq_true rfl) (by decide) (Nat.le_refl _) (Nat.le_refl _) (fun h1 q => ?_) (fun v h1 q => ?_) (fun E h1 q => ?_)
  · rcases hq _ _ q with ⟨x, f, e, -⟩ | ⟨E, k, e, -⟩ <;> cases e
  · rcases hq _ _ q with ⟨x, f, e, hf, -⟩ | ⟨E, k, e, -⟩
    · cases e
      refine x_i2l dL_knowing_7 ?_
      refine x_astj dL_knowing_8 hf (by decide) (by decide) (by decide) (by decide) ?_
      refine x_goto (tgt := 15) dL_knowing_9 (by decide) ?_
      refine x_iconst dL_knowing_15 ?_
      exact x_iret dL_knowing_16 rfl (Or.inl ⟨x, f, _, q, hf, rfl, rfl⟩)
    · cases e
  · rcases hq _ _ q with ⟨x, f, e, -⟩ | ⟨E2, k, e, hk⟩
    · cases e
    · cases e
      match k, hk with
      | 0, hk =>
        cases hk
        refine XX.catch [] (0, 9, 12, 13) [] rfl (by decide) (fun _ h => absurd h List.not_mem_nil) ⟨by decide, by decide⟩ (by decide) wdL13 ?_
        refine x_astoreX_n (L' := [xR (0, 0, 0), xI p0, xR (90, 0, 0), none]) dL_knowing_12 (by decide) rfl ?_
        refine x_iconst dL_knowing_13 ?_
        exact x_iret dL_knowing_14 rfl (Or.inr ⟨_, 0, q, rfl, rfl⟩)
      | k + 1, hk => exact absurd hk (by simp)
set_option maxHeartbeats 4000000 in
set_option maxRecDepth 100000 in
theorem w_holds {h : XH} {fs : List XV} (h0 : h (0, 0, 0) = some (.inl (8, fs))) (p0 p1 p2 p3 : Int) (a b : Nat) {Q1 : XO → XH → Prop} (hc : X mX8_holds 0 (xEnt mX8_holds [xR (0, 0, 0), xI p0, xI p1, xI p2, xI p3]) [] h a b Q1) (hq : pWq true ["java/lang/IndexOutOfBoundsException", "java/lang/IllegalArgumentException"] Q1) : X mL_holds 0 (xEnt mL_holds [xR (0, 0, 0), xI p0, xI p1, xI p2, xI p3, xR (90, 0, 0)]) [] h a b (pW ["java/lang/IndexOutOfBoundsException", "java/lang/IllegalArgumentException"] Q1) := by
  show X mL_holds 0 [xR (0, 0, 0), xI p0, xI p1, xI p2, xI p3, xR (90, 0, 0), none] [] h a b _
  refine x_aload dL_holds_0 rfl ?_
  refine x_iconst dL_holds_2 ?_
  refine x_aload_n dL_holds_3 rfl ?_
  refine x_iload_n dL_holds_4 rfl ?_
  refine x_iload_n dL_holds_5 rfl ?_
  refine x_iload_n dL_holds_6 rfl ?_
  refine x_iload dL_holds_7 rfl ?_
  refine x_callV a b (as := [xI p0, xI p1, xI p2, xI p3]) (rest := [xI 0, xR (90, 0, 0)]) ok_X8_holds dL_holds_9 wd798 ⟨wd799, wd800⟩ h0 rfl rfl hc rfl (Nat.le_of_ble_eq_true rfl) (Nat.le_of_ble_eq_true rfl) (by decide) (Nat.le_refl _) (Nat.le_refl _) (fun h1 q => ?_) (fun v h1 q => ?_) (fun E h1 q => ?_)
  · rcases hq _ _ q with ⟨x, f, e, -⟩ | ⟨E, k, e, -⟩ <;> cases e
  · rcases hq _ _ q with ⟨x, f, e, hf, hx⟩ | ⟨E, k, e, -⟩
    · cases e
      rcases hx rfl with rfl | rfl
      · refine x_if_eq (tgt := 19) dL_holds_12 (by decide) ⟨by decide, by decide⟩ (fun _ => ?_) (fun z => absurd rfl z)
        refine x_lconst (v := 0) dL_holds_19 (by decide) ?_
        refine x_astj dL_holds_20 hf (by decide) (by decide) (by decide) (by decide) ?_
        refine x_goto (tgt := 32) dL_holds_21 (by decide) ?_
        refine x_iconst dL_holds_32 ?_
        exact x_iret dL_holds_33 rfl (Or.inl ⟨0, f, _, q, hf, rfl, congrArg (fun y => xUp h1 (90, 0, 0) (.inr (1, 1, .inr (.inl (xUpd f 0 y))))) (by decide)⟩)
      · refine x_if_eq (tgt := 19) dL_holds_12 (by decide) ⟨by decide, by decide⟩ (fun z => absurd z (by decide)) (fun _ => ?_)
        refine x_lconst (v := 1) dL_holds_15 (by decide) ?_
        refine x_goto (tgt := 20) dL_holds_16 (by decide) ?_
        refine x_astj dL_holds_20 hf (by decide) (by decide) (by decide) (by decide) ?_
        refine x_goto (tgt := 32) dL_holds_21 (by decide) ?_
        refine x_iconst dL_holds_32 ?_
        exact x_iret dL_holds_33 rfl (Or.inl ⟨1, f, _, q, hf, rfl, congrArg (fun y => xUp h1 (90, 0, 0) (.inr (1, 1, .inr (.inl (xUpd f 0 y))))) (by decide)⟩)
    · cases e
  · rcases hq _ _ q with ⟨x, f, e, -⟩ | ⟨E2, k, e, hk⟩
    · cases e
    · cases e
      match k, hk with
      | 0, hk =>
        cases hk
        refine XX.catch [] (0, 21, 24, 13) [(0, 21, 28, 15)] rfl (by decide) (fun _ h => absurd h List.not_mem_nil) ⟨by decide, by decide⟩ (by decide) wdL13 ?_
        refine x_astoreX (L' := [xR (0, 0, 0), xI p0, xI p1, xI p2, xI p3, xR (90, 0, 0), none]) dL_holds_24 (by decide) rfl ?_
        refine x_iconst dL_holds_26 ?_
        exact x_iret dL_holds_27 rfl (Or.inr ⟨_, 0, q, rfl, rfl⟩)
      | 1, hk =>
        cases hk
        refine XX.catch [(0, 21, 24, 13)] (0, 21, 28, 15) [] rfl (by decide) (List.forall_mem_cons.mpr ⟨⟨by decide, "java/lang/IndexOutOfBoundsException", by decide, wdL13, by decide⟩, (fun _ h => absurd h List.not_mem_nil)⟩) ⟨by decide, by decide⟩ (by decide) wdL15 ?_
        refine x_astoreX (L' := [xR (0, 0, 0), xI p0, xI p1, xI p2, xI p3, xR (90, 0, 0), none]) dL_holds_28 (by decide) rfl ?_
        refine x_iconst dL_holds_30 ?_
        exact x_iret dL_holds_31 rfl (Or.inr ⟨_, 1, q, rfl, rfl⟩)
      | k + 2, hk => exact absurd hk (by simp)
set_option maxHeartbeats 4000000 in
set_option maxRecDepth 100000 in
theorem w_holdsAnew {h : XH} {fs : List XV} (h0 : h (0, 0, 0) = some (.inl (8, fs))) (p0 p1 p2 p3 : Int) (a b : Nat) {Q1 : XO → XH → Prop} (hc : X mX8_holdsAnew 0 (xEnt mX8_holdsAnew [xR (0, 0, 0), xI p0, xI p1, xI p2, xI p3]) [] h a b Q1) (hq : pWq true ["java/lang/IndexOutOfBoundsException", "java/lang/IllegalArgumentException"] Q1) : X mL_holdsAnew 0 (xEnt mL_holdsAnew [xR (0, 0, 0), xI p0, xI p1, xI p2, xI p3, xR (90, 0, 0)]) [] h a b (pW ["java/lang/IndexOutOfBoundsException", "java/lang/IllegalArgumentException"] Q1) := by
  show X mL_holdsAnew 0 [xR (0, 0, 0), xI p0, xI p1, xI p2, xI p3, xR (90, 0, 0), none] [] h a b _
  refine x_aload dL_holdsAnew_0 rfl ?_
  refine x_iconst dL_holdsAnew_2 ?_
  refine x_aload_n dL_holdsAnew_3 rfl ?_
  refine x_iload_n dL_holdsAnew_4 rfl ?_
  refine x_iload_n dL_holdsAnew_5 rfl ?_
  refine x_iload_n dL_holdsAnew_6 rfl ?_
  refine x_iload dL_holdsAnew_7 rfl ?_
  refine x_callV a b (as := [xI p0, xI p1, xI p2, xI p3]) (rest := [xI 0, xR (90, 0, 0)]) ok_X8_holdsAnew dL_holdsAnew_9 wd816 ⟨wd817, wd818⟩ h0 rfl rfl hc rfl (Nat.le_of_ble_eq_true rfl) (Nat.le_of_ble_eq_true rfl) (by decide) (Nat.le_refl _) (Nat.le_refl _) (fun h1 q => ?_) (fun v h1 q => ?_) (fun E h1 q => ?_)
  · rcases hq _ _ q with ⟨x, f, e, -⟩ | ⟨E, k, e, -⟩ <;> cases e
  · rcases hq _ _ q with ⟨x, f, e, hf, hx⟩ | ⟨E, k, e, -⟩
    · cases e
      rcases hx rfl with rfl | rfl
      · refine x_if_eq (tgt := 19) dL_holdsAnew_12 (by decide) ⟨by decide, by decide⟩ (fun _ => ?_) (fun z => absurd rfl z)
        refine x_lconst (v := 0) dL_holdsAnew_19 (by decide) ?_
        refine x_astj dL_holdsAnew_20 hf (by decide) (by decide) (by decide) (by decide) ?_
        refine x_goto (tgt := 32) dL_holdsAnew_21 (by decide) ?_
        refine x_iconst dL_holdsAnew_32 ?_
        exact x_iret dL_holdsAnew_33 rfl (Or.inl ⟨0, f, _, q, hf, rfl, congrArg (fun y => xUp h1 (90, 0, 0) (.inr (1, 1, .inr (.inl (xUpd f 0 y))))) (by decide)⟩)
      · refine x_if_eq (tgt := 19) dL_holdsAnew_12 (by decide) ⟨by decide, by decide⟩ (fun z => absurd z (by decide)) (fun _ => ?_)
        refine x_lconst (v := 1) dL_holdsAnew_15 (by decide) ?_
        refine x_goto (tgt := 20) dL_holdsAnew_16 (by decide) ?_
        refine x_astj dL_holdsAnew_20 hf (by decide) (by decide) (by decide) (by decide) ?_
        refine x_goto (tgt := 32) dL_holdsAnew_21 (by decide) ?_
        refine x_iconst dL_holdsAnew_32 ?_
        exact x_iret dL_holdsAnew_33 rfl (Or.inl ⟨1, f, _, q, hf, rfl, congrArg (fun y => xUp h1 (90, 0, 0) (.inr (1, 1, .inr (.inl (xUpd f 0 y))))) (by decide)⟩)
    · cases e
  · rcases hq _ _ q with ⟨x, f, e, -⟩ | ⟨E2, k, e, hk⟩
    · cases e
    · cases e
      match k, hk with
      | 0, hk =>
        cases hk
        refine XX.catch [] (0, 21, 24, 13) [(0, 21, 28, 15)] rfl (by decide) (fun _ h => absurd h List.not_mem_nil) ⟨by decide, by decide⟩ (by decide) wdL13 ?_
        refine x_astoreX (L' := [xR (0, 0, 0), xI p0, xI p1, xI p2, xI p3, xR (90, 0, 0), none]) dL_holdsAnew_24 (by decide) rfl ?_
        refine x_iconst dL_holdsAnew_26 ?_
        exact x_iret dL_holdsAnew_27 rfl (Or.inr ⟨_, 0, q, rfl, rfl⟩)
      | 1, hk =>
        cases hk
        refine XX.catch [(0, 21, 24, 13)] (0, 21, 28, 15) [] rfl (by decide) (List.forall_mem_cons.mpr ⟨⟨by decide, "java/lang/IndexOutOfBoundsException", by decide, wdL13, by decide⟩, (fun _ h => absurd h List.not_mem_nil)⟩) ⟨by decide, by decide⟩ (by decide) wdL15 ?_
        refine x_astoreX (L' := [xR (0, 0, 0), xI p0, xI p1, xI p2, xI p3, xR (90, 0, 0), none]) dL_holdsAnew_28 (by decide) rfl ?_
        refine x_iconst dL_holdsAnew_30 ?_
        exact x_iret dL_holdsAnew_31 rfl (Or.inr ⟨_, 1, q, rfl, rfl⟩)
      | k + 2, hk => exact absurd hk (by simp)
set_option maxHeartbeats 4000000 in
set_option maxRecDepth 100000 in
theorem w_count {h : XH} {fs : List XV} (h0 : h (0, 0, 0) = some (.inl (8, fs))) (p0 p1 p2 p3 : Int) (a b : Nat) {Q1 : XO → XH → Prop} (hc : X mX8_count 0 (xEnt mX8_count [xR (0, 0, 0), xI p0, xI p1, xI p2, xI p3]) [] h a b Q1) (hq : pWq false ["java/lang/IndexOutOfBoundsException", "java/lang/IllegalArgumentException"] Q1) : X mL_count 0 (xEnt mL_count [xR (0, 0, 0), xI p0, xI p1, xI p2, xI p3, xR (90, 0, 0)]) [] h a b (pW ["java/lang/IndexOutOfBoundsException", "java/lang/IllegalArgumentException"] Q1) := by
  show X mL_count 0 [xR (0, 0, 0), xI p0, xI p1, xI p2, xI p3, xR (90, 0, 0), none] [] h a b _
  refine x_aload dL_count_0 rfl ?_
  refine x_iconst dL_count_2 ?_
  refine x_aload_n dL_count_3 rfl ?_
  refine x_iload_n dL_count_4 rfl ?_
  refine x_iload_n dL_count_5 rfl ?_
  refine x_iload_n dL_count_6 rfl ?_
  refine x_iload dL_count_7 rfl ?_
  refine x_callV a b (as := [xI p0, xI p1, xI p2, xI p3]) (rest := [xI 0, xR (90, 0, 0)]) ok_X8_count dL_count_9 wd823 ⟨wd824, wd825⟩ h0 rfl rfl hc rfl (Nat.le_of_ble_eq_true rfl) (Nat.le_of_ble_eq_true rfl) (by decide) (Nat.le_refl _) (Nat.le_refl _) (fun h1 q => ?_) (fun v h1 q => ?_) (fun E h1 q => ?_)
  · rcases hq _ _ q with ⟨x, f, e, -⟩ | ⟨E, k, e, -⟩ <;> cases e
  · rcases hq _ _ q with ⟨x, f, e, hf, -⟩ | ⟨E, k, e, -⟩
    · cases e
      refine x_i2l dL_count_12 ?_
      refine x_astj dL_count_13 hf (by decide) (by decide) (by decide) (by decide) ?_
      refine x_goto (tgt := 25) dL_count_14 (by decide) ?_
      refine x_iconst dL_count_25 ?_
      exact x_iret dL_count_26 rfl (Or.inl ⟨x, f, _, q, hf, rfl, rfl⟩)
    · cases e
  · rcases hq _ _ q with ⟨x, f, e, -⟩ | ⟨E2, k, e, hk⟩
    · cases e
    · cases e
      match k, hk with
      | 0, hk =>
        cases hk
        refine XX.catch [] (0, 14, 17, 13) [(0, 14, 21, 15)] rfl (by decide) (fun _ h => absurd h List.not_mem_nil) ⟨by decide, by decide⟩ (by decide) wdL13 ?_
        refine x_astoreX (L' := [xR (0, 0, 0), xI p0, xI p1, xI p2, xI p3, xR (90, 0, 0), none]) dL_count_17 (by decide) rfl ?_
        refine x_iconst dL_count_19 ?_
        exact x_iret dL_count_20 rfl (Or.inr ⟨_, 0, q, rfl, rfl⟩)
      | 1, hk =>
        cases hk
        refine XX.catch [(0, 14, 17, 13)] (0, 14, 21, 15) [] rfl (by decide) (List.forall_mem_cons.mpr ⟨⟨by decide, "java/lang/IndexOutOfBoundsException", by decide, wdL13, by decide⟩, (fun _ h => absurd h List.not_mem_nil)⟩) ⟨by decide, by decide⟩ (by decide) wdL15 ?_
        refine x_astoreX (L' := [xR (0, 0, 0), xI p0, xI p1, xI p2, xI p3, xR (90, 0, 0), none]) dL_count_21 (by decide) rfl ?_
        refine x_iconst dL_count_23 ?_
        exact x_iret dL_count_24 rfl (Or.inr ⟨_, 1, q, rfl, rfl⟩)
      | k + 2, hk => exact absurd hk (by simp)
set_option maxHeartbeats 4000000 in
set_option maxRecDepth 100000 in
theorem w_spanFrom {h : XH} {fs : List XV} (h0 : h (0, 0, 0) = some (.inl (8, fs))) (p0 p1 p2 p3 : Int) (a b : Nat) {Q1 : XO → XH → Prop} (hc : X mX8_spanFrom 0 (xEnt mX8_spanFrom [xR (0, 0, 0), xI p0, xI p1, xI p2, xI p3]) [] h a b Q1) (hq : pWq false ["java/lang/IndexOutOfBoundsException", "java/lang/IllegalArgumentException", "java/util/NoSuchElementException"] Q1) : X mL_spanFrom 0 (xEnt mL_spanFrom [xR (0, 0, 0), xI p0, xI p1, xI p2, xI p3, xR (90, 0, 0)]) [] h a b (pW ["java/lang/IndexOutOfBoundsException", "java/lang/IllegalArgumentException", "java/util/NoSuchElementException"] Q1) := by
  show X mL_spanFrom 0 [xR (0, 0, 0), xI p0, xI p1, xI p2, xI p3, xR (90, 0, 0), none] [] h a b _
  refine x_aload dL_spanFrom_0 rfl ?_
  refine x_iconst dL_spanFrom_2 ?_
  refine x_aload_n dL_spanFrom_3 rfl ?_
  refine x_iload_n dL_spanFrom_4 rfl ?_
  refine x_iload_n dL_spanFrom_5 rfl ?_
  refine x_iload_n dL_spanFrom_6 rfl ?_
  refine x_iload dL_spanFrom_7 rfl ?_
  refine x_callV a b (as := [xI p0, xI p1, xI p2, xI p3]) (rest := [xI 0, xR (90, 0, 0)]) ok_X8_spanFrom dL_spanFrom_9 wd832 ⟨wd833, wd834⟩ h0 rfl rfl hc rfl (Nat.le_of_ble_eq_true rfl) (Nat.le_of_ble_eq_true rfl) (by decide) (Nat.le_refl _) (Nat.le_refl _) (fun h1 q => ?_) (fun v h1 q => ?_) (fun E h1 q => ?_)
  · rcases hq _ _ q with ⟨x, f, e, -⟩ | ⟨E, k, e, -⟩ <;> cases e
  · rcases hq _ _ q with ⟨x, f, e, hf, -⟩ | ⟨E, k, e, -⟩
    · cases e
      refine x_i2l dL_spanFrom_12 ?_
      refine x_astj dL_spanFrom_13 hf (by decide) (by decide) (by decide) (by decide) ?_
      refine x_goto (tgt := 29) dL_spanFrom_14 (by decide) ?_
      refine x_iconst dL_spanFrom_29 ?_
      exact x_iret dL_spanFrom_30 rfl (Or.inl ⟨x, f, _, q, hf, rfl, rfl⟩)
    · cases e
  · rcases hq _ _ q with ⟨x, f, e, -⟩ | ⟨E2, k, e, hk⟩
    · cases e
    · cases e
      match k, hk with
      | 0, hk =>
        cases hk
        refine XX.catch [] (0, 14, 17, 13) [(0, 14, 21, 15), (0, 14, 25, 65)] rfl (by decide) (fun _ h => absurd h List.not_mem_nil) ⟨by decide, by decide⟩ (by decide) wdL13 ?_
        refine x_astoreX (L' := [xR (0, 0, 0), xI p0, xI p1, xI p2, xI p3, xR (90, 0, 0), none]) dL_spanFrom_17 (by decide) rfl ?_
        refine x_iconst dL_spanFrom_19 ?_
        exact x_iret dL_spanFrom_20 rfl (Or.inr ⟨_, 0, q, rfl, rfl⟩)
      | 1, hk =>
        cases hk
        refine XX.catch [(0, 14, 17, 13)] (0, 14, 21, 15) [(0, 14, 25, 65)] rfl (by decide) (List.forall_mem_cons.mpr ⟨⟨by decide, "java/lang/IndexOutOfBoundsException", by decide, wdL13, by decide⟩, (fun _ h => absurd h List.not_mem_nil)⟩) ⟨by decide, by decide⟩ (by decide) wdL15 ?_
        refine x_astoreX (L' := [xR (0, 0, 0), xI p0, xI p1, xI p2, xI p3, xR (90, 0, 0), none]) dL_spanFrom_21 (by decide) rfl ?_
        refine x_iconst dL_spanFrom_23 ?_
        exact x_iret dL_spanFrom_24 rfl (Or.inr ⟨_, 1, q, rfl, rfl⟩)
      | 2, hk =>
        cases hk
        refine XX.catch [(0, 14, 17, 13), (0, 14, 21, 15)] (0, 14, 25, 65) [] rfl (by decide) (List.forall_mem_cons.mpr ⟨⟨by decide, "java/lang/IndexOutOfBoundsException", by decide, wdL13, by decide⟩, (List.forall_mem_cons.mpr ⟨⟨by decide, "java/lang/IllegalArgumentException", by decide, wdL15, by decide⟩, (fun _ h => absurd h List.not_mem_nil)⟩)⟩) ⟨by decide, by decide⟩ (by decide) wdL65 ?_
        refine x_astoreX (L' := [xR (0, 0, 0), xI p0, xI p1, xI p2, xI p3, xR (90, 0, 0), none]) dL_spanFrom_25 (by decide) rfl ?_
        refine x_iconst dL_spanFrom_27 ?_
        exact x_iret dL_spanFrom_28 rfl (Or.inr ⟨_, 2, q, rfl, rfl⟩)
      | k + 3, hk => exact absurd hk (by simp)
set_option maxHeartbeats 4000000 in
set_option maxRecDepth 100000 in
theorem w_spanTo {h : XH} {fs : List XV} (h0 : h (0, 0, 0) = some (.inl (8, fs))) (p0 p1 p2 p3 : Int) (a b : Nat) {Q1 : XO → XH → Prop} (hc : X mX8_spanTo 0 (xEnt mX8_spanTo [xR (0, 0, 0), xI p0, xI p1, xI p2, xI p3]) [] h a b Q1) (hq : pWq false ["java/lang/IndexOutOfBoundsException", "java/lang/IllegalArgumentException", "java/util/NoSuchElementException"] Q1) : X mL_spanTo 0 (xEnt mL_spanTo [xR (0, 0, 0), xI p0, xI p1, xI p2, xI p3, xR (90, 0, 0)]) [] h a b (pW ["java/lang/IndexOutOfBoundsException", "java/lang/IllegalArgumentException", "java/util/NoSuchElementException"] Q1) := by
  show X mL_spanTo 0 [xR (0, 0, 0), xI p0, xI p1, xI p2, xI p3, xR (90, 0, 0), none] [] h a b _
  refine x_aload dL_spanTo_0 rfl ?_
  refine x_iconst dL_spanTo_2 ?_
  refine x_aload_n dL_spanTo_3 rfl ?_
  refine x_iload_n dL_spanTo_4 rfl ?_
  refine x_iload_n dL_spanTo_5 rfl ?_
  refine x_iload_n dL_spanTo_6 rfl ?_
  refine x_iload dL_spanTo_7 rfl ?_
  refine x_callV a b (as := [xI p0, xI p1, xI p2, xI p3]) (rest := [xI 0, xR (90, 0, 0)]) ok_X8_spanTo dL_spanTo_9 wd858 ⟨wd859, wd860⟩ h0 rfl rfl hc rfl (Nat.le_of_ble_eq_true rfl) (Nat.le_of_ble_eq_true rfl) (by decide) (Nat.le_refl _) (Nat.le_refl _) (fun h1 q => ?_) (fun v h1 q => ?_) (fun E h1 q => ?_)
  · rcases hq _ _ q with ⟨x, f, e, -⟩ | ⟨E, k, e, -⟩ <;> cases e
  · rcases hq _ _ q with ⟨x, f, e, hf, -⟩ | ⟨E, k, e, -⟩
    · cases e
      refine x_i2l dL_spanTo_12 ?_
      refine x_astj dL_spanTo_13 hf (by decide) (by decide) (by decide) (by decide) ?_
      refine x_goto (tgt := 29) dL_spanTo_14 (by decide) ?_
      refine x_iconst dL_spanTo_29 ?_
      exact x_iret dL_spanTo_30 rfl (Or.inl ⟨x, f, _, q, hf, rfl, rfl⟩)
    · cases e
  · rcases hq _ _ q with ⟨x, f, e, -⟩ | ⟨E2, k, e, hk⟩
    · cases e
    · cases e
      match k, hk with
      | 0, hk =>
        cases hk
        refine XX.catch [] (0, 14, 17, 13) [(0, 14, 21, 15), (0, 14, 25, 65)] rfl (by decide) (fun _ h => absurd h List.not_mem_nil) ⟨by decide, by decide⟩ (by decide) wdL13 ?_
        refine x_astoreX (L' := [xR (0, 0, 0), xI p0, xI p1, xI p2, xI p3, xR (90, 0, 0), none]) dL_spanTo_17 (by decide) rfl ?_
        refine x_iconst dL_spanTo_19 ?_
        exact x_iret dL_spanTo_20 rfl (Or.inr ⟨_, 0, q, rfl, rfl⟩)
      | 1, hk =>
        cases hk
        refine XX.catch [(0, 14, 17, 13)] (0, 14, 21, 15) [(0, 14, 25, 65)] rfl (by decide) (List.forall_mem_cons.mpr ⟨⟨by decide, "java/lang/IndexOutOfBoundsException", by decide, wdL13, by decide⟩, (fun _ h => absurd h List.not_mem_nil)⟩) ⟨by decide, by decide⟩ (by decide) wdL15 ?_
        refine x_astoreX (L' := [xR (0, 0, 0), xI p0, xI p1, xI p2, xI p3, xR (90, 0, 0), none]) dL_spanTo_21 (by decide) rfl ?_
        refine x_iconst dL_spanTo_23 ?_
        exact x_iret dL_spanTo_24 rfl (Or.inr ⟨_, 1, q, rfl, rfl⟩)
      | 2, hk =>
        cases hk
        refine XX.catch [(0, 14, 17, 13), (0, 14, 21, 15)] (0, 14, 25, 65) [] rfl (by decide) (List.forall_mem_cons.mpr ⟨⟨by decide, "java/lang/IndexOutOfBoundsException", by decide, wdL13, by decide⟩, (List.forall_mem_cons.mpr ⟨⟨by decide, "java/lang/IllegalArgumentException", by decide, wdL15, by decide⟩, (fun _ h => absurd h List.not_mem_nil)⟩)⟩) ⟨by decide, by decide⟩ (by decide) wdL65 ?_
        refine x_astoreX (L' := [xR (0, 0, 0), xI p0, xI p1, xI p2, xI p3, xR (90, 0, 0), none]) dL_spanTo_25 (by decide) rfl ?_
        refine x_iconst dL_spanTo_27 ?_
        exact x_iret dL_spanTo_28 rfl (Or.inr ⟨_, 2, q, rfl, rfl⟩)
      | k + 3, hk => exact absurd hk (by simp)
set_option maxHeartbeats 4000000 in
set_option maxRecDepth 100000 in
theorem w_since {h : XH} {fs : List XV} (h0 : h (0, 0, 0) = some (.inl (8, fs))) (p0 p1 p2 : Int) (a b : Nat) {Q1 : XO → XH → Prop} (hc : X mX8_since 0 (xEnt mX8_since [xR (0, 0, 0), xI p0, xI p1, xI p2]) [] h a b Q1) (hq : pWq false ["java/lang/IndexOutOfBoundsException", "java/lang/IllegalArgumentException"] Q1) : X mL_since 0 (xEnt mL_since [xR (0, 0, 0), xI p0, xI p1, xI p2, xR (90, 0, 0)]) [] h a b (pW ["java/lang/IndexOutOfBoundsException", "java/lang/IllegalArgumentException"] Q1) := by
  show X mL_since 0 [xR (0, 0, 0), xI p0, xI p1, xI p2, xR (90, 0, 0), none] [] h a b _
  refine x_aload dL_since_0 rfl ?_
  refine x_iconst dL_since_2 ?_
  refine x_aload_n dL_since_3 rfl ?_
  refine x_iload_n dL_since_4 rfl ?_
  refine x_iload_n dL_since_5 rfl ?_
  refine x_iload_n dL_since_6 rfl ?_
  refine x_callV a b (as := [xI p0, xI p1, xI p2]) (rest := [xI 0, xR (90, 0, 0)]) ok_X8_since dL_since_7 wd865 ⟨wd866, wd867⟩ h0 rfl rfl hc rfl (Nat.le_of_ble_eq_true rfl) (Nat.le_of_ble_eq_true rfl) (by decide) (Nat.le_refl _) (Nat.le_refl _) (fun h1 q => ?_) (fun v h1 q => ?_) (fun E h1 q => ?_)
  · rcases hq _ _ q with ⟨x, f, e, -⟩ | ⟨E, k, e, -⟩ <;> cases e
  · rcases hq _ _ q with ⟨x, f, e, hf, -⟩ | ⟨E, k, e, -⟩
    · cases e
      refine x_i2l dL_since_10 ?_
      refine x_astj dL_since_11 hf (by decide) (by decide) (by decide) (by decide) ?_
      refine x_goto (tgt := 23) dL_since_12 (by decide) ?_
      refine x_iconst dL_since_23 ?_
      exact x_iret dL_since_24 rfl (Or.inl ⟨x, f, _, q, hf, rfl, rfl⟩)
    · cases e
  · rcases hq _ _ q with ⟨x, f, e, -⟩ | ⟨E2, k, e, hk⟩
    · cases e
    · cases e
      match k, hk with
      | 0, hk =>
        cases hk
        refine XX.catch [] (0, 12, 15, 13) [(0, 12, 19, 15)] rfl (by decide) (fun _ h => absurd h List.not_mem_nil) ⟨by decide, by decide⟩ (by decide) wdL13 ?_
        refine x_astoreX (L' := [xR (0, 0, 0), xI p0, xI p1, xI p2, xR (90, 0, 0), none]) dL_since_15 (by decide) rfl ?_
        refine x_iconst dL_since_17 ?_
        exact x_iret dL_since_18 rfl (Or.inr ⟨_, 0, q, rfl, rfl⟩)
      | 1, hk =>
        cases hk
        refine XX.catch [(0, 12, 15, 13)] (0, 12, 19, 15) [] rfl (by decide) (List.forall_mem_cons.mpr ⟨⟨by decide, "java/lang/IndexOutOfBoundsException", by decide, wdL13, by decide⟩, (fun _ h => absurd h List.not_mem_nil)⟩) ⟨by decide, by decide⟩ (by decide) wdL15 ?_
        refine x_astoreX (L' := [xR (0, 0, 0), xI p0, xI p1, xI p2, xR (90, 0, 0), none]) dL_since_19 (by decide) rfl ?_
        refine x_iconst dL_since_21 ?_
        exact x_iret dL_since_22 rfl (Or.inr ⟨_, 1, q, rfl, rfl⟩)
      | k + 2, hk => exact absurd hk (by simp)
set_option maxHeartbeats 4000000 in
set_option maxRecDepth 100000 in
theorem w_rank {h : XH} {fs : List XV} (h0 : h (0, 0, 0) = some (.inl (8, fs))) (p0 p1 p2 p3 : Int) (a b : Nat) {Q1 : XO → XH → Prop} (hc : X mX8_rank 0 (xEnt mX8_rank [xR (0, 0, 0), xI p0, xI p1, xI p2, xI p3]) [] h a b Q1) (hq : pWq false ["java/lang/IndexOutOfBoundsException", "java/lang/IllegalArgumentException", "java/util/NoSuchElementException"] Q1) : X mL_rank 0 (xEnt mL_rank [xR (0, 0, 0), xI p0, xI p1, xI p2, xI p3, xR (90, 0, 0)]) [] h a b (pW ["java/lang/IndexOutOfBoundsException", "java/lang/IllegalArgumentException", "java/util/NoSuchElementException"] Q1) := by
  show X mL_rank 0 [xR (0, 0, 0), xI p0, xI p1, xI p2, xI p3, xR (90, 0, 0), none] [] h a b _
  refine x_aload dL_rank_0 rfl ?_
  refine x_iconst dL_rank_2 ?_
  refine x_aload_n dL_rank_3 rfl ?_
  refine x_iload_n dL_rank_4 rfl ?_
  refine x_iload_n dL_rank_5 rfl ?_
  refine x_iload_n dL_rank_6 rfl ?_
  refine x_iload dL_rank_7 rfl ?_
  refine x_callV a b (as := [xI p0, xI p1, xI p2, xI p3]) (rest := [xI 0, xR (90, 0, 0)]) ok_X8_rank dL_rank_9 wd872 ⟨wd873, wd874⟩ h0 rfl rfl hc rfl (Nat.le_of_ble_eq_true rfl) (Nat.le_of_ble_eq_true rfl) (by decide) (Nat.le_refl _) (Nat.le_refl _) (fun h1 q => ?_) (fun v h1 q => ?_) (fun E h1 q => ?_)
  · rcases hq _ _ q with ⟨x, f, e, -⟩ | ⟨E, k, e, -⟩ <;> cases e
  · rcases hq _ _ q with ⟨x, f, e, hf, -⟩ | ⟨E, k, e, -⟩
    · cases e
      refine x_i2l dL_rank_12 ?_
      refine x_astj dL_rank_13 hf (by decide) (by decide) (by decide) (by decide) ?_
      refine x_goto (tgt := 29) dL_rank_14 (by decide) ?_
      refine x_iconst dL_rank_29 ?_
      exact x_iret dL_rank_30 rfl (Or.inl ⟨x, f, _, q, hf, rfl, rfl⟩)
    · cases e
  · rcases hq _ _ q with ⟨x, f, e, -⟩ | ⟨E2, k, e, hk⟩
    · cases e
    · cases e
      match k, hk with
      | 0, hk =>
        cases hk
        refine XX.catch [] (0, 14, 17, 13) [(0, 14, 21, 15), (0, 14, 25, 65)] rfl (by decide) (fun _ h => absurd h List.not_mem_nil) ⟨by decide, by decide⟩ (by decide) wdL13 ?_
        refine x_astoreX (L' := [xR (0, 0, 0), xI p0, xI p1, xI p2, xI p3, xR (90, 0, 0), none]) dL_rank_17 (by decide) rfl ?_
        refine x_iconst dL_rank_19 ?_
        exact x_iret dL_rank_20 rfl (Or.inr ⟨_, 0, q, rfl, rfl⟩)
      | 1, hk =>
        cases hk
        refine XX.catch [(0, 14, 17, 13)] (0, 14, 21, 15) [(0, 14, 25, 65)] rfl (by decide) (List.forall_mem_cons.mpr ⟨⟨by decide, "java/lang/IndexOutOfBoundsException", by decide, wdL13, by decide⟩, (fun _ h => absurd h List.not_mem_nil)⟩) ⟨by decide, by decide⟩ (by decide) wdL15 ?_
        refine x_astoreX (L' := [xR (0, 0, 0), xI p0, xI p1, xI p2, xI p3, xR (90, 0, 0), none]) dL_rank_21 (by decide) rfl ?_
        refine x_iconst dL_rank_23 ?_
        exact x_iret dL_rank_24 rfl (Or.inr ⟨_, 1, q, rfl, rfl⟩)
      | 2, hk =>
        cases hk
        refine XX.catch [(0, 14, 17, 13), (0, 14, 21, 15)] (0, 14, 25, 65) [] rfl (by decide) (List.forall_mem_cons.mpr ⟨⟨by decide, "java/lang/IndexOutOfBoundsException", by decide, wdL13, by decide⟩, (List.forall_mem_cons.mpr ⟨⟨by decide, "java/lang/IllegalArgumentException", by decide, wdL15, by decide⟩, (fun _ h => absurd h List.not_mem_nil)⟩)⟩) ⟨by decide, by decide⟩ (by decide) wdL65 ?_
        refine x_astoreX (L' := [xR (0, 0, 0), xI p0, xI p1, xI p2, xI p3, xR (90, 0, 0), none]) dL_rank_25 (by decide) rfl ?_
        refine x_iconst dL_rank_27 ?_
        exact x_iret dL_rank_28 rfl (Or.inr ⟨_, 2, q, rfl, rfl⟩)
      | k + 3, hk => exact absurd hk (by simp)
set_option maxHeartbeats 4000000 in
set_option maxRecDepth 100000 in
theorem w_reason {h : XH} {fs : List XV} (h0 : h (0, 0, 0) = some (.inl (8, fs))) (p0 p1 p2 p3 : Int) (a b : Nat) {Q1 : XO → XH → Prop} (hc : X mX8_reason 0 (xEnt mX8_reason [xR (0, 0, 0), xI p0, xI p1, xI p2, xI p3]) [] h a b Q1) (hq : pWq false ["java/lang/IndexOutOfBoundsException", "java/lang/IllegalArgumentException", "java/util/NoSuchElementException"] Q1) : X mL_reason 0 (xEnt mL_reason [xR (0, 0, 0), xI p0, xI p1, xI p2, xI p3, xR (90, 0, 0)]) [] h a b (pW ["java/lang/IndexOutOfBoundsException", "java/lang/IllegalArgumentException", "java/util/NoSuchElementException"] Q1) := by
  show X mL_reason 0 [xR (0, 0, 0), xI p0, xI p1, xI p2, xI p3, xR (90, 0, 0), none] [] h a b _
  refine x_aload dL_reason_0 rfl ?_
  refine x_iconst dL_reason_2 ?_
  refine x_aload_n dL_reason_3 rfl ?_
  refine x_iload_n dL_reason_4 rfl ?_
  refine x_iload_n dL_reason_5 rfl ?_
  refine x_iload_n dL_reason_6 rfl ?_
  refine x_iload dL_reason_7 rfl ?_
  refine x_callV a b (as := [xI p0, xI p1, xI p2, xI p3]) (rest := [xI 0, xR (90, 0, 0)]) ok_X8_reason dL_reason_9 wd914 ⟨wd915, wd916⟩ h0 rfl rfl hc rfl (Nat.le_of_ble_eq_true rfl) (Nat.le_of_ble_eq_true rfl) (by decide) (Nat.le_refl _) (Nat.le_refl _) (fun h1 q => ?_) (fun v h1 q => ?_) (fun E h1 q => ?_)
  · rcases hq _ _ q with ⟨x, f, e, -⟩ | ⟨E, k, e, -⟩ <;> cases e
  · rcases hq _ _ q with ⟨x, f, e, hf, -⟩ | ⟨E, k, e, -⟩
    · cases e
      refine x_i2l dL_reason_12 ?_
      refine x_astj dL_reason_13 hf (by decide) (by decide) (by decide) (by decide) ?_
      refine x_goto (tgt := 29) dL_reason_14 (by decide) ?_
      refine x_iconst dL_reason_29 ?_
      exact x_iret dL_reason_30 rfl (Or.inl ⟨x, f, _, q, hf, rfl, rfl⟩)
    · cases e
  · rcases hq _ _ q with ⟨x, f, e, -⟩ | ⟨E2, k, e, hk⟩
    · cases e
    · cases e
      match k, hk with
      | 0, hk =>
        cases hk
        refine XX.catch [] (0, 14, 17, 13) [(0, 14, 21, 15), (0, 14, 25, 65)] rfl (by decide) (fun _ h => absurd h List.not_mem_nil) ⟨by decide, by decide⟩ (by decide) wdL13 ?_
        refine x_astoreX (L' := [xR (0, 0, 0), xI p0, xI p1, xI p2, xI p3, xR (90, 0, 0), none]) dL_reason_17 (by decide) rfl ?_
        refine x_iconst dL_reason_19 ?_
        exact x_iret dL_reason_20 rfl (Or.inr ⟨_, 0, q, rfl, rfl⟩)
      | 1, hk =>
        cases hk
        refine XX.catch [(0, 14, 17, 13)] (0, 14, 21, 15) [(0, 14, 25, 65)] rfl (by decide) (List.forall_mem_cons.mpr ⟨⟨by decide, "java/lang/IndexOutOfBoundsException", by decide, wdL13, by decide⟩, (fun _ h => absurd h List.not_mem_nil)⟩) ⟨by decide, by decide⟩ (by decide) wdL15 ?_
        refine x_astoreX (L' := [xR (0, 0, 0), xI p0, xI p1, xI p2, xI p3, xR (90, 0, 0), none]) dL_reason_21 (by decide) rfl ?_
        refine x_iconst dL_reason_23 ?_
        exact x_iret dL_reason_24 rfl (Or.inr ⟨_, 1, q, rfl, rfl⟩)
      | 2, hk =>
        cases hk
        refine XX.catch [(0, 14, 17, 13), (0, 14, 21, 15)] (0, 14, 25, 65) [] rfl (by decide) (List.forall_mem_cons.mpr ⟨⟨by decide, "java/lang/IndexOutOfBoundsException", by decide, wdL13, by decide⟩, (List.forall_mem_cons.mpr ⟨⟨by decide, "java/lang/IllegalArgumentException", by decide, wdL15, by decide⟩, (fun _ h => absurd h List.not_mem_nil)⟩)⟩) ⟨by decide, by decide⟩ (by decide) wdL65 ?_
        refine x_astoreX (L' := [xR (0, 0, 0), xI p0, xI p1, xI p2, xI p3, xR (90, 0, 0), none]) dL_reason_25 (by decide) rfl ?_
        refine x_iconst dL_reason_27 ?_
        exact x_iret dL_reason_28 rfl (Or.inr ⟨_, 2, q, rfl, rfl⟩)
      | k + 3, hk => exact absurd hk (by simp)
set_option maxHeartbeats 4000000 in
set_option maxRecDepth 100000 in
theorem w_reasonFact {h : XH} {fs : List XV} (h0 : h (0, 0, 0) = some (.inl (8, fs))) (p0 p1 p2 p3 p4 : Int) (a b : Nat) {Q1 : XO → XH → Prop} (hc : X mX8_reasonFact 0 (xEnt mX8_reasonFact [xR (0, 0, 0), xI p0, xI p1, xI p2, xI p3, xI p4]) [] h a b Q1) (hq : pWq false ["java/lang/IndexOutOfBoundsException", "java/lang/IllegalArgumentException", "java/util/NoSuchElementException"] Q1) : X mL_reasonFact 0 (xEnt mL_reasonFact [xR (0, 0, 0), xI p0, xI p1, xI p2, xI p3, xI p4, xR (90, 0, 0)]) [] h a b (pW ["java/lang/IndexOutOfBoundsException", "java/lang/IllegalArgumentException", "java/util/NoSuchElementException"] Q1) := by
  show X mL_reasonFact 0 [xR (0, 0, 0), xI p0, xI p1, xI p2, xI p3, xI p4, xR (90, 0, 0), none] [] h a b _
  refine x_aload dL_reasonFact_0 rfl ?_
  refine x_iconst dL_reasonFact_2 ?_
  refine x_aload_n dL_reasonFact_3 rfl ?_
  refine x_iload_n dL_reasonFact_4 rfl ?_
  refine x_iload_n dL_reasonFact_5 rfl ?_
  refine x_iload_n dL_reasonFact_6 rfl ?_
  refine x_iload dL_reasonFact_7 rfl ?_
  refine x_iload dL_reasonFact_9 rfl ?_
  refine x_callV a b (as := [xI p0, xI p1, xI p2, xI p3, xI p4]) (rest := [xI 0, xR (90, 0, 0)]) ok_X8_reasonFact dL_reasonFact_11 wd925 ⟨wd926, wd927⟩ h0 rfl rfl hc rfl (Nat.le_of_ble_eq_true rfl) (Nat.le_of_ble_eq_true rfl) (by decide) (Nat.le_refl _) (Nat.le_refl _) (fun h1 q => ?_) (fun v h1 q => ?_) (fun E h1 q => ?_)
  · rcases hq _ _ q with ⟨x, f, e, -⟩ | ⟨E, k, e, -⟩ <;> cases e
  · rcases hq _ _ q with ⟨x, f, e, hf, -⟩ | ⟨E, k, e, -⟩
    · cases e
      refine x_i2l dL_reasonFact_14 ?_
      refine x_astj dL_reasonFact_15 hf (by decide) (by decide) (by decide) (by decide) ?_
      refine x_goto (tgt := 31) dL_reasonFact_16 (by decide) ?_
      refine x_iconst dL_reasonFact_31 ?_
      exact x_iret dL_reasonFact_32 rfl (Or.inl ⟨x, f, _, q, hf, rfl, rfl⟩)
    · cases e
  · rcases hq _ _ q with ⟨x, f, e, -⟩ | ⟨E2, k, e, hk⟩
    · cases e
    · cases e
      match k, hk with
      | 0, hk =>
        cases hk
        refine XX.catch [] (0, 16, 19, 13) [(0, 16, 23, 15), (0, 16, 27, 65)] rfl (by decide) (fun _ h => absurd h List.not_mem_nil) ⟨by decide, by decide⟩ (by decide) wdL13 ?_
        refine x_astoreX (L' := [xR (0, 0, 0), xI p0, xI p1, xI p2, xI p3, xI p4, xR (90, 0, 0), none]) dL_reasonFact_19 (by decide) rfl ?_
        refine x_iconst dL_reasonFact_21 ?_
        exact x_iret dL_reasonFact_22 rfl (Or.inr ⟨_, 0, q, rfl, rfl⟩)
      | 1, hk =>
        cases hk
        refine XX.catch [(0, 16, 19, 13)] (0, 16, 23, 15) [(0, 16, 27, 65)] rfl (by decide) (List.forall_mem_cons.mpr ⟨⟨by decide, "java/lang/IndexOutOfBoundsException", by decide, wdL13, by decide⟩, (fun _ h => absurd h List.not_mem_nil)⟩) ⟨by decide, by decide⟩ (by decide) wdL15 ?_
        refine x_astoreX (L' := [xR (0, 0, 0), xI p0, xI p1, xI p2, xI p3, xI p4, xR (90, 0, 0), none]) dL_reasonFact_23 (by decide) rfl ?_
        refine x_iconst dL_reasonFact_25 ?_
        exact x_iret dL_reasonFact_26 rfl (Or.inr ⟨_, 1, q, rfl, rfl⟩)
      | 2, hk =>
        cases hk
        refine XX.catch [(0, 16, 19, 13), (0, 16, 23, 15)] (0, 16, 27, 65) [] rfl (by decide) (List.forall_mem_cons.mpr ⟨⟨by decide, "java/lang/IndexOutOfBoundsException", by decide, wdL13, by decide⟩, (List.forall_mem_cons.mpr ⟨⟨by decide, "java/lang/IllegalArgumentException", by decide, wdL15, by decide⟩, (fun _ h => absurd h List.not_mem_nil)⟩)⟩) ⟨by decide, by decide⟩ (by decide) wdL65 ?_
        refine x_astoreX (L' := [xR (0, 0, 0), xI p0, xI p1, xI p2, xI p3, xI p4, xR (90, 0, 0), none]) dL_reasonFact_27 (by decide) rfl ?_
        refine x_iconst dL_reasonFact_29 ?_
        exact x_iret dL_reasonFact_30 rfl (Or.inr ⟨_, 2, q, rfl, rfl⟩)
      | k + 3, hk => exact absurd hk (by simp)
set_option maxHeartbeats 4000000 in
set_option maxRecDepth 100000 in
theorem w_proof {h : XH} {fs : List XV} (h0 : h (0, 0, 0) = some (.inl (8, fs))) (p0 p1 p2 p3 : Int) (a b : Nat) {Q1 : XO → XH → Prop} (hc : X mX8_proof 0 (xEnt mX8_proof [xR (0, 0, 0), xI p0, xI p1, xI p2, xI p3]) [] h a b Q1) (hq : pWq false ["java/lang/IndexOutOfBoundsException", "java/lang/IllegalArgumentException", "java/util/NoSuchElementException"] Q1) : X mL_proof 0 (xEnt mL_proof [xR (0, 0, 0), xI p0, xI p1, xI p2, xI p3, xR (90, 0, 0)]) [] h a b (pW ["java/lang/IndexOutOfBoundsException", "java/lang/IllegalArgumentException", "java/util/NoSuchElementException"] Q1) := by
  show X mL_proof 0 [xR (0, 0, 0), xI p0, xI p1, xI p2, xI p3, xR (90, 0, 0), none] [] h a b _
  refine x_aload dL_proof_0 rfl ?_
  refine x_iconst dL_proof_2 ?_
  refine x_aload_n dL_proof_3 rfl ?_
  refine x_iload_n dL_proof_4 rfl ?_
  refine x_iload_n dL_proof_5 rfl ?_
  refine x_iload_n dL_proof_6 rfl ?_
  refine x_iload dL_proof_7 rfl ?_
  refine x_callV a b (as := [xI p0, xI p1, xI p2, xI p3]) (rest := [xI 0, xR (90, 0, 0)]) ok_X8_proof dL_proof_9 wd937 ⟨wd938, wd939⟩ h0 rfl rfl hc rfl (Nat.le_of_ble_eq_true rfl) (Nat.le_of_ble_eq_true rfl) (by decide) (Nat.le_refl _) (Nat.le_refl _) (fun h1 q => ?_) (fun v h1 q => ?_) (fun E h1 q => ?_)
  · rcases hq _ _ q with ⟨x, f, e, -⟩ | ⟨E, k, e, -⟩ <;> cases e
  · rcases hq _ _ q with ⟨x, f, e, hf, -⟩ | ⟨E, k, e, -⟩
    · cases e
      refine x_i2l dL_proof_12 ?_
      refine x_astj dL_proof_13 hf (by decide) (by decide) (by decide) (by decide) ?_
      refine x_goto (tgt := 29) dL_proof_14 (by decide) ?_
      refine x_iconst dL_proof_29 ?_
      exact x_iret dL_proof_30 rfl (Or.inl ⟨x, f, _, q, hf, rfl, rfl⟩)
    · cases e
  · rcases hq _ _ q with ⟨x, f, e, -⟩ | ⟨E2, k, e, hk⟩
    · cases e
    · cases e
      match k, hk with
      | 0, hk =>
        cases hk
        refine XX.catch [] (0, 14, 17, 13) [(0, 14, 21, 15), (0, 14, 25, 65)] rfl (by decide) (fun _ h => absurd h List.not_mem_nil) ⟨by decide, by decide⟩ (by decide) wdL13 ?_
        refine x_astoreX (L' := [xR (0, 0, 0), xI p0, xI p1, xI p2, xI p3, xR (90, 0, 0), none]) dL_proof_17 (by decide) rfl ?_
        refine x_iconst dL_proof_19 ?_
        exact x_iret dL_proof_20 rfl (Or.inr ⟨_, 0, q, rfl, rfl⟩)
      | 1, hk =>
        cases hk
        refine XX.catch [(0, 14, 17, 13)] (0, 14, 21, 15) [(0, 14, 25, 65)] rfl (by decide) (List.forall_mem_cons.mpr ⟨⟨by decide, "java/lang/IndexOutOfBoundsException", by decide, wdL13, by decide⟩, (fun _ h => absurd h List.not_mem_nil)⟩) ⟨by decide, by decide⟩ (by decide) wdL15 ?_
        refine x_astoreX (L' := [xR (0, 0, 0), xI p0, xI p1, xI p2, xI p3, xR (90, 0, 0), none]) dL_proof_21 (by decide) rfl ?_
        refine x_iconst dL_proof_23 ?_
        exact x_iret dL_proof_24 rfl (Or.inr ⟨_, 1, q, rfl, rfl⟩)
      | 2, hk =>
        cases hk
        refine XX.catch [(0, 14, 17, 13), (0, 14, 21, 15)] (0, 14, 25, 65) [] rfl (by decide) (List.forall_mem_cons.mpr ⟨⟨by decide, "java/lang/IndexOutOfBoundsException", by decide, wdL13, by decide⟩, (List.forall_mem_cons.mpr ⟨⟨by decide, "java/lang/IllegalArgumentException", by decide, wdL15, by decide⟩, (fun _ h => absurd h List.not_mem_nil)⟩)⟩) ⟨by decide, by decide⟩ (by decide) wdL65 ?_
        refine x_astoreX (L' := [xR (0, 0, 0), xI p0, xI p1, xI p2, xI p3, xR (90, 0, 0), none]) dL_proof_25 (by decide) rfl ?_
        refine x_iconst dL_proof_27 ?_
        exact x_iret dL_proof_28 rfl (Or.inr ⟨_, 2, q, rfl, rfl⟩)
      | k + 3, hk => exact absurd hk (by simp)
set_option maxHeartbeats 4000000 in
set_option maxRecDepth 100000 in
theorem w_forget {h : XH} {fs : List XV} (h0 : h (0, 0, 0) = some (.inl (8, fs))) (p0 : Int) (a b : Nat) {Q1 : XO → XH → Prop} (hc : X mX8_forget 0 (xEnt mX8_forget [xR (0, 0, 0), xI p0]) [] h a b Q1) (hq : pWq false ["java/lang/IllegalArgumentException"] Q1) : X mL_forget 0 (xEnt mL_forget [xR (0, 0, 0), xI p0, xR (90, 0, 0)]) [] h a b (pW ["java/lang/IllegalArgumentException"] Q1) := by
  show X mL_forget 0 [xR (0, 0, 0), xI p0, xR (90, 0, 0), none] [] h a b _
  refine x_aload_n dL_forget_0 rfl ?_
  refine x_iconst dL_forget_1 ?_
  refine x_aload_n dL_forget_2 rfl ?_
  refine x_iload_n dL_forget_3 rfl ?_
  refine x_callV a b (as := [xI p0]) (rest := [xI 0, xR (90, 0, 0)]) ok_X8_forget dL_forget_4 wd953 ⟨wd954, wd955⟩ h0 rfl rfl hc rfl (Nat.le_of_ble_eq_true rfl) (Nat.le_of_ble_eq_true rfl) (by decide) (Nat.le_refl _) (Nat.le_refl _) (fun h1 q => ?_) (fun v h1 q => ?_) (fun E h1 q => ?_)
  · rcases hq _ _ q with ⟨x, f, e, -⟩ | ⟨E, k, e, -⟩ <;> cases e
  · rcases hq _ _ q with ⟨x, f, e, hf, -⟩ | ⟨E, k, e, -⟩
    · cases e
      refine x_i2l dL_forget_7 ?_
      refine x_astj dL_forget_8 hf (by decide) (by decide) (by decide) (by decide) ?_
      refine x_goto (tgt := 15) dL_forget_9 (by decide) ?_
      refine x_iconst dL_forget_15 ?_
      exact x_iret dL_forget_16 rfl (Or.inl ⟨x, f, _, q, hf, rfl, rfl⟩)
    · cases e
  · rcases hq _ _ q with ⟨x, f, e, -⟩ | ⟨E2, k, e, hk⟩
    · cases e
    · cases e
      match k, hk with
      | 0, hk =>
        cases hk
        refine XX.catch [] (0, 9, 12, 15) [] rfl (by decide) (fun _ h => absurd h List.not_mem_nil) ⟨by decide, by decide⟩ (by decide) wdL15 ?_
        refine x_astoreX_n (L' := [xR (0, 0, 0), xI p0, xR (90, 0, 0), none]) dL_forget_12 (by decide) rfl ?_
        refine x_iconst dL_forget_13 ?_
        exact x_iret dL_forget_14 rfl (Or.inr ⟨_, 0, q, rfl, rfl⟩)
      | k + 1, hk => exact absurd hk (by simp)
set_option maxHeartbeats 4000000 in
set_option maxRecDepth 100000 in
theorem w_isForgotten {h : XH} {fs : List XV} (h0 : h (0, 0, 0) = some (.inl (8, fs))) (p0 p1 : Int) (a b : Nat) {Q1 : XO → XH → Prop} (hc : X mX8_isForgotten 0 (xEnt mX8_isForgotten [xR (0, 0, 0), xI p0, xI p1]) [] h a b Q1) (hq : pWq true ["java/lang/IndexOutOfBoundsException"] Q1) : X mL_isForgotten 0 (xEnt mL_isForgotten [xR (0, 0, 0), xI p0, xI p1, xR (90, 0, 0)]) [] h a b (pW ["java/lang/IndexOutOfBoundsException"] Q1) := by
  show X mL_isForgotten 0 [xR (0, 0, 0), xI p0, xI p1, xR (90, 0, 0), none] [] h a b _
  refine x_aload_n dL_isForgotten_0 rfl ?_
  refine x_iconst dL_isForgotten_1 ?_
  refine x_aload_n dL_isForgotten_2 rfl ?_
  refine x_iload_n dL_isForgotten_3 rfl ?_
  refine x_iload_n dL_isForgotten_4 rfl ?_
  refine x_callV a b (as := [xI p0, xI p1]) (rest := [xI 0, xR (90, 0, 0)]) ok_X8_isForgotten dL_isForgotten_5 wd969 ⟨wd970, wd971⟩ h0 rfl rfl hc rfl (Nat.le_of_ble_eq_true rfl) (Nat.le_of_ble_eq_true rfl) (by decide) (Nat.le_refl _) (Nat.le_refl _) (fun h1 q => ?_) (fun v h1 q => ?_) (fun E h1 q => ?_)
  · rcases hq _ _ q with ⟨x, f, e, -⟩ | ⟨E, k, e, -⟩ <;> cases e
  · rcases hq _ _ q with ⟨x, f, e, hf, hx⟩ | ⟨E, k, e, -⟩
    · cases e
      rcases hx rfl with rfl | rfl
      · refine x_if_eq (tgt := 15) dL_isForgotten_8 (by decide) ⟨by decide, by decide⟩ (fun _ => ?_) (fun z => absurd rfl z)
        refine x_lconst (v := 0) dL_isForgotten_15 (by decide) ?_
        refine x_astj dL_isForgotten_16 hf (by decide) (by decide) (by decide) (by decide) ?_
        refine x_goto (tgt := 24) dL_isForgotten_17 (by decide) ?_
        refine x_iconst dL_isForgotten_24 ?_
        exact x_iret dL_isForgotten_25 rfl (Or.inl ⟨0, f, _, q, hf, rfl, congrArg (fun y => xUp h1 (90, 0, 0) (.inr (1, 1, .inr (.inl (xUpd f 0 y))))) (by decide)⟩)
      · refine x_if_eq (tgt := 15) dL_isForgotten_8 (by decide) ⟨by decide, by decide⟩ (fun z => absurd z (by decide)) (fun _ => ?_)
        refine x_lconst (v := 1) dL_isForgotten_11 (by decide) ?_
        refine x_goto (tgt := 16) dL_isForgotten_12 (by decide) ?_
        refine x_astj dL_isForgotten_16 hf (by decide) (by decide) (by decide) (by decide) ?_
        refine x_goto (tgt := 24) dL_isForgotten_17 (by decide) ?_
        refine x_iconst dL_isForgotten_24 ?_
        exact x_iret dL_isForgotten_25 rfl (Or.inl ⟨1, f, _, q, hf, rfl, congrArg (fun y => xUp h1 (90, 0, 0) (.inr (1, 1, .inr (.inl (xUpd f 0 y))))) (by decide)⟩)
    · cases e
  · rcases hq _ _ q with ⟨x, f, e, -⟩ | ⟨E2, k, e, hk⟩
    · cases e
    · cases e
      match k, hk with
      | 0, hk =>
        cases hk
        refine XX.catch [] (0, 17, 20, 13) [] rfl (by decide) (fun _ h => absurd h List.not_mem_nil) ⟨by decide, by decide⟩ (by decide) wdL13 ?_
        refine x_astoreX (L' := [xR (0, 0, 0), xI p0, xI p1, xR (90, 0, 0), none]) dL_isForgotten_20 (by decide) rfl ?_
        refine x_iconst dL_isForgotten_22 ?_
        exact x_iret dL_isForgotten_23 rfl (Or.inr ⟨_, 0, q, rfl, rfl⟩)
      | k + 1, hk => exact absurd hk (by simp)
set_option maxHeartbeats 4000000 in
set_option maxRecDepth 100000 in
theorem w_seal {h : XH} {fs : List XV} (h0 : h (0, 0, 0) = some (.inl (8, fs))) (p0 p1 : Int) (a b : Nat) {Q1 : XO → XH → Prop} (hc : X mX8_seal 0 (xEnt mX8_seal [xR (0, 0, 0), xI p0, xI p1]) [] h a b Q1) (hq : pWq false ["java/lang/IndexOutOfBoundsException"] Q1) : X mL_seal 0 (xEnt mL_seal [xR (0, 0, 0), xI p0, xI p1, xR (90, 0, 0)]) [] h a b (pW ["java/lang/IndexOutOfBoundsException"] Q1) := by
  show X mL_seal 0 [xR (0, 0, 0), xI p0, xI p1, xR (90, 0, 0), none] [] h a b _
  refine x_aload_n dL_seal_0 rfl ?_
  refine x_iconst dL_seal_1 ?_
  refine x_aload_n dL_seal_2 rfl ?_
  refine x_iload_n dL_seal_3 rfl ?_
  refine x_iload_n dL_seal_4 rfl ?_
  refine x_callV a b (as := [xI p0, xI p1]) (rest := [xI 0, xR (90, 0, 0)]) ok_X8_seal dL_seal_5 wd977 ⟨wd978, wd979⟩ h0 rfl rfl hc rfl (Nat.le_of_ble_eq_true rfl) (Nat.le_of_ble_eq_true rfl) (by decide) (Nat.le_refl _) (Nat.le_refl _) (fun h1 q => ?_) (fun v h1 q => ?_) (fun E h1 q => ?_)
  · rcases hq _ _ q with ⟨x, f, e, -⟩ | ⟨E, k, e, -⟩ <;> cases e
  · rcases hq _ _ q with ⟨x, f, e, hf, -⟩ | ⟨E, k, e, -⟩
    · cases e
      refine x_i2l dL_seal_8 ?_
      refine x_astj dL_seal_9 hf (by decide) (by decide) (by decide) (by decide) ?_
      refine x_goto (tgt := 17) dL_seal_10 (by decide) ?_
      refine x_iconst dL_seal_17 ?_
      exact x_iret dL_seal_18 rfl (Or.inl ⟨x, f, _, q, hf, rfl, rfl⟩)
    · cases e
  · rcases hq _ _ q with ⟨x, f, e, -⟩ | ⟨E2, k, e, hk⟩
    · cases e
    · cases e
      match k, hk with
      | 0, hk =>
        cases hk
        refine XX.catch [] (0, 10, 13, 13) [] rfl (by decide) (fun _ h => absurd h List.not_mem_nil) ⟨by decide, by decide⟩ (by decide) wdL13 ?_
        refine x_astoreX (L' := [xR (0, 0, 0), xI p0, xI p1, xR (90, 0, 0), none]) dL_seal_13 (by decide) rfl ?_
        refine x_iconst dL_seal_15 ?_
        exact x_iret dL_seal_16 rfl (Or.inr ⟨_, 0, q, rfl, rfl⟩)
      | k + 1, hk => exact absurd hk (by simp)
set_option maxHeartbeats 4000000 in
set_option maxRecDepth 100000 in
theorem w_fork {h : XH} {fs : List XV} (h0 : h (0, 0, 0) = some (.inl (8, fs))) (p0 p1 : Int) (a b : Nat) {Q1 : XO → XH → Prop} (hc : X mX8_fork 0 (xEnt mX8_fork [xR (0, 0, 0), xI p0, xI p1]) [] h a b Q1) (hq : pWq false ["java/lang/IndexOutOfBoundsException", "java/lang/IllegalStateException"] Q1) : X mL_fork 0 (xEnt mL_fork [xR (0, 0, 0), xI p0, xI p1, xR (90, 0, 0)]) [] h a b (pW ["java/lang/IndexOutOfBoundsException", "java/lang/IllegalStateException"] Q1) := by
  show X mL_fork 0 [xR (0, 0, 0), xI p0, xI p1, xR (90, 0, 0), none] [] h a b _
  refine x_aload_n dL_fork_0 rfl ?_
  refine x_iconst dL_fork_1 ?_
  refine x_aload_n dL_fork_2 rfl ?_
  refine x_iload_n dL_fork_3 rfl ?_
  refine x_iload_n dL_fork_4 rfl ?_
  refine x_callV a b (as := [xI p0, xI p1]) (rest := [xI 0, xR (90, 0, 0)]) ok_X8_fork dL_fork_5 wd984 ⟨wd985, wd986⟩ h0 rfl rfl hc rfl (Nat.le_of_ble_eq_true rfl) (Nat.le_of_ble_eq_true rfl) (by decide) (Nat.le_refl _) (Nat.le_refl _) (fun h1 q => ?_) (fun v h1 q => ?_) (fun E h1 q => ?_)
  · rcases hq _ _ q with ⟨x, f, e, -⟩ | ⟨E, k, e, -⟩ <;> cases e
  · rcases hq _ _ q with ⟨x, f, e, hf, -⟩ | ⟨E, k, e, -⟩
    · cases e
      refine x_i2l dL_fork_8 ?_
      refine x_astj dL_fork_9 hf (by decide) (by decide) (by decide) (by decide) ?_
      refine x_goto (tgt := 21) dL_fork_10 (by decide) ?_
      refine x_iconst dL_fork_21 ?_
      exact x_iret dL_fork_22 rfl (Or.inl ⟨x, f, _, q, hf, rfl, rfl⟩)
    · cases e
  · rcases hq _ _ q with ⟨x, f, e, -⟩ | ⟨E2, k, e, hk⟩
    · cases e
    · cases e
      match k, hk with
      | 0, hk =>
        cases hk
        refine XX.catch [] (0, 10, 13, 13) [(0, 10, 17, 19)] rfl (by decide) (fun _ h => absurd h List.not_mem_nil) ⟨by decide, by decide⟩ (by decide) wdL13 ?_
        refine x_astoreX (L' := [xR (0, 0, 0), xI p0, xI p1, xR (90, 0, 0), none]) dL_fork_13 (by decide) rfl ?_
        refine x_iconst dL_fork_15 ?_
        exact x_iret dL_fork_16 rfl (Or.inr ⟨_, 0, q, rfl, rfl⟩)
      | 1, hk =>
        cases hk
        refine XX.catch [(0, 10, 13, 13)] (0, 10, 17, 19) [] rfl (by decide) (List.forall_mem_cons.mpr ⟨⟨by decide, "java/lang/IndexOutOfBoundsException", by decide, wdL13, by decide⟩, (fun _ h => absurd h List.not_mem_nil)⟩) ⟨by decide, by decide⟩ (by decide) wdL19 ?_
        refine x_astoreX (L' := [xR (0, 0, 0), xI p0, xI p1, xR (90, 0, 0), none]) dL_fork_17 (by decide) rfl ?_
        refine x_iconst dL_fork_19 ?_
        exact x_iret dL_fork_20 rfl (Or.inr ⟨_, 1, q, rfl, rfl⟩)
      | k + 2, hk => exact absurd hk (by simp)
set_option maxHeartbeats 4000000 in
set_option maxRecDepth 100000 in
theorem w_merge {h : XH} {fs : List XV} (h0 : h (0, 0, 0) = some (.inl (8, fs))) (p0 : Int) (a b : Nat) {Q1 : XO → XH → Prop} (hc : X mX8_merge 0 (xEnt mX8_merge [xR (0, 0, 0), xI p0]) [] h a b Q1) (hq : pWq false ["java/lang/IndexOutOfBoundsException", "java/lang/IllegalArgumentException"] Q1) : X mL_merge 0 (xEnt mL_merge [xR (0, 0, 0), xI p0, xR (90, 0, 0)]) [] h a b (pW ["java/lang/IndexOutOfBoundsException", "java/lang/IllegalArgumentException"] Q1) := by
  show X mL_merge 0 [xR (0, 0, 0), xI p0, xR (90, 0, 0), none] [] h a b _
  refine x_aload_n dL_merge_0 rfl ?_
  refine x_iconst dL_merge_1 ?_
  refine x_aload_n dL_merge_2 rfl ?_
  refine x_iload_n dL_merge_3 rfl ?_
  refine x_callV a b (as := [xI p0]) (rest := [xI 0, xR (90, 0, 0)]) ok_X8_merge dL_merge_4 wd1000 ⟨wd1001, wd1002⟩ h0 rfl rfl hc rfl (Nat.le_of_ble_eq_true rfl) (Nat.le_of_ble_eq_true rfl) (by decide) (Nat.le_refl _) (Nat.le_refl _) (fun h1 q => ?_) (fun v h1 q => ?_) (fun E h1 q => ?_)
  · rcases hq _ _ q with ⟨x, f, e, -⟩ | ⟨E, k, e, -⟩ <;> cases e
  · rcases hq _ _ q with ⟨x, f, e, hf, -⟩ | ⟨E, k, e, -⟩
    · cases e
      refine x_i2l dL_merge_7 ?_
      refine x_astj dL_merge_8 hf (by decide) (by decide) (by decide) (by decide) ?_
      refine x_goto (tgt := 18) dL_merge_9 (by decide) ?_
      refine x_iconst dL_merge_18 ?_
      exact x_iret dL_merge_19 rfl (Or.inl ⟨x, f, _, q, hf, rfl, rfl⟩)
    · cases e
  · rcases hq _ _ q with ⟨x, f, e, -⟩ | ⟨E2, k, e, hk⟩
    · cases e
    · cases e
      match k, hk with
      | 0, hk =>
        cases hk
        refine XX.catch [] (0, 9, 12, 13) [(0, 9, 15, 15)] rfl (by decide) (fun _ h => absurd h List.not_mem_nil) ⟨by decide, by decide⟩ (by decide) wdL13 ?_
        refine x_astoreX_n (L' := [xR (0, 0, 0), xI p0, xR (90, 0, 0), none]) dL_merge_12 (by decide) rfl ?_
        refine x_iconst dL_merge_13 ?_
        exact x_iret dL_merge_14 rfl (Or.inr ⟨_, 0, q, rfl, rfl⟩)
      | 1, hk =>
        cases hk
        refine XX.catch [(0, 9, 12, 13)] (0, 9, 15, 15) [] rfl (by decide) (List.forall_mem_cons.mpr ⟨⟨by decide, "java/lang/IndexOutOfBoundsException", by decide, wdL13, by decide⟩, (fun _ h => absurd h List.not_mem_nil)⟩) ⟨by decide, by decide⟩ (by decide) wdL15 ?_
        refine x_astoreX_n (L' := [xR (0, 0, 0), xI p0, xR (90, 0, 0), none]) dL_merge_15 (by decide) rfl ?_
        refine x_iconst dL_merge_16 ?_
        exact x_iret dL_merge_17 rfl (Or.inr ⟨_, 1, q, rfl, rfl⟩)
      | k + 2, hk => exact absurd hk (by simp)
set_option maxHeartbeats 4000000 in
set_option maxRecDepth 100000 in
theorem w_listen {h : XH} {fs : List XV} (h0 : h (0, 0, 0) = some (.inl (8, fs))) (p0 p1 p2 p3 p4 : Int) (a b : Nat) {Q1 : XO → XH → Prop} (hc : X mX8_listen 0 (xEnt mX8_listen [xR (0, 0, 0), xI p0, xI p1, xI p2, xI p3, xI p4]) [] h a b Q1) (hq : pWq false ["java/lang/IndexOutOfBoundsException", "java/lang/IllegalArgumentException", "java/lang/IllegalStateException"] Q1) : X mL_listen 0 (xEnt mL_listen [xR (0, 0, 0), xI p0, xI p1, xI p2, xI p3, xI p4, xR (90, 0, 0)]) [] h a b (pW ["java/lang/IndexOutOfBoundsException", "java/lang/IllegalArgumentException", "java/lang/IllegalStateException"] Q1) := by
  show X mL_listen 0 [xR (0, 0, 0), xI p0, xI p1, xI p2, xI p3, xI p4, xR (90, 0, 0), none] [] h a b _
  refine x_aload dL_listen_0 rfl ?_
  refine x_iconst dL_listen_2 ?_
  refine x_aload_n dL_listen_3 rfl ?_
  refine x_iload_n dL_listen_4 rfl ?_
  refine x_iload_n dL_listen_5 rfl ?_
  refine x_iload_n dL_listen_6 rfl ?_
  refine x_iload dL_listen_7 rfl ?_
  refine x_iload dL_listen_9 rfl ?_
  refine x_callV a b (as := [xI p0, xI p1, xI p2, xI p3, xI p4]) (rest := [xI 0, xR (90, 0, 0)]) ok_X8_listen dL_listen_11 wd1020 ⟨wd1021, wd1022⟩ h0 rfl rfl hc rfl (Nat.le_of_ble_eq_true rfl) (Nat.le_of_ble_eq_true rfl) (by decide) (Nat.le_refl _) (Nat.le_refl _) (fun h1 q => ?_) (fun v h1 q => ?_) (fun E h1 q => ?_)
  · rcases hq _ _ q with ⟨x, f, e, -⟩ | ⟨E, k, e, -⟩ <;> cases e
  · rcases hq _ _ q with ⟨x, f, e, hf, -⟩ | ⟨E, k, e, -⟩
    · cases e
      refine x_i2l dL_listen_14 ?_
      refine x_astj dL_listen_15 hf (by decide) (by decide) (by decide) (by decide) ?_
      refine x_goto (tgt := 31) dL_listen_16 (by decide) ?_
      refine x_iconst dL_listen_31 ?_
      exact x_iret dL_listen_32 rfl (Or.inl ⟨x, f, _, q, hf, rfl, rfl⟩)
    · cases e
  · rcases hq _ _ q with ⟨x, f, e, -⟩ | ⟨E2, k, e, hk⟩
    · cases e
    · cases e
      match k, hk with
      | 0, hk =>
        cases hk
        refine XX.catch [] (0, 16, 19, 13) [(0, 16, 23, 15), (0, 16, 27, 19)] rfl (by decide) (fun _ h => absurd h List.not_mem_nil) ⟨by decide, by decide⟩ (by decide) wdL13 ?_
        refine x_astoreX (L' := [xR (0, 0, 0), xI p0, xI p1, xI p2, xI p3, xI p4, xR (90, 0, 0), none]) dL_listen_19 (by decide) rfl ?_
        refine x_iconst dL_listen_21 ?_
        exact x_iret dL_listen_22 rfl (Or.inr ⟨_, 0, q, rfl, rfl⟩)
      | 1, hk =>
        cases hk
        refine XX.catch [(0, 16, 19, 13)] (0, 16, 23, 15) [(0, 16, 27, 19)] rfl (by decide) (List.forall_mem_cons.mpr ⟨⟨by decide, "java/lang/IndexOutOfBoundsException", by decide, wdL13, by decide⟩, (fun _ h => absurd h List.not_mem_nil)⟩) ⟨by decide, by decide⟩ (by decide) wdL15 ?_
        refine x_astoreX (L' := [xR (0, 0, 0), xI p0, xI p1, xI p2, xI p3, xI p4, xR (90, 0, 0), none]) dL_listen_23 (by decide) rfl ?_
        refine x_iconst dL_listen_25 ?_
        exact x_iret dL_listen_26 rfl (Or.inr ⟨_, 1, q, rfl, rfl⟩)
      | 2, hk =>
        cases hk
        refine XX.catch [(0, 16, 19, 13), (0, 16, 23, 15)] (0, 16, 27, 19) [] rfl (by decide) (List.forall_mem_cons.mpr ⟨⟨by decide, "java/lang/IndexOutOfBoundsException", by decide, wdL13, by decide⟩, (List.forall_mem_cons.mpr ⟨⟨by decide, "java/lang/IllegalArgumentException", by decide, wdL15, by decide⟩, (fun _ h => absurd h List.not_mem_nil)⟩)⟩) ⟨by decide, by decide⟩ (by decide) wdL19 ?_
        refine x_astoreX (L' := [xR (0, 0, 0), xI p0, xI p1, xI p2, xI p3, xI p4, xR (90, 0, 0), none]) dL_listen_27 (by decide) rfl ?_
        refine x_iconst dL_listen_29 ?_
        exact x_iret dL_listen_30 rfl (Or.inr ⟨_, 2, q, rfl, rfl⟩)
      | k + 3, hk => exact absurd hk (by simp)
set_option maxHeartbeats 4000000 in
set_option maxRecDepth 100000 in
theorem w_waiting {h : XH} {fs : List XV} (h0 : h (0, 0, 0) = some (.inl (8, fs))) (p0 : Int) (a b : Nat) {Q1 : XO → XH → Prop} (hc : X mX8_waiting 0 (xEnt mX8_waiting [xR (0, 0, 0), xI p0]) [] h a b Q1) (hq : pWq false ["java/lang/IndexOutOfBoundsException"] Q1) : X mL_waiting 0 (xEnt mL_waiting [xR (0, 0, 0), xI p0, xR (90, 0, 0)]) [] h a b (pW ["java/lang/IndexOutOfBoundsException"] Q1) := by
  show X mL_waiting 0 [xR (0, 0, 0), xI p0, xR (90, 0, 0), none] [] h a b _
  refine x_aload_n dL_waiting_0 rfl ?_
  refine x_iconst dL_waiting_1 ?_
  refine x_aload_n dL_waiting_2 rfl ?_
  refine x_iload_n dL_waiting_3 rfl ?_
  refine x_callV a b (as := [xI p0]) (rest := [xI 0, xR (90, 0, 0)]) ok_X8_waiting dL_waiting_4 wd1036 ⟨wd1037, wd1038⟩ h0 rfl rfl hc rfl (Nat.le_of_ble_eq_true rfl) (Nat.le_of_ble_eq_true rfl) (by decide) (Nat.le_refl _) (Nat.le_refl _) (fun h1 q => ?_) (fun v h1 q => ?_) (fun E h1 q => ?_)
  · rcases hq _ _ q with ⟨x, f, e, -⟩ | ⟨E, k, e, -⟩ <;> cases e
  · rcases hq _ _ q with ⟨x, f, e, hf, -⟩ | ⟨E, k, e, -⟩
    · cases e
      refine x_i2l dL_waiting_7 ?_
      refine x_astj dL_waiting_8 hf (by decide) (by decide) (by decide) (by decide) ?_
      refine x_goto (tgt := 15) dL_waiting_9 (by decide) ?_
      refine x_iconst dL_waiting_15 ?_
      exact x_iret dL_waiting_16 rfl (Or.inl ⟨x, f, _, q, hf, rfl, rfl⟩)
    · cases e
  · rcases hq _ _ q with ⟨x, f, e, -⟩ | ⟨E2, k, e, hk⟩
    · cases e
    · cases e
      match k, hk with
      | 0, hk =>
        cases hk
        refine XX.catch [] (0, 9, 12, 13) [] rfl (by decide) (fun _ h => absurd h List.not_mem_nil) ⟨by decide, by decide⟩ (by decide) wdL13 ?_
        refine x_astoreX_n (L' := [xR (0, 0, 0), xI p0, xR (90, 0, 0), none]) dL_waiting_12 (by decide) rfl ?_
        refine x_iconst dL_waiting_13 ?_
        exact x_iret dL_waiting_14 rfl (Or.inr ⟨_, 0, q, rfl, rfl⟩)
      | k + 1, hk => exact absurd hk (by simp)
set_option maxHeartbeats 4000000 in
set_option maxRecDepth 100000 in
theorem w_next {h : XH} {fs : List XV} (h0 : h (0, 0, 0) = some (.inl (8, fs))) (p0 : Int) (a b : Nat) {Q1 : XO → XH → Prop} (hc : X mX8_next 0 (xEnt mX8_next [xR (0, 0, 0), xI p0]) [] h a b Q1) (hq : pWq false ["java/lang/IndexOutOfBoundsException", "java/util/NoSuchElementException"] Q1) : X mL_next 0 (xEnt mL_next [xR (0, 0, 0), xI p0, xR (90, 0, 0)]) [] h a b (pW ["java/lang/IndexOutOfBoundsException", "java/util/NoSuchElementException"] Q1) := by
  show X mL_next 0 [xR (0, 0, 0), xI p0, xR (90, 0, 0), none] [] h a b _
  refine x_aload_n dL_next_0 rfl ?_
  refine x_iconst dL_next_1 ?_
  refine x_aload_n dL_next_2 rfl ?_
  refine x_iload_n dL_next_3 rfl ?_
  refine x_callV a b (as := [xI p0]) (rest := [xI 0, xR (90, 0, 0)]) ok_X8_next dL_next_4 wd1048 ⟨wd1049, wd1050⟩ h0 rfl rfl hc rfl (Nat.le_of_ble_eq_true rfl) (Nat.le_of_ble_eq_true rfl) (by decide) (Nat.le_refl _) (Nat.le_refl _) (fun h1 q => ?_) (fun v h1 q => ?_) (fun E h1 q => ?_)
  · rcases hq _ _ q with ⟨x, f, e, -⟩ | ⟨E, k, e, -⟩ <;> cases e
  · rcases hq _ _ q with ⟨x, f, e, hf, -⟩ | ⟨E, k, e, -⟩
    · cases e
      refine x_i2l dL_next_7 ?_
      refine x_astj dL_next_8 hf (by decide) (by decide) (by decide) (by decide) ?_
      refine x_goto (tgt := 18) dL_next_9 (by decide) ?_
      refine x_iconst dL_next_18 ?_
      exact x_iret dL_next_19 rfl (Or.inl ⟨x, f, _, q, hf, rfl, rfl⟩)
    · cases e
  · rcases hq _ _ q with ⟨x, f, e, -⟩ | ⟨E2, k, e, hk⟩
    · cases e
    · cases e
      match k, hk with
      | 0, hk =>
        cases hk
        refine XX.catch [] (0, 9, 12, 13) [(0, 9, 15, 65)] rfl (by decide) (fun _ h => absurd h List.not_mem_nil) ⟨by decide, by decide⟩ (by decide) wdL13 ?_
        refine x_astoreX_n (L' := [xR (0, 0, 0), xI p0, xR (90, 0, 0), none]) dL_next_12 (by decide) rfl ?_
        refine x_iconst dL_next_13 ?_
        exact x_iret dL_next_14 rfl (Or.inr ⟨_, 0, q, rfl, rfl⟩)
      | 1, hk =>
        cases hk
        refine XX.catch [(0, 9, 12, 13)] (0, 9, 15, 65) [] rfl (by decide) (List.forall_mem_cons.mpr ⟨⟨by decide, "java/lang/IndexOutOfBoundsException", by decide, wdL13, by decide⟩, (fun _ h => absurd h List.not_mem_nil)⟩) ⟨by decide, by decide⟩ (by decide) wdL65 ?_
        refine x_astoreX_n (L' := [xR (0, 0, 0), xI p0, xR (90, 0, 0), none]) dL_next_15 (by decide) rfl ?_
        refine x_iconst dL_next_16 ?_
        exact x_iret dL_next_17 rfl (Or.inr ⟨_, 1, q, rfl, rfl⟩)
      | k + 2, hk => exact absurd hk (by simp)
set_option maxHeartbeats 4000000 in
set_option maxRecDepth 100000 in
theorem w_derivedShare {h : XH} {fs : List XV} (h0 : h (0, 0, 0) = some (.inl (8, fs))) (p0 p1 : Int) (a b : Nat) {Q1 : XO → XH → Prop} (hc : X mX8_derivedShare 0 (xEnt mX8_derivedShare [xR (0, 0, 0), xI p0, xI p1]) [] h a b Q1) (hq : pWFq ["java/lang/IndexOutOfBoundsException", "java/lang/IllegalArgumentException", "java/lang/ArithmeticException"] Q1) : X mL_derivedShare 0 (xEnt mL_derivedShare [xR (0, 0, 0), xI p0, xI p1, xR (91, 0, 0)]) [] h a b (pWF ["java/lang/IndexOutOfBoundsException", "java/lang/IllegalArgumentException", "java/lang/ArithmeticException"] Q1) := by
  show X mL_derivedShare 0 [xR (0, 0, 0), xI p0, xI p1, xR (91, 0, 0), none] [] h a b _
  refine x_aload_n dL_derivedShare_0 rfl ?_
  refine x_iconst dL_derivedShare_1 ?_
  refine x_aload_n dL_derivedShare_2 rfl ?_
  refine x_iload_n dL_derivedShare_3 rfl ?_
  refine x_iload_n dL_derivedShare_4 rfl ?_
  refine x_callV a b (as := [xI p0, xI p1]) (rest := [xI 0, xR (91, 0, 0)]) ok_X8_derivedShare dL_derivedShare_5 wd1079 ⟨wd1080, wd1081⟩ h0 rfl rfl hc rfl (Nat.le_of_ble_eq_true rfl) (Nat.le_of_ble_eq_true rfl) (by decide) (Nat.le_refl _) (Nat.le_refl _) (fun h1 q => ?_) (fun v h1 q => ?_) (fun E h1 q => ?_)
  · rcases hq _ _ q with ⟨x, f, e, -⟩ | ⟨E, k, e, -⟩ <;> cases e
  · rcases hq _ _ q with ⟨x, f, e, hf, hn⟩ | ⟨E, k, e, -⟩
    · cases e
      refine x_f2d dL_derivedShare_8 hn ?_
      refine x_astd dL_derivedShare_9 hf (by decide) (by decide) (by decide) (by decide) ?_
      refine x_goto (tgt := 25) dL_derivedShare_10 (by decide) ?_
      refine x_iconst dL_derivedShare_25 ?_
      exact x_iret dL_derivedShare_26 rfl (Or.inl ⟨x, f, _, q, hf, rfl, rfl⟩)
    · cases e
  · rcases hq _ _ q with ⟨x, f, e, -⟩ | ⟨E2, k, e, hk⟩
    · cases e
    · cases e
      match k, hk with
      | 0, hk =>
        cases hk
        refine XX.catch [] (0, 10, 13, 13) [(0, 10, 17, 15), (0, 10, 21, 116)] rfl (by decide) (fun _ h => absurd h List.not_mem_nil) ⟨by decide, by decide⟩ (by decide) wdL13 ?_
        refine x_astoreX (L' := [xR (0, 0, 0), xI p0, xI p1, xR (91, 0, 0), none]) dL_derivedShare_13 (by decide) rfl ?_
        refine x_iconst dL_derivedShare_15 ?_
        exact x_iret dL_derivedShare_16 rfl (Or.inr ⟨_, 0, q, rfl, rfl⟩)
      | 1, hk =>
        cases hk
        refine XX.catch [(0, 10, 13, 13)] (0, 10, 17, 15) [(0, 10, 21, 116)] rfl (by decide) (List.forall_mem_cons.mpr ⟨⟨by decide, "java/lang/IndexOutOfBoundsException", by decide, wdL13, by decide⟩, (fun _ h => absurd h List.not_mem_nil)⟩) ⟨by decide, by decide⟩ (by decide) wdL15 ?_
        refine x_astoreX (L' := [xR (0, 0, 0), xI p0, xI p1, xR (91, 0, 0), none]) dL_derivedShare_17 (by decide) rfl ?_
        refine x_iconst dL_derivedShare_19 ?_
        exact x_iret dL_derivedShare_20 rfl (Or.inr ⟨_, 1, q, rfl, rfl⟩)
      | 2, hk =>
        cases hk
        refine XX.catch [(0, 10, 13, 13), (0, 10, 17, 15)] (0, 10, 21, 116) [] rfl (by decide) (List.forall_mem_cons.mpr ⟨⟨by decide, "java/lang/IndexOutOfBoundsException", by decide, wdL13, by decide⟩, (List.forall_mem_cons.mpr ⟨⟨by decide, "java/lang/IllegalArgumentException", by decide, wdL15, by decide⟩, (fun _ h => absurd h List.not_mem_nil)⟩)⟩) ⟨by decide, by decide⟩ (by decide) wdL116 ?_
        refine x_astoreX (L' := [xR (0, 0, 0), xI p0, xI p1, xR (91, 0, 0), none]) dL_derivedShare_21 (by decide) rfl ?_
        refine x_iconst dL_derivedShare_23 ?_
        exact x_iret dL_derivedShare_24 rfl (Or.inr ⟨_, 2, q, rfl, rfl⟩)
      | k + 3, hk => exact absurd hk (by simp)
set_option maxHeartbeats 4000000 in
set_option maxRecDepth 100000 in
theorem w_meanRank {h : XH} {fs : List XV} (h0 : h (0, 0, 0) = some (.inl (8, fs))) (p0 p1 : Int) (a b : Nat) {Q1 : XO → XH → Prop} (hc : X mX8_meanRank 0 (xEnt mX8_meanRank [xR (0, 0, 0), xI p0, xI p1]) [] h a b Q1) (hq : pWDq ["java/lang/IndexOutOfBoundsException", "java/lang/IllegalArgumentException", "java/lang/ArithmeticException"] Q1) : X mL_meanRank 0 (xEnt mL_meanRank [xR (0, 0, 0), xI p0, xI p1, xR (91, 0, 0)]) [] h a b (pWD ["java/lang/IndexOutOfBoundsException", "java/lang/IllegalArgumentException", "java/lang/ArithmeticException"] Q1) := by
  show X mL_meanRank 0 [xR (0, 0, 0), xI p0, xI p1, xR (91, 0, 0), none] [] h a b _
  refine x_aload_n dL_meanRank_0 rfl ?_
  refine x_iconst dL_meanRank_1 ?_
  refine x_aload_n dL_meanRank_2 rfl ?_
  refine x_iload_n dL_meanRank_3 rfl ?_
  refine x_iload_n dL_meanRank_4 rfl ?_
  refine x_callV a b (as := [xI p0, xI p1]) (rest := [xI 0, xR (91, 0, 0)]) ok_X8_meanRank dL_meanRank_5 wd1089 ⟨wd1090, wd1091⟩ h0 rfl rfl hc rfl (Nat.le_of_ble_eq_true rfl) (Nat.le_of_ble_eq_true rfl) (by decide) (Nat.le_refl _) (Nat.le_refl _) (fun h1 q => ?_) (fun v h1 q => ?_) (fun E h1 q => ?_)
  · rcases hq _ _ q with ⟨x, f, e, -⟩ | ⟨E, k, e, -⟩ <;> cases e
  · rcases hq _ _ q with ⟨x, f, e, hf⟩ | ⟨E, k, e, -⟩
    · cases e
      refine x_astd dL_meanRank_8 hf (by decide) (by decide) (by decide) (by decide) ?_
      refine x_goto (tgt := 24) dL_meanRank_9 (by decide) ?_
      refine x_iconst dL_meanRank_24 ?_
      exact x_iret dL_meanRank_25 rfl (Or.inl ⟨x, f, _, q, hf, rfl, rfl⟩)
    · cases e
  · rcases hq _ _ q with ⟨x, f, e, -⟩ | ⟨E2, k, e, hk⟩
    · cases e
    · cases e
      match k, hk with
      | 0, hk =>
        cases hk
        refine XX.catch [] (0, 9, 12, 13) [(0, 9, 16, 15), (0, 9, 20, 116)] rfl (by decide) (fun _ h => absurd h List.not_mem_nil) ⟨by decide, by decide⟩ (by decide) wdL13 ?_
        refine x_astoreX (L' := [xR (0, 0, 0), xI p0, xI p1, xR (91, 0, 0), none]) dL_meanRank_12 (by decide) rfl ?_
        refine x_iconst dL_meanRank_14 ?_
        exact x_iret dL_meanRank_15 rfl (Or.inr ⟨_, 0, q, rfl, rfl⟩)
      | 1, hk =>
        cases hk
        refine XX.catch [(0, 9, 12, 13)] (0, 9, 16, 15) [(0, 9, 20, 116)] rfl (by decide) (List.forall_mem_cons.mpr ⟨⟨by decide, "java/lang/IndexOutOfBoundsException", by decide, wdL13, by decide⟩, (fun _ h => absurd h List.not_mem_nil)⟩) ⟨by decide, by decide⟩ (by decide) wdL15 ?_
        refine x_astoreX (L' := [xR (0, 0, 0), xI p0, xI p1, xR (91, 0, 0), none]) dL_meanRank_16 (by decide) rfl ?_
        refine x_iconst dL_meanRank_18 ?_
        exact x_iret dL_meanRank_19 rfl (Or.inr ⟨_, 1, q, rfl, rfl⟩)
      | 2, hk =>
        cases hk
        refine XX.catch [(0, 9, 12, 13), (0, 9, 16, 15)] (0, 9, 20, 116) [] rfl (by decide) (List.forall_mem_cons.mpr ⟨⟨by decide, "java/lang/IndexOutOfBoundsException", by decide, wdL13, by decide⟩, (List.forall_mem_cons.mpr ⟨⟨by decide, "java/lang/IllegalArgumentException", by decide, wdL15, by decide⟩, (fun _ h => absurd h List.not_mem_nil)⟩)⟩) ⟨by decide, by decide⟩ (by decide) wdL116 ?_
        refine x_astoreX (L' := [xR (0, 0, 0), xI p0, xI p1, xR (91, 0, 0), none]) dL_meanRank_20 (by decide) rfl ?_
        refine x_iconst dL_meanRank_22 ?_
        exact x_iret dL_meanRank_23 rfl (Or.inr ⟨_, 2, q, rfl, rfl⟩)
      | k + 3, hk => exact absurd hk (by simp)
