/-! p35: the law's wrappers: the answer, or the exception's number -/
def pW (Es : List String) (Q : XO → XH → Prop) : XO → XH → Prop := fun o h' => (∃ x : Int, Q (.inl (some (xI x))) h' ∧ o = .inl (some (xI x))) ∨ ∃ (E : String) (k : Nat), Q (.inr E) h' ∧ Es[k]? = some E ∧ o = .inl (some (xI (-900001 - (k : Int))))
def pWq (b : Bool) (Es : List String) (Q : XO → XH → Prop) : Prop := ∀ o h', Q o h' → (∃ x : Int, o = .inl (some (xI x)) ∧ (b = true → x = 0 ∨ x = 1)) ∨ ∃ (E : String) (k : Nat), o = .inr E ∧ Es[k]? = some E
/-- the same with a float -/
def pWF (Es : List String) (cs : List UInt32) (Q : XO → XH → Prop) : XO → XH → Prop := fun o h' => (∃ x : UInt32, Q (.inl (some (xF x))) h' ∧ o = .inl (some (xF x))) ∨ ∃ (E : String) (k : Nat) (c : UInt32), Q (.inr E) h' ∧ Es[k]? = some E ∧ cs[k]? = some c ∧ o = .inl (some (xF c))
def pWFq (Es : List String) (Q : XO → XH → Prop) : Prop := ∀ o h', Q o h' → (∃ x : UInt32, o = .inl (some (xF x))) ∨ ∃ (E : String) (k : Nat), o = .inr E ∧ Es[k]? = some E
/-- the same with a double -/
def pWD (Es : List String) (cs : List UInt64) (Q : XO → XH → Prop) : XO → XH → Prop := fun o h' => (∃ x : UInt64, Q (.inl (some (xD x))) h' ∧ o = .inl (some (xD x))) ∨ ∃ (E : String) (k : Nat) (c : UInt64), Q (.inr E) h' ∧ Es[k]? = some E ∧ cs[k]? = some c ∧ o = .inl (some (xD c))
def pWDq (Es : List String) (Q : XO → XH → Prop) : Prop := ∀ o h', Q o h' → (∃ x : UInt64, o = .inl (some (xD x))) ∨ ∃ (E : String) (k : Nat), o = .inr E ∧ Es[k]? = some E
theorem wdL10 : Cond.classLink RL 10 "Versefold" ∈ xW := xw 40 (by decide +kernel) rfl
theorem wdL15 : Cond.classLink RL 15 "java/lang/IndexOutOfBoundsException" ∈ xW := xw 424 (by decide +kernel) rfl
theorem wdL18 : Cond.classLink RL 18 "java/lang/IllegalArgumentException" ∈ xW := xw 504 (by decide +kernel) rfl
theorem wdL21 : Cond.classLink RL 21 "java/lang/UnsupportedOperationException" ∈ xW := xw 505 (by decide +kernel) rfl
theorem wdL24 : Cond.classLink RL 24 "java/lang/IllegalStateException" ∈ xW := xw 506 (by decide +kernel) rfl
theorem wdL56 : Cond.classLink RL 56 "java/util/NoSuchElementException" ∈ xW := xw 736 (by decide +kernel) rfl
theorem wdL64 : Cond.classLink RL 64 "java/lang/ArithmeticException" ∈ xW := xw 895 (by decide +kernel) rfl
set_option maxHeartbeats 4000000 in
set_option maxRecDepth 100000 in
theorem w_tell {h : XH} {fs : List XV} (h0 : h (0, 0, 0) = some (.inl (8, fs))) (p0 p1 p2 p3 : Int) (a b : Nat) {Q1 : XO → XH → Prop} (hc : X mX8_tell 0 (xEnt mX8_tell [xR (0, 0, 0), xI p0, xI p1, xI p2, xI p3]) [] h a b Q1) (hq : pWq false ["java/lang/IndexOutOfBoundsException", "java/lang/IllegalArgumentException", "java/lang/UnsupportedOperationException", "java/lang/IllegalStateException"] Q1) : X mL_tell 0 (xEnt mL_tell [xR (0, 0, 0), xI p0, xI p1, xI p2, xI p3]) [] h a b (pW ["java/lang/IndexOutOfBoundsException", "java/lang/IllegalArgumentException", "java/lang/UnsupportedOperationException", "java/lang/IllegalStateException"] Q1) := by
  show X mL_tell 0 [xR (0, 0, 0), xI p0, xI p1, xI p2, xI p3, none] [] h a b _
  refine x_aload_n dL_tell_0 rfl ?_
  refine x_iload_n dL_tell_1 rfl ?_
  refine x_iload_n dL_tell_2 rfl ?_
  refine x_iload_n dL_tell_3 rfl ?_
  refine x_iload dL_tell_4 rfl ?_
  refine x_callV a b (as := [xI p0, xI p1, xI p2, xI p3]) (rest := []) ok_X8_tell dL_tell_6 wd507 ⟨wd508, wd509⟩ h0 rfl rfl hc rfl (Nat.le_of_ble_eq_true rfl) (Nat.le_of_ble_eq_true rfl) (by decide) (Nat.le_refl _) (Nat.le_refl _) (fun h1 q => ?_) (fun v h1 q => ?_) (fun E h1 q => ?_)
  · rcases hq _ _ q with ⟨x, e, -⟩ | ⟨E, k, e, -⟩ <;> cases e
  · rcases hq _ _ q with ⟨x, e, -⟩ | ⟨E, k, e, -⟩
    · cases e
      exact x_iret dL_tell_9 rfl (Or.inl ⟨x, q, rfl⟩)
    · cases e
  · rcases hq _ _ q with ⟨x, e, -⟩ | ⟨E2, k, e, hk⟩
    · cases e
    · cases e
      match k, hk with
      | 0, hk =>
        cases hk
        refine XX.catch [] (0, 9, 10, 15) [(0, 9, 15, 18), (0, 9, 20, 21), (0, 9, 25, 24)] rfl (by decide) (fun _ h => absurd h List.not_mem_nil) ⟨by decide, by decide⟩ (by decide) wdL15 ?_
        refine x_astoreX (L' := [xR (0, 0, 0), xI p0, xI p1, xI p2, xI p3, none]) dL_tell_10 (by decide) rfl ?_
        refine x_ldc (v := (-900001)) dL_tell_12 wd626 ?_
        exact x_iret dL_tell_14 rfl (Or.inr ⟨_, 0, q, rfl, congrArg (fun v => (.inl (some (xI v)) : XO)) (by decide)⟩)
      | 1, hk =>
        cases hk
        refine XX.catch [(0, 9, 10, 15)] (0, 9, 15, 18) [(0, 9, 20, 21), (0, 9, 25, 24)] rfl (by decide) (List.forall_mem_cons.mpr ⟨⟨by decide, "java/lang/IndexOutOfBoundsException", by decide, wdL15, by decide⟩, (fun _ h => absurd h List.not_mem_nil)⟩) ⟨by decide, by decide⟩ (by decide) wdL18 ?_
        refine x_astoreX (L' := [xR (0, 0, 0), xI p0, xI p1, xI p2, xI p3, none]) dL_tell_15 (by decide) rfl ?_
        refine x_ldc (v := (-900002)) dL_tell_17 wd627 ?_
        exact x_iret dL_tell_19 rfl (Or.inr ⟨_, 1, q, rfl, congrArg (fun v => (.inl (some (xI v)) : XO)) (by decide)⟩)
      | 2, hk =>
        cases hk
        refine XX.catch [(0, 9, 10, 15), (0, 9, 15, 18)] (0, 9, 20, 21) [(0, 9, 25, 24)] rfl (by decide) (List.forall_mem_cons.mpr ⟨⟨by decide, "java/lang/IndexOutOfBoundsException", by decide, wdL15, by decide⟩, (List.forall_mem_cons.mpr ⟨⟨by decide, "java/lang/IllegalArgumentException", by decide, wdL18, by decide⟩, (fun _ h => absurd h List.not_mem_nil)⟩)⟩) ⟨by decide, by decide⟩ (by decide) wdL21 ?_
        refine x_astoreX (L' := [xR (0, 0, 0), xI p0, xI p1, xI p2, xI p3, none]) dL_tell_20 (by decide) rfl ?_
        refine x_ldc (v := (-900003)) dL_tell_22 wd628 ?_
        exact x_iret dL_tell_24 rfl (Or.inr ⟨_, 2, q, rfl, congrArg (fun v => (.inl (some (xI v)) : XO)) (by decide)⟩)
      | 3, hk =>
        cases hk
        refine XX.catch [(0, 9, 10, 15), (0, 9, 15, 18), (0, 9, 20, 21)] (0, 9, 25, 24) [] rfl (by decide) (List.forall_mem_cons.mpr ⟨⟨by decide, "java/lang/IndexOutOfBoundsException", by decide, wdL15, by decide⟩, (List.forall_mem_cons.mpr ⟨⟨by decide, "java/lang/IllegalArgumentException", by decide, wdL18, by decide⟩, (List.forall_mem_cons.mpr ⟨⟨by decide, "java/lang/UnsupportedOperationException", by decide, wdL21, by decide⟩, (fun _ h => absurd h List.not_mem_nil)⟩)⟩)⟩) ⟨by decide, by decide⟩ (by decide) wdL24 ?_
        refine x_astoreX (L' := [xR (0, 0, 0), xI p0, xI p1, xI p2, xI p3, none]) dL_tell_25 (by decide) rfl ?_
        refine x_ldc (v := (-900004)) dL_tell_27 wd629 ?_
        exact x_iret dL_tell_29 rfl (Or.inr ⟨_, 3, q, rfl, congrArg (fun v => (.inl (some (xI v)) : XO)) (by decide)⟩)
      | k + 4, hk => exact absurd hk (by simp)
set_option maxHeartbeats 4000000 in
set_option maxRecDepth 100000 in
theorem w_untell {h : XH} {fs : List XV} (h0 : h (0, 0, 0) = some (.inl (8, fs))) (p0 p1 p2 p3 : Int) (a b : Nat) {Q1 : XO → XH → Prop} (hc : X mX8_untell 0 (xEnt mX8_untell [xR (0, 0, 0), xI p0, xI p1, xI p2, xI p3]) [] h a b Q1) (hq : pWq false ["java/lang/IndexOutOfBoundsException", "java/lang/IllegalArgumentException", "java/lang/IllegalStateException"] Q1) : X mL_untell 0 (xEnt mL_untell [xR (0, 0, 0), xI p0, xI p1, xI p2, xI p3]) [] h a b (pW ["java/lang/IndexOutOfBoundsException", "java/lang/IllegalArgumentException", "java/lang/IllegalStateException"] Q1) := by
  show X mL_untell 0 [xR (0, 0, 0), xI p0, xI p1, xI p2, xI p3, none] [] h a b _
  refine x_aload_n dL_untell_0 rfl ?_
  refine x_iload_n dL_untell_1 rfl ?_
  refine x_iload_n dL_untell_2 rfl ?_
  refine x_iload_n dL_untell_3 rfl ?_
  refine x_iload dL_untell_4 rfl ?_
  refine x_callV a b (as := [xI p0, xI p1, xI p2, xI p3]) (rest := []) ok_X8_untell dL_untell_6 wd633 ⟨wd634, wd635⟩ h0 rfl rfl hc rfl (Nat.le_of_ble_eq_true rfl) (Nat.le_of_ble_eq_true rfl) (by decide) (Nat.le_refl _) (Nat.le_refl _) (fun h1 q => ?_) (fun v h1 q => ?_) (fun E h1 q => ?_)
  · rcases hq _ _ q with ⟨x, e, -⟩ | ⟨E, k, e, -⟩ <;> cases e
  · rcases hq _ _ q with ⟨x, e, -⟩ | ⟨E, k, e, -⟩
    · cases e
      exact x_iret dL_untell_9 rfl (Or.inl ⟨x, q, rfl⟩)
    · cases e
  · rcases hq _ _ q with ⟨x, e, -⟩ | ⟨E2, k, e, hk⟩
    · cases e
    · cases e
      match k, hk with
      | 0, hk =>
        cases hk
        refine XX.catch [] (0, 9, 10, 15) [(0, 9, 15, 18), (0, 9, 20, 24)] rfl (by decide) (fun _ h => absurd h List.not_mem_nil) ⟨by decide, by decide⟩ (by decide) wdL15 ?_
        refine x_astoreX (L' := [xR (0, 0, 0), xI p0, xI p1, xI p2, xI p3, none]) dL_untell_10 (by decide) rfl ?_
        refine x_ldc (v := (-900001)) dL_untell_12 wd626 ?_
        exact x_iret dL_untell_14 rfl (Or.inr ⟨_, 0, q, rfl, congrArg (fun v => (.inl (some (xI v)) : XO)) (by decide)⟩)
      | 1, hk =>
        cases hk
        refine XX.catch [(0, 9, 10, 15)] (0, 9, 15, 18) [(0, 9, 20, 24)] rfl (by decide) (List.forall_mem_cons.mpr ⟨⟨by decide, "java/lang/IndexOutOfBoundsException", by decide, wdL15, by decide⟩, (fun _ h => absurd h List.not_mem_nil)⟩) ⟨by decide, by decide⟩ (by decide) wdL18 ?_
        refine x_astoreX (L' := [xR (0, 0, 0), xI p0, xI p1, xI p2, xI p3, none]) dL_untell_15 (by decide) rfl ?_
        refine x_ldc (v := (-900002)) dL_untell_17 wd627 ?_
        exact x_iret dL_untell_19 rfl (Or.inr ⟨_, 1, q, rfl, congrArg (fun v => (.inl (some (xI v)) : XO)) (by decide)⟩)
      | 2, hk =>
        cases hk
        refine XX.catch [(0, 9, 10, 15), (0, 9, 15, 18)] (0, 9, 20, 24) [] rfl (by decide) (List.forall_mem_cons.mpr ⟨⟨by decide, "java/lang/IndexOutOfBoundsException", by decide, wdL15, by decide⟩, (List.forall_mem_cons.mpr ⟨⟨by decide, "java/lang/IllegalArgumentException", by decide, wdL18, by decide⟩, (fun _ h => absurd h List.not_mem_nil)⟩)⟩) ⟨by decide, by decide⟩ (by decide) wdL24 ?_
        refine x_astoreX (L' := [xR (0, 0, 0), xI p0, xI p1, xI p2, xI p3, none]) dL_untell_20 (by decide) rfl ?_
        refine x_ldc (v := (-900003)) dL_untell_22 wd628 ?_
        exact x_iret dL_untell_24 rfl (Or.inr ⟨_, 2, q, rfl, congrArg (fun v => (.inl (some (xI v)) : XO)) (by decide)⟩)
      | k + 3, hk => exact absurd hk (by simp)
set_option maxHeartbeats 4000000 in
set_option maxRecDepth 100000 in
theorem w_addRule {h : XH} {fs : List XV} (h0 : h (0, 0, 0) = some (.inl (8, fs))) (p0 p1 p2 p3 p4 p5 : Int) (a b : Nat) {Q1 : XO → XH → Prop} (hc : X mX8_addRule 0 (xEnt mX8_addRule [xR (0, 0, 0), xI p0, xI p1, xI p2, xI p3, xI p4, xI p5]) [] h a b Q1) (hq : pWq false ["java/lang/IllegalArgumentException", "java/lang/IllegalStateException"] Q1) : X mL_addRule 0 (xEnt mL_addRule [xR (0, 0, 0), xI p0, xI p1, xI p2, xI p3, xI p4, xI p5]) [] h a b (pW ["java/lang/IllegalArgumentException", "java/lang/IllegalStateException"] Q1) := by
  show X mL_addRule 0 [xR (0, 0, 0), xI p0, xI p1, xI p2, xI p3, xI p4, xI p5, none] [] h a b _
  refine x_aload_n dL_addRule_0 rfl ?_
  refine x_iload_n dL_addRule_1 rfl ?_
  refine x_iload_n dL_addRule_2 rfl ?_
  refine x_iload_n dL_addRule_3 rfl ?_
  refine x_iload dL_addRule_4 rfl ?_
  refine x_iload dL_addRule_6 rfl ?_
  refine x_iload dL_addRule_8 rfl ?_
  refine x_callV a b (as := [xI p0, xI p1, xI p2, xI p3, xI p4, xI p5]) (rest := []) ok_X8_addRule dL_addRule_10 wd640 ⟨wd641, wd642⟩ h0 rfl rfl hc rfl (Nat.le_of_ble_eq_true rfl) (Nat.le_of_ble_eq_true rfl) (by decide) (Nat.le_refl _) (Nat.le_refl _) (fun h1 q => ?_) (fun v h1 q => ?_) (fun E h1 q => ?_)
  · rcases hq _ _ q with ⟨x, e, -⟩ | ⟨E, k, e, -⟩ <;> cases e
  · rcases hq _ _ q with ⟨x, e, -⟩ | ⟨E, k, e, -⟩
    · cases e
      exact x_iret dL_addRule_13 rfl (Or.inl ⟨x, q, rfl⟩)
    · cases e
  · rcases hq _ _ q with ⟨x, e, -⟩ | ⟨E2, k, e, hk⟩
    · cases e
    · cases e
      match k, hk with
      | 0, hk =>
        cases hk
        refine XX.catch [] (0, 13, 14, 18) [(0, 13, 19, 24)] rfl (by decide) (fun _ h => absurd h List.not_mem_nil) ⟨by decide, by decide⟩ (by decide) wdL18 ?_
        refine x_astoreX (L' := [xR (0, 0, 0), xI p0, xI p1, xI p2, xI p3, xI p4, xI p5, none]) dL_addRule_14 (by decide) rfl ?_
        refine x_ldc (v := (-900001)) dL_addRule_16 wd626 ?_
        exact x_iret dL_addRule_18 rfl (Or.inr ⟨_, 0, q, rfl, congrArg (fun v => (.inl (some (xI v)) : XO)) (by decide)⟩)
      | 1, hk =>
        cases hk
        refine XX.catch [(0, 13, 14, 18)] (0, 13, 19, 24) [] rfl (by decide) (List.forall_mem_cons.mpr ⟨⟨by decide, "java/lang/IllegalArgumentException", by decide, wdL18, by decide⟩, (fun _ h => absurd h List.not_mem_nil)⟩) ⟨by decide, by decide⟩ (by decide) wdL24 ?_
        refine x_astoreX (L' := [xR (0, 0, 0), xI p0, xI p1, xI p2, xI p3, xI p4, xI p5, none]) dL_addRule_19 (by decide) rfl ?_
        refine x_ldc (v := (-900002)) dL_addRule_21 wd627 ?_
        exact x_iret dL_addRule_23 rfl (Or.inr ⟨_, 1, q, rfl, congrArg (fun v => (.inl (some (xI v)) : XO)) (by decide)⟩)
      | k + 2, hk => exact absurd hk (by simp)
set_option maxHeartbeats 4000000 in
set_option maxRecDepth 100000 in
theorem w_addCondition {h : XH} {fs : List XV} (h0 : h (0, 0, 0) = some (.inl (8, fs))) (p0 p1 p2 p3 p4 : Int) (a b : Nat) {Q1 : XO → XH → Prop} (hc : X mX8_addCondition 0 (xEnt mX8_addCondition [xR (0, 0, 0), xI p0, xI p1, xI p2, xI p3, xI p4]) [] h a b Q1) (hq : pWq false ["java/lang/IndexOutOfBoundsException", "java/lang/IllegalArgumentException", "java/lang/IllegalStateException"] Q1) : X mL_addCondition 0 (xEnt mL_addCondition [xR (0, 0, 0), xI p0, xI p1, xI p2, xI p3, xI p4]) [] h a b (pW ["java/lang/IndexOutOfBoundsException", "java/lang/IllegalArgumentException", "java/lang/IllegalStateException"] Q1) := by
  show X mL_addCondition 0 [xR (0, 0, 0), xI p0, xI p1, xI p2, xI p3, xI p4, none] [] h a b _
  refine x_aload_n dL_addCondition_0 rfl ?_
  refine x_iload_n dL_addCondition_1 rfl ?_
  refine x_iload_n dL_addCondition_2 rfl ?_
  refine x_iload_n dL_addCondition_3 rfl ?_
  refine x_iload dL_addCondition_4 rfl ?_
  refine x_iload dL_addCondition_6 rfl ?_
  refine x_callV a b (as := [xI p0, xI p1, xI p2, xI p3, xI p4]) (rest := []) ok_X8_addCondition dL_addCondition_8 wd671 ⟨wd672, wd673⟩ h0 rfl rfl hc rfl (Nat.le_of_ble_eq_true rfl) (Nat.le_of_ble_eq_true rfl) (by decide) (Nat.le_refl _) (Nat.le_refl _) (fun h1 q => ?_) (fun v h1 q => ?_) (fun E h1 q => ?_)
  · rcases hq _ _ q with ⟨x, e, -⟩ | ⟨E, k, e, -⟩ <;> cases e
  · rcases hq _ _ q with ⟨x, e, -⟩ | ⟨E, k, e, -⟩
    · cases e
      exact x_iret dL_addCondition_11 rfl (Or.inl ⟨x, q, rfl⟩)
    · cases e
  · rcases hq _ _ q with ⟨x, e, -⟩ | ⟨E2, k, e, hk⟩
    · cases e
    · cases e
      match k, hk with
      | 0, hk =>
        cases hk
        refine XX.catch [] (0, 11, 12, 15) [(0, 11, 17, 18), (0, 11, 22, 24)] rfl (by decide) (fun _ h => absurd h List.not_mem_nil) ⟨by decide, by decide⟩ (by decide) wdL15 ?_
        refine x_astoreX (L' := [xR (0, 0, 0), xI p0, xI p1, xI p2, xI p3, xI p4, none]) dL_addCondition_12 (by decide) rfl ?_
        refine x_ldc (v := (-900001)) dL_addCondition_14 wd626 ?_
        exact x_iret dL_addCondition_16 rfl (Or.inr ⟨_, 0, q, rfl, congrArg (fun v => (.inl (some (xI v)) : XO)) (by decide)⟩)
      | 1, hk =>
        cases hk
        refine XX.catch [(0, 11, 12, 15)] (0, 11, 17, 18) [(0, 11, 22, 24)] rfl (by decide) (List.forall_mem_cons.mpr ⟨⟨by decide, "java/lang/IndexOutOfBoundsException", by decide, wdL15, by decide⟩, (fun _ h => absurd h List.not_mem_nil)⟩) ⟨by decide, by decide⟩ (by decide) wdL18 ?_
        refine x_astoreX (L' := [xR (0, 0, 0), xI p0, xI p1, xI p2, xI p3, xI p4, none]) dL_addCondition_17 (by decide) rfl ?_
        refine x_ldc (v := (-900002)) dL_addCondition_19 wd627 ?_
        exact x_iret dL_addCondition_21 rfl (Or.inr ⟨_, 1, q, rfl, congrArg (fun v => (.inl (some (xI v)) : XO)) (by decide)⟩)
      | 2, hk =>
        cases hk
        refine XX.catch [(0, 11, 12, 15), (0, 11, 17, 18)] (0, 11, 22, 24) [] rfl (by decide) (List.forall_mem_cons.mpr ⟨⟨by decide, "java/lang/IndexOutOfBoundsException", by decide, wdL15, by decide⟩, (List.forall_mem_cons.mpr ⟨⟨by decide, "java/lang/IllegalArgumentException", by decide, wdL18, by decide⟩, (fun _ h => absurd h List.not_mem_nil)⟩)⟩) ⟨by decide, by decide⟩ (by decide) wdL24 ?_
        refine x_astoreX (L' := [xR (0, 0, 0), xI p0, xI p1, xI p2, xI p3, xI p4, none]) dL_addCondition_22 (by decide) rfl ?_
        refine x_ldc (v := (-900003)) dL_addCondition_24 wd628 ?_
        exact x_iret dL_addCondition_26 rfl (Or.inr ⟨_, 2, q, rfl, congrArg (fun v => (.inl (some (xI v)) : XO)) (by decide)⟩)
      | k + 3, hk => exact absurd hk (by simp)
set_option maxHeartbeats 4000000 in
set_option maxRecDepth 100000 in
theorem w_turn {h : XH} {fs : List XV} (h0 : h (0, 0, 0) = some (.inl (8, fs))) (p0 p1 p2 : Int) (a b : Nat) {Q1 : XO → XH → Prop} (hc : X mX8_turn 0 (xEnt mX8_turn [xR (0, 0, 0), xI p0, xI p1, xI p2]) [] h a b Q1) (hq : pWq false ["java/lang/IndexOutOfBoundsException", "java/lang/UnsupportedOperationException", "java/lang/IllegalStateException"] Q1) : X mL_turn 0 (xEnt mL_turn [xR (0, 0, 0), xI p0, xI p1, xI p2]) [] h a b (pW ["java/lang/IndexOutOfBoundsException", "java/lang/UnsupportedOperationException", "java/lang/IllegalStateException"] Q1) := by
  show X mL_turn 0 [xR (0, 0, 0), xI p0, xI p1, xI p2, none] [] h a b _
  refine x_aload_n dL_turn_0 rfl ?_
  refine x_iload_n dL_turn_1 rfl ?_
  refine x_iload_n dL_turn_2 rfl ?_
  refine x_iload_n dL_turn_3 rfl ?_
  refine x_callV a b (as := [xI p0, xI p1, xI p2]) (rest := []) ok_X8_turn dL_turn_4 wd684 ⟨wd685, wd686⟩ h0 rfl rfl hc rfl (Nat.le_of_ble_eq_true rfl) (Nat.le_of_ble_eq_true rfl) (by decide) (Nat.le_refl _) (Nat.le_refl _) (fun h1 q => ?_) (fun v h1 q => ?_) (fun E h1 q => ?_)
  · rcases hq _ _ q with ⟨x, e, -⟩ | ⟨E, k, e, -⟩ <;> cases e
  · rcases hq _ _ q with ⟨x, e, -⟩ | ⟨E, k, e, -⟩
    · cases e
      exact x_iret dL_turn_7 rfl (Or.inl ⟨x, q, rfl⟩)
    · cases e
  · rcases hq _ _ q with ⟨x, e, -⟩ | ⟨E2, k, e, hk⟩
    · cases e
    · cases e
      match k, hk with
      | 0, hk =>
        cases hk
        refine XX.catch [] (0, 7, 8, 15) [(0, 7, 13, 21), (0, 7, 18, 24)] rfl (by decide) (fun _ h => absurd h List.not_mem_nil) ⟨by decide, by decide⟩ (by decide) wdL15 ?_
        refine x_astoreX (L' := [xR (0, 0, 0), xI p0, xI p1, xI p2, none]) dL_turn_8 (by decide) rfl ?_
        refine x_ldc (v := (-900001)) dL_turn_10 wd626 ?_
        exact x_iret dL_turn_12 rfl (Or.inr ⟨_, 0, q, rfl, congrArg (fun v => (.inl (some (xI v)) : XO)) (by decide)⟩)
      | 1, hk =>
        cases hk
        refine XX.catch [(0, 7, 8, 15)] (0, 7, 13, 21) [(0, 7, 18, 24)] rfl (by decide) (List.forall_mem_cons.mpr ⟨⟨by decide, "java/lang/IndexOutOfBoundsException", by decide, wdL15, by decide⟩, (fun _ h => absurd h List.not_mem_nil)⟩) ⟨by decide, by decide⟩ (by decide) wdL21 ?_
        refine x_astoreX (L' := [xR (0, 0, 0), xI p0, xI p1, xI p2, none]) dL_turn_13 (by decide) rfl ?_
        refine x_ldc (v := (-900002)) dL_turn_15 wd627 ?_
        exact x_iret dL_turn_17 rfl (Or.inr ⟨_, 1, q, rfl, congrArg (fun v => (.inl (some (xI v)) : XO)) (by decide)⟩)
      | 2, hk =>
        cases hk
        refine XX.catch [(0, 7, 8, 15), (0, 7, 13, 21)] (0, 7, 18, 24) [] rfl (by decide) (List.forall_mem_cons.mpr ⟨⟨by decide, "java/lang/IndexOutOfBoundsException", by decide, wdL15, by decide⟩, (List.forall_mem_cons.mpr ⟨⟨by decide, "java/lang/UnsupportedOperationException", by decide, wdL21, by decide⟩, (fun _ h => absurd h List.not_mem_nil)⟩)⟩) ⟨by decide, by decide⟩ (by decide) wdL24 ?_
        refine x_astoreX (L' := [xR (0, 0, 0), xI p0, xI p1, xI p2, none]) dL_turn_18 (by decide) rfl ?_
        refine x_ldc (v := (-900003)) dL_turn_20 wd628 ?_
        exact x_iret dL_turn_22 rfl (Or.inr ⟨_, 2, q, rfl, congrArg (fun v => (.inl (some (xI v)) : XO)) (by decide)⟩)
      | k + 3, hk => exact absurd hk (by simp)
set_option maxHeartbeats 4000000 in
set_option maxRecDepth 100000 in
theorem w_layer {h : XH} {fs : List XV} (h0 : h (0, 0, 0) = some (.inl (8, fs))) (p0 p1 : Int) (a b : Nat) {Q1 : XO → XH → Prop} (hc : X mX8_layer 0 (xEnt mX8_layer [xR (0, 0, 0), xI p0, xI p1]) [] h a b Q1) (hq : pWq false ["java/lang/IndexOutOfBoundsException", "java/lang/IllegalArgumentException"] Q1) : X mL_layer 0 (xEnt mL_layer [xR (0, 0, 0), xI p0, xI p1]) [] h a b (pW ["java/lang/IndexOutOfBoundsException", "java/lang/IllegalArgumentException"] Q1) := by
  show X mL_layer 0 [xR (0, 0, 0), xI p0, xI p1, none] [] h a b _
  refine x_aload_n dL_layer_0 rfl ?_
  refine x_iload_n dL_layer_1 rfl ?_
  refine x_iload_n dL_layer_2 rfl ?_
  refine x_callV a b (as := [xI p0, xI p1]) (rest := []) ok_X8_layer dL_layer_3 wd701 ⟨wd702, wd703⟩ h0 rfl rfl hc rfl (Nat.le_of_ble_eq_true rfl) (Nat.le_of_ble_eq_true rfl) (by decide) (Nat.le_refl _) (Nat.le_refl _) (fun h1 q => ?_) (fun v h1 q => ?_) (fun E h1 q => ?_)
  · rcases hq _ _ q with ⟨x, e, -⟩ | ⟨E, k, e, -⟩ <;> cases e
  · rcases hq _ _ q with ⟨x, e, -⟩ | ⟨E, k, e, -⟩
    · cases e
      exact x_iret dL_layer_6 rfl (Or.inl ⟨x, q, rfl⟩)
    · cases e
  · rcases hq _ _ q with ⟨x, e, -⟩ | ⟨E2, k, e, hk⟩
    · cases e
    · cases e
      match k, hk with
      | 0, hk =>
        cases hk
        refine XX.catch [] (0, 6, 7, 15) [(0, 6, 11, 18)] rfl (by decide) (fun _ h => absurd h List.not_mem_nil) ⟨by decide, by decide⟩ (by decide) wdL15 ?_
        refine x_astoreX_n (L' := [xR (0, 0, 0), xI p0, xI p1, none]) dL_layer_7 (by decide) rfl ?_
        refine x_ldc (v := (-900001)) dL_layer_8 wd626 ?_
        exact x_iret dL_layer_10 rfl (Or.inr ⟨_, 0, q, rfl, congrArg (fun v => (.inl (some (xI v)) : XO)) (by decide)⟩)
      | 1, hk =>
        cases hk
        refine XX.catch [(0, 6, 7, 15)] (0, 6, 11, 18) [] rfl (by decide) (List.forall_mem_cons.mpr ⟨⟨by decide, "java/lang/IndexOutOfBoundsException", by decide, wdL15, by decide⟩, (fun _ h => absurd h List.not_mem_nil)⟩) ⟨by decide, by decide⟩ (by decide) wdL18 ?_
        refine x_astoreX_n (L' := [xR (0, 0, 0), xI p0, xI p1, none]) dL_layer_11 (by decide) rfl ?_
        refine x_ldc (v := (-900002)) dL_layer_12 wd627 ?_
        exact x_iret dL_layer_14 rfl (Or.inr ⟨_, 1, q, rfl, congrArg (fun v => (.inl (some (xI v)) : XO)) (by decide)⟩)
      | k + 2, hk => exact absurd hk (by simp)
set_option maxHeartbeats 4000000 in
set_option maxRecDepth 100000 in
theorem w_knowing {h : XH} {fs : List XV} (h0 : h (0, 0, 0) = some (.inl (8, fs))) (p0 : Int) (a b : Nat) {Q1 : XO → XH → Prop} (hc : X mX8_knowing 0 (xEnt mX8_knowing [xR (0, 0, 0), xI p0]) [] h a b Q1) (hq : pWq false ["java/lang/IndexOutOfBoundsException"] Q1) : X mL_knowing 0 (xEnt mL_knowing [xR (0, 0, 0), xI p0]) [] h a b (pW ["java/lang/IndexOutOfBoundsException"] Q1) := by
  show X mL_knowing 0 [xR (0, 0, 0), xI p0, none] [] h a b _
  refine x_aload_n dL_knowing_0 rfl ?_
  refine x_iload_n dL_knowing_1 rfl ?_
  refine x_callV a b (as := [xI p0]) (rest := []) ok_X8_knowing dL_knowing_2 wd713 ⟨wd714, wd715⟩ h0 rfl rfl hc rfl (Nat.le_of_ble_eq_true rfl) (Nat.le_of_ble_eq_true rfl) (by decide) (Nat.le_refl _) (Nat.le_refl _) (fun h1 q => ?_) (fun v h1 q => ?_) (fun E h1 q => ?_)
  · rcases hq _ _ q with ⟨x, e, -⟩ | ⟨E, k, e, -⟩ <;> cases e
  · rcases hq _ _ q with ⟨x, e, -⟩ | ⟨E, k, e, -⟩
    · cases e
      exact x_iret dL_knowing_5 rfl (Or.inl ⟨x, q, rfl⟩)
    · cases e
  · rcases hq _ _ q with ⟨x, e, -⟩ | ⟨E2, k, e, hk⟩
    · cases e
    · cases e
      match k, hk with
      | 0, hk =>
        cases hk
        refine XX.catch [] (0, 5, 6, 15) [] rfl (by decide) (fun _ h => absurd h List.not_mem_nil) ⟨by decide, by decide⟩ (by decide) wdL15 ?_
        refine x_astoreX_n (L' := [xR (0, 0, 0), xI p0, none]) dL_knowing_6 (by decide) rfl ?_
        refine x_ldc (v := (-900001)) dL_knowing_7 wd626 ?_
        exact x_iret dL_knowing_9 rfl (Or.inr ⟨_, 0, q, rfl, congrArg (fun v => (.inl (some (xI v)) : XO)) (by decide)⟩)
      | k + 1, hk => exact absurd hk (by simp)
set_option maxHeartbeats 4000000 in
set_option maxRecDepth 100000 in
theorem w_count {h : XH} {fs : List XV} (h0 : h (0, 0, 0) = some (.inl (8, fs))) (p0 p1 p2 p3 : Int) (a b : Nat) {Q1 : XO → XH → Prop} (hc : X mX8_count 0 (xEnt mX8_count [xR (0, 0, 0), xI p0, xI p1, xI p2, xI p3]) [] h a b Q1) (hq : pWq false ["java/lang/IndexOutOfBoundsException", "java/lang/IllegalArgumentException"] Q1) : X mL_count 0 (xEnt mL_count [xR (0, 0, 0), xI p0, xI p1, xI p2, xI p3]) [] h a b (pW ["java/lang/IndexOutOfBoundsException", "java/lang/IllegalArgumentException"] Q1) := by
  show X mL_count 0 [xR (0, 0, 0), xI p0, xI p1, xI p2, xI p3, none] [] h a b _
  refine x_aload_n dL_count_0 rfl ?_
  refine x_iload_n dL_count_1 rfl ?_
  refine x_iload_n dL_count_2 rfl ?_
  refine x_iload_n dL_count_3 rfl ?_
  refine x_iload dL_count_4 rfl ?_
  refine x_callV a b (as := [xI p0, xI p1, xI p2, xI p3]) (rest := []) ok_X8_count dL_count_6 wd720 ⟨wd721, wd722⟩ h0 rfl rfl hc rfl (Nat.le_of_ble_eq_true rfl) (Nat.le_of_ble_eq_true rfl) (by decide) (Nat.le_refl _) (Nat.le_refl _) (fun h1 q => ?_) (fun v h1 q => ?_) (fun E h1 q => ?_)
  · rcases hq _ _ q with ⟨x, e, -⟩ | ⟨E, k, e, -⟩ <;> cases e
  · rcases hq _ _ q with ⟨x, e, -⟩ | ⟨E, k, e, -⟩
    · cases e
      exact x_iret dL_count_9 rfl (Or.inl ⟨x, q, rfl⟩)
    · cases e
  · rcases hq _ _ q with ⟨x, e, -⟩ | ⟨E2, k, e, hk⟩
    · cases e
    · cases e
      match k, hk with
      | 0, hk =>
        cases hk
        refine XX.catch [] (0, 9, 10, 15) [(0, 9, 15, 18)] rfl (by decide) (fun _ h => absurd h List.not_mem_nil) ⟨by decide, by decide⟩ (by decide) wdL15 ?_
        refine x_astoreX (L' := [xR (0, 0, 0), xI p0, xI p1, xI p2, xI p3, none]) dL_count_10 (by decide) rfl ?_
        refine x_ldc (v := (-900001)) dL_count_12 wd626 ?_
        exact x_iret dL_count_14 rfl (Or.inr ⟨_, 0, q, rfl, congrArg (fun v => (.inl (some (xI v)) : XO)) (by decide)⟩)
      | 1, hk =>
        cases hk
        refine XX.catch [(0, 9, 10, 15)] (0, 9, 15, 18) [] rfl (by decide) (List.forall_mem_cons.mpr ⟨⟨by decide, "java/lang/IndexOutOfBoundsException", by decide, wdL15, by decide⟩, (fun _ h => absurd h List.not_mem_nil)⟩) ⟨by decide, by decide⟩ (by decide) wdL18 ?_
        refine x_astoreX (L' := [xR (0, 0, 0), xI p0, xI p1, xI p2, xI p3, none]) dL_count_15 (by decide) rfl ?_
        refine x_ldc (v := (-900002)) dL_count_17 wd627 ?_
        exact x_iret dL_count_19 rfl (Or.inr ⟨_, 1, q, rfl, congrArg (fun v => (.inl (some (xI v)) : XO)) (by decide)⟩)
      | k + 2, hk => exact absurd hk (by simp)
set_option maxHeartbeats 4000000 in
set_option maxRecDepth 100000 in
theorem w_rank {h : XH} {fs : List XV} (h0 : h (0, 0, 0) = some (.inl (8, fs))) (p0 p1 p2 p3 : Int) (a b : Nat) {Q1 : XO → XH → Prop} (hc : X mX8_rank 0 (xEnt mX8_rank [xR (0, 0, 0), xI p0, xI p1, xI p2, xI p3]) [] h a b Q1) (hq : pWq false ["java/lang/IndexOutOfBoundsException", "java/lang/IllegalArgumentException", "java/util/NoSuchElementException"] Q1) : X mL_rank 0 (xEnt mL_rank [xR (0, 0, 0), xI p0, xI p1, xI p2, xI p3]) [] h a b (pW ["java/lang/IndexOutOfBoundsException", "java/lang/IllegalArgumentException", "java/util/NoSuchElementException"] Q1) := by
  show X mL_rank 0 [xR (0, 0, 0), xI p0, xI p1, xI p2, xI p3, none] [] h a b _
  refine x_aload_n dL_rank_0 rfl ?_
  refine x_iload_n dL_rank_1 rfl ?_
  refine x_iload_n dL_rank_2 rfl ?_
  refine x_iload_n dL_rank_3 rfl ?_
  refine x_iload dL_rank_4 rfl ?_
  refine x_callV a b (as := [xI p0, xI p1, xI p2, xI p3]) (rest := []) ok_X8_rank dL_rank_6 wd737 ⟨wd738, wd739⟩ h0 rfl rfl hc rfl (Nat.le_of_ble_eq_true rfl) (Nat.le_of_ble_eq_true rfl) (by decide) (Nat.le_refl _) (Nat.le_refl _) (fun h1 q => ?_) (fun v h1 q => ?_) (fun E h1 q => ?_)
  · rcases hq _ _ q with ⟨x, e, -⟩ | ⟨E, k, e, -⟩ <;> cases e
  · rcases hq _ _ q with ⟨x, e, -⟩ | ⟨E, k, e, -⟩
    · cases e
      exact x_iret dL_rank_9 rfl (Or.inl ⟨x, q, rfl⟩)
    · cases e
  · rcases hq _ _ q with ⟨x, e, -⟩ | ⟨E2, k, e, hk⟩
    · cases e
    · cases e
      match k, hk with
      | 0, hk =>
        cases hk
        refine XX.catch [] (0, 9, 10, 15) [(0, 9, 15, 18), (0, 9, 20, 56)] rfl (by decide) (fun _ h => absurd h List.not_mem_nil) ⟨by decide, by decide⟩ (by decide) wdL15 ?_
        refine x_astoreX (L' := [xR (0, 0, 0), xI p0, xI p1, xI p2, xI p3, none]) dL_rank_10 (by decide) rfl ?_
        refine x_ldc (v := (-900001)) dL_rank_12 wd626 ?_
        exact x_iret dL_rank_14 rfl (Or.inr ⟨_, 0, q, rfl, congrArg (fun v => (.inl (some (xI v)) : XO)) (by decide)⟩)
      | 1, hk =>
        cases hk
        refine XX.catch [(0, 9, 10, 15)] (0, 9, 15, 18) [(0, 9, 20, 56)] rfl (by decide) (List.forall_mem_cons.mpr ⟨⟨by decide, "java/lang/IndexOutOfBoundsException", by decide, wdL15, by decide⟩, (fun _ h => absurd h List.not_mem_nil)⟩) ⟨by decide, by decide⟩ (by decide) wdL18 ?_
        refine x_astoreX (L' := [xR (0, 0, 0), xI p0, xI p1, xI p2, xI p3, none]) dL_rank_15 (by decide) rfl ?_
        refine x_ldc (v := (-900002)) dL_rank_17 wd627 ?_
        exact x_iret dL_rank_19 rfl (Or.inr ⟨_, 1, q, rfl, congrArg (fun v => (.inl (some (xI v)) : XO)) (by decide)⟩)
      | 2, hk =>
        cases hk
        refine XX.catch [(0, 9, 10, 15), (0, 9, 15, 18)] (0, 9, 20, 56) [] rfl (by decide) (List.forall_mem_cons.mpr ⟨⟨by decide, "java/lang/IndexOutOfBoundsException", by decide, wdL15, by decide⟩, (List.forall_mem_cons.mpr ⟨⟨by decide, "java/lang/IllegalArgumentException", by decide, wdL18, by decide⟩, (fun _ h => absurd h List.not_mem_nil)⟩)⟩) ⟨by decide, by decide⟩ (by decide) wdL56 ?_
        refine x_astoreX (L' := [xR (0, 0, 0), xI p0, xI p1, xI p2, xI p3, none]) dL_rank_20 (by decide) rfl ?_
        refine x_ldc (v := (-900003)) dL_rank_22 wd628 ?_
        exact x_iret dL_rank_24 rfl (Or.inr ⟨_, 2, q, rfl, congrArg (fun v => (.inl (some (xI v)) : XO)) (by decide)⟩)
      | k + 3, hk => exact absurd hk (by simp)
set_option maxHeartbeats 4000000 in
set_option maxRecDepth 100000 in
theorem w_derivedShare {h : XH} {fs : List XV} (h0 : h (0, 0, 0) = some (.inl (8, fs))) (p0 p1 : Int) (a b : Nat) {Q1 : XO → XH → Prop} (hc : X mX8_derivedShare 0 (xEnt mX8_derivedShare [xR (0, 0, 0), xI p0, xI p1]) [] h a b Q1) (hq : pWFq ["java/lang/IndexOutOfBoundsException", "java/lang/IllegalArgumentException", "java/lang/ArithmeticException"] Q1) : X mL_derivedShare 0 (xEnt mL_derivedShare [xR (0, 0, 0), xI p0, xI p1]) [] h a b (pWF ["java/lang/IndexOutOfBoundsException", "java/lang/IllegalArgumentException", "java/lang/ArithmeticException"] [3378231824, 3378231840, 3378231856] Q1) := by
  show X mL_derivedShare 0 [xR (0, 0, 0), xI p0, xI p1, none] [] h a b _
  refine x_aload_n dL_derivedShare_0 rfl ?_
  refine x_iload_n dL_derivedShare_1 rfl ?_
  refine x_iload_n dL_derivedShare_2 rfl ?_
  refine x_callV a b (as := [xI p0, xI p1]) (rest := []) ok_X8_derivedShare dL_derivedShare_3 wd909 ⟨wd910, wd911⟩ h0 rfl rfl hc rfl (Nat.le_of_ble_eq_true rfl) (Nat.le_of_ble_eq_true rfl) (by decide) (Nat.le_refl _) (Nat.le_refl _) (fun h1 q => ?_) (fun v h1 q => ?_) (fun E h1 q => ?_)
  · rcases hq _ _ q with ⟨x, e⟩ | ⟨E, k, e, -⟩ <;> cases e
  · rcases hq _ _ q with ⟨x, e⟩ | ⟨E, k, e, -⟩
    · cases e
      exact x_fret dL_derivedShare_6 rfl (Or.inl ⟨x, q, rfl⟩)
    · cases e
  · rcases hq _ _ q with ⟨x, e⟩ | ⟨E2, k, e, hk⟩
    · cases e
    · cases e
      match k, hk with
      | 0, hk =>
        cases hk
        refine XX.catch [] (0, 6, 7, 15) [(0, 6, 11, 18), (0, 6, 15, 64)] rfl (by decide) (fun _ h => absurd h List.not_mem_nil) ⟨by decide, by decide⟩ (by decide) wdL15 ?_
        refine x_astoreX_n (L' := [xR (0, 0, 0), xI p0, xI p1, none]) dL_derivedShare_7 (by decide) rfl ?_
        refine x_ldcf (v := 3378231824) dL_derivedShare_8 wd916 ?_
        exact x_fret dL_derivedShare_10 rfl (Or.inr ⟨_, 0, 3378231824, q, rfl, rfl, rfl⟩)
      | 1, hk =>
        cases hk
        refine XX.catch [(0, 6, 7, 15)] (0, 6, 11, 18) [(0, 6, 15, 64)] rfl (by decide) (List.forall_mem_cons.mpr ⟨⟨by decide, "java/lang/IndexOutOfBoundsException", by decide, wdL15, by decide⟩, (fun _ h => absurd h List.not_mem_nil)⟩) ⟨by decide, by decide⟩ (by decide) wdL18 ?_
        refine x_astoreX_n (L' := [xR (0, 0, 0), xI p0, xI p1, none]) dL_derivedShare_11 (by decide) rfl ?_
        refine x_ldcf (v := 3378231840) dL_derivedShare_12 wd917 ?_
        exact x_fret dL_derivedShare_14 rfl (Or.inr ⟨_, 1, 3378231840, q, rfl, rfl, rfl⟩)
      | 2, hk =>
        cases hk
        refine XX.catch [(0, 6, 7, 15), (0, 6, 11, 18)] (0, 6, 15, 64) [] rfl (by decide) (List.forall_mem_cons.mpr ⟨⟨by decide, "java/lang/IndexOutOfBoundsException", by decide, wdL15, by decide⟩, (List.forall_mem_cons.mpr ⟨⟨by decide, "java/lang/IllegalArgumentException", by decide, wdL18, by decide⟩, (fun _ h => absurd h List.not_mem_nil)⟩)⟩) ⟨by decide, by decide⟩ (by decide) wdL64 ?_
        refine x_astoreX_n (L' := [xR (0, 0, 0), xI p0, xI p1, none]) dL_derivedShare_15 (by decide) rfl ?_
        refine x_ldcf (v := 3378231856) dL_derivedShare_16 wd918 ?_
        exact x_fret dL_derivedShare_18 rfl (Or.inr ⟨_, 2, 3378231856, q, rfl, rfl, rfl⟩)
      | k + 3, hk => exact absurd hk (by simp)
set_option maxHeartbeats 4000000 in
set_option maxRecDepth 100000 in
theorem w_meanRank {h : XH} {fs : List XV} (h0 : h (0, 0, 0) = some (.inl (8, fs))) (p0 p1 : Int) (a b : Nat) {Q1 : XO → XH → Prop} (hc : X mX8_meanRank 0 (xEnt mX8_meanRank [xR (0, 0, 0), xI p0, xI p1]) [] h a b Q1) (hq : pWDq ["java/lang/IndexOutOfBoundsException", "java/lang/IllegalArgumentException", "java/lang/ArithmeticException"] Q1) : X mL_meanRank 0 (xEnt mL_meanRank [xR (0, 0, 0), xI p0, xI p1]) [] h a b (pWD ["java/lang/IndexOutOfBoundsException", "java/lang/IllegalArgumentException", "java/lang/ArithmeticException"] [13919350198670196736, 13919350207260131328, 13919350215850065920] Q1) := by
  show X mL_meanRank 0 [xR (0, 0, 0), xI p0, xI p1, none] [] h a b _
  refine x_aload_n dL_meanRank_0 rfl ?_
  refine x_iload_n dL_meanRank_1 rfl ?_
  refine x_iload_n dL_meanRank_2 rfl ?_
  refine x_callV a b (as := [xI p0, xI p1]) (rest := []) ok_X8_meanRank dL_meanRank_3 wd922 ⟨wd923, wd924⟩ h0 rfl rfl hc rfl (Nat.le_of_ble_eq_true rfl) (Nat.le_of_ble_eq_true rfl) (by decide) (Nat.le_refl _) (Nat.le_refl _) (fun h1 q => ?_) (fun v h1 q => ?_) (fun E h1 q => ?_)
  · rcases hq _ _ q with ⟨x, e⟩ | ⟨E, k, e, -⟩ <;> cases e
  · rcases hq _ _ q with ⟨x, e⟩ | ⟨E, k, e, -⟩
    · cases e
      exact x_dret dL_meanRank_6 rfl (Or.inl ⟨x, q, rfl⟩)
    · cases e
  · rcases hq _ _ q with ⟨x, e⟩ | ⟨E2, k, e, hk⟩
    · cases e
    · cases e
      match k, hk with
      | 0, hk =>
        cases hk
        refine XX.catch [] (0, 6, 7, 15) [(0, 6, 12, 18), (0, 6, 17, 64)] rfl (by decide) (fun _ h => absurd h List.not_mem_nil) ⟨by decide, by decide⟩ (by decide) wdL15 ?_
        refine x_astoreX_n (L' := [xR (0, 0, 0), xI p0, xI p1, none]) dL_meanRank_7 (by decide) rfl ?_
        refine x_ldc2d (v := 13919350198670196736) dL_meanRank_8 wd926 ?_
        exact x_dret dL_meanRank_11 rfl (Or.inr ⟨_, 0, 13919350198670196736, q, rfl, rfl, rfl⟩)
      | 1, hk =>
        cases hk
        refine XX.catch [(0, 6, 7, 15)] (0, 6, 12, 18) [(0, 6, 17, 64)] rfl (by decide) (List.forall_mem_cons.mpr ⟨⟨by decide, "java/lang/IndexOutOfBoundsException", by decide, wdL15, by decide⟩, (fun _ h => absurd h List.not_mem_nil)⟩) ⟨by decide, by decide⟩ (by decide) wdL18 ?_
        refine x_astoreX_n (L' := [xR (0, 0, 0), xI p0, xI p1, none]) dL_meanRank_12 (by decide) rfl ?_
        refine x_ldc2d (v := 13919350207260131328) dL_meanRank_13 wd927 ?_
        exact x_dret dL_meanRank_16 rfl (Or.inr ⟨_, 1, 13919350207260131328, q, rfl, rfl, rfl⟩)
      | 2, hk =>
        cases hk
        refine XX.catch [(0, 6, 7, 15), (0, 6, 12, 18)] (0, 6, 17, 64) [] rfl (by decide) (List.forall_mem_cons.mpr ⟨⟨by decide, "java/lang/IndexOutOfBoundsException", by decide, wdL15, by decide⟩, (List.forall_mem_cons.mpr ⟨⟨by decide, "java/lang/IllegalArgumentException", by decide, wdL18, by decide⟩, (fun _ h => absurd h List.not_mem_nil)⟩)⟩) ⟨by decide, by decide⟩ (by decide) wdL64 ?_
        refine x_astoreX_n (L' := [xR (0, 0, 0), xI p0, xI p1, none]) dL_meanRank_17 (by decide) rfl ?_
        refine x_ldc2d (v := 13919350215850065920) dL_meanRank_18 wd928 ?_
        exact x_dret dL_meanRank_21 rfl (Or.inr ⟨_, 2, 13919350215850065920, q, rfl, rfl, rfl⟩)
      | k + 3, hk => exact absurd hk (by simp)
set_option maxHeartbeats 4000000 in
set_option maxRecDepth 100000 in
theorem w_holds {h : XH} {fs : List XV} (h0 : h (0, 0, 0) = some (.inl (8, fs))) (p0 p1 p2 p3 : Int) (a b : Nat) {Q1 : XO → XH → Prop} (hc : X mX8_holds 0 (xEnt mX8_holds [xR (0, 0, 0), xI p0, xI p1, xI p2, xI p3]) [] h a b Q1) (hq : pWq true ["java/lang/IndexOutOfBoundsException", "java/lang/IllegalArgumentException"] Q1) : X mL_holds 0 (xEnt mL_holds [xR (0, 0, 0), xI p0, xI p1, xI p2, xI p3]) [] h a b (pW ["java/lang/IndexOutOfBoundsException", "java/lang/IllegalArgumentException"] Q1) := by
  show X mL_holds 0 [xR (0, 0, 0), xI p0, xI p1, xI p2, xI p3, none] [] h a b _
  refine x_aload_n dL_holds_0 rfl ?_
  refine x_iload_n dL_holds_1 rfl ?_
  refine x_iload_n dL_holds_2 rfl ?_
  refine x_iload_n dL_holds_3 rfl ?_
  refine x_iload dL_holds_4 rfl ?_
  refine x_callV a b (as := [xI p0, xI p1, xI p2, xI p3]) (rest := []) ok_X8_holds dL_holds_6 wd805 ⟨wd806, wd807⟩ h0 rfl rfl hc rfl (Nat.le_of_ble_eq_true rfl) (Nat.le_of_ble_eq_true rfl) (by decide) (Nat.le_refl _) (Nat.le_refl _) (fun h1 q => ?_) (fun v h1 q => ?_) (fun E h1 q => ?_)
  · rcases hq _ _ q with ⟨x, e, -⟩ | ⟨E, k, e, -⟩ <;> cases e
  · rcases hq _ _ q with ⟨x, e, hx⟩ | ⟨E, k, e, -⟩
    · cases e
      rcases hx rfl with rfl | rfl
      · refine x_if_eq (tgt := 16) dL_holds_9 (by decide) ⟨by decide, by decide⟩ (fun _ => ?_) (fun z => absurd rfl z)
        refine x_iconst dL_holds_16 ?_
        exact x_iret dL_holds_17 rfl (Or.inl ⟨0, q, rfl⟩)
      · refine x_if_eq (tgt := 16) dL_holds_9 (by decide) ⟨by decide, by decide⟩ (fun z => absurd z (by decide)) (fun _ => ?_)
        refine x_iconst dL_holds_12 ?_
        refine x_goto (tgt := 17) dL_holds_13 (by decide) ?_
        exact x_iret dL_holds_17 rfl (Or.inl ⟨1, q, rfl⟩)
    · cases e
  · rcases hq _ _ q with ⟨x, e, -⟩ | ⟨E2, k, e, hk⟩
    · cases e
    · cases e
      match k, hk with
      | 0, hk =>
        cases hk
        refine XX.catch [] (0, 17, 18, 15) [(0, 17, 23, 18)] rfl (by decide) (fun _ h => absurd h List.not_mem_nil) ⟨by decide, by decide⟩ (by decide) wdL15 ?_
        refine x_astoreX (L' := [xR (0, 0, 0), xI p0, xI p1, xI p2, xI p3, none]) dL_holds_18 (by decide) rfl ?_
        refine x_ldc (v := (-900001)) dL_holds_20 wd626 ?_
        exact x_iret dL_holds_22 rfl (Or.inr ⟨_, 0, q, rfl, congrArg (fun v => (.inl (some (xI v)) : XO)) (by decide)⟩)
      | 1, hk =>
        cases hk
        refine XX.catch [(0, 17, 18, 15)] (0, 17, 23, 18) [] rfl (by decide) (List.forall_mem_cons.mpr ⟨⟨by decide, "java/lang/IndexOutOfBoundsException", by decide, wdL15, by decide⟩, (fun _ h => absurd h List.not_mem_nil)⟩) ⟨by decide, by decide⟩ (by decide) wdL18 ?_
        refine x_astoreX (L' := [xR (0, 0, 0), xI p0, xI p1, xI p2, xI p3, none]) dL_holds_23 (by decide) rfl ?_
        refine x_ldc (v := (-900002)) dL_holds_25 wd627 ?_
        exact x_iret dL_holds_27 rfl (Or.inr ⟨_, 1, q, rfl, congrArg (fun v => (.inl (some (xI v)) : XO)) (by decide)⟩)
      | k + 2, hk => exact absurd hk (by simp)
set_option maxHeartbeats 4000000 in
set_option maxRecDepth 100000 in
theorem w_holdsAnew {h : XH} {fs : List XV} (h0 : h (0, 0, 0) = some (.inl (8, fs))) (p0 p1 p2 p3 : Int) (a b : Nat) {Q1 : XO → XH → Prop} (hc : X mX8_holdsAnew 0 (xEnt mX8_holdsAnew [xR (0, 0, 0), xI p0, xI p1, xI p2, xI p3]) [] h a b Q1) (hq : pWq true ["java/lang/IndexOutOfBoundsException", "java/lang/IllegalArgumentException"] Q1) : X mL_holdsAnew 0 (xEnt mL_holdsAnew [xR (0, 0, 0), xI p0, xI p1, xI p2, xI p3]) [] h a b (pW ["java/lang/IndexOutOfBoundsException", "java/lang/IllegalArgumentException"] Q1) := by
  show X mL_holdsAnew 0 [xR (0, 0, 0), xI p0, xI p1, xI p2, xI p3, none] [] h a b _
  refine x_aload_n dL_holdsAnew_0 rfl ?_
  refine x_iload_n dL_holdsAnew_1 rfl ?_
  refine x_iload_n dL_holdsAnew_2 rfl ?_
  refine x_iload_n dL_holdsAnew_3 rfl ?_
  refine x_iload dL_holdsAnew_4 rfl ?_
  refine x_callV a b (as := [xI p0, xI p1, xI p2, xI p3]) (rest := []) ok_X8_holdsAnew dL_holdsAnew_6 wd885 ⟨wd886, wd887⟩ h0 rfl rfl hc rfl (Nat.le_of_ble_eq_true rfl) (Nat.le_of_ble_eq_true rfl) (by decide) (Nat.le_refl _) (Nat.le_refl _) (fun h1 q => ?_) (fun v h1 q => ?_) (fun E h1 q => ?_)
  · rcases hq _ _ q with ⟨x, e, -⟩ | ⟨E, k, e, -⟩ <;> cases e
  · rcases hq _ _ q with ⟨x, e, hx⟩ | ⟨E, k, e, -⟩
    · cases e
      rcases hx rfl with rfl | rfl
      · refine x_if_eq (tgt := 16) dL_holdsAnew_9 (by decide) ⟨by decide, by decide⟩ (fun _ => ?_) (fun z => absurd rfl z)
        refine x_iconst dL_holdsAnew_16 ?_
        exact x_iret dL_holdsAnew_17 rfl (Or.inl ⟨0, q, rfl⟩)
      · refine x_if_eq (tgt := 16) dL_holdsAnew_9 (by decide) ⟨by decide, by decide⟩ (fun z => absurd z (by decide)) (fun _ => ?_)
        refine x_iconst dL_holdsAnew_12 ?_
        refine x_goto (tgt := 17) dL_holdsAnew_13 (by decide) ?_
        exact x_iret dL_holdsAnew_17 rfl (Or.inl ⟨1, q, rfl⟩)
    · cases e
  · rcases hq _ _ q with ⟨x, e, -⟩ | ⟨E2, k, e, hk⟩
    · cases e
    · cases e
      match k, hk with
      | 0, hk =>
        cases hk
        refine XX.catch [] (0, 17, 18, 15) [(0, 17, 23, 18)] rfl (by decide) (fun _ h => absurd h List.not_mem_nil) ⟨by decide, by decide⟩ (by decide) wdL15 ?_
        refine x_astoreX (L' := [xR (0, 0, 0), xI p0, xI p1, xI p2, xI p3, none]) dL_holdsAnew_18 (by decide) rfl ?_
        refine x_ldc (v := (-900001)) dL_holdsAnew_20 wd626 ?_
        exact x_iret dL_holdsAnew_22 rfl (Or.inr ⟨_, 0, q, rfl, congrArg (fun v => (.inl (some (xI v)) : XO)) (by decide)⟩)
      | 1, hk =>
        cases hk
        refine XX.catch [(0, 17, 18, 15)] (0, 17, 23, 18) [] rfl (by decide) (List.forall_mem_cons.mpr ⟨⟨by decide, "java/lang/IndexOutOfBoundsException", by decide, wdL15, by decide⟩, (fun _ h => absurd h List.not_mem_nil)⟩) ⟨by decide, by decide⟩ (by decide) wdL18 ?_
        refine x_astoreX (L' := [xR (0, 0, 0), xI p0, xI p1, xI p2, xI p3, none]) dL_holdsAnew_23 (by decide) rfl ?_
        refine x_ldc (v := (-900002)) dL_holdsAnew_25 wd627 ?_
        exact x_iret dL_holdsAnew_27 rfl (Or.inr ⟨_, 1, q, rfl, congrArg (fun v => (.inl (some (xI v)) : XO)) (by decide)⟩)
      | k + 2, hk => exact absurd hk (by simp)
set_option maxHeartbeats 4000000 in
set_option maxRecDepth 100000 in
theorem w_isOn {h : XH} {fs : List XV} (h0 : h (0, 0, 0) = some (.inl (8, fs))) (p0 p1 p2 : Int) (a b : Nat) {Q1 : XO → XH → Prop} (hc : X mX8_isOn 0 (xEnt mX8_isOn [xR (0, 0, 0), xI p0, xI p1, xI p2]) [] h a b Q1) (hq : pWq true ["java/lang/IndexOutOfBoundsException"] Q1) : X mL_isOn 0 (xEnt mL_isOn [xR (0, 0, 0), xI p0, xI p1, xI p2]) [] h a b (pW ["java/lang/IndexOutOfBoundsException"] Q1) := by
  show X mL_isOn 0 [xR (0, 0, 0), xI p0, xI p1, xI p2, none] [] h a b _
  refine x_aload_n dL_isOn_0 rfl ?_
  refine x_iload_n dL_isOn_1 rfl ?_
  refine x_iload_n dL_isOn_2 rfl ?_
  refine x_iload_n dL_isOn_3 rfl ?_
  refine x_callV a b (as := [xI p0, xI p1, xI p2]) (rest := []) ok_X8_isOn dL_isOn_4 wd812 ⟨wd813, wd814⟩ h0 rfl rfl hc rfl (Nat.le_of_ble_eq_true rfl) (Nat.le_of_ble_eq_true rfl) (by decide) (Nat.le_refl _) (Nat.le_refl _) (fun h1 q => ?_) (fun v h1 q => ?_) (fun E h1 q => ?_)
  · rcases hq _ _ q with ⟨x, e, -⟩ | ⟨E, k, e, -⟩ <;> cases e
  · rcases hq _ _ q with ⟨x, e, hx⟩ | ⟨E, k, e, -⟩
    · cases e
      rcases hx rfl with rfl | rfl
      · refine x_if_eq (tgt := 14) dL_isOn_7 (by decide) ⟨by decide, by decide⟩ (fun _ => ?_) (fun z => absurd rfl z)
        refine x_iconst dL_isOn_14 ?_
        exact x_iret dL_isOn_15 rfl (Or.inl ⟨0, q, rfl⟩)
      · refine x_if_eq (tgt := 14) dL_isOn_7 (by decide) ⟨by decide, by decide⟩ (fun z => absurd z (by decide)) (fun _ => ?_)
        refine x_iconst dL_isOn_10 ?_
        refine x_goto (tgt := 15) dL_isOn_11 (by decide) ?_
        exact x_iret dL_isOn_15 rfl (Or.inl ⟨1, q, rfl⟩)
    · cases e
  · rcases hq _ _ q with ⟨x, e, -⟩ | ⟨E2, k, e, hk⟩
    · cases e
    · cases e
      match k, hk with
      | 0, hk =>
        cases hk
        refine XX.catch [] (0, 15, 16, 15) [] rfl (by decide) (fun _ h => absurd h List.not_mem_nil) ⟨by decide, by decide⟩ (by decide) wdL15 ?_
        refine x_astoreX (L' := [xR (0, 0, 0), xI p0, xI p1, xI p2, none]) dL_isOn_16 (by decide) rfl ?_
        refine x_ldc (v := (-900001)) dL_isOn_18 wd626 ?_
        exact x_iret dL_isOn_20 rfl (Or.inr ⟨_, 0, q, rfl, congrArg (fun v => (.inl (some (xI v)) : XO)) (by decide)⟩)
      | k + 1, hk => exact absurd hk (by simp)
set_option maxHeartbeats 4000000 in
set_option maxRecDepth 100000 in
theorem w_setUnique {h : XH} {fs : List XV} (h0 : h (0, 0, 0) = some (.inl (8, fs))) (p0 p1 : Int) (a b : Nat) {Q1 : XO → XH → Prop} (hc : X mX8_setUnique 0 (xEnt mX8_setUnique [xR (0, 0, 0), xI p0, xI p1]) [] h a b Q1) (hq : pWq true ["java/lang/IllegalArgumentException"] Q1) : X mL_setUnique 0 (xEnt mL_setUnique [xR (0, 0, 0), xI p0, xI p1]) [] h a b (pW ["java/lang/IllegalArgumentException"] Q1) := by
  show X mL_setUnique 0 [xR (0, 0, 0), xI p0, xI p1, none] [] h a b _
  refine x_aload_n dL_setUnique_0 rfl ?_
  refine x_iload_n dL_setUnique_1 rfl ?_
  refine x_iload_n dL_setUnique_2 rfl ?_
  refine x_callV a b (as := [xI p0, xI p1]) (rest := []) ok_X8_setUnique dL_setUnique_3 wd820 ⟨wd821, wd822⟩ h0 rfl rfl hc rfl (Nat.le_of_ble_eq_true rfl) (Nat.le_of_ble_eq_true rfl) (by decide) (Nat.le_refl _) (Nat.le_refl _) (fun h1 q => ?_) (fun v h1 q => ?_) (fun E h1 q => ?_)
  · rcases hq _ _ q with ⟨x, e, -⟩ | ⟨E, k, e, -⟩ <;> cases e
  · rcases hq _ _ q with ⟨x, e, hx⟩ | ⟨E, k, e, -⟩
    · cases e
      rcases hx rfl with rfl | rfl
      · refine x_if_eq (tgt := 13) dL_setUnique_6 (by decide) ⟨by decide, by decide⟩ (fun _ => ?_) (fun z => absurd rfl z)
        refine x_iconst dL_setUnique_13 ?_
        exact x_iret dL_setUnique_14 rfl (Or.inl ⟨0, q, rfl⟩)
      · refine x_if_eq (tgt := 13) dL_setUnique_6 (by decide) ⟨by decide, by decide⟩ (fun z => absurd z (by decide)) (fun _ => ?_)
        refine x_iconst dL_setUnique_9 ?_
        refine x_goto (tgt := 14) dL_setUnique_10 (by decide) ?_
        exact x_iret dL_setUnique_14 rfl (Or.inl ⟨1, q, rfl⟩)
    · cases e
  · rcases hq _ _ q with ⟨x, e, -⟩ | ⟨E2, k, e, hk⟩
    · cases e
    · cases e
      match k, hk with
      | 0, hk =>
        cases hk
        refine XX.catch [] (0, 14, 15, 18) [] rfl (by decide) (fun _ h => absurd h List.not_mem_nil) ⟨by decide, by decide⟩ (by decide) wdL18 ?_
        refine x_astoreX_n (L' := [xR (0, 0, 0), xI p0, xI p1, none]) dL_setUnique_15 (by decide) rfl ?_
        refine x_ldc (v := (-900001)) dL_setUnique_16 wd626 ?_
        exact x_iret dL_setUnique_18 rfl (Or.inr ⟨_, 0, q, rfl, congrArg (fun v => (.inl (some (xI v)) : XO)) (by decide)⟩)
      | k + 1, hk => exact absurd hk (by simp)
theorem CO.wq {S : XS} {b : Bool} {Es : List String} {R : Nat → Int → XS → Prop} (h : b = true → ∀ v D, R 0 v D → v = 0 ∨ v = 1) : pWq b Es (CO S Es R) := by
  rintro o h' ⟨S1, D, rfl, q, cb, -, -, H⟩
  rcases H with ⟨v, rfl, hv⟩ | ⟨E, k, rfl, hk, -⟩
  · exact Or.inl ⟨v, rfl, fun z => h z v D hv⟩
  · exact Or.inr ⟨E, k, rfl, hk⟩
/-- how a wrapper ends -/
def WO (S : XS) (R : Nat → Int → XS → Prop) : XO → XH → Prop := fun o h' => ∃ S1 D k v, h' = hp S1 ∧ o = .inl (some (xI (if k = 0 then v else -900000 - ((k : Nat) : Int)))) ∧ QEq D S1 ∧ CB S1 ∧ MdE S D ∧ JInv D ∧ R k v D
theorem pW.wo {S : XS} {Es : List String} {R : Nat → Int → XS → Prop} (hd : Es.Nodup) {o : XO} {h' : XH} (h : pW Es (CO S Es R) o h') : WO S R o h' := by
  rcases h with ⟨x, ⟨S1, D, rfl, q, cb, em, ji, H⟩, rfl⟩ | ⟨E, k, ⟨S1, D, rfl, q, cb, em, ji, H⟩, hk, rfl⟩
  · rcases H with ⟨v, e, hv⟩ | ⟨E, k, e, -⟩
    · cases e
      exact ⟨S1, D, 0, x, rfl, rfl, q, cb, em, ji, hv⟩
    · cases e
  · rcases H with ⟨v, e, -⟩ | ⟨E2, k2, e, hk2, hr⟩
    · cases e
    · cases e
      have hl : k2 < Es.length := (List.getElem?_eq_some_iff.mp hk2).1
      have ek : k2 = k := (List.getElem?_inj hl hd).mp (hk2.trans hk.symm)
      subst ek
      exact ⟨S1, D, k2 + 1, 0, rfl, congrArg (fun v => (.inl (some (xI v)) : XO)) (by rw [if_neg (by omega)]; omega), q, cb, em, ji, hr⟩
/-- a question: nothing told has changed -/
def pK (S : XS) (z : Int) : XO → XH → Prop := fun o h' => o = .inl (some (xI z)) ∧ ∃ T, h' = hp T ∧ QEq S T ∧ CB T ∧ JInv T
theorem WO.k {S : XS} {R : Nat → Int → XS → Prop} {z : Int} (hr : ∀ k v D, R k v D → S = D ∧ (if k = 0 then v else -900000 - ((k : Nat) : Int)) = z) {o : XO} {h' : XH} (h : WO S R o h') : pK S z o h' := by
  obtain ⟨S1, D, k, v, rfl, rfl, q, cb, -, ji, H⟩ := h
  obtain ⟨rfl, e⟩ := hr k v D H
  exact ⟨by rw [e], S1, rfl, q, cb, ji.q q⟩
set_option maxHeartbeats 4000000 in
set_option maxRecDepth 100000 in
theorem wo_tell (S : XS) (hI : LwI S) (i q x y : Int) (zi : zR i) (zq : zR q) (zx : zR x) (zy : zR y) : X mL_tell 0 (xEnt mL_tell [xR (0, 0, 0), xI i, xI q, xI x, xI y]) [] (hp S) 6 36 (WO S (R_tell S i q x y)) := X.weak (w_tell (hp0 S) i q x y 6 36 (cu_tell S hI i q x y zi zq zx zy) (CO.wq (fun z _ _ _ => by cases z))) (Nat.le_refl _) (Nat.le_refl _) (fun _ _ z => pW.wo (by decide) z)
set_option maxHeartbeats 4000000 in
set_option maxRecDepth 100000 in
theorem wo_untell (S : XS) (hI : LwI S) (i q x y : Int) (zi : zR i) (zq : zR q) (zx : zR x) (zy : zR y) : X mL_untell 0 (xEnt mL_untell [xR (0, 0, 0), xI i, xI q, xI x, xI y]) [] (hp S) 6 36 (WO S (R_untell S i q x y)) := X.weak (w_untell (hp0 S) i q x y 6 36 (cu_untell S hI i q x y zi zq zx zy) (CO.wq (fun z _ _ _ => by cases z))) (Nat.le_refl _) (Nat.le_refl _) (fun _ _ z => pW.wo (by decide) z)
set_option maxHeartbeats 4000000 in
set_option maxRecDepth 100000 in
theorem wo_turn (S : XS) (hI : LwI S) (i r z : Int) (zi : zR i) (zr : zR r) (hz1 : z = 0 ∨ z = 1) : X mL_turn 0 (xEnt mL_turn [xR (0, 0, 0), xI i, xI r, xI z]) [] (hp S) 6 36 (WO S (R_turn S i r z)) := X.weak (w_turn (hp0 S) i r z 6 36 (cu_turn S hI i r z zi zr hz1) (CO.wq (fun z _ _ _ => by cases z))) (Nat.le_refl _) (Nat.le_refl _) (fun _ _ z => pW.wo (by decide) z)
set_option maxHeartbeats 4000000 in
set_option maxRecDepth 100000 in
theorem wo_knowing (S : XS) (hI : LwI S) (i : Int) (zi : zR i) : X mL_knowing 0 (xEnt mL_knowing [xR (0, 0, 0), xI i]) [] (hp S) 6 36 (WO S (R_knowing S i)) := X.weak (w_knowing (hp0 S) i 6 36 (cu_knowing S hI i zi) (CO.wq (fun z _ _ _ => by cases z))) (Nat.le_refl _) (Nat.le_refl _) (fun _ _ z => pW.wo (by decide) z)
theorem vb_isOn (S : XS) (i r n : Int) {v : Int} {D : XS} (h : R_isOn S i r n 0 v D) : v = 0 ∨ v = 1 := by
  rcases h with h | h
  · first | (obtain ⟨-, -, -, h, -⟩ := h; rw [h]; exact bI_01 _) | (obtain ⟨-, -, h, -⟩ := h; rw [h]; exact bI_01 _)
  · exfalso; first | (have := h.1; omega) | (rcases h with h | h <;> (have := h.1; omega))
set_option maxHeartbeats 4000000 in
set_option maxRecDepth 100000 in
theorem wo_isOn (S : XS) (hI : LwI S) (i r n : Int) (zi : zR i) (zr : zR r) (zn : zR n) : X mL_isOn 0 (xEnt mL_isOn [xR (0, 0, 0), xI i, xI r, xI n]) [] (hp S) 6 36 (WO S (R_isOn S i r n)) := X.weak (w_isOn (hp0 S) i r n 6 36 (cu_isOn S hI i r n zi zr zn) (CO.wq (fun _ v D hv => vb_isOn S i r n hv))) (Nat.le_refl _) (Nat.le_refl _) (fun _ _ z => pW.wo (by decide) z)
theorem vb_holds (S : XS) (i n t q : Int) {v : Int} {D : XS} (h : R_holds S i n t q 0 v D) : v = 0 ∨ v = 1 := by
  rcases h with h | h
  · first | (obtain ⟨-, -, -, h, -⟩ := h; rw [h]; exact bI_01 _) | (obtain ⟨-, -, h, -⟩ := h; rw [h]; exact bI_01 _)
  · exfalso; first | (have := h.1; omega) | (rcases h with h | h <;> (have := h.1; omega))
set_option maxHeartbeats 4000000 in
set_option maxRecDepth 100000 in
theorem wo_holds (S : XS) (hI : LwI S) (i n t q : Int) (zi : zR i) (zn : zR n) (zt : zR t) (zq : zR q) : X mL_holds 0 (xEnt mL_holds [xR (0, 0, 0), xI i, xI n, xI t, xI q]) [] (hp S) 6 36 (WO S (R_holds S i n t q)) := X.weak (w_holds (hp0 S) i n t q 6 36 (cu_holds S hI i n t q zi zn zt zq) (CO.wq (fun _ v D hv => vb_holds S i n t q hv))) (Nat.le_refl _) (Nat.le_refl _) (fun _ _ z => pW.wo (by decide) z)
theorem vb_holdsAnew (S : XS) (i n t q : Int) {v : Int} {D : XS} (h : R_holdsAnew S i n t q 0 v D) : v = 0 ∨ v = 1 := by
  rcases h with h | h
  · first | (obtain ⟨-, -, -, h, -⟩ := h; rw [h]; exact bI_01 _) | (obtain ⟨-, -, h, -⟩ := h; rw [h]; exact bI_01 _)
  · exfalso; first | (have := h.1; omega) | (rcases h with h | h <;> (have := h.1; omega))
set_option maxHeartbeats 4000000 in
set_option maxRecDepth 100000 in
theorem wo_holdsAnew (S : XS) (hI : LwI S) (i n t q : Int) (zi : zR i) (zn : zR n) (zt : zR t) (zq : zR q) : X mL_holdsAnew 0 (xEnt mL_holdsAnew [xR (0, 0, 0), xI i, xI n, xI t, xI q]) [] (hp S) 6 36 (WO S (R_holdsAnew S i n t q)) := X.weak (w_holdsAnew (hp0 S) i n t q 6 36 (cu_holdsAnew S hI i n t q zi zn zt zq) (CO.wq (fun _ v D hv => vb_holdsAnew S i n t q hv))) (Nat.le_refl _) (Nat.le_refl _) (fun _ _ z => pW.wo (by decide) z)
set_option maxHeartbeats 4000000 in
set_option maxRecDepth 100000 in
theorem wo_count (S : XS) (hI : LwI S) (i n t r : Int) (zi : zR i) (zn : zR n) (zt : zR t) (zr : zR r) : X mL_count 0 (xEnt mL_count [xR (0, 0, 0), xI i, xI n, xI t, xI r]) [] (hp S) 6 36 (WO S (R_count S i n t r)) := X.weak (w_count (hp0 S) i n t r 6 36 (cu_count S hI i n t r zi zn zt zr) (CO.wq (fun z _ _ _ => by cases z))) (Nat.le_refl _) (Nat.le_refl _) (fun _ _ z => pW.wo (by decide) z)
set_option maxHeartbeats 4000000 in
set_option maxRecDepth 100000 in
theorem wo_rank (S : XS) (hI : LwI S) (i n t q : Int) (zi : zR i) (zn : zR n) (zt : zR t) (zq : zR q) : X mL_rank 0 (xEnt mL_rank [xR (0, 0, 0), xI i, xI n, xI t, xI q]) [] (hp S) 6 36 (WO S (R_rank S i n t q)) := X.weak (w_rank (hp0 S) i n t q 6 36 (cu_rank S hI i n t q zi zn zt zq) (CO.wq (fun z _ _ _ => by cases z))) (Nat.le_refl _) (Nat.le_refl _) (fun _ _ z => pW.wo (by decide) z)
set_option maxHeartbeats 4000000 in
set_option maxRecDepth 100000 in
theorem wo_layer (S : XS) (hI : LwI S) (i r : Int) (zi : zR i) (zr : zR r) : X mL_layer 0 (xEnt mL_layer [xR (0, 0, 0), xI i, xI r]) [] (hp S) 6 36 (WO S (R_layer S i r)) := X.weak (w_layer (hp0 S) i r 6 36 (cu_layer S hI i r zi zr) (CO.wq (fun z _ _ _ => by cases z))) (Nat.le_refl _) (Nat.le_refl _) (fun _ _ z => pW.wo (by decide) z)
theorem vb_setUnique (S : XS) (hw : WI S) (i z : Int) {v : Int} {D : XS} (h : R_setUnique S i z 0 v D) : v = 0 ∨ v = 1 := by
  rcases h with ⟨-, -, h, -⟩ | ⟨h, -⟩
  · rw [h]; exact wfa3 hw i
  · omega
set_option maxHeartbeats 4000000 in
set_option maxRecDepth 100000 in
theorem wo_setUnique (S : XS) (hI : LwI S) (i z : Int) (zi : zR i) (hz1 : z = 0 ∨ z = 1) : X mL_setUnique 0 (xEnt mL_setUnique [xR (0, 0, 0), xI i, xI z]) [] (hp S) 6 36 (WO S (R_setUnique S i z)) := X.weak (w_setUnique (hp0 S) i z 6 36 (cu_setUnique S hI i z zi hz1) (CO.wq (fun _ v D hv => vb_setUnique S hI.1.1 i z hv))) (Nat.le_refl _) (Nat.le_refl _) (fun _ _ z => pW.wo (by decide) z)
set_option maxHeartbeats 4000000 in
set_option maxRecDepth 100000 in
theorem wo_addRule (S : XS) (hI : LwI S) (h a b c u v : Int) (zh : zR h) (za : zR a) (zb : zR b) (zc : zR c) (zu : zR u) (zv : zR v) : X mL_addRule 0 (xEnt mL_addRule [xR (0, 0, 0), xI h, xI a, xI b, xI c, xI u, xI v]) [] (hp S) 6 36 (WO S (R_addRule S h a b c u v)) := X.weak (w_addRule (hp0 S) h a b c u v 6 36 (cu_addRule S hI h a b c u v zh za zb zc zu zv) (CO.wq (fun z _ _ _ => by cases z))) (Nat.le_refl _) (Nat.le_refl _) (fun _ _ z => pW.wo (by decide) z)
set_option maxHeartbeats 4000000 in
set_option maxRecDepth 100000 in
theorem wo_addCondition (S : XS) (hI : LwI S) (r c u v z : Int) (zr : zR r) (zc : zR c) (zu : zR u) (zv : zR v) (hz1 : z = 0 ∨ z = 1) : X mL_addCondition 0 (xEnt mL_addCondition [xR (0, 0, 0), xI r, xI c, xI u, xI v, xI z]) [] (hp S) 6 36 (WO S (R_addCondition S r c u v z)) := X.weak (w_addCondition (hp0 S) r c u v z 6 36 (cu_addCondition S hI r c u v z zr zc zu zv hz1) (CO.wq (fun z _ _ _ => by cases z))) (Nat.le_refl _) (Nat.le_refl _) (fun _ _ z => pW.wo (by decide) z)
