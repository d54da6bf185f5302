/-! calls, throws, and the making of cells -/
theorem xW_good {w : Cond} (h : w ∈ xW) : goodWord w = true := (List.mem_filter.mp h).2
theorem xW_in {ws : List Cond} (h : ∀ w ∈ ws, w ∈ xW) : GoodIn xW ws := fun w hw => ⟨h w hw, good_of_word (xW_good (h w hw))⟩
/-- what is decided of a method once: it has no table; its words stand; n: its parameters -/
def xOk (M : XM) (n : Nat) : Prop := xmH M = [] ∧ plainName (xmY M).cls = true ∧ Cond.code (xmY M) (xmC M) (xmL M) (xmR M) ∈ xW ∧ Cond.initialized (xmY M).cls ∈ xW ∧ ((xmY M).cls ≠ "java/lang/invoke/MethodHandle" ∧ (xmY M).cls ≠ "java/lang/invoke/VarHandle") ∧ (parseMethodDescriptor (xmY M).desc).map (fun d => d.parameters.length) = some n
abbrev xWs (M : XM) : List Cond := Cond.code (xmY M) (xmC M) (xmL M) (xmR M) :: xW
def xPc (D : va_G) (dA : Nat → ClassId) (base : Nat) (ad : XL → Nat) (h : XH) (as : List XV) : Array Value → State → Prop := fun v U => ∃ ws : List Value, v = ws.toArray ∧ xSR ad h as ws ∧ xAmb D dA base U ∧ base ≤ U.heap.size ∧ xS9 U base ad h ∧ xHR D dA base ad h U.heap
theorem xPc_blind {D : va_G} {dA : Nat → ClassId} {base : Nat} {ad : XL → Nat} {h : XH} {as : List XV} : FrameBlind (xPc D dA base ad h as) := by
  intro a U g mk ⟨ws, q1, q2, q3, q4, q5, q6⟩
  refine ⟨ws, q1, q2, xAmb.moved (U := U.calling g mk a) q3 (State.WarmedH.refl U) (fun _ _ _ => rfl), q4, fun l c hl h9 => ?_, q6⟩
  obtain ⟨n, f, a1, a2, a3⟩ := q5 l c hl h9
  exact ⟨n, f, a1, va_X.moved (u := U) (U := U.calling g mk a) (Vm.Alike.refl U.vm) a2, a3⟩
theorem x_fx {M : XM} {p : Program} {l : Launch} {ws : List Cond} {rm : Room} {e : Env} {s s₁ : State} {m : MethodId} {args : Array Value} {below : List Frame} {meth : Method} {c : Code} {D : va_G} {dA : Nat → ClassId} {base : Nat} {w0 : Cond} (hw : ws = w0 :: xW)
    (B : BodyLoose p l (xmY M) (headSpec ws rm) (xmC M) (xmL M) (xmR M) e s m args below meth c s₁) (hml : c.maxLocals = xmL M) (ht : c.exceptionTable.toList = tableOf (xmH M)) (hl : l.stackTraces = false) (hfr : xmF M ≤ rm.frames) (hlo : xmO M ≤ rm.locals) (ha : xAmb D dA base s) (hb : base ≤ s.heap.size) : xFx M p l (headSpec ws rm).room s m args meth c D dA base :=
  ⟨B.exec, B.bytes, B.returns, hml, findClass_of_methodNamed B.named, fun w h => atoms_spec (ws := ws) B.pre w (by rw [hw]; exact List.mem_cons_of_mem _ h), B.notSynchronized, ht, (name_of_methodNamed B.named B.method).1, hfr, hlo, hl, ha, hb⟩
theorem x_met {M : XM} {n : Nat} {as : List XV} {h : XH} {a b : Nat} {Q : XO → XH → Prop} (hok : xOk M n) (hc : X M 0 (xEnt M as) [] h a b Q) (hn : (xArgs as).length ≤ xmL M) {l : Launch} (hl : l.stackTraces = false) (D : va_G) (dA : Nat → ClassId) (base : Nat) (ad : XL → Nat) :
    vx_Met l (xmY M) (xWs M) { frames := xmF M, cells := a, slots := b, locals := xmO M } (xPc D dA base ad h as) (xQc D dA base ad h Q) (xXC D dA base ad h Q) a b (fun q => base ≤ q) := by
  refine vx_ofW (cc := xmC M) (maxL := xmL M) (ret := xmR M) hok.2.1 rfl ?_
  intro p e s m args below meth c s₁ B hml ht hv
  obtain ⟨ws, rfl, hsr, hamb, hb0, h9, hH⟩ := hv
  rw [lg_entry_eq]
  have ht2 : c.exceptionTable.toList = tableOf (xmH M) := by
    rw [hok.1]
    exact List.eq_nil_iff_forall_not_mem.mpr fun x hx => ht x hx
  exact hc p l e _ s m _ below meth c D dA base ad h ad s.heap [] 0 0 _ [] (x_fx rfl B hml ht2 hl (Nat.le_refl _) (Nat.le_refl _) hamb hb0) xEx.rf h9 hH va_S.rf (xEnt_ok hsr hn) rfl (by show 0 + a ≤ a; omega) (by show 0 + b ≤ b; omega)
/-- behind a call -/
theorem x_back {M : XM} {pc : Nat} {L rest : List XV} {h : XH} {kc ks a b : Nat} {Q Q1 : XO → XH → Prop} {p : Program} {l : Launch} {e : Env} {R : Room} {s : State} {m : MethodId} {args : Array Value} {below : List Frame} {meth : Method} {c : Code} {D : va_G} {dA : Nat → ClassId} {base : Nat} {ad0 : XL → Nat} {h0 : XH} {ad : XL → Nat} {H : Heap} {locs : List Loc} {cells slots : Nat} {ls : Array Slot} {stv restv : List Value} {av : Array Value}
    (hr : vx_Run p l e R s m args below meth c H locs cells slots a b (F0 m pc ls stv) restv (xQc D dA base ad h Q1 av) (xXC D dA base ad h Q1) (fun q => base ≤ q))
    (F : xFx M p l R s m args meth c D dA base) (hE : xEx ad0 h0 ad h) (h9 : xS9 s base ad h) (hS : va_S (fun q => base ≤ q) s.heap H locs) (hL : xLR ad h (xmL M) L ls) (hst : xSR ad h rest restv) (hc : cells + kc ≤ R.cells) (hs : slots + ks ≤ R.slots) (ha : a ≤ kc) (hb : b ≤ ks)
    (kv : ∀ h', Q1 (.inl none) h' → X M (pc + 3) L rest h' (kc - a) (ks - b) Q) (kr : ∀ v h', Q1 (.inl (some v)) h' → X M (pc + 3) L (v :: rest) h' (kc - a) (ks - b) Q) (kx : ∀ E h', Q1 (.inr E) h' → XX M pc L h' E (kc - a) (ks - b) Q) :
    W p l e R s m args below meth c H locs cells slots (vx_MQ below (xQc D dA base ad0 h0 Q) (xXC D dA base ad0 h0 Q) args s R.cells R.slots (fun q => base ≤ q)) (F0 m pc ls stv) := by
  intro T hT X0
  rcases hr T hT X0 with ⟨v, st₀, t, T', LL, e0, X', hLL, e1, e2, ⟨r, rv, h', ad', q1, q2, q3, q4, q5, q6⟩, st⟩ | ⟨q, st₀, t, T', LL, E, ce, e0, X', hLL, e1, e2, ⟨h', ad', q2, q3, q4, q6⟩, hce, hcv, hcl, st⟩
  · cases q1
    obtain ⟨-, -, k3⟩ := vx_keep e0 e1 hS (fun _ _ z => z) (fun _ z => z) hLL q6
    rcases rv with _ | rv <;> rcases v with _ | v
    · obtain ⟨t2, a1, b1⟩ := kv h' q2 p l e R s m args below meth c D dA base ad0 h0 ad' T'.heap (locs ++ LL) (cells + a) (slots + b) ls restv F (hE.tr q3) (h9.ex q3) (by rw [e1]; exact q4) k3 (hL.mono q3) (hst.mono q3) (by omega) (by omega) T' rfl X'
      exact ⟨t2, st t2 a1, b1⟩
    · exact q5.elim
    · exact q5.elim
    · obtain ⟨t2, a1, b1⟩ := kr rv h' q2 p l e R s m args below meth c D dA base ad0 h0 ad' T'.heap (locs ++ LL) (cells + a) (slots + b) ls (v :: restv) F (hE.tr q3) (h9.ex q3) (by rw [e1]; exact q4) k3 (hL.mono q3) ⟨_, _, rfl, q5, hst.mono q3⟩ (by omega) (by omega) T' rfl X'
      exact ⟨t2, st t2 a1, b1⟩
  · obtain ⟨-, -, k3⟩ := vx_keep e0 e1 hS (fun _ _ z => z) (fun _ z => z) hLL q6
    obtain ⟨t2, a1, b1⟩ := kx E h' q2 p l e R s m args below meth c D dA base ad0 h0 ad' T'.heap (locs ++ LL) (cells + a) (slots + b) ls restv q ce F (hE.tr q3) (h9.ex q3) (by rw [e1]; exact q4) k3 (hL.mono q3) (by rw [e1]; exact hce) hcv hcl (by omega) (by omega) T' rfl X'
    exact ⟨t2, st.trans a1, b1⟩
/-- a callee's start, out of the caller's world -/
theorem xPc_at {s U : State} {D : va_G} {dA : Nat → ClassId} {base : Nat} {ad : XL → Nat} {h : XH} {as : List XV} {ws : List Value} {H : Heap} {locs : List Loc} (hamb : xAmb D dA base s) (hb : base ≤ s.heap.size) (h9 : xS9 s base ad h) (hH : xHR D dA base ad h H) (hS : va_S (fun q => base ≤ q) s.heap H locs) (hsr : xSR ad h as ws) (hU : U.heap = H) (hW : s.WarmedH U.vm) : xPc D dA base ad h as ws.toArray U := by
  refine ⟨ws, rfl, hsr, hamb.moved hW (fun a h1 h2 => by rw [hU]; exact hS.2.1 a h1 h2), by rw [hU]; exact Nat.le_trans hb hS.1, fun l c hl h99 => ?_, by rw [hU]; exact hH⟩
  obtain ⟨n, f, a1, a2, a3⟩ := h9 l c hl h99
  exact ⟨n, f, a1, va_X.moved hW.alike (a2.kept (by rw [hU]; exact hS.2.1 _ (by omega) (by show ¬ base ≤ ad l; omega))), a3⟩
theorem x_callB {M M' : XM} {i n a b : Nat} {R : Room} {s : State} {args : Array Value} (hok : xOk M' n) (hts : ∀ w ∈ xW, w.before args s = true) (hl : Cond.methodLink (xmY M).cls i (xmY M') ∈ xW) (hroom : xmF M' + 1 ≤ xmF M ∧ 8 + (xmL M' + 11) + xmO M' ≤ xmO M) (h1 : xmF M ≤ R.frames) (h2 : xmO M ≤ R.locals) :
    CallB R s args (xmY M).cls i (xmY M') (xmC M') (xmL M') (xmR M') (xWs M') { frames := xmF M', cells := a, slots := b, locals := xmO M' } a b n := by
  obtain ⟨-, -, q3, q4, q5, q6⟩ := hok
  refine ⟨rfl, rfl, Nat.le_trans hroom.1 h1, Nat.le_trans hroom.2 h2, pay_in hts (xW_in fun w hw => ?_), List.mem_cons_self, hts _ q3, hts _ q4, q5, fun sig h => ?_, hts _ hl⟩
  · rcases List.mem_cons.mp hw with rfl | hw
    · exact q3
    · exact hw
  · rw [h] at q6
    exact (Option.some.inj q6).symm
theorem x_callS {M M' : XM} {pc i n : Nat} {L as rest : List XV} {h : XH} {kc ks : Nat} (a b : Nat) {Q Q1 : XO → XH → Prop} (hok : xOk M' n) (hd : decode (xmC M) pc = .ok (.invokestatic i, 3)) (hl : Cond.methodLink (xmY M).cls i (xmY M') ∈ xW) (hsw : Cond.static (xmY M') ∈ xW)
    (hc1 : X M' 0 (xEnt M' as) [] h a b Q1) (hn : as.length = n) (hn2 : (xArgs as).length ≤ xmL M') (hcat : (rest.map xCat).sum ≤ 8) (hroom : xmF M' + 1 ≤ xmF M ∧ 8 + (xmL M' + 11) + xmO M' ≤ xmO M) (ha : a ≤ kc) (hb : b ≤ ks)
    (kv : ∀ h', Q1 (.inl none) h' → X M (pc + 3) L rest h' (kc - a) (ks - b) Q) (kr : ∀ v h', Q1 (.inl (some v)) h' → X M (pc + 3) L (v :: rest) h' (kc - a) (ks - b) Q) (kx : ∀ E h', Q1 (.inr E) h' → XX M pc L h' E (kc - a) (ks - b) Q) :
    X M pc L (as.reverse ++ rest) h kc ks Q := by
  intro p l e R s m args below meth c D dA base ad0 h0 ad H locs cells slots ls stv F hE h9 hH hS hL hst hc hs
  obtain ⟨w1, w2, rfl, s1, s2⟩ := xSR.app hst
  have s3 := s1.rev
  rw [List.reverse_reverse] at s3
  obtain ⟨f1, f2, f3, f4, f5, f6, f7, f8, f9, f10, f11, f12, f13, f14⟩ := id F
  exact x_back (vx_runS ⟨f1, f2, f4, f5, f6⟩ (x_met hok hc1 hn2 f12 D dA base ad) ⟨x_callB (M := M) hok f6 hl hroom f10 f11, f6 _ hsw⟩ ⟨xPc_blind, fun U hU hW => xPc_at f13 f14 h9 hH hS s3 hU hW⟩ rfl (by rw [s3.len]; exact hn) hL.2.1 (by show w1 ++ w2 = w1.reverse.reverse ++ w2; rw [List.reverse_reverse]) (by show 2 * 0 + _ ≤ 8; rw [s2.cats]; omega) hd ⟨by omega, by omega⟩) F hE h9 hS hL s2 hc hs ha hb kv kr kx
theorem x_callV {M M' : XM} {pc i n ci : Nat} {L as rest : List XV} {h : XH} {kc ks : Nat} (a b : Nat) {Q Q1 : XO → XH → Prop} {o : XL} {r : vw_C} {fs : List XV} (hok : xOk M' n) (hd : decode (xmC M) pc = .ok (.invokevirtual i, 3)) (hl : Cond.methodLink (xmY M).cls i (xmY M') ∈ xW) (hiw : Cond.instanceMethod (xmY M') ∈ xW ∧ Cond.selects (xmY M').cls (xmY M') (xmY M') ∈ xW)
    (ho : h o = some (.inl (ci, fs))) (hr : xCl[ci]? = some r) (hcls : (xmY M').cls = r.1)
    (hc1 : X M' 0 (xEnt M' (xR o :: as)) [] h a b Q1) (hn : as.length = n) (hn2 : (xArgs (xR o :: as)).length ≤ xmL M') (hcat : (rest.map xCat).sum ≤ 8) (hroom : xmF M' + 1 ≤ xmF M ∧ 8 + (xmL M' + 11) + xmO M' ≤ xmO M) (ha : a ≤ kc) (hb : b ≤ ks)
    (kv : ∀ h', Q1 (.inl none) h' → X M (pc + 3) L rest h' (kc - a) (ks - b) Q) (kr : ∀ v h', Q1 (.inl (some v)) h' → X M (pc + 3) L (v :: rest) h' (kc - a) (ks - b) Q) (kx : ∀ E h', Q1 (.inr E) h' → XX M pc L h' E (kc - a) (ks - b) Q) :
    X M pc L (as.reverse ++ xR o :: rest) h kc ks Q := by
  intro p l e R s m args below meth c D dA base ad0 h0 ad H locs cells slots ls stv F hE h9 hH hS hL hst hc hs
  obtain ⟨w1, w2, rfl, s1, s2⟩ := xSR.app hst
  obtain ⟨wo, w2, rfl, s0, s2⟩ := s2
  have s00 := s0
  obtain ⟨hx, rfl⟩ := s0
  have s3 := s1.rev
  rw [List.reverse_reverse] at s3
  have s4 : xSR ad h (xR o :: as) (Value.ref (ad o) :: w1.reverse) := ⟨_, _, rfl, s00, s3⟩
  obtain ⟨f1, f2, f3, f4, f5, f6, f7, f8, f9, f10, f11, f12, f13, f14⟩ := id F
  obtain ⟨⟨wf, -, r', hr', cell, z1, z2, z3, -⟩, -⟩ := hH.1 o _ ho (x_n99 h9 ho)
  cases Option.some.inj (hr.symm.trans hr')
  exact x_back (vx_runV (C := (xmY M').cls) (b := ad o) ⟨f1, f2, f4, f5, f6⟩ (x_met hok hc1 hn2 f12 D dA base ad) ⟨x_callB (M := M) hok f6 hl hroom f10 f11, f6 _ hiw.1, f6 _ hiw.2⟩ ⟨xPc_blind, ⟨cell, z1, by rw [z3]; rfl, by rw [hcls, z2]; exact (f13.1.1 ci _ hr).2.1⟩, fun U hU hW => xPc_at f13 f14 h9 hH hS s4 hU hW⟩ rfl (by rw [s3.len]; exact hn) hL.2.1 (by show w1 ++ Value.ref (ad o) :: w2 = w1.reverse.reverse ++ Value.ref (ad o) :: w2; rw [List.reverse_reverse]) (by show 2 * 0 + _ ≤ 8; rw [s2.cats]; omega) hd ⟨by omega, by omega⟩) F hE h9 hS hL s2 hc hs ha hb kv kr kx
theorem x_callN {M M' : XM} {i n a b : Nat} {R : Room} {s : State} {args : Array Value} (hok : xOk M' n) (hts : ∀ w ∈ xW, w.before args s = true) (hl : va_Nw (.methodLinkNest (xmY M).cls i (xmY M') "Versefold") s) (hroom : xmF M' + 1 ≤ xmF M ∧ 8 + (xmL M' + 11) + xmO M' ≤ xmO M) (h1 : xmF M ≤ R.frames) (h2 : xmO M ≤ R.locals) :
    va_CN R s args (xmY M).cls i (xmY M') "Versefold" (xmC M') (xmL M') (xmR M') (xWs M') { frames := xmF M', cells := a, slots := b, locals := xmO M' } a b n := by
  obtain ⟨-, -, q3, q4, q5, q6⟩ := hok
  refine ⟨⟨rfl, rfl, Nat.le_trans hroom.1 h1, Nat.le_trans hroom.2 h2, pay_in hts (xW_in fun w hw => ?_), List.mem_cons_self⟩, hts _ q3, hts _ q4, q5, fun sig h => ?_, va_Nw.use rfl hl⟩
  · rcases List.mem_cons.mp hw with rfl | hw
    · exact q3
    · exact hw
  · rw [h] at q6
    exact (Option.some.inj q6).symm
theorem W.mono {p : Program} {l : Launch} {e : Env} {R : Room} {s : State} {m : MethodId} {args : Array Value} {below : List Frame} {meth : Method} {c : Code} {H : Heap} {locs : List Loc} {cells slots : Nat} {Q Q' : State → Prop} {g : JFrame} (k : W p l e R s m args below meth c H locs cells slots Q g) (hq : ∀ t, Q t → Q' t) : W p l e R s m args below meth c H locs cells slots Q' g := by
  intro T hT X0
  obtain ⟨t, a1, b1⟩ := k T hT X0
  exact ⟨t, a1, hq t b1⟩
theorem x_metI {M : XM} {n : Nat} {as : List XV} {h : XH} {a b : Nat} {Q : XO → XH → Prop} (hok : xOk M n) (hc : X M 0 (xEnt M as) [] h a b Q) (hx : ∀ E h', ¬ Q (.inr E) h') (hn : (xArgs as).length ≤ xmL M) {l : Launch} (hl : l.stackTraces = false) (D : va_G) (dA : Nat → ClassId) (base : Nat) (ad : XL → Nat) :
    Met l (xmY M) (xWs M) { frames := xmF M, cells := a, slots := b, locals := xmO M } (xPc D dA base ad h as) (xQc D dA base ad h Q) a b (fun q => base ≤ q) := by
  refine Met.ofW (cc := xmC M) (maxL := xmL M) (ret := xmR M) hok.2.1 rfl ?_
  intro p e s m args below meth c s₁ B hml hv
  obtain ⟨ws, rfl, hsr, hamb, hb0, h9, hH⟩ := hv
  rw [lg_entry_eq]
  have ht2 : c.exceptionTable.toList = tableOf (xmH M) := by
    rw [hok.1]
    obtain ⟨meth9, c9, g1, g2, -, -, -, -, g7, -⟩ := Cond.code_spec B.named (atoms_spec (ws := xWs M) B.pre _ List.mem_cons_self)
    cases Option.some.inj (g1.symm.trans B.method)
    cases Option.some.inj (g2.symm.trans (Stand.of_body B).code)
    rw [Array.isEmpty_iff.mp g7]
    rfl
  refine W.mono (hc p l e _ s m _ below meth c D dA base ad h ad s.heap [] 0 0 _ [] (x_fx rfl B hml ht2 hl (Nat.le_refl _) (Nat.le_refl _) hamb hb0) xEx.rf h9 hH va_S.rf (xEnt_ok hsr hn) rfl (by show 0 + a ≤ a; omega) (by show 0 + b ≤ b; omega)) ?_
  rintro t ⟨o, b1, b2, b3⟩
  rcases b3 with ⟨b3, b4⟩ | ⟨q, q1, E, ce, LL, ⟨h', ad', q2, q3⟩, q4⟩
  · exact ⟨o, b1, b2, b3, b4⟩
  · exact absurd q2 (hx E h')
theorem x_callSN {M M' : XM} {pc i n : Nat} {L as rest : List XV} {h : XH} {kc ks : Nat} (a b : Nat) {Q Q1 : XO → XH → Prop} (hok : xOk M' n) (hd : decode (xmC M) pc = .ok (.invokestatic i, 3)) (hl : ((xmY M).cls, i, xmY M') ∈ xNest) (hsw : Cond.static (xmY M') ∈ xW)
    (hc1 : X M' 0 (xEnt M' as) [] h a b Q1) (hx1 : ∀ E h', ¬ Q1 (.inr E) h') (hn : as.length = n) (hn2 : (xArgs as).length ≤ xmL M') (hcat : (rest.map xCat).sum ≤ 8) (hroom : xmF M' + 1 ≤ xmF M ∧ 8 + (xmL M' + 11) + xmO M' ≤ xmO M) (ha : a ≤ kc) (hb : b ≤ ks)
    (kv : ∀ h', Q1 (.inl none) h' → X M (pc + 3) L rest h' (kc - a) (ks - b) Q) (kr : ∀ v h', Q1 (.inl (some v)) h' → X M (pc + 3) L (v :: rest) h' (kc - a) (ks - b) Q) (kx : ∀ E h', Q1 (.inr E) h' → XX M pc L h' E (kc - a) (ks - b) Q) :
    X M pc L (as.reverse ++ rest) h kc ks Q := by
  intro p l e R s m args below meth c D dA base ad0 h0 ad H locs cells slots ls stv F hE h9 hH hS hL hst hc hs
  obtain ⟨w1, w2, rfl, s1, s2⟩ := xSR.app hst
  have s3 := s1.rev
  rw [List.reverse_reverse] at s3
  obtain ⟨f1, f2, f3, f4, f5, f6, f7, f8, f9, f10, f11, f12, f13, f14⟩ := id F
  have hr := va_runSN (e := e) (below := below) (meth := meth) (As := w1.reverse) (rest := w2) (g := F0 m pc ls (w1 ++ w2)) ⟨f1, f2, f4, f5, f6⟩ (x_metI hok hc1 hx1 hn2 f12 D dA base ad) ⟨x_callN (M := M) hok f6 (f13.2.2.2.2.2.2.2.2.1 _ hl) hroom f10 f11, f6 _ hsw, trivial⟩ ⟨xPc_blind, fun U hU hW => xPc_at f13 f14 h9 hH hS s3 hU hW⟩ rfl (by rw [s3.len]; exact hn) hL.2.1 (by show w1 ++ w2 = w1.reverse.reverse ++ w2; rw [List.reverse_reverse]) (by show 2 * 0 + _ ≤ 8; rw [s2.cats]; omega) hd (cells := cells) (slots := slots) (locs := locs) ⟨by omega, by omega⟩
  refine x_back (Q1 := Q1) (av := w1.reverse.toArray) ?_ F hE h9 hS hL s2 hc hs ha hb kv kr (fun E h' z => absurd z (hx1 E h'))
  intro T hT X0
  exact Or.inl (hr T hT X0)
theorem x_callI {M M' : XM} {pc i n : Nat} {L as rest : List XV} {h : XH} {kc ks : Nat} (a b : Nat) {Q Q1 : XO → XH → Prop} {o : XL} (hok : xOk M' n) (hret : xmR M' = none) (hnm : (xmY M').name = "<init>") (hd : decode (xmC M) pc = .ok (.invokespecial i, 3)) (hl : Cond.methodLink (xmY M).cls i (xmY M') ∈ xW) (hiw : Cond.instanceMethod (xmY M') ∈ xW)
    (hc1 : X M' 0 (xEnt M' (xR o :: as)) [] h a b Q1) (hx1 : ∀ E h', ¬ Q1 (.inr E) h') (hn : as.length = n) (hn2 : (xArgs (xR o :: as)).length ≤ xmL M') (hcat : (rest.map xCat).sum ≤ 8) (hroom : xmF M' + 1 ≤ xmF M ∧ 8 + (xmL M' + 11) + xmO M' ≤ xmO M) (ha : a ≤ kc) (hb : b ≤ ks)
    (kv : ∀ h', Q1 (.inl none) h' → X M (pc + 3) L rest h' (kc - a) (ks - b) Q) (kr : ∀ v h', ¬ Q1 (.inl (some v)) h') :
    X M pc L (as.reverse ++ xR o :: rest) h kc ks Q := by
  intro p l e R s m args below meth c D dA base ad0 h0 ad H locs cells slots ls stv F hE h9 hH hS hL hst hc hs
  obtain ⟨w1, w2, rfl, s1, s2⟩ := xSR.app hst
  obtain ⟨wo, w2, rfl, s0, s2⟩ := s2
  have s00 := s0
  obtain ⟨hx, rfl⟩ := s0
  have s3 := s1.rev
  rw [List.reverse_reverse] at s3
  have s4 : xSR ad h (xR o :: as) (Value.ref (ad o) :: w1.reverse) := ⟨_, _, rfl, s00, s3⟩
  obtain ⟨f1, f2, f3, f4, f5, f6, f7, f8, f9, f10, f11, f12, f13, f14⟩ := id F
  have cb := x_callB (M := M) (a := a) (b := b) hok f6 hl hroom f10 f11
  rw [hret] at cb
  have hr := va_runI (e := e) (below := below) (meth := meth) (b := ad o) (As := w1.reverse) (rest := w2) (g := F0 m pc ls (w1 ++ Value.ref (ad o) :: w2)) ⟨f1, f2, f4, f5, f6⟩ (x_metI hok hc1 hx1 hn2 f12 D dA base ad) ⟨cb, hnm, f6 _ hiw⟩ ⟨xPc_blind, fun U hU hW => xPc_at f13 f14 h9 hH hS s4 hU hW⟩ rfl (by rw [s3.len]; exact hn) hL.2.1 (by show w1 ++ Value.ref (ad o) :: w2 = w1.reverse.reverse ++ Value.ref (ad o) :: w2; rw [List.reverse_reverse]) (by show 2 * 0 + _ ≤ 8; rw [s2.cats]; omega) hd (cells := cells) (slots := slots) (locs := locs) ⟨by omega, by omega⟩
  refine x_back (Q1 := Q1) (av := (Value.ref (ad o) :: w1.reverse).toArray) ?_ F hE h9 hS hL s2 hc hs ha hb kv (fun v h' z => absurd z (kr v h')) (fun E h' z => absurd z (hx1 E h'))
  intro T hT X0
  exact Or.inl (hr T hT X0)
theorem x_callIN {M M' : XM} {pc i n : Nat} {L as rest : List XV} {h : XH} {kc ks : Nat} (a b : Nat) {Q Q1 : XO → XH → Prop} {o : XL} (hok : xOk M' n) (hret : xmR M' = none) (hnm : (xmY M').name = "<init>") (hd : decode (xmC M) pc = .ok (.invokespecial i, 3)) (hl : ((xmY M).cls, i, xmY M') ∈ xNest) (hiw : Cond.instanceMethod (xmY M') ∈ xW)
    (hc1 : X M' 0 (xEnt M' (xR o :: as)) [] h a b Q1) (hx1 : ∀ E h', ¬ Q1 (.inr E) h') (hn : as.length = n) (hn2 : (xArgs (xR o :: as)).length ≤ xmL M') (hcat : (rest.map xCat).sum ≤ 8) (hroom : xmF M' + 1 ≤ xmF M ∧ 8 + (xmL M' + 11) + xmO M' ≤ xmO M) (ha : a ≤ kc) (hb : b ≤ ks)
    (kv : ∀ h', Q1 (.inl none) h' → X M (pc + 3) L rest h' (kc - a) (ks - b) Q) (kr : ∀ v h', ¬ Q1 (.inl (some v)) h') :
    X M pc L (as.reverse ++ xR o :: rest) h kc ks Q := by
  intro p l e R s m args below meth c D dA base ad0 h0 ad H locs cells slots ls stv F hE h9 hH hS hL hst hc hs
  obtain ⟨w1, w2, rfl, s1, s2⟩ := xSR.app hst
  obtain ⟨wo, w2, rfl, s0, s2⟩ := s2
  have s00 := s0
  obtain ⟨hx, rfl⟩ := s0
  have s3 := s1.rev
  rw [List.reverse_reverse] at s3
  have s4 : xSR ad h (xR o :: as) (Value.ref (ad o) :: w1.reverse) := ⟨_, _, rfl, s00, s3⟩
  obtain ⟨f1, f2, f3, f4, f5, f6, f7, f8, f9, f10, f11, f12, f13, f14⟩ := id F
  have cb := x_callN (M := M) (a := a) (b := b) hok f6 (f13.2.2.2.2.2.2.2.2.1 _ hl) hroom f10 f11
  rw [hret] at cb
  have hr := va_runIN (e := e) (below := below) (meth := meth) (b := ad o) (As := w1.reverse) (rest := w2) (g := F0 m pc ls (w1 ++ Value.ref (ad o) :: w2)) ⟨f1, f2, f4, f5, f6⟩ (x_metI hok hc1 hx1 hn2 f12 D dA base ad) ⟨cb, hnm, f6 _ hiw⟩ ⟨xPc_blind, fun U hU hW => xPc_at f13 f14 h9 hH hS s4 hU hW⟩ rfl (by rw [s3.len]; exact hn) hL.2.1 (by show w1 ++ Value.ref (ad o) :: w2 = w1.reverse.reverse ++ Value.ref (ad o) :: w2; rw [List.reverse_reverse]) (by show 2 * 0 + _ ≤ 8; rw [s2.cats]; omega) hd (cells := cells) (slots := slots) (locs := locs) ⟨by omega, by omega⟩
  refine x_back (Q1 := Q1) (av := (Value.ref (ad o) :: w1.reverse).toArray) ?_ F hE h9 hS hL s2 hc hs ha hb kv (fun v h' z => absurd z (kr v h')) (fun E h' z => absurd z (hx1 E h'))
  intro T hT X0
  exact Or.inl (hr T hT X0)
/-- Object's own constructor -/
theorem x_objInit {M : XM} {pc i : Nat} {L st : List XV} {h : XH} {kc ks : Nat} {Q : XO → XH → Prop} {v : XL} (hd : decode (xmC M) pc = .ok (.invokespecial i, 3)) (hw : Cond.methodLink (xmY M).cls i objectInit ∈ xW) (hw2 : Cond.instanceMethod objectInit ∈ xW) (hw3 : Cond.code objectInit ⟨#[0xb1]⟩ 1 none ∈ xW) (hfr : 1 ≤ xmF M) (hlo : (st.map xCat).sum + 12 ≤ xmO M) (k : X M (pc + 3) L st h kc ks Q) : X M pc L (xR v :: st) h kc ks Q := by
  refine x_of k ?_
  intro p l e R s m args below meth c D dA base ad H locs cells slots QQ ls stv F hl hst go
  obtain ⟨w0, r0, rfl, ⟨hx, rfl⟩, hst⟩ := hst
  obtain ⟨f1, f2, f3, f4, f5, f6, f7, f8, f9, f10, f11, f12, f13, f14⟩ := id F
  exact W.objInit f1 f2 f5 (f6 _ hw) (f6 _ hw2) (f6 _ hw3) rfl (by rw [f4]; exact hl.2.1) rfl hd (by omega) (by show 2 * 0 + _ + 12 ≤ _; rw [hst.cats]; omega) (go ls _ hl hst)
/-- 'new C': its name l' is chosen -/
theorem x_new {M : XM} {pc i ci : Nat} {L st : List XV} {h : XH} {kc ks : Nat} {Q : XO → XH → Prop} {r : vw_C} (l' : XL) (fs : List XV) (hd : decode (xmC M) pc = .ok (.new i, 3)) (hr : xCl[ci]? = some r) (hw : Cond.classLink (xmY M).cls i r.1 ∈ xW) (hfree : h l' = none) (h99 : l'.1 ≠ 99) (h1 : 1 ≤ kc) (h2 : r.2.2 ≤ ks)
    (hfs : fs.length = r.2.2 ∧ ∀ k v, fs[k]? = some v → (v = xI 0 ∧ defaultValue (xFT ci k) = .int 0) ∨ (v = xJ 0 ∧ defaultValue (xFT ci k) = .long 0) ∨ (v = xN ∧ defaultValue (xFT ci k) = .null))
    (k : X M (pc + 3) L (xR l' :: st) (xUp h l' (.inl (ci, fs))) (kc - 1) (ks - r.2.2) Q) : X M pc L st h kc ks Q := by
  intro p l e R s m args below meth c D dA base ad0 h0 ad H locs cells slots ls stv F hE h9 hH hS hL hst hc hs
  obtain ⟨f1, f2, f3, f4, f5, f6, f7, f8, f9, f10, f11, f12, f13, f14⟩ := id F
  obtain ⟨g1, g2, g3, g4, g5⟩ := xClF_of hr
  have hKn := f13.1.1 ci _ hr
  refine W.newcK f1 f2 f5 (f6 _ hw) (f6 _ g4) (f6 _ g5) rfl hd (by omega) (by omega) hKn.2.1 rfl fun H1 kC hkC e1 z1 o1 => ?_
  have hx2 := xUp_new (ad := ad) (c := .inl (ci, fs)) (a := H.size) hfree h99
  have hob := u_born (xFT ci) f6 g1 hKn hkC e1 g2
  refine k p l e R s m args below meth c D dA base ad0 h0 _ H1 locs (cells + 1) (slots + r.2.2) ls _ F (hE.tr hx2) (h9.ex hx2) (hH.new hfree h99 (Nat.le_trans f14 hS.1) (by omega) o1 ⟨(List.range r.2.2).map (fun j => defaultValue (xFT ci j)), ?_, r, hr, hob.to fun j hj => ?_⟩) ⟨Nat.le_trans hS.1 (by omega), fun x h1 h2 => (o1 x (Nat.lt_of_lt_of_le h1 hS.1)).trans (hS.2.1 x h1 h2), hS.2.2⟩ (hL.mono hx2) ⟨_, _, rfl, ⟨by simp [xUp], by simp⟩, hst.mono hx2⟩ (by omega) (by omega)
  · rw [← hfs.1]
    have key : ∀ (gs : List XV) (o : Nat), (∀ k v, gs[k]? = some v → (v = xI 0 ∧ defaultValue (xFT ci (o + k)) = .int 0) ∨ (v = xJ 0 ∧ defaultValue (xFT ci (o + k)) = .long 0) ∨ (v = xN ∧ defaultValue (xFT ci (o + k)) = .null)) → ∀ ad' h', xSR ad' h' gs ((List.range' o gs.length).map (fun j => defaultValue (xFT ci j))) := by
      intro gs
      induction gs with
      | nil => intro o _ ad' h'; rfl
      | cons g gs ih =>
        intro o hg ad' h'
        rw [List.length_cons, List.range'_succ, List.map_cons]
        refine ⟨_, _, rfl, ?_, ih (o + 1) (fun k v hk => ?_) ad' h'⟩
        · rcases hg 0 g rfl with ⟨q1, q2⟩ | ⟨q1, q2⟩ | ⟨q1, q2⟩
          · rw [q1]; exact q2.trans (by rw [show zI 0 = 0 from zI_0])
          · rw [q1]; exact q2
          · rw [q1]; exact q2
        · have := hg (k + 1) v (by rw [List.getElem?_cons_succ]; exact hk)
          rwa [show o + (k + 1) = o + 1 + k by omega] at this
    have h9' := key fs 0 (fun k v hk => by rw [Nat.zero_add]; exact hfs.2 k v hk)
    rw [← List.range_eq_range'] at h9'
    exact h9' _ _
  · simp [vp_V, hj]
/-- 'throw new E("text")' -/
def xThr (own : String) (ik is ic : Nat) (E : String) (names : List String) (text : String) : Prop :=
  Bundle.fit E = true ∧ (∀ n ∈ names, Bundle.fit n = true) ∧ Cond.classLink own ik E ∈ xW ∧ Cond.initialized E ∈ xW ∧ (∀ w ∈ (vx_atS own ic E names).filter goodWord, w ∈ xW) ∧ (∀ w ∈ (vx_atS own ic E names).filter (fun w => !goodWord w), w ∈ Cond.castable E E :: xDec.map Cond.declares) ∧ (∀ w ∈ Cond.classLink own ik E :: Cond.initialized E :: vx_atS own ic E names, vx_ot w = true) ∧ E ∈ xExc ∧ (is, text) ∈ xStr ∧ own = "Versefold"
theorem x_throw {M : XM} {pc ik is ic : Nat} {E text : String} {names : List String} {L st : List XV} {h : XH} {kc ks : Nat} {Q : XO → XH → Prop} (hth : xThr (xmY M).cls ik is ic E names text) (hh : xmH M = []) (d0 : decode (xmC M) pc = .ok (.new ik, 3)) (d3 : decode (xmC M) (pc + 3) = .ok (.dup, 1))
    (d4 : (decode (xmC M) (pc + 4) = .ok (.ldc is, 2) ∧ decode (xmC M) (pc + 6) = .ok (.invokespecial ic, 3) ∧ decode (xmC M) (pc + 9) = .ok (.athrow, 1)) ∨ (decode (xmC M) (pc + 4) = .ok (.ldc_w is, 3) ∧ decode (xmC M) (pc + 7) = .ok (.invokespecial ic, 3) ∧ decode (xmC M) (pc + 10) = .ok (.athrow, 1)))
    (hfr : names.length + 3 < xmF M) (hlo : (st.map xCat).sum + (13 * (names.length + 1) + 43) ≤ xmO M) (h1 : 1 ≤ kc) (h2 : 6 ≤ ks) (hq : Q (.inr E) h) : X M pc L st h kc ks Q := by
  intro p l e R s m args below meth c D dA base ad0 h0 ad H locs cells slots ls stv F hE h9 hH hS hL hst hc hs
  obtain ⟨f1, f2, f3, f4, f5, f6, f7, f8, f9, f10, f11, f12, ⟨a1, a2, a3, a4, a5, a6, a7, a8, -, a10⟩, f14⟩ := id F
  obtain ⟨t1, t2, t3, t4, t5, t6, t7, t8, t9, t10⟩ := hth
  obtain ⟨sa, hsa⟩ := a4 _ t9
  have hat : ∀ w ∈ vx_atS (xmY M).cls ic E names, w.before args s = true := vx_hat (fun w hw => f6 _ (t5 w hw)) t6 (vx_c (va_Nw.use rfl (a5 E t8)) (fun w hw => by obtain ⟨x, hx, rfl⟩ := List.mem_map.mp hw; exact va_Nw.use rfl (a10 x hx)))
  have hout : ∀ q, ∀ x ∈ c.exceptionTable.toList, covers x q = false := by
    intro q x hx
    rw [f8, hh] at hx
    cases hx
  have hx9 : ∀ t : State, s.vm.Alike t.vm → H.size ≤ t.heap.size → (∀ q : Nat, q < H.size → t.heap[q]? = H[q]?) → xXC D dA base ad0 h0 Q E s t := fun t _ hz hk => by
    refine ⟨h, ad, hq, hE, ⟨fun l2 c2 q1 q2 => ?_, hH.2.1, fun l2 q1 => Nat.lt_of_lt_of_le (hH.2.2 l2 q1) hz⟩, Nat.le_trans hS.1 hz, fun q g1 g2 => by rw [hk q (Nat.lt_of_lt_of_le g1 hS.1)]; exact hS.2.1 q g1 g2⟩
    obtain ⟨u1, u2⟩ := hH.1 l2 c2 q1 q2
    exact ⟨u1.mono xEx.rf (hk _ (hH.2.2 l2 (by rw [q1]; simp))), u2⟩
  have hsa2 : vk_R (xmY M).cls is text sa s := by rw [t10]; exact hsa
  rcases d4 with ⟨d4, d6, d9⟩ | ⟨d4, d7, d10⟩
  · exact vx_throwS f1 f2 f12 f5 t1 t2 (f6 _ t3) (f6 _ t4) hsa2 hat t7 a2 a3 hS (by rw [f4]; exact hL.2.1) d0 d3 d4 d6 d9 (hout _) (by omega) (by rw [hst.cats]; omega) (by omega) (by omega) f7 hx9 hS.2.2 (by omega) (by omega)
  · exact vx_throwSW f1 f2 f12 f5 t1 t2 (f6 _ t3) (f6 _ t4) hsa2 hat t7 a2 a3 hS (by rw [f4]; exact hL.2.1) d0 d3 d4 d7 d10 (hout _) (by omega) (by rw [hst.cats]; omega) (by omega) (by omega) f7 hx9 hS.2.2 (by omega) (by omega)
