/-! what holds all along: the tables as they were, the few old cells that a throw reads -/
def xStr : List (Nat × String) := [(105, "there are 10 rules"), (129, "the rule was on, or has 3 conditions"), (139, "the rule has an unbound variable, or there would be no layers"), (320, "no fact holds"), (335, "no such branch"), (337, "no such rule"), (341, "no such knowing"), (343, "no such fact"), (345, "no such hour"), (347, "an hour is out of range"), (349, "no such relation"), (351, "no such relation or variable"), (356, "the branch has 60 tellings"), (358, "the fact does not hold"), (76, "another fact of the unique relation stands against it")]
def xExc : List String := ["java/lang/IndexOutOfBoundsException", "java/lang/IllegalArgumentException", "java/lang/UnsupportedOperationException", "java/lang/IllegalStateException", "java/util/NoSuchElementException", "java/lang/ArithmeticException"]
def xObj : List String := ["Versefold$Telling", "Versefold$State", "Versefold$Branch", "Versefold$Listener", "Versefold$Pattern", "Versefold$Rule"]
/-- calls of a nest mate's private methods -/
def xNest : List (String × Nat × MethodName) := [(RX8, 41, yX6_init), (RX8, 57, yX1_init), (RX0, 40, yX7_init), (RX0, 41, yX6_init), (RX0, 74, yX8_chained), (RX3, 11, yX6_init), (RX3, 67, yX8_isAmong), (RX4, 11, yX2_init), (RX5, 40, yX8_isAmong), (RX7, 22, yX8_chained)]
def xDec : List MethodName := [Bundle.initS "java/lang/RuntimeException", Bundle.initS "java/lang/Exception", Bundle.initS Bundle.tN]
def xAmb (D : va_G) (dA : Nat → ClassId) (base : Nat) (s : State) : Prop :=
  va_K D xCl (xTys dA) s ∧ vx_Zq Bundle.tN "UNASSIGNED_STACK" Bundle.steD (fun q => base ≤ q) s s.heap ∧ vx_Zq Bundle.tN "SUPPRESSED_SENTINEL" Bundle.listD (fun q => base ≤ q) s s.heap ∧
  (∀ q ∈ xStr, ∃ a, vk_R "Versefold" q.1 q.2 a s) ∧ (∀ E ∈ xExc, va_Nw (.castable E E) s) ∧ (∀ E ∈ xExc, ∀ F ∈ xExc, E ≠ F → va_Nc E F s) ∧ (∀ C ∈ xObj, va_AO C s) ∧ True ∧ (∀ q ∈ xNest, va_Nw (.methodLinkNest q.1 q.2.1 q.2.2 "Versefold") s) ∧ ∀ x ∈ xDec, va_Nw (.declares x) s
def xFx (M : XM) (p : Program) (l : Launch) (R : Room) (s : State) (m : MethodId) (args : Array Value) (meth : Method) (c : Code) (D : va_G) (dA : Nat → ClassId) (base : Nat) : Prop :=
  p.tables.exec = Jvm.exec ∧ c.code = xmC M ∧ meth.sig.returnType = xmR M ∧ c.maxLocals = xmL M ∧ s.vm.findClass (xmY M).cls = some m.cls ∧ (∀ w ∈ xW, w.before args s = true) ∧ meth.locks = false ∧ c.exceptionTable.toList = tableOf (xmH M) ∧ meth.name = (xmY M).name ∧ xmF M ≤ R.frames ∧ xmO M ≤ R.locals ∧ l.stackTraces = false ∧ xAmb D dA base s ∧ base ≤ s.heap.size
def xOR (ad : XL → Nat) (h : XH) (rv : Option XV) (r : Option Value) : Prop := match rv, r with
  | none, none => True
  | some v, some w => xVR ad h v w
  | _, _ => False
def xQc (D : va_G) (dA : Nat → ClassId) (base : Nat) (ad0 : XL → Nat) (h0 : XH) (Q : XO → XH → Prop) : Array Value → State → Outcome → State → Prop := fun _ st o t =>
  ∃ (r : Option Value) (rv : Option XV) (h' : XH) (ad' : XL → Nat), o = .returned r ∧ Q (.inl rv) h' ∧ xEx ad0 h0 ad' h' ∧ xHR D dA base ad' h' t.heap ∧ xOR ad' h' rv r ∧ va_F (fun q => base ≤ q) st t
def xXC (D : va_G) (dA : Nat → ClassId) (base : Nat) (ad0 : XL → Nat) (h0 : XH) (Q : XO → XH → Prop) : String → State → State → Prop := fun E st t =>
  ∃ (h' : XH) (ad' : XL → Nat), Q (.inr E) h' ∧ xEx ad0 h0 ad' h' ∧ xHR D dA base ad' h' t.heap ∧ va_F (fun q => base ≤ q) st t
/-- THE JUDGEMENT: from the method M at pc, with locals L, stack st, cells h, and room for kc cells and ks slots, every state that looks so comes to the method's end with an outcome and cells that Q allows -/
def X (M : XM) (pc : Nat) (L st : List XV) (h : XH) (kc ks : Nat) (Q : XO → XH → Prop) : Prop :=
  ∀ (p : Program) (l : Launch) (e : Env) (R : Room) (s : State) (m : MethodId) (args : Array Value) (below : List Frame) (meth : Method) (c : Code) (D : va_G) (dA : Nat → ClassId) (base : Nat) (ad0 : XL → Nat) (h0 : XH) (ad : XL → Nat) (H : Heap) (locs : List Loc) (cells slots : Nat) (ls : Array Slot) (stv : List Value),
    xFx M p l R s m args meth c D dA base → xEx ad0 h0 ad h → xS9 s base ad h → xHR D dA base ad h H → va_S (fun q => base ≤ q) s.heap H locs → xLR ad h (xmL M) L ls → xSR ad h st stv → cells + kc ≤ R.cells → slots + ks ≤ R.slots →
    W p l e R s m args below meth c H locs cells slots (vx_MQ below (xQc D dA base ad0 h0 Q) (xXC D dA base ad0 h0 Q) args s R.cells R.slots (fun q => base ≤ q)) (F0 m pc ls stv)
/-- an exception of class E has come up at pc: the same, with the throw on top -/
def XX (M : XM) (pc : Nat) (L : List XV) (h : XH) (E : String) (kc ks : Nat) (Q : XO → XH → Prop) : Prop :=
  ∀ (p : Program) (l : Launch) (e : Env) (R : Room) (s : State) (m : MethodId) (args : Array Value) (below : List Frame) (meth : Method) (c : Code) (D : va_G) (dA : Nat → ClassId) (base : Nat) (ad0 : XL → Nat) (h0 : XH) (ad : XL → Nat) (H : Heap) (locs : List Loc) (cells slots : Nat) (ls : Array Slot) (stv : List Value) (q : Addr) (ce : Cell),
    xFx M p l R s m args meth c D dA base → xEx ad0 h0 ad h → xS9 s base ad h → xHR D dA base ad h H → va_S (fun q => base ≤ q) s.heap H locs → xLR ad h (xmL M) L ls → H[q]? = some ce → ce.vm = .none → s.vm.findClass E = some ce.cls → cells + kc ≤ R.cells → slots + ks ≤ R.slots →
    vx_W p l e R s m args below meth c H locs cells slots (vx_MQ below (xQc D dA base ad0 h0 Q) (xXC D dA base ad0 h0 Q) args s R.cells R.slots (fun q => base ≤ q)) (F0 m pc ls stv) q
/-- where the method has no table the throw goes on to its caller -/
theorem XX.out {M : XM} {pc : Nat} {L : List XV} {h : XH} {E : String} {kc ks : Nat} {Q : XO → XH → Prop} (hh : xmH M = []) (hq : Q (.inr E) h) : XX M pc L h E kc ks Q := by
  intro p l e R s m args below meth c D dA base ad0 h0 ad H locs cells slots ls stv q ce F hE h9 hH hS hl h1 h2 h3 hc hs
  refine vx_out (E := E) (ce := ce) ?_ F.2.2.2.2.2.2.1 h1 h2 h3 (fun t ht _ => ⟨h, ad, hq, hE, by rw [ht]; exact hH, hS.F ht⟩) hS.2.2 (by omega) (by omega)
  intro x hx
  rw [F.2.2.2.2.2.2.2.1, hh] at hx
  cases hx
/-- a step that leaves the cells alone -/
theorem x_of {M : XM} {pc pc' : Nat} {L L' st st' : List XV} {h : XH} {kc ks : Nat} {Q : XO → XH → Prop} (k : X M pc' L' st' h kc ks Q)
    (hs : ∀ {p : Program} {l : Launch} {e : Env} {R : Room} {s : State} {m : MethodId} {args : Array Value} {below : List Frame} {meth : Method} {c : Code} {D : va_G} {dA : Nat → ClassId} {base : Nat} {ad : XL → Nat} {H : Heap} {locs : List Loc} {cells slots : Nat} {QQ : State → Prop} {ls : Array Slot} {stv : List Value},
      xFx M p l R s m args meth c D dA base → xLR ad h (xmL M) L ls → xSR ad h st stv → (∀ (ls' : Array Slot) (stv' : List Value), xLR ad h (xmL M) L' ls' → xSR ad h st' stv' → W p l e R s m args below meth c H locs cells slots QQ (F0 m pc' ls' stv')) → W p l e R s m args below meth c H locs cells slots QQ (F0 m pc ls stv)) : X M pc L st h kc ks Q := by
  intro p l e R s m args below meth c D dA base ad0 h0 ad H locs cells slots ls stv F hE h9 hH hS hl hst hc hs2
  exact hs F hl hst fun ls' stv' a b => k p l e R s m args below meth c D dA base ad0 h0 ad H locs cells slots ls' stv' F hE h9 hH hS a b hc hs2
/-- a test: two ways on -/
theorem x_of2 {M : XM} {pc pt pf : Nat} {L st st' : List XV} {h : XH} {kc ks : Nat} {Q : XO → XH → Prop} {P : Prop} (kt : P → X M pt L st' h kc ks Q) (kf : ¬ P → X M pf L st' h kc ks Q)
    (hs : ∀ {p : Program} {l : Launch} {e : Env} {R : Room} {s : State} {m : MethodId} {args : Array Value} {below : List Frame} {meth : Method} {c : Code} {D : va_G} {dA : Nat → ClassId} {base : Nat} {ad : XL → Nat} {H : Heap} {locs : List Loc} {cells slots : Nat} {QQ : State → Prop} {ls : Array Slot} {stv : List Value},
      xFx M p l R s m args meth c D dA base → xSR ad h st stv → (∀ stv', xSR ad h st' stv' → P → W p l e R s m args below meth c H locs cells slots QQ (F0 m pt ls stv')) → (∀ stv', xSR ad h st' stv' → ¬ P → W p l e R s m args below meth c H locs cells slots QQ (F0 m pf ls stv')) → W p l e R s m args below meth c H locs cells slots QQ (F0 m pc ls stv)) : X M pc L st h kc ks Q := by
  intro p l e R s m args below meth c D dA base ad0 h0 ad H locs cells slots ls stv F hE h9 hH hS hl hst hc hs2
  exact hs F hst (fun stv' b hp => kt hp p l e R s m args below meth c D dA base ad0 h0 ad H locs cells slots ls stv' F hE h9 hH hS hl b hc hs2) (fun stv' b hp => kf hp p l e R s m args below meth c D dA base ad0 h0 ad H locs cells slots ls stv' F hE h9 hH hS hl b hc hs2)
/-- less room, and more allowed -/
theorem X.weak {M : XM} {pc : Nat} {L st : List XV} {h : XH} {kc ks kc' ks' : Nat} {Q Q' : XO → XH → Prop} (k : X M pc L st h kc ks Q) (h1 : kc ≤ kc') (h2 : ks ≤ ks') (hq : ∀ o h', Q o h' → Q' o h') : X M pc L st h kc' ks' Q' := by
  intro p l e R s m args below meth c D dA base ad0 h0 ad H locs cells slots ls stv F hE h9 hH hS hl hst hc hs T hT hX
  obtain ⟨t, a, o, b1, b2, b3⟩ := k p l e R s m args below meth c D dA base ad0 h0 ad H locs cells slots ls stv F hE h9 hH hS hl hst (by omega) (by omega) T hT hX
  refine ⟨t, a, o, b1, b2, ?_⟩
  rcases b3 with ⟨⟨r, rv, h', ad', q1, q2, q3⟩, q4⟩ | ⟨q, q1, E, ce, LL, ⟨h', ad', q2, q3⟩, q4⟩
  · exact Or.inl ⟨⟨r, rv, h', ad', q1, hq _ _ q2, q3⟩, q4⟩
  · exact Or.inr ⟨q, q1, E, ce, LL, ⟨h', ad', hq _ _ q2, q3⟩, q4⟩
/-- the locals with which a method begins -/
def xArgs : List XV → List XV
  | [] => []
  | v :: vs => if xCat v = 2 then v :: none :: xArgs vs else v :: xArgs vs
abbrev xEnt (M : XM) (as : List XV) : List XV := xArgs as ++ List.replicate (xmL M - (xArgs as).length) none
theorem xArgs_len {ad : XL → Nat} {h : XH} : ∀ {vs : List XV} {ws : List Value}, xSR ad h vs ws → (lg_sl ws).length = (xArgs vs).length
  | [], _, q => by rw [show _ = [] from q]; rfl
  | v :: vs, _, ⟨w, r, q1, q2, q3⟩ => by
    have ih := xArgs_len q3
    have hc := q2.cat
    rw [q1]
    unfold lg_sl at ih ⊢
    rw [List.flatMap_cons, List.length_append, ih]
    by_cases z : xCat v = 2
    · rw [if_pos (hc.trans z)]
      simp only [xArgs, if_pos z, List.length_cons, List.length_nil]
      omega
    · rw [if_neg (by rw [hc]; exact z)]
      simp only [xArgs, if_neg z, List.length_cons, List.length_nil]
      omega
theorem xArgs_at {ad : XL → Nat} {h : XH} : ∀ {vs : List XV} {ws : List Value} (o : Nat), xSR ad h vs ws → ∀ (i : Nat) v, (xArgs vs)[i]? = some (some v) → ∃ w, (o + i, w) ∈ lv_args o ws ∧ xVR ad h (some v) w
  | [], _, _, _, i, v, hv => by simp [xArgs] at hv
  | v0 :: vs, _, o, ⟨w, r, q1, q2, q3⟩, i, v, hv => by
    have hc := q2.cat
    rw [q1]
    by_cases z : xCat v0 = 2
    · simp only [xArgs, if_pos z] at hv
      simp only [lv_args, if_pos (hc.trans z)]
      match i, hv with
      | 0, hv =>
        rw [List.getElem?_cons_zero] at hv
        cases hv
        exact ⟨w, List.mem_cons_self, q2⟩
      | 1, hv => simp at hv
      | i + 2, hv =>
        rw [List.getElem?_cons_succ, List.getElem?_cons_succ] at hv
        obtain ⟨w', a, b⟩ := xArgs_at (o + 2) q3 i v hv
        exact ⟨w', List.mem_cons_of_mem _ (by rw [show o + (i + 2) = o + 2 + i by omega]; exact a), b⟩
    · simp only [xArgs, if_neg z] at hv
      simp only [lv_args, if_neg (show ¬ w.category = 2 by rw [hc]; exact z)]
      match i, hv with
      | 0, hv =>
        rw [List.getElem?_cons_zero] at hv
        cases hv
        exact ⟨w, List.mem_cons_self, q2⟩
      | i + 1, hv =>
        rw [List.getElem?_cons_succ] at hv
        obtain ⟨w', a, b⟩ := xArgs_at (o + 1) q3 i v hv
        exact ⟨w', List.mem_cons_of_mem _ (by rw [show o + (i + 1) = o + 1 + i by omega]; exact a), b⟩
theorem xEnt_ok {M : XM} {ad : XL → Nat} {h : XH} {as : List XV} {ws : List Value} (hs : xSR ad h as ws) (hn : (xArgs as).length ≤ xmL M) : xLR ad h (xmL M) (xEnt M as) ((lg_sl ws ++ List.replicate (xmL M - (lg_sl ws).length) Slot.unset).toArray) := by
  have hl := xArgs_len hs
  obtain ⟨e1, e2, e3⟩ := lv_entry ws (n := xmL M) (by rw [hl]; exact hn)
  refine ⟨by simp; omega, e1, e2, fun i v hv => ?_⟩
  by_cases hi : i < (xArgs as).length
  · rw [List.getElem?_append_left hi] at hv
    obtain ⟨w, a, b⟩ := xArgs_at 0 hs i v hv
    rw [Nat.zero_add] at a
    exact ⟨w, e3 _ a, b⟩
  · rw [List.getElem?_append_right (by omega)] at hv
    exact absurd (List.eq_of_mem_replicate (List.mem_of_getElem? hv)) (by simp)
/-- what is known all along, seen from a callee's start -/
theorem xAmb.moved {D : va_G} {dA : Nat → ClassId} {base : Nat} {s U : State} (h : xAmb D dA base s) (hW : s.WarmedH U.vm) (hk : ∀ a : Nat, a < s.heap.size → ¬ base ≤ a → U.heap[a]? = s.heap[a]?) : xAmb D dA base U := by
  obtain ⟨h1, h2, h3, h4, h5, h6, h7, h8, h10, h11⟩ := h
  refine ⟨va_K.moved hW.alike h1, vx_Zq.moved hW.alike (h2.kept hk), vx_Zq.moved hW.alike (h3.kept hk), fun q hq => ?_, fun E hE => (h5 E hE).warmC hW, fun E hE F hF hne => ?_, fun C hC => (h7 C hC).moved hW.alike, ?_, fun q hq => (h10 q hq).warmM hW, fun x hx => (h11 x hx).warmD hW⟩
  · obtain ⟨a, ha⟩ := h4 q hq
    exact ⟨a, ha.warm hW⟩
  · obtain ⟨c, t, a, b, d⟩ := h6 E hE F hF hne
    exact ⟨c, t, by rw [hW.alike.findClass]; exact a, by rw [hW.alike.findClass]; exact b, by rw [hW.alike.assignable]; exact d⟩
  · exact h8
