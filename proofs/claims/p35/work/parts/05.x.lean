/-! THE SMALL MACHINE (names xm..): a method's frame over named cells. A cell's name is a kind and two whole numbers; where it lies in the heap is kept aside (ad). Whole numbers stand for ints (zI). What is said of the small machine is said of every state of the great one that looks so (X). -/
abbrev XL : Type := Nat × Int × Int
abbrev XV : Type := Option (XL ⊕ Int ⊕ Int64 ⊕ UInt32 ⊕ UInt64 ⊕ Unit)
abbrev xR (l : XL) : XV := some (.inl l)
abbrev xI (e : Int) : XV := some (.inr (.inl e))
abbrev xJ (w : Int64) : XV := some (.inr (.inr (.inl w)))
abbrev xF (w : UInt32) : XV := some (.inr (.inr (.inr (.inl w))))
abbrev xD (w : UInt64) : XV := some (.inr (.inr (.inr (.inr (.inl w)))))
abbrev xN : XV := some (.inr (.inr (.inr (.inr (.inr ())))))
abbrev XA : Type := (Int → Int) ⊕ (Int → Int64) ⊕ (Int → UInt64) ⊕ (Int → Option XL)
abbrev XC : Type := (Nat × List XV) ⊕ (Nat × Nat × XA)
abbrev XH : Type := XL → Option XC
abbrev XO : Type := Option XV ⊕ String
abbrev XM : Type := MethodName × ByteArray × Nat × Option FieldType × List (Nat × Nat × Nat × Nat) × Nat × Nat
abbrev xmY (M : XM) : MethodName := M.1
abbrev xmC (M : XM) : ByteArray := M.2.1
abbrev xmL (M : XM) : Nat := M.2.2.1
abbrev xmR (M : XM) : Option FieldType := M.2.2.2.1
abbrev xmH (M : XM) : List (Nat × Nat × Nat × Nat) := M.2.2.2.2.1
abbrev xmF (M : XM) : Nat := M.2.2.2.2.2.1
abbrev xmO (M : XM) : Nat := M.2.2.2.2.2.2
def zI (e : Int) : Int32 := Int32.ofInt e
def zR (e : Int) : Prop := -2147483648 ≤ e ∧ e < 2147483648
theorem zI_toInt {e : Int} (h : zR e) : (zI e).toInt = e := Int32.toInt_ofInt_of_le (by have := h.1; omega) (by have := h.2; omega)
theorem zI_of (x : Int32) : zI x.toInt = x := Int32.ofInt_toInt x
theorem zR_of (x : Int32) : zR x.toInt := ⟨by have := x.le_toInt; omega, by have := x.toInt_lt; omega⟩
theorem zI_add (a b : Int) : zI a + zI b = zI (a + b) := (Int32.ofInt_add a b).symm
theorem zI_sub (a b : Int) : zI a - zI b = zI (a - b) := (Int32.ofInt_sub a b).symm
theorem zI_mul (a b : Int) : zI a * zI b = zI (a * b) := (Int32.ofInt_mul a b).symm
theorem zI_neg (a : Int) : - zI a = zI (- a) := (Int32.ofInt_neg a).symm
theorem zI_eq {a b : Int} (ha : zR a) (hb : zR b) : zI a = zI b ↔ a = b := ⟨fun h => by rw [← zI_toInt ha, ← zI_toInt hb, h], fun h => by rw [h]⟩
theorem zI_lt {a b : Int} (ha : zR a) (hb : zR b) : zI a < zI b ↔ a < b := by rw [Int32.lt_iff_toInt_lt, zI_toInt ha, zI_toInt hb]
theorem zI_le {a b : Int} (ha : zR a) (hb : zR b) : zI a ≤ zI b ↔ a ≤ b := by rw [Int32.le_iff_toInt_le, zI_toInt ha, zI_toInt hb]
theorem zI_0 : zI 0 = 0 := by decide
theorem zR_0 : zR 0 := ⟨by decide, by decide⟩
theorem zI_clamp {e : Int} (h0 : 0 ≤ e) (h : e < 2147483648) : (zI e).toNatClampNeg = e.toNat := by
  show (zI e).toInt.toNat = e.toNat
  rw [zI_toInt ⟨by omega, h⟩]
theorem zI_in {e : Int} {n : Nat} (h0 : 0 ≤ e) (h1 : e < n) (hn : n < 2147483648) : vp_in (zI e) n := by
  rintro (h | h)
  · rw [← zI_0, zI_lt ⟨by omega, by omega⟩ zR_0] at h
    omega
  · rw [zI_clamp h0 (by omega)] at h
    omega
theorem zI_nneg {e : Int} (h0 : 0 ≤ e) (h : e < 2147483648) : ¬ zI e < 0 := by
  rw [← zI_0, zI_lt ⟨by omega, h⟩ zR_0]; omega
theorem zI_nat {n : Nat} (h : n < 2147483648) : zI (n : Int) = nI n := by
  apply Int32.toInt_inj.mp
  rw [zI_toInt ⟨by omega, by omega⟩, nI_toInt (by omega)]
theorem zI_div {a b : Int} (ha : 0 ≤ a) (ha2 : a < 2147483648) (hb : 0 < b) (hb2 : b < 2147483648) : zI a / zI b = zI (a / b) := by
  obtain ⟨n, rfl⟩ := Int.eq_ofNat_of_zero_le ha
  obtain ⟨d, rfl⟩ := Int.eq_ofNat_of_zero_le (Int.le_of_lt hb)
  have hq : n / d ≤ n := Nat.div_le_self n d
  rw [zI_nat (by omega), zI_nat (by omega), pk_div (by omega) (by omega) (by omega), ← zI_nat (by omega)]
  rfl
theorem zI_rem {a b : Int} (ha : 0 ≤ a) (ha2 : a < 2147483648) (hb : 0 < b) (hb2 : b < 2147483648) : zI a - zI a / zI b * zI b = zI (a % b) := by
  rw [zI_div ha ha2 hb hb2, zI_mul, zI_sub, Int.emod_def, Int.mul_comm b]
/-- ints by their bits -/
def zAnd (a b : Int) : Int := (zI a &&& zI b).toInt
def zOr (a b : Int) : Int := (zI a ||| zI b).toInt
def zXor (a b : Int) : Int := (zI a ^^^ zI b).toInt
def zShl (a b : Int) : Int := (zI a <<< (zI b &&& 31)).toInt
def zShr (a b : Int) : Int := (zI a >>> (zI b &&& 31)).toInt
/-- the words that every method of ours may use -/
def xW : List Cond := lw_tbl.filter goodWord
theorem xw {w : Cond} (i : Nat) (h : lw_tbl[i]? = some w) (g : goodWord w = true) : w ∈ xW := List.mem_filter.mpr ⟨List.mem_of_getElem? h, g⟩
abbrev xCl : List vw_C := [(RX0, TX0, 7), (RX1, TX1, 10), (RX2, TX2, 4), (RX3, TX3, 8), (RX4, TX4, 6), (RX5, TX5, 3), (RX6, TX6, 3), (RX7, TX7, 8), (RX8, TX8, 9)]
def xTy : Nat → FieldType := fun t => match t with
  | 0 => .int
  | 1 => .long
  | 2 => .boolean
  | 3 => .byte
  | 4 => .long
  | 5 => .object "Versefold$Telling"
  | 6 => .object "Versefold$State"
  | 7 => .object "Versefold$Branch"
  | 8 => .object "Versefold$Listener"
  | 9 => .object "Versefold$Pattern"
  | 10 => .object "Versefold$Rule"
  | _ => .object "Versefold$Rule"
def xTys (dA : Nat → ClassId) : List (ClassId × FieldType) := (List.range 12).map fun t => (dA t, xTy t)
theorem xTys_at {dA : Nat → ClassId} {t : Nat} (h : t < 12) : (xTys dA)[t]? = some (dA t, xTy t) := by
  simp [xTys, List.getElem?_map, List.getElem?_range h]
def xVR (ad : XL → Nat) (h : XH) (v : XV) (w : Value) : Prop := match v with
  | none => ∃ a : Nat, w = .ref a
  | some (.inl l) => h l ≠ none ∧ w = .ref (ad l)
  | some (.inr (.inl e)) => w = .int (zI e)
  | some (.inr (.inr (.inl x))) => w = .long x
  | some (.inr (.inr (.inr (.inl x)))) => w = .float x
  | some (.inr (.inr (.inr (.inr (.inl x))))) => w = .double x
  | some (.inr (.inr (.inr (.inr (.inr _))))) => w = .null
def xCat (v : XV) : Nat := match v with
  | some (.inr (.inr (.inl _))) => 2
  | some (.inr (.inr (.inr (.inr (.inl _))))) => 2
  | _ => 1
theorem xVR.cat {ad : XL → Nat} {h : XH} {v : XV} {w : Value} (hv : xVR ad h v w) : w.category = xCat v := by
  rcases v with _ | l | e | x | x | x | _
  · obtain ⟨a, rfl⟩ := hv; rfl
  · obtain ⟨-, rfl⟩ := hv; rfl
  · cases hv; rfl
  · cases hv; rfl
  · cases hv; rfl
  · cases hv; rfl
  · cases hv; rfl
def xSR (ad : XL → Nat) (h : XH) : List XV → List Value → Prop
  | [], ws => ws = []
  | v :: vs, ws => ∃ (w : Value) (r : List Value), ws = w :: r ∧ xVR ad h v w ∧ xSR ad h vs r
def xLR (ad : XL → Nat) (h : XH) (nL : Nat) (L : List XV) (ls : Array Slot) : Prop := L.length = nL ∧ ls.size = nL ∧ lv_wf ls ∧ ∀ (i : Nat) v, L[i]? = some (some v) → ∃ w : Value, ls[i]? = some (.val w) ∧ xVR ad h (some v) w
def xEx (ad : XL → Nat) (h : XH) (ad' : XL → Nat) (h' : XH) : Prop := (∀ l, h l ≠ none → h' l ≠ none ∧ ad' l = ad l) ∧ ∀ l : XL, l.1 = 99 → h' l = h l
theorem xEx.rf {ad : XL → Nat} {h : XH} : xEx ad h ad h := ⟨fun _ q => ⟨q, rfl⟩, fun _ _ => rfl⟩
theorem xEx.tr {ad ad' ad2 : XL → Nat} {h h' h2 : XH} (a : xEx ad h ad' h') (b : xEx ad' h' ad2 h2) : xEx ad h ad2 h2 :=
  ⟨fun l q => ⟨(b.1 l (a.1 l q).1).1, ((b.1 l (a.1 l q).1).2).trans (a.1 l q).2⟩, fun l q => (b.2 l q).trans (a.2 l q)⟩
theorem xVR.mono {ad ad' : XL → Nat} {h h' : XH} (e : xEx ad h ad' h') {v : XV} {w : Value} (hv : xVR ad h v w) : xVR ad' h' v w := by
  rcases v with _ | l | e | x | x | x | _
  · exact hv
  · exact ⟨(e.1 l hv.1).1, by rw [(e.1 l hv.1).2]; exact hv.2⟩
  · exact hv
  · exact hv
  · exact hv
  · exact hv
  · exact hv
theorem xSR.mono {ad ad' : XL → Nat} {h h' : XH} (e : xEx ad h ad' h') : ∀ {vs : List XV} {ws : List Value}, xSR ad h vs ws → xSR ad' h' vs ws
  | [], _, q => q
  | _ :: _, _, ⟨w, r, q1, q2, q3⟩ => ⟨w, r, q1, q2.mono e, xSR.mono e q3⟩
theorem xLR.mono {ad ad' : XL → Nat} {h h' : XH} (e : xEx ad h ad' h') {nL : Nat} {L : List XV} {ls : Array Slot} (q : xLR ad h nL L ls) : xLR ad' h' nL L ls :=
  ⟨q.1, q.2.1, q.2.2.1, fun i v hv => by obtain ⟨w, h1, h2⟩ := q.2.2.2 i v hv; exact ⟨w, h1, h2.mono e⟩⟩
theorem xSR.len {ad : XL → Nat} {h : XH} : ∀ {vs : List XV} {ws : List Value}, xSR ad h vs ws → ws.length = vs.length
  | [], _, q => by rw [show _ = [] from q]; rfl
  | _ :: _, _, ⟨_, _, q1, _, q3⟩ => by rw [q1, List.length_cons, List.length_cons, xSR.len q3]
theorem xSR.cats {ad : XL → Nat} {h : XH} : ∀ {vs : List XV} {ws : List Value}, xSR ad h vs ws → (ws.map fun v => v.category).sum = (vs.map xCat).sum
  | [], _, q => by rw [show _ = [] from q]; rfl
  | _ :: _, _, ⟨_, _, q1, q2, q3⟩ => by rw [q1]; simp only [List.map_cons, List.sum_cons, q2.cat, xSR.cats q3]
theorem xSR.app {ad : XL → Nat} {h : XH} : ∀ {v1 v2 : List XV} {ws : List Value}, xSR ad h (v1 ++ v2) ws → ∃ w1 w2, ws = w1 ++ w2 ∧ xSR ad h v1 w1 ∧ xSR ad h v2 w2
  | [], _, ws, q => ⟨[], ws, rfl, rfl, q⟩
  | _ :: v1, _, _, ⟨w, r, q1, q2, q3⟩ => by
    obtain ⟨w1, w2, e, a, b⟩ := xSR.app (v1 := v1) q3
    exact ⟨w :: w1, w2, by rw [q1, e]; rfl, ⟨w, w1, rfl, q2, a⟩, b⟩
theorem xSR.snoc {ad : XL → Nat} {h : XH} {v : XV} {w : Value} (hv : xVR ad h v w) : ∀ {vs : List XV} {ws : List Value}, xSR ad h vs ws → xSR ad h (vs ++ [v]) (ws ++ [w])
  | [], _, q => by rw [show _ = [] from q]; exact ⟨w, [], rfl, hv, rfl⟩
  | _ :: _, _, ⟨a, r, q1, q2, q3⟩ => by rw [q1]; exact ⟨a, r ++ [w], rfl, q2, xSR.snoc hv q3⟩
theorem xSR.rev {ad : XL → Nat} {h : XH} : ∀ {vs : List XV} {ws : List Value}, xSR ad h vs ws → xSR ad h vs.reverse ws.reverse
  | [], _, q => by rw [show _ = [] from q]; rfl
  | _ :: _, _, ⟨_, _, q1, q2, q3⟩ => by rw [q1, List.reverse_cons, List.reverse_cons]; exact xSR.snoc q2 (xSR.rev q3)
/-- the cells -/
def xCR (D : va_G) (dA : Nat → ClassId) (ad : XL → Nat) (h : XH) (a : Nat) (c : XC) (H : Heap) : Prop := match c with
  | .inl (ci, fs) => ∃ ws, xSR ad h fs ws ∧ va_at D xCl (a, .inr (ci, ws)) H
  | .inr (t, n, .inl f) => H[a]? = some (vp_cell (dA t) (n, .inl (fun j => zI (f j))))
  | .inr (t, n, .inr (.inl f)) => H[a]? = some (vp_cell (dA t) (n, .inr (.inl (fun j => f j))))
  | .inr (t, n, .inr (.inr (.inl f))) => H[a]? = some (vp_cell (dA t) (n, .inr (.inr (.inr (.inl (fun j => f j))))))
  | .inr (t, n, .inr (.inr (.inr f))) => ∃ g : Nat → Option Nat, (∀ j : Nat, j < n → (f j = none → g j = none) ∧ ∀ l, f j = some l → h l ≠ none ∧ g j = some (ad l)) ∧ H[a]? = some (vp_cell (dA t) (n, .inr (.inr (.inr (.inr g)))))
theorem xCR.mono {D : va_G} {dA : Nat → ClassId} {ad ad' : XL → Nat} {h h' : XH} (e : xEx ad h ad' h') {a : Nat} {c : XC} {H H' : Heap} (hq : H'[a]? = H[a]?) (q : xCR D dA ad h a c H) : xCR D dA ad' h' a c H' := by
  rcases c with ⟨ci, fs⟩ | ⟨t, n, f | f | f | f⟩
  · obtain ⟨ws, q1, q2⟩ := q
    exact ⟨ws, q1.mono e, q2.kept hq⟩
  · exact hq.trans q
  · exact hq.trans q
  · exact hq.trans q
  · obtain ⟨g, q1, q2⟩ := q
    exact ⟨g, fun j hj => ⟨(q1 j hj).1, fun l hl => ⟨(e.1 l ((q1 j hj).2 l hl).1).1, by rw [(e.1 l ((q1 j hj).2 l hl).1).2]; exact ((q1 j hj).2 l hl).2⟩⟩, hq.trans q2⟩
def xHR (D : va_G) (dA : Nat → ClassId) (base : Nat) (ad : XL → Nat) (h : XH) (H : Heap) : Prop :=
  (∀ l c, h l = some c → l.1 ≠ 99 → xCR D dA ad h (ad l) c H ∧ base ≤ ad l) ∧ (∀ l l', h l ≠ none → h l' ≠ none → ad l = ad l' → l = l') ∧ ∀ l, h l ≠ none → ad l < H.size
def xS9 (s : State) (base : Nat) (ad : XL → Nat) (h : XH) : Prop := ∀ l c, h l = some c → l.1 = 99 → ∃ (n : Nat) (f : Int → Int), c = .inr (0, n, .inl f) ∧ va_X (ad l) n (fun j => zI (f j)) s s.heap ∧ ad l < base
theorem xS9.ex {s : State} {base : Nat} {ad ad' : XL → Nat} {h h' : XH} (e : xEx ad h ad' h') (q : xS9 s base ad h) : xS9 s base ad' h' := by
  intro l c hl h9
  have h1 : h l = some c := by rw [← e.2 l h9]; exact hl
  obtain ⟨n, f, a, b, d⟩ := q l c h1 h9
  rw [(e.1 l (by rw [h1]; simp)).2]
  exact ⟨n, f, a, b, d⟩
/-- one cell is written: its name l, what it holds then c' -/
abbrev xUp (h : XH) (l : XL) (c : XC) : XH := fun l' => if l' = l then some c else h l'
theorem xUp_ex {ad : XL → Nat} {h : XH} {l : XL} {c : XC} (hl : h l ≠ none) (h9 : l.1 ≠ 99) : xEx ad h ad (xUp h l c) := by
  refine ⟨fun l' q => ⟨?_, rfl⟩, fun l' q => ?_⟩
  · by_cases e : l' = l
    · simp [xUp, e]
    · simp [xUp, e, q]
  · have e : l' ≠ l := fun z => h9 (by rw [← z]; exact q)
    simp [xUp, e]
theorem xHR.put {D : va_G} {dA : Nat → ClassId} {base : Nat} {ad : XL → Nat} {h : XH} {H H' : Heap} {l : XL} {c : XC} (q : xHR D dA base ad h H) (hl : h l ≠ none) (h9 : l.1 ≠ 99) (hz : H'.size = H.size) (oq : ∀ a : Nat, a ≠ ad l → H'[a]? = H[a]?) (hc : xCR D dA ad (xUp h l c) (ad l) c H') : xHR D dA base ad (xUp h l c) H' := by
  have e := xUp_ex (ad := ad) (c := c) hl h9
  have dom : ∀ l', xUp h l c l' ≠ none → h l' ≠ none := fun l' z => by
    by_cases e : l' = l
    · rw [e]; exact hl
    · simpa [xUp, e] using z
  refine ⟨fun l' c' h1 h2 => ?_, fun a b ha hb => q.2.1 a b (dom a ha) (dom b hb), fun a ha => by rw [hz]; exact q.2.2 a (dom a ha)⟩
  by_cases e2 : l' = l
  · subst e2
    have : c' = c := by simpa [xUp] using h1.symm
    subst this
    obtain ⟨c0, hc0⟩ := Option.ne_none_iff_exists'.mp hl
    exact ⟨hc, (q.1 l' c0 hc0 h9).2⟩
  · have h3 : h l' = some c' := by simpa [xUp, e2] using h1
    obtain ⟨a, b⟩ := q.1 l' c' h3 h2
    exact ⟨a.mono e (oq _ (fun z => e2 (q.2.1 l' l (by rw [h3]; simp) hl z))), b⟩
/-- a cell is made: its name l, where nothing lay; it lies at the heap's end -/
theorem xUp_new {ad : XL → Nat} {h : XH} {l : XL} {c : XC} {a : Nat} (hl : h l = none) (h9 : l.1 ≠ 99) : xEx ad h (fun l' => if l' = l then a else ad l') (xUp h l c) := by
  refine ⟨fun l' q => ?_, fun l' q => ?_⟩
  · have e : l' ≠ l := fun z => q (by rw [z]; exact hl)
    simp [xUp, e, q]
  · have e : l' ≠ l := fun z => h9 (by rw [← z]; exact q)
    simp [xUp, e]
theorem xHR.new {D : va_G} {dA : Nat → ClassId} {base : Nat} {ad : XL → Nat} {h : XH} {H H' : Heap} {l : XL} {c : XC} (q : xHR D dA base ad h H) (hl : h l = none) (h9 : l.1 ≠ 99) (hb : base ≤ H.size) (hz : H.size < H'.size) (oq : ∀ a : Nat, a < H.size → H'[a]? = H[a]?) (hc : xCR D dA (fun l' => if l' = l then H.size else ad l') (xUp h l c) H.size c H') : xHR D dA base (fun l' => if l' = l then H.size else ad l') (xUp h l c) H' := by
  have e := xUp_new (ad := ad) (c := c) (a := H.size) hl h9
  have dom : ∀ l', xUp h l c l' ≠ none → l' = l ∨ (l' ≠ l ∧ h l' ≠ none) := fun l' z => by
    by_cases e : l' = l
    · exact Or.inl e
    · exact Or.inr ⟨e, by simpa [xUp, e] using z⟩
  refine ⟨fun l' c' h1 h2 => ?_, fun a b ha hb2 hab => ?_, fun a ha => ?_⟩
  · by_cases e2 : l' = l
    · subst e2
      have : c' = c := by simpa [xUp] using h1.symm
      subst this
      simp only [if_true]
      exact ⟨hc, hb⟩
    · have h3 : h l' = some c' := by simpa [xUp, e2] using h1
      obtain ⟨a, b⟩ := q.1 l' c' h3 h2
      have hd : h l' ≠ none := by rw [h3]; simp
      simp only [if_neg e2]
      exact ⟨a.mono e (oq _ (q.2.2 l' hd)), b⟩
  · rcases dom a ha with e1 | ⟨e1, d1⟩ <;> rcases dom b hb2 with e3 | ⟨e3, d3⟩
    · rw [e1, e3]
    · simp only [e1, if_true, if_neg e3] at hab
      have := q.2.2 b d3
      omega
    · simp only [e3, if_true, if_neg e1] at hab
      have := q.2.2 a d1
      omega
    · simp only [if_neg e1, if_neg e3] at hab
      exact q.2.1 a b d1 d3 hab
  · rcases dom a ha with e1 | ⟨e1, d1⟩
    · simp only [e1, if_true]; exact hz
    · simp only [if_neg e1]
      have := q.2.2 a d1
      omega
