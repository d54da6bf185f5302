/-! listen, next -/
theorem wi_attach {S : XS} (hw : WI S) {l b r t : Int} {w : Int64} (h1 : 0 ≤ l) (h2 : l < 5) (g1 : 0 ≤ b ∧ b ≤ 3) (g2 : 0 ≤ r ∧ r ≤ 5) (g3 : 0 ≤ t ∧ t ≤ 23) : WI (sAttach S l b r t w) := wp14_4 (wp14_3 (wp14_2 hw h1 h2 g1) h1 h2 g2) h1 h2 g3
theorem LEq.att (S : XS) (l b r t : Int) (w : Int64) : LEq S (sAttach S l b r t w) := by
  refine ⟨fun l' a => ?_, fun l' a c d => ?_, rfl⟩
  · have n : l' ≠ (14, l, 0) := fun z => a (by rw [z])
    simp [sAttach, putI, putJ, n]
  · have n : l' ≠ (14, l, 0) := fun z => a (by rw [z])
    simp [sAttach, putI, putJ, n]
theorem att_at (S : XS) (l b r t : Int) (w : Int64) : (sAttach S l b r t w).1 (14, l, 0) 2 = b ∧ (sAttach S l b r t w).1 (14, l, 0) 3 = r ∧ (sAttach S l b r t w).1 (14, l, 0) 4 = t ∧ (sAttach S l b r t w).2.1 (14, l, 0) 5 = w := by
  refine ⟨?_, ?_, ?_, ?_⟩ <;> simp [sAttach, putI, putJ, xUpd]
/-- the state after listen -/
noncomputable def sLis (S : XS) (i r a s t : Int) : XS := putI (putJ (sAttach S (S.1 (0, 0, 0) 7) i r t (pairsN a s 64)) (14, S.1 (0, 0, 0) 7, 0) 6 (hl S.1 i (S.1 (9, i, 0) 3).toNat t r &&& pairsN a s 64)) (0, 0, 0) 7 (S.1 (0, 0, 0) 7 + 1)
theorem lis_q {S T : XS} {i r a s t : Int} (q : QEq (sAttach S (S.1 (0, 0, 0) 7) i r t (pairsN a s 64)) T) (r0 : 0 ≤ r) (r1 : r < 6) (l1 : ∀ x : Int, 0 ≤ x → x ≤ 5 → T.2.1 (28, i, t) x = hl (sAttach S (S.1 (0, 0, 0) 7) i r t (pairsN a s 64)).1 i (S.1 (9, i, 0) 3).toNat t x) : QEq (sLis S i r a s t) (putI (sBeg T (S.1 (0, 0, 0) 7) i t) (0, 0, 0) 7 (S.1 (0, 0, 0) 7 + 1)) := by
  obtain ⟨a1, a2, a3, a4⟩ := att_at S (S.1 (0, 0, 0) 7) i r t (pairsN a s 64)
  have e : lNow T (S.1 (0, 0, 0) 7) i t = hl S.1 i (S.1 (9, i, 0) 3).toNat t r &&& pairsN a s 64 := by
    unfold lNow
    rw [q.1 (14, _, 0) rfl, q.2.1 (14, _, 0) rfl, a2, a4, l1 r r0 (by omega), (LEq.att S _ _ _ _ _).hl]
  unfold sBeg
  rw [e]
  exact (q.pJ rfl _ _).pI rfl _ _
theorem CB.beg {S : XS} (hb : CB S) {l b t v : Int} (h : 0 ≤ v ∧ v ≤ 5) : CB (putI (sBeg S l b t) (0, 0, 0) 7 v) := by
  have c1 : CB (sBeg S l b t) := (show LEq S (sBeg S l b t) from ⟨fun l' a => rfl, fun l' a c d => by show (if l' = _ then _ else _) = _; rw [if_neg (fun z => a (by rw [z]))], rfl⟩).cb hb.1 hb
  refine c1.gen (wp0_7 c1.1 h) (fun k x y a b c d e => putI_o (nK a _ _ _ _)) (by rw [putI_at, if_neg (by decide)]) (fun b' => by rw [putI_o (nK (by decide) _ _ _ _)]) (fun k x y a b c => rfl)
/-- taking a change touches listeners alone -/
theorem LEq.take (S : XS) (l : Int) (p : Nat) : LEq S (sTake S l p) := by
  refine ⟨fun l' a => ?_, fun l' a c d => ?_, ?_⟩
  · have n : l' ≠ (14, l, 0) := fun z => a (by rw [z])
    unfold sTake
    dsimp only
    split <;> simp [putI, putJ, n]
  · have n1 : l' ≠ (30, l, 0) := fun z => c (by rw [z])
    have n2 : l' ≠ (31, l, 0) := fun z => d (by rw [z])
    unfold sTake
    dsimp only
    split <;> simp [putI, putJ, n1, n2]
  · unfold sTake
    dsimp only
    split <;> rfl
theorem wi_take {S : XS} (hw : WI S) {l : Int} (h1 : 0 ≤ l) (h2 : l < 5) (hf : S.1 (14, l, 0) 7 < 120) (hu : 1 ≤ S.1 (14, l, 0) 9) (p : Nat) : WI (sTake S l p) := by
  have a7 := wf14_7 hw h1 h2
  have a9 := wf14_9 hw h1 h2
  unfold sTake
  dsimp only
  split
  · exact wp14_9 (wp14_7 (S := putJ (putJ S (30, l, 0) _ _) (31, l, 0) _ _) hw h1 h2 ⟨by omega, by omega⟩) h1 h2 (by rw [putI_at, if_neg (by decide)]; exact ⟨by show 0 ≤ S.1 (14, l, 0) 9 - 1; omega, by show S.1 (14, l, 0) 9 - 1 ≤ 7680; omega⟩)
  · exact wp14_9 (S := putJ (putJ S (30, l, 0) _ _) (31, l, 0) _ _) hw h1 h2 ⟨by show 0 ≤ S.1 (14, l, 0) 9 - 1; omega, by show S.1 (14, l, 0) 9 - 1 ≤ 7680; omega⟩
def pNx (S : XS) (l : Int) : XO → XH → Prop := fun o h' => ∃ p : Nat, Low (S.2.1 (30, l, 0) (S.1 (14, l, 0) 7) ||| S.2.1 (31, l, 0) (S.1 (14, l, 0) 7)) p ∧ pN (sTake S l p) (some (xI (takeV S l p))) o h'

theorem pQt {S0 S : XS} {P : Prop} (h : P) (q : QEq S0 S) (b : CB S) : pQ S0 (some (xI (bI P))) (.inl (some (xI 1))) (hp S) := by rw [bI_t h]; exact pQi q b
theorem pQf {S0 S : XS} {P : Prop} (h : ¬ P) (q : QEq S0 S) (b : CB S) : pQ S0 (some (xI (bI P))) (.inl (some (xI 0))) (hp S) := by rw [bI_f h]; exact pQi q b
/-- a telling of another branch may be told in a branch -/
def CanTell (S : XS) (b c k : Int) : Prop := S.1 (9, b, 0) 3 < 60 ∧ (S.1 (13, c, k) 1 ≠ 0 → (S.1 (13, c, k) 0 ≠ 0 → CanOn S (S.1 (13, c, k) 2) (onN S.1 b (S.1 (9, b, 0) 3).toNat)) ∧ (S.1 (13, c, k) 0 = 0 → ¬ Riv S.1 b (S.1 (13, c, k) 2) (S.1 (13, c, k) 3) (S.1 (13, c, k) 4)))
