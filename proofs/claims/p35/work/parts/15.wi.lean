/-! the ranges of the ints that the cells hold -/
def wc (kd : Nat) (k v : Int) : Prop := match kd with
  | 0 => (k = 6 → 1 ≤ v ∧ v ≤ 4) ∧ (k = 7 → 0 ≤ v ∧ v ≤ 5) ∧ (k = 8 → 0 ≤ v ∧ v ≤ 60)
  | 3 => v = 0 ∨ v = 1
  | 4 => (k = 2 → 0 ≤ v ∧ v ≤ 10)
  | 9 => (k = 3 → 0 ≤ v ∧ v ≤ 60) ∧ (k = 4 → 0 ≤ v ∧ v ≤ 3) ∧ (k = 5 → 0 ≤ v ∧ v ≤ 60) ∧ (k = 6 → 0 ≤ v ∧ v ≤ 60)
  | 11 => 0 ≤ v ∧ v ≤ 65520
  | 13 => (k = 0 → v = 0 ∨ v = 1) ∧ (k = 1 → v = 0 ∨ v = 1) ∧ (k = 2 → 0 ≤ v ∧ v ≤ 383) ∧ (k = 3 → 0 ≤ v ∧ v ≤ 23) ∧ (k = 4 → 0 ≤ v ∧ v ≤ 23) ∧ (k = 5 → 0 ≤ v ∧ v ≤ 65520) ∧ (k = 6 → v = 0 ∨ v = 1) ∧ (k = 7 → -1 ≤ v ∧ v ≤ 3)
  | 14 => (k = 2 → 0 ≤ v ∧ v ≤ 3) ∧ (k = 3 → 0 ≤ v ∧ v ≤ 5) ∧ (k = 4 → 0 ≤ v ∧ v ≤ 23) ∧ (k = 7 → 0 ≤ v ∧ v ≤ 120) ∧ (k = 8 → 0 ≤ v ∧ v ≤ 120) ∧ (k = 9 → 0 ≤ v ∧ v ≤ 7680)
  | 33 => 0 ≤ v ∧ v ≤ 5
  | 34 => (k = 2 → 0 ≤ v ∧ v ≤ 3) ∧ (k = 3 → 0 ≤ v ∧ v ≤ 63) ∧ (k = 4 → 0 ≤ v ∧ v ≤ 511) ∧ (k = 5 → v = 0 ∨ v = 1)
  | 36 => (k = 0 → 0 ≤ v ∧ v ≤ 5) ∧ (k = 1 → v = 0 ∨ v = 1) ∧ (k = 2 → 0 ≤ v ∧ v ≤ 6) ∧ (k = 3 → 0 ≤ v ∧ v ≤ 6)
  | 37 => (k = 0 → 0 ≤ v ∧ v ≤ 5) ∧ (k = 1 → v = 0 ∨ v = 1) ∧ (k = 2 → 0 ≤ v ∧ v ≤ 6) ∧ (k = 3 → 0 ≤ v ∧ v ≤ 6)
  | 40 => -1 ≤ v ∧ v ≤ 384
  | 41 => 0 ≤ v ∧ v ≤ 9
  | 42 => 0 ≤ v ∧ v ≤ 511
  | 46 => 0 ≤ v ∧ v ≤ 383
  | 51 => v = 0 ∨ v = 1
  | 53 => 0 ≤ v ∧ v ≤ 999
  | 54 => 0 ≤ v ∧ v ≤ 7
  | _ => True
def WI (S : XS) : Prop := (∀ l k, zR (S.1 l k)) ∧ ∀ l, xdm S.2.2.2 l → ∀ k, wc l.1 k (S.1 l k)
theorem WI.put {S : XS} (h : WI S) {l : XL} {k v : Int} (h1 : zR v) (h2 : wc l.1 k v) : WI (putI S l k v) := by
  refine ⟨fun l' k' => ?_, fun l' hd k' => ?_⟩
  · by_cases e : l' = l
    · subst e
      by_cases e2 : k' = k
      · simp only [putI, xUpd, if_true, e2]; exact h1
      · simp only [putI, xUpd, if_true, if_neg e2]; exact h.1 l' k'
    · simp only [putI, if_neg e]; exact h.1 l' k'
  · by_cases e : l' = l
    · subst e
      by_cases e2 : k' = k
      · subst e2
        simp only [putI, xUpd, if_true]; exact h2
      · simp only [putI, xUpd, if_true, if_neg e2]; exact h.2 l' hd k'
    · simp only [putI, if_neg e]; exact h.2 l' hd k'
theorem WI.puJ {S : XS} (h : WI S) {l : XL} {k : Int} {v : Int64} : WI (putJ S l k v) := h
theorem WI.fill {S : XS} (h : WI S) {l : XL} {n v : Int} (h1 : zR v) (h2 : ∀ k, wc l.1 k v) : WI (filI S l n v) := by
  refine ⟨fun l' k' => ?_, fun l' hd k' => ?_⟩
  · by_cases e : l' = l
    · subst e
      simp only [filI, if_true]
      split
      · exact h1
      · exact h.1 l' k'
    · simp only [filI, if_neg e]; exact h.1 l' k'
  · by_cases e : l' = l
    · subst e
      simp only [filI, if_true]
      split
      · exact h2 k'
      · exact h.2 l' hd k'
    · simp only [filI, if_neg e]; exact h.2 l' hd k'
theorem wf0_6 {S : XS} (hw : WI S) : 1 ≤ S.1 (0, 0, 0) 6 ∧ S.1 (0, 0, 0) 6 ≤ 4 := (hw.2 _ (dm0 S) 6).1 rfl
theorem wp0_6 {S : XS} (hw : WI S) {v : Int} (hv : 1 ≤ v ∧ v ≤ 4) : WI (putI S (0, 0, 0) 6 v) := hw.put ⟨by omega, by omega⟩ (by refine ⟨?_, ?_, ?_⟩ <;> intro z <;> first | exact hv | (exfalso; revert z; decide))
theorem wf0_7 {S : XS} (hw : WI S) : 0 ≤ S.1 (0, 0, 0) 7 ∧ S.1 (0, 0, 0) 7 ≤ 5 := (hw.2 _ (dm0 S) 7).2.1 rfl
theorem wp0_7 {S : XS} (hw : WI S) {v : Int} (hv : 0 ≤ v ∧ v ≤ 5) : WI (putI S (0, 0, 0) 7 v) := hw.put ⟨by omega, by omega⟩ (by refine ⟨?_, ?_, ?_⟩ <;> intro z <;> first | exact hv | (exfalso; revert z; decide))
theorem wf0_8 {S : XS} (hw : WI S) : 0 ≤ S.1 (0, 0, 0) 8 ∧ S.1 (0, 0, 0) 8 ≤ 60 := (hw.2 _ (dm0 S) 8).2.2 rfl
theorem wp0_8 {S : XS} (hw : WI S) {v : Int} (hv : 0 ≤ v ∧ v ≤ 60) : WI (putI S (0, 0, 0) 8 v) := hw.put ⟨by omega, by omega⟩ (by refine ⟨?_, ?_, ?_⟩ <;> intro z <;> first | exact hv | (exfalso; revert z; decide))
theorem wfa3 {S : XS} (hw : WI S) (i : Int) : S.1 (3, 0, 0) i = 0 ∨ S.1 (3, 0, 0) i = 1 := hw.2 _ (dm3 S) i
theorem wpa3 {S : XS} (hw : WI S) {i v : Int} (hv : v = 0 ∨ v = 1) : WI (putI S (3, 0, 0) i v) := hw.put ⟨by omega, by omega⟩ hv
theorem wf4_2 {S : XS} (hw : WI S) : 0 ≤ S.1 (4, 0, 0) 2 ∧ S.1 (4, 0, 0) 2 ≤ 10 := (hw.2 _ (dm4 S) 2) rfl
theorem wp4_2 {S : XS} (hw : WI S) {v : Int} (hv : 0 ≤ v ∧ v ≤ 10) : WI (putI S (4, 0, 0) 2 v) := hw.put ⟨by omega, by omega⟩ (fun _ => hv)
theorem wf9_3 {S : XS} (hw : WI S) {b : Int} (h1 : 0 ≤ b) (h2 : b < 4) : 0 ≤ S.1 (9, b, 0) 3 ∧ S.1 (9, b, 0) 3 ≤ 60 := (hw.2 _ (dm9 S h1 h2) 3).1 rfl
theorem wp9_3 {S : XS} (hw : WI S) {b : Int} (h1 : 0 ≤ b) (h2 : b < 4) {v : Int} (hv : 0 ≤ v ∧ v ≤ 60) : WI (putI S (9, b, 0) 3 v) := hw.put ⟨by omega, by omega⟩ (by refine ⟨?_, ?_, ?_, ?_⟩ <;> intro z <;> first | exact hv | (exfalso; revert z; decide))
theorem wf9_4 {S : XS} (hw : WI S) {b : Int} (h1 : 0 ≤ b) (h2 : b < 4) : 0 ≤ S.1 (9, b, 0) 4 ∧ S.1 (9, b, 0) 4 ≤ 3 := (hw.2 _ (dm9 S h1 h2) 4).2.1 rfl
theorem wp9_4 {S : XS} (hw : WI S) {b : Int} (h1 : 0 ≤ b) (h2 : b < 4) {v : Int} (hv : 0 ≤ v ∧ v ≤ 3) : WI (putI S (9, b, 0) 4 v) := hw.put ⟨by omega, by omega⟩ (by refine ⟨?_, ?_, ?_, ?_⟩ <;> intro z <;> first | exact hv | (exfalso; revert z; decide))
theorem wf9_5 {S : XS} (hw : WI S) {b : Int} (h1 : 0 ≤ b) (h2 : b < 4) : 0 ≤ S.1 (9, b, 0) 5 ∧ S.1 (9, b, 0) 5 ≤ 60 := (hw.2 _ (dm9 S h1 h2) 5).2.2.1 rfl
theorem wp9_5 {S : XS} (hw : WI S) {b : Int} (h1 : 0 ≤ b) (h2 : b < 4) {v : Int} (hv : 0 ≤ v ∧ v ≤ 60) : WI (putI S (9, b, 0) 5 v) := hw.put ⟨by omega, by omega⟩ (by refine ⟨?_, ?_, ?_, ?_⟩ <;> intro z <;> first | exact hv | (exfalso; revert z; decide))
theorem wf9_6 {S : XS} (hw : WI S) {b : Int} (h1 : 0 ≤ b) (h2 : b < 4) : 0 ≤ S.1 (9, b, 0) 6 ∧ S.1 (9, b, 0) 6 ≤ 60 := (hw.2 _ (dm9 S h1 h2) 6).2.2.2 rfl
theorem wp9_6 {S : XS} (hw : WI S) {b : Int} (h1 : 0 ≤ b) (h2 : b < 4) {v : Int} (hv : 0 ≤ v ∧ v ≤ 60) : WI (putI S (9, b, 0) 6 v) := hw.put ⟨by omega, by omega⟩ (by refine ⟨?_, ?_, ?_, ?_⟩ <;> intro z <;> first | exact hv | (exfalso; revert z; decide))
theorem wfa11 {S : XS} (hw : WI S) {b : Int} (h1 : 0 ≤ b) (h2 : b < 4) (i : Int) : 0 ≤ S.1 (11, b, 0) i ∧ S.1 (11, b, 0) i ≤ 65520 := hw.2 _ (dm11 S h1 h2) i
theorem wpa11 {S : XS} (hw : WI S) {b : Int} (h1 : 0 ≤ b) (h2 : b < 4) {i v : Int} (hv : 0 ≤ v ∧ v ≤ 65520) : WI (putI S (11, b, 0) i v) := hw.put ⟨by omega, by omega⟩ hv
theorem wf13_0 {S : XS} (hw : WI S) {b t : Int} (h1 : 0 ≤ b) (h2 : b < 4) (h3 : 0 ≤ t) (h4 : t < 60) : S.1 (13, b, t) 0 = 0 ∨ S.1 (13, b, t) 0 = 1 := (hw.2 _ (dm13 S h1 h2 h3 h4) 0).1 rfl
theorem wp13_0 {S : XS} (hw : WI S) {b t : Int} (h1 : 0 ≤ b) (h2 : b < 4) (h3 : 0 ≤ t) (h4 : t < 60) {v : Int} (hv : v = 0 ∨ v = 1) : WI (putI S (13, b, t) 0 v) := hw.put ⟨by omega, by omega⟩ (by refine ⟨?_, ?_, ?_, ?_, ?_, ?_, ?_, ?_⟩ <;> intro z <;> first | exact hv | (exfalso; revert z; decide))
theorem wf13_1 {S : XS} (hw : WI S) {b t : Int} (h1 : 0 ≤ b) (h2 : b < 4) (h3 : 0 ≤ t) (h4 : t < 60) : S.1 (13, b, t) 1 = 0 ∨ S.1 (13, b, t) 1 = 1 := (hw.2 _ (dm13 S h1 h2 h3 h4) 1).2.1 rfl
theorem wp13_1 {S : XS} (hw : WI S) {b t : Int} (h1 : 0 ≤ b) (h2 : b < 4) (h3 : 0 ≤ t) (h4 : t < 60) {v : Int} (hv : v = 0 ∨ v = 1) : WI (putI S (13, b, t) 1 v) := hw.put ⟨by omega, by omega⟩ (by refine ⟨?_, ?_, ?_, ?_, ?_, ?_, ?_, ?_⟩ <;> intro z <;> first | exact hv | (exfalso; revert z; decide))
theorem wf13_2 {S : XS} (hw : WI S) {b t : Int} (h1 : 0 ≤ b) (h2 : b < 4) (h3 : 0 ≤ t) (h4 : t < 60) : 0 ≤ S.1 (13, b, t) 2 ∧ S.1 (13, b, t) 2 ≤ 383 := (hw.2 _ (dm13 S h1 h2 h3 h4) 2).2.2.1 rfl
theorem wp13_2 {S : XS} (hw : WI S) {b t : Int} (h1 : 0 ≤ b) (h2 : b < 4) (h3 : 0 ≤ t) (h4 : t < 60) {v : Int} (hv : 0 ≤ v ∧ v ≤ 383) : WI (putI S (13, b, t) 2 v) := hw.put ⟨by omega, by omega⟩ (by refine ⟨?_, ?_, ?_, ?_, ?_, ?_, ?_, ?_⟩ <;> intro z <;> first | exact hv | (exfalso; revert z; decide))
theorem wf13_3 {S : XS} (hw : WI S) {b t : Int} (h1 : 0 ≤ b) (h2 : b < 4) (h3 : 0 ≤ t) (h4 : t < 60) : 0 ≤ S.1 (13, b, t) 3 ∧ S.1 (13, b, t) 3 ≤ 23 := (hw.2 _ (dm13 S h1 h2 h3 h4) 3).2.2.2.1 rfl
theorem wp13_3 {S : XS} (hw : WI S) {b t : Int} (h1 : 0 ≤ b) (h2 : b < 4) (h3 : 0 ≤ t) (h4 : t < 60) {v : Int} (hv : 0 ≤ v ∧ v ≤ 23) : WI (putI S (13, b, t) 3 v) := hw.put ⟨by omega, by omega⟩ (by refine ⟨?_, ?_, ?_, ?_, ?_, ?_, ?_, ?_⟩ <;> intro z <;> first | exact hv | (exfalso; revert z; decide))
theorem wf13_4 {S : XS} (hw : WI S) {b t : Int} (h1 : 0 ≤ b) (h2 : b < 4) (h3 : 0 ≤ t) (h4 : t < 60) : 0 ≤ S.1 (13, b, t) 4 ∧ S.1 (13, b, t) 4 ≤ 23 := (hw.2 _ (dm13 S h1 h2 h3 h4) 4).2.2.2.2.1 rfl
theorem wp13_4 {S : XS} (hw : WI S) {b t : Int} (h1 : 0 ≤ b) (h2 : b < 4) (h3 : 0 ≤ t) (h4 : t < 60) {v : Int} (hv : 0 ≤ v ∧ v ≤ 23) : WI (putI S (13, b, t) 4 v) := hw.put ⟨by omega, by omega⟩ (by refine ⟨?_, ?_, ?_, ?_, ?_, ?_, ?_, ?_⟩ <;> intro z <;> first | exact hv | (exfalso; revert z; decide))
theorem wf13_5 {S : XS} (hw : WI S) {b t : Int} (h1 : 0 ≤ b) (h2 : b < 4) (h3 : 0 ≤ t) (h4 : t < 60) : 0 ≤ S.1 (13, b, t) 5 ∧ S.1 (13, b, t) 5 ≤ 65520 := (hw.2 _ (dm13 S h1 h2 h3 h4) 5).2.2.2.2.2.1 rfl
theorem wp13_5 {S : XS} (hw : WI S) {b t : Int} (h1 : 0 ≤ b) (h2 : b < 4) (h3 : 0 ≤ t) (h4 : t < 60) {v : Int} (hv : 0 ≤ v ∧ v ≤ 65520) : WI (putI S (13, b, t) 5 v) := hw.put ⟨by omega, by omega⟩ (by refine ⟨?_, ?_, ?_, ?_, ?_, ?_, ?_, ?_⟩ <;> intro z <;> first | exact hv | (exfalso; revert z; decide))
theorem wf13_6 {S : XS} (hw : WI S) {b t : Int} (h1 : 0 ≤ b) (h2 : b < 4) (h3 : 0 ≤ t) (h4 : t < 60) : S.1 (13, b, t) 6 = 0 ∨ S.1 (13, b, t) 6 = 1 := (hw.2 _ (dm13 S h1 h2 h3 h4) 6).2.2.2.2.2.2.1 rfl
theorem wp13_6 {S : XS} (hw : WI S) {b t : Int} (h1 : 0 ≤ b) (h2 : b < 4) (h3 : 0 ≤ t) (h4 : t < 60) {v : Int} (hv : v = 0 ∨ v = 1) : WI (putI S (13, b, t) 6 v) := hw.put ⟨by omega, by omega⟩ (by refine ⟨?_, ?_, ?_, ?_, ?_, ?_, ?_, ?_⟩ <;> intro z <;> first | exact hv | (exfalso; revert z; decide))
theorem wf13_7 {S : XS} (hw : WI S) {b t : Int} (h1 : 0 ≤ b) (h2 : b < 4) (h3 : 0 ≤ t) (h4 : t < 60) : -1 ≤ S.1 (13, b, t) 7 ∧ S.1 (13, b, t) 7 ≤ 3 := (hw.2 _ (dm13 S h1 h2 h3 h4) 7).2.2.2.2.2.2.2 rfl
theorem wp13_7 {S : XS} (hw : WI S) {b t : Int} (h1 : 0 ≤ b) (h2 : b < 4) (h3 : 0 ≤ t) (h4 : t < 60) {v : Int} (hv : -1 ≤ v ∧ v ≤ 3) : WI (putI S (13, b, t) 7 v) := hw.put ⟨by omega, by omega⟩ (by refine ⟨?_, ?_, ?_, ?_, ?_, ?_, ?_, ?_⟩ <;> intro z <;> first | exact hv | (exfalso; revert z; decide))
theorem wf14_2 {S : XS} (hw : WI S) {b : Int} (h1 : 0 ≤ b) (h2 : b < 5) : 0 ≤ S.1 (14, b, 0) 2 ∧ S.1 (14, b, 0) 2 ≤ 3 := (hw.2 _ (dm14 S h1 h2) 2).1 rfl
theorem wp14_2 {S : XS} (hw : WI S) {b : Int} (h1 : 0 ≤ b) (h2 : b < 5) {v : Int} (hv : 0 ≤ v ∧ v ≤ 3) : WI (putI S (14, b, 0) 2 v) := hw.put ⟨by omega, by omega⟩ (by refine ⟨?_, ?_, ?_, ?_, ?_, ?_⟩ <;> intro z <;> first | exact hv | (exfalso; revert z; decide))
theorem wf14_3 {S : XS} (hw : WI S) {b : Int} (h1 : 0 ≤ b) (h2 : b < 5) : 0 ≤ S.1 (14, b, 0) 3 ∧ S.1 (14, b, 0) 3 ≤ 5 := (hw.2 _ (dm14 S h1 h2) 3).2.1 rfl
theorem wp14_3 {S : XS} (hw : WI S) {b : Int} (h1 : 0 ≤ b) (h2 : b < 5) {v : Int} (hv : 0 ≤ v ∧ v ≤ 5) : WI (putI S (14, b, 0) 3 v) := hw.put ⟨by omega, by omega⟩ (by refine ⟨?_, ?_, ?_, ?_, ?_, ?_⟩ <;> intro z <;> first | exact hv | (exfalso; revert z; decide))
theorem wf14_4 {S : XS} (hw : WI S) {b : Int} (h1 : 0 ≤ b) (h2 : b < 5) : 0 ≤ S.1 (14, b, 0) 4 ∧ S.1 (14, b, 0) 4 ≤ 23 := (hw.2 _ (dm14 S h1 h2) 4).2.2.1 rfl
theorem wp14_4 {S : XS} (hw : WI S) {b : Int} (h1 : 0 ≤ b) (h2 : b < 5) {v : Int} (hv : 0 ≤ v ∧ v ≤ 23) : WI (putI S (14, b, 0) 4 v) := hw.put ⟨by omega, by omega⟩ (by refine ⟨?_, ?_, ?_, ?_, ?_, ?_⟩ <;> intro z <;> first | exact hv | (exfalso; revert z; decide))
theorem wf14_7 {S : XS} (hw : WI S) {b : Int} (h1 : 0 ≤ b) (h2 : b < 5) : 0 ≤ S.1 (14, b, 0) 7 ∧ S.1 (14, b, 0) 7 ≤ 120 := (hw.2 _ (dm14 S h1 h2) 7).2.2.2.1 rfl
theorem wp14_7 {S : XS} (hw : WI S) {b : Int} (h1 : 0 ≤ b) (h2 : b < 5) {v : Int} (hv : 0 ≤ v ∧ v ≤ 120) : WI (putI S (14, b, 0) 7 v) := hw.put ⟨by omega, by omega⟩ (by refine ⟨?_, ?_, ?_, ?_, ?_, ?_⟩ <;> intro z <;> first | exact hv | (exfalso; revert z; decide))
theorem wf14_8 {S : XS} (hw : WI S) {b : Int} (h1 : 0 ≤ b) (h2 : b < 5) : 0 ≤ S.1 (14, b, 0) 8 ∧ S.1 (14, b, 0) 8 ≤ 120 := (hw.2 _ (dm14 S h1 h2) 8).2.2.2.2.1 rfl
theorem wp14_8 {S : XS} (hw : WI S) {b : Int} (h1 : 0 ≤ b) (h2 : b < 5) {v : Int} (hv : 0 ≤ v ∧ v ≤ 120) : WI (putI S (14, b, 0) 8 v) := hw.put ⟨by omega, by omega⟩ (by refine ⟨?_, ?_, ?_, ?_, ?_, ?_⟩ <;> intro z <;> first | exact hv | (exfalso; revert z; decide))
theorem wf14_9 {S : XS} (hw : WI S) {b : Int} (h1 : 0 ≤ b) (h2 : b < 5) : 0 ≤ S.1 (14, b, 0) 9 ∧ S.1 (14, b, 0) 9 ≤ 7680 := (hw.2 _ (dm14 S h1 h2) 9).2.2.2.2.2 rfl
theorem wp14_9 {S : XS} (hw : WI S) {b : Int} (h1 : 0 ≤ b) (h2 : b < 5) {v : Int} (hv : 0 ≤ v ∧ v ≤ 7680) : WI (putI S (14, b, 0) 9 v) := hw.put ⟨by omega, by omega⟩ (by refine ⟨?_, ?_, ?_, ?_, ?_, ?_⟩ <;> intro z <;> first | exact hv | (exfalso; revert z; decide))
theorem wfa33 {S : XS} (hw : WI S) (i : Int) : 0 ≤ S.1 (33, 0, 0) i ∧ S.1 (33, 0, 0) i ≤ 5 := hw.2 _ (dm33 S) i
theorem wpa33 {S : XS} (hw : WI S) {i v : Int} (hv : 0 ≤ v ∧ v ≤ 5) : WI (putI S (33, 0, 0) i v) := hw.put ⟨by omega, by omega⟩ hv
theorem wf34_2 {S : XS} (hw : WI S) {b : Int} (h1 : 0 ≤ b) (h2 : b < 10) : 0 ≤ S.1 (34, b, 0) 2 ∧ S.1 (34, b, 0) 2 ≤ 3 := (hw.2 _ (dm34 S h1 h2) 2).1 rfl
theorem wp34_2 {S : XS} (hw : WI S) {b : Int} (h1 : 0 ≤ b) (h2 : b < 10) {v : Int} (hv : 0 ≤ v ∧ v ≤ 3) : WI (putI S (34, b, 0) 2 v) := hw.put ⟨by omega, by omega⟩ (by refine ⟨?_, ?_, ?_, ?_⟩ <;> intro z <;> first | exact hv | (exfalso; revert z; decide))
theorem wf34_3 {S : XS} (hw : WI S) {b : Int} (h1 : 0 ≤ b) (h2 : b < 10) : 0 ≤ S.1 (34, b, 0) 3 ∧ S.1 (34, b, 0) 3 ≤ 63 := (hw.2 _ (dm34 S h1 h2) 3).2.1 rfl
theorem wp34_3 {S : XS} (hw : WI S) {b : Int} (h1 : 0 ≤ b) (h2 : b < 10) {v : Int} (hv : 0 ≤ v ∧ v ≤ 63) : WI (putI S (34, b, 0) 3 v) := hw.put ⟨by omega, by omega⟩ (by refine ⟨?_, ?_, ?_, ?_⟩ <;> intro z <;> first | exact hv | (exfalso; revert z; decide))
theorem wf34_4 {S : XS} (hw : WI S) {b : Int} (h1 : 0 ≤ b) (h2 : b < 10) : 0 ≤ S.1 (34, b, 0) 4 ∧ S.1 (34, b, 0) 4 ≤ 511 := (hw.2 _ (dm34 S h1 h2) 4).2.2.1 rfl
theorem wp34_4 {S : XS} (hw : WI S) {b : Int} (h1 : 0 ≤ b) (h2 : b < 10) {v : Int} (hv : 0 ≤ v ∧ v ≤ 511) : WI (putI S (34, b, 0) 4 v) := hw.put ⟨by omega, by omega⟩ (by refine ⟨?_, ?_, ?_, ?_⟩ <;> intro z <;> first | exact hv | (exfalso; revert z; decide))
theorem wf34_5 {S : XS} (hw : WI S) {b : Int} (h1 : 0 ≤ b) (h2 : b < 10) : S.1 (34, b, 0) 5 = 0 ∨ S.1 (34, b, 0) 5 = 1 := (hw.2 _ (dm34 S h1 h2) 5).2.2.2 rfl
theorem wp34_5 {S : XS} (hw : WI S) {b : Int} (h1 : 0 ≤ b) (h2 : b < 10) {v : Int} (hv : v = 0 ∨ v = 1) : WI (putI S (34, b, 0) 5 v) := hw.put ⟨by omega, by omega⟩ (by refine ⟨?_, ?_, ?_, ?_⟩ <;> intro z <;> first | exact hv | (exfalso; revert z; decide))
theorem wf36_0 {S : XS} (hw : WI S) {b t : Int} (h1 : 0 ≤ b) (h2 : b < 10) (h3 : 0 ≤ t) (h4 : t < 3) : 0 ≤ S.1 (36, b, t) 0 ∧ S.1 (36, b, t) 0 ≤ 5 := (hw.2 _ (dm36 S h1 h2 h3 h4) 0).1 rfl
theorem wp36_0 {S : XS} (hw : WI S) {b t : Int} (h1 : 0 ≤ b) (h2 : b < 10) (h3 : 0 ≤ t) (h4 : t < 3) {v : Int} (hv : 0 ≤ v ∧ v ≤ 5) : WI (putI S (36, b, t) 0 v) := hw.put ⟨by omega, by omega⟩ (by refine ⟨?_, ?_, ?_, ?_⟩ <;> intro z <;> first | exact hv | (exfalso; revert z; decide))
theorem wf36_1 {S : XS} (hw : WI S) {b t : Int} (h1 : 0 ≤ b) (h2 : b < 10) (h3 : 0 ≤ t) (h4 : t < 3) : S.1 (36, b, t) 1 = 0 ∨ S.1 (36, b, t) 1 = 1 := (hw.2 _ (dm36 S h1 h2 h3 h4) 1).2.1 rfl
theorem wp36_1 {S : XS} (hw : WI S) {b t : Int} (h1 : 0 ≤ b) (h2 : b < 10) (h3 : 0 ≤ t) (h4 : t < 3) {v : Int} (hv : v = 0 ∨ v = 1) : WI (putI S (36, b, t) 1 v) := hw.put ⟨by omega, by omega⟩ (by refine ⟨?_, ?_, ?_, ?_⟩ <;> intro z <;> first | exact hv | (exfalso; revert z; decide))
theorem wf36_2 {S : XS} (hw : WI S) {b t : Int} (h1 : 0 ≤ b) (h2 : b < 10) (h3 : 0 ≤ t) (h4 : t < 3) : 0 ≤ S.1 (36, b, t) 2 ∧ S.1 (36, b, t) 2 ≤ 6 := (hw.2 _ (dm36 S h1 h2 h3 h4) 2).2.2.1 rfl
theorem wp36_2 {S : XS} (hw : WI S) {b t : Int} (h1 : 0 ≤ b) (h2 : b < 10) (h3 : 0 ≤ t) (h4 : t < 3) {v : Int} (hv : 0 ≤ v ∧ v ≤ 6) : WI (putI S (36, b, t) 2 v) := hw.put ⟨by omega, by omega⟩ (by refine ⟨?_, ?_, ?_, ?_⟩ <;> intro z <;> first | exact hv | (exfalso; revert z; decide))
theorem wf36_3 {S : XS} (hw : WI S) {b t : Int} (h1 : 0 ≤ b) (h2 : b < 10) (h3 : 0 ≤ t) (h4 : t < 3) : 0 ≤ S.1 (36, b, t) 3 ∧ S.1 (36, b, t) 3 ≤ 6 := (hw.2 _ (dm36 S h1 h2 h3 h4) 3).2.2.2 rfl
theorem wp36_3 {S : XS} (hw : WI S) {b t : Int} (h1 : 0 ≤ b) (h2 : b < 10) (h3 : 0 ≤ t) (h4 : t < 3) {v : Int} (hv : 0 ≤ v ∧ v ≤ 6) : WI (putI S (36, b, t) 3 v) := hw.put ⟨by omega, by omega⟩ (by refine ⟨?_, ?_, ?_, ?_⟩ <;> intro z <;> first | exact hv | (exfalso; revert z; decide))
theorem wf37_0 {S : XS} (hw : WI S) {b : Int} (h1 : 0 ≤ b) (h2 : b < 10) : 0 ≤ S.1 (37, b, 0) 0 ∧ S.1 (37, b, 0) 0 ≤ 5 := (hw.2 _ (dm37 S h1 h2) 0).1 rfl
theorem wp37_0 {S : XS} (hw : WI S) {b : Int} (h1 : 0 ≤ b) (h2 : b < 10) {v : Int} (hv : 0 ≤ v ∧ v ≤ 5) : WI (putI S (37, b, 0) 0 v) := hw.put ⟨by omega, by omega⟩ (by refine ⟨?_, ?_, ?_, ?_⟩ <;> intro z <;> first | exact hv | (exfalso; revert z; decide))
theorem wf37_1 {S : XS} (hw : WI S) {b : Int} (h1 : 0 ≤ b) (h2 : b < 10) : S.1 (37, b, 0) 1 = 0 ∨ S.1 (37, b, 0) 1 = 1 := (hw.2 _ (dm37 S h1 h2) 1).2.1 rfl
theorem wp37_1 {S : XS} (hw : WI S) {b : Int} (h1 : 0 ≤ b) (h2 : b < 10) {v : Int} (hv : v = 0 ∨ v = 1) : WI (putI S (37, b, 0) 1 v) := hw.put ⟨by omega, by omega⟩ (by refine ⟨?_, ?_, ?_, ?_⟩ <;> intro z <;> first | exact hv | (exfalso; revert z; decide))
theorem wf37_2 {S : XS} (hw : WI S) {b : Int} (h1 : 0 ≤ b) (h2 : b < 10) : 0 ≤ S.1 (37, b, 0) 2 ∧ S.1 (37, b, 0) 2 ≤ 6 := (hw.2 _ (dm37 S h1 h2) 2).2.2.1 rfl
theorem wp37_2 {S : XS} (hw : WI S) {b : Int} (h1 : 0 ≤ b) (h2 : b < 10) {v : Int} (hv : 0 ≤ v ∧ v ≤ 6) : WI (putI S (37, b, 0) 2 v) := hw.put ⟨by omega, by omega⟩ (by refine ⟨?_, ?_, ?_, ?_⟩ <;> intro z <;> first | exact hv | (exfalso; revert z; decide))
theorem wf37_3 {S : XS} (hw : WI S) {b : Int} (h1 : 0 ≤ b) (h2 : b < 10) : 0 ≤ S.1 (37, b, 0) 3 ∧ S.1 (37, b, 0) 3 ≤ 6 := (hw.2 _ (dm37 S h1 h2) 3).2.2.2 rfl
theorem wp37_3 {S : XS} (hw : WI S) {b : Int} (h1 : 0 ≤ b) (h2 : b < 10) {v : Int} (hv : 0 ≤ v ∧ v ≤ 6) : WI (putI S (37, b, 0) 3 v) := hw.put ⟨by omega, by omega⟩ (by refine ⟨?_, ?_, ?_, ?_⟩ <;> intro z <;> first | exact hv | (exfalso; revert z; decide))
theorem wfa40 {S : XS} (hw : WI S) (i : Int) : -1 ≤ S.1 (40, 0, 0) i ∧ S.1 (40, 0, 0) i ≤ 384 := hw.2 _ (dm40 S) i
theorem wpa40 {S : XS} (hw : WI S) {i v : Int} (hv : -1 ≤ v ∧ v ≤ 384) : WI (putI S (40, 0, 0) i v) := hw.put ⟨by omega, by omega⟩ hv
theorem wfa41 {S : XS} (hw : WI S) (i : Int) : 0 ≤ S.1 (41, 0, 0) i ∧ S.1 (41, 0, 0) i ≤ 9 := hw.2 _ (dm41 S) i
theorem wpa41 {S : XS} (hw : WI S) {i v : Int} (hv : 0 ≤ v ∧ v ≤ 9) : WI (putI S (41, 0, 0) i v) := hw.put ⟨by omega, by omega⟩ hv
theorem wfa42 {S : XS} (hw : WI S) (i : Int) : 0 ≤ S.1 (42, 0, 0) i ∧ S.1 (42, 0, 0) i ≤ 511 := hw.2 _ (dm42 S) i
theorem wpa42 {S : XS} (hw : WI S) {i v : Int} (hv : 0 ≤ v ∧ v ≤ 511) : WI (putI S (42, 0, 0) i v) := hw.put ⟨by omega, by omega⟩ hv
theorem wfa46 {S : XS} (hw : WI S) (i : Int) : 0 ≤ S.1 (46, 0, 0) i ∧ S.1 (46, 0, 0) i ≤ 383 := hw.2 _ (dm46 S) i
theorem wpa46 {S : XS} (hw : WI S) {i v : Int} (hv : 0 ≤ v ∧ v ≤ 383) : WI (putI S (46, 0, 0) i v) := hw.put ⟨by omega, by omega⟩ hv
theorem wfa51 {S : XS} (hw : WI S) {b : Int} (h1 : 0 ≤ b) (h2 : b < S.2.2.2.1 51) (i : Int) : S.1 (51, b, 0) i = 0 ∨ S.1 (51, b, 0) i = 1 := hw.2 _ (dm51 S h1 h2) i
theorem wpa51 {S : XS} (hw : WI S) {b : Int} (h1 : 0 ≤ b) (h2 : b < S.2.2.2.1 51) {i v : Int} (hv : v = 0 ∨ v = 1) : WI (putI S (51, b, 0) i v) := hw.put ⟨by omega, by omega⟩ hv
theorem wfa53 {S : XS} (hw : WI S) {b : Int} (h1 : 0 ≤ b) (h2 : b < S.2.2.2.1 53) (i : Int) : 0 ≤ S.1 (53, b, 0) i ∧ S.1 (53, b, 0) i ≤ 999 := hw.2 _ (dm53 S h1 h2) i
theorem wpa53 {S : XS} (hw : WI S) {b : Int} (h1 : 0 ≤ b) (h2 : b < S.2.2.2.1 53) {i v : Int} (hv : 0 ≤ v ∧ v ≤ 999) : WI (putI S (53, b, 0) i v) := hw.put ⟨by omega, by omega⟩ hv
theorem wfa54 {S : XS} (hw : WI S) {b : Int} (h1 : 0 ≤ b) (h2 : b < S.2.2.2.1 54) (i : Int) : 0 ≤ S.1 (54, b, 0) i ∧ S.1 (54, b, 0) i ≤ 7 := hw.2 _ (dm54 S h1 h2) i
theorem wpa54 {S : XS} (hw : WI S) {b : Int} (h1 : 0 ≤ b) (h2 : b < S.2.2.2.1 54) {i v : Int} (hv : 0 ≤ v ∧ v ≤ 7) : WI (putI S (54, b, 0) i v) := hw.put ⟨by omega, by omega⟩ hv
theorem WI.row {S : XS} (h : WI S) {l : XL} {f : Int → Int64} {n : Int} : WI (rowJ S l f n) := h
theorem pr16 (S : XS) (f : Int → Int64) (n : Int) : hp (rowJ S (16, 0, 0) f n) = xUp (hp S) (16, 0, 0) (.inr (1, 6, .inr (.inl (fun j => if 0 ≤ j ∧ j < n then f j else S.2.1 (16, 0, 0) j)))) := hp_rowJ (dm16 S) rfl
theorem pr17 (S : XS) (f : Int → Int64) (n : Int) : hp (rowJ S (17, 0, 0) f n) = xUp (hp S) (17, 0, 0) (.inr (1, 6, .inr (.inl (fun j => if 0 ≤ j ∧ j < n then f j else S.2.1 (17, 0, 0) j)))) := hp_rowJ (dm17 S) rfl
theorem pr18 (S : XS) {b t : Int} (h1 : 0 ≤ b) (h2 : b < 4) (h3 : 0 ≤ t) (h4 : t < 24) (f : Int → Int64) (n : Int) : hp (rowJ S (18, b, t) f n) = xUp (hp S) (18, b, t) (.inr (1, 6, .inr (.inl (fun j => if 0 ≤ j ∧ j < n then f j else S.2.1 (18, b, t) j)))) := hp_rowJ (dm18 S h1 h2 h3 h4) rfl
theorem pr26 (S : XS) (f : Int → Int64) (n : Int) : hp (rowJ S (26, 0, 0) f n) = xUp (hp S) (26, 0, 0) (.inr (1, 6, .inr (.inl (fun j => if 0 ≤ j ∧ j < n then f j else S.2.1 (26, 0, 0) j)))) := hp_rowJ (dm26 S) rfl
theorem pr27 (S : XS) (f : Int → Int64) (n : Int) : hp (rowJ S (27, 0, 0) f n) = xUp (hp S) (27, 0, 0) (.inr (1, 6, .inr (.inl (fun j => if 0 ≤ j ∧ j < n then f j else S.2.1 (27, 0, 0) j)))) := hp_rowJ (dm27 S) rfl
theorem pr28 (S : XS) {b t : Int} (h1 : 0 ≤ b) (h2 : b < 4) (h3 : 0 ≤ t) (h4 : t < 24) (f : Int → Int64) (n : Int) : hp (rowJ S (28, b, t) f n) = xUp (hp S) (28, b, t) (.inr (1, 6, .inr (.inl (fun j => if 0 ≤ j ∧ j < n then f j else S.2.1 (28, b, t) j)))) := hp_rowJ (dm28 S h1 h2 h3 h4) rfl
theorem pr43 (S : XS) (f : Int → Int64) (n : Int) : hp (rowJ S (43, 0, 0) f n) = xUp (hp S) (43, 0, 0) (.inr (1, 6, .inr (.inl (fun j => if 0 ≤ j ∧ j < n then f j else S.2.1 (43, 0, 0) j)))) := hp_rowJ (dm43 S) rfl
theorem pr44 (S : XS) (f : Int → Int64) (n : Int) : hp (rowJ S (44, 0, 0) f n) = xUp (hp S) (44, 0, 0) (.inr (1, 6, .inr (.inl (fun j => if 0 ≤ j ∧ j < n then f j else S.2.1 (44, 0, 0) j)))) := hp_rowJ (dm44 S) rfl
theorem pr45 (S : XS) (f : Int → Int64) (n : Int) : hp (rowJ S (45, 0, 0) f n) = xUp (hp S) (45, 0, 0) (.inr (1, 6, .inr (.inl (fun j => if 0 ≤ j ∧ j < n then f j else S.2.1 (45, 0, 0) j)))) := hp_rowJ (dm45 S) rfl
