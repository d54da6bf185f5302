/-! p35: the rows that the law makes, each with a number of its kind -/
theorem xsh_cnt (g g' : Int → Int) (s : Int) (z : Nat) (f : Int → Int) (d : UInt64) (l : XL) (j : Int → Int64) : xsh (g, s, z) d l f j = xsh (g', s, z) d l f j := by
  unfold xsh
  split <;> rfl
/-- the counts of the law's rows -/
def Cnt (S : XS) : Prop := 0 ≤ S.2.2.2.1 51 ∧ 0 ≤ S.2.2.2.1 52 ∧ 0 ≤ S.2.2.2.1 53 ∧ 0 ≤ S.2.2.2.1 54 ∧ 0 ≤ S.2.2.2.1 55
def sN51 (S : XS) : XS := (fun l => if l = (51, S.2.2.2.1 51, 0) then (fun _ => 0) else S.1 l, S.2.1, S.2.2.1, xUpd S.2.2.2.1 51 (S.2.2.2.1 51 + 1), S.2.2.2.2)
theorem n51_c (S : XS) : (sN51 S).2.2.2.1 51 = S.2.2.2.1 51 + 1 := by simp [sN51, xUpd]
theorem n51_c52 (S : XS) : (sN51 S).2.2.2.1 52 = S.2.2.2.1 52 := by simp [sN51, xUpd]
theorem n51_c53 (S : XS) : (sN51 S).2.2.2.1 53 = S.2.2.2.1 53 := by simp [sN51, xUpd]
theorem n51_c54 (S : XS) : (sN51 S).2.2.2.1 54 = S.2.2.2.1 54 := by simp [sN51, xUpd]
theorem n51_c55 (S : XS) : (sN51 S).2.2.2.1 55 = S.2.2.2.1 55 := by simp [sN51, xUpd]
theorem hp_n51 {S : XS} (h0 : 0 ≤ S.2.2.2.1 51) : hp (sN51 S) = xUp (hp S) (51, S.2.2.2.1 51, 0) (.inr (2, 10, .inl (fun _ => 0))) := by
  funext l
  by_cases e : l = (51, S.2.2.2.1 51, 0)
  · subst e
    rw [hp_of (by show 0 ≤ S.2.2.2.1 51 ∧ S.2.2.2.1 51 < (sN51 S).2.2.2.1 51 ∧ (0 : Int) = 0; rw [n51_c]; omega)]
    simp [xUp, sN51, xsh]
  · show _ = if l = _ then _ else _
    rw [if_neg e]
    have hd : xdm (sN51 S).2.2.2 l ↔ xdm S.2.2.2 l := by
      obtain ⟨k, b, t⟩ := l
      by_cases kk : k = 51
      · subst kk
        show (0 ≤ b ∧ b < (sN51 S).2.2.2.1 51 ∧ t = 0) ↔ (0 ≤ b ∧ b < S.2.2.2.1 51 ∧ t = 0)
        rw [n51_c]
        constructor
        · rintro ⟨a, c, d⟩
          refine ⟨a, ?_, d⟩
          rcases Int.lt_or_eq_of_le (show b ≤ S.2.2.2.1 51 by omega) with y | y
          · exact y
          · subst y; subst d; exact absurd rfl e
        · rintro ⟨a, c, d⟩; exact ⟨a, by omega, d⟩
      · unfold xdm
        split <;> first | rfl | (simp only [n51_c52, n51_c53, n51_c54, n51_c55]) | (rename_i h; exact absurd (congrArg (fun x : XL => x.1) h) kk)
    have he : (sN51 S).1 l = S.1 l := by show (if l = _ then _ else _) = _; rw [if_neg e]
    by_cases x : xdm S.2.2.2 l
    · rw [hp_of x, hp_of (hd.mpr x), he]
      exact xsh_cnt _ _ _ _ _ _ _ _
    · rw [hp_no x, hp_no (fun z => x (hd.mp z))]
theorem free51 (S : XS) : hp S (51, S.2.2.2.1 51, 0) = none := hp_no (fun z => by have := z.2.1; omega)
theorem wi_n51 {S : XS} (hw : WI S) : WI (sN51 S) := by
  refine ⟨fun l k => ?_, fun l hd k => ?_⟩
  · show zR ((if l = _ then (fun _ => 0) else S.1 l) k)
    split
    · exact zR_0
    · exact hw.1 l k
  · show wc l.1 k ((if l = _ then (fun _ => 0) else S.1 l) k)
    by_cases e : l = (51, S.2.2.2.1 51, 0)
    · rw [if_pos e, e]
      exact Or.inl rfl
    · rw [if_neg e]
      refine hw.2 l ?_ k
      obtain ⟨j, b, t⟩ := l
      by_cases kk : j = 51
      · subst kk
        have d : 0 ≤ b ∧ b < (sN51 S).2.2.2.1 51 ∧ t = 0 := hd
        rw [n51_c] at d
        obtain ⟨a, c, d⟩ := d
        refine ⟨a, ?_, d⟩
        rcases Int.lt_or_eq_of_le (show b ≤ S.2.2.2.1 51 by omega) with y | y
        · exact y
        · subst y; subst d; exact absurd rfl e
      · revert hd
        unfold xdm
        split <;> first | exact id | (simp only [n51_c52, n51_c53, n51_c54, n51_c55]; exact id) | (rename_i h; exact absurd (congrArg (fun x : XL => x.1) h) kk)
def sN52 (S : XS) : XS := (fun l => if l = (52, S.2.2.2.1 52, 0) then (fun _ => 0) else S.1 l, S.2.1, S.2.2.1, xUpd S.2.2.2.1 52 (S.2.2.2.1 52 + 1), S.2.2.2.2)
theorem n52_c (S : XS) : (sN52 S).2.2.2.1 52 = S.2.2.2.1 52 + 1 := by simp [sN52, xUpd]
theorem n52_c51 (S : XS) : (sN52 S).2.2.2.1 51 = S.2.2.2.1 51 := by simp [sN52, xUpd]
theorem n52_c53 (S : XS) : (sN52 S).2.2.2.1 53 = S.2.2.2.1 53 := by simp [sN52, xUpd]
theorem n52_c54 (S : XS) : (sN52 S).2.2.2.1 54 = S.2.2.2.1 54 := by simp [sN52, xUpd]
theorem n52_c55 (S : XS) : (sN52 S).2.2.2.1 55 = S.2.2.2.1 55 := by simp [sN52, xUpd]
theorem hp_n52 {S : XS} (h0 : 0 ≤ S.2.2.2.1 52) : hp (sN52 S) = xUp (hp S) (52, S.2.2.2.1 52, 0) (.inr (0, 7, .inl (fun _ => 0))) := by
  funext l
  by_cases e : l = (52, S.2.2.2.1 52, 0)
  · subst e
    rw [hp_of (by show 0 ≤ S.2.2.2.1 52 ∧ S.2.2.2.1 52 < (sN52 S).2.2.2.1 52 ∧ (0 : Int) = 0; rw [n52_c]; omega)]
    simp [xUp, sN52, xsh]
  · show _ = if l = _ then _ else _
    rw [if_neg e]
    have hd : xdm (sN52 S).2.2.2 l ↔ xdm S.2.2.2 l := by
      obtain ⟨k, b, t⟩ := l
      by_cases kk : k = 52
      · subst kk
        show (0 ≤ b ∧ b < (sN52 S).2.2.2.1 52 ∧ t = 0) ↔ (0 ≤ b ∧ b < S.2.2.2.1 52 ∧ t = 0)
        rw [n52_c]
        constructor
        · rintro ⟨a, c, d⟩
          refine ⟨a, ?_, d⟩
          rcases Int.lt_or_eq_of_le (show b ≤ S.2.2.2.1 52 by omega) with y | y
          · exact y
          · subst y; subst d; exact absurd rfl e
        · rintro ⟨a, c, d⟩; exact ⟨a, by omega, d⟩
      · unfold xdm
        split <;> first | rfl | (simp only [n52_c51, n52_c53, n52_c54, n52_c55]) | (rename_i h; exact absurd (congrArg (fun x : XL => x.1) h) kk)
    have he : (sN52 S).1 l = S.1 l := by show (if l = _ then _ else _) = _; rw [if_neg e]
    by_cases x : xdm S.2.2.2 l
    · rw [hp_of x, hp_of (hd.mpr x), he]
      exact xsh_cnt _ _ _ _ _ _ _ _
    · rw [hp_no x, hp_no (fun z => x (hd.mp z))]
theorem free52 (S : XS) : hp S (52, S.2.2.2.1 52, 0) = none := hp_no (fun z => by have := z.2.1; omega)
theorem wi_n52 {S : XS} (hw : WI S) : WI (sN52 S) := by
  refine ⟨fun l k => ?_, fun l hd k => ?_⟩
  · show zR ((if l = _ then (fun _ => 0) else S.1 l) k)
    split
    · exact zR_0
    · exact hw.1 l k
  · show wc l.1 k ((if l = _ then (fun _ => 0) else S.1 l) k)
    by_cases e : l = (52, S.2.2.2.1 52, 0)
    · rw [if_pos e, e]
      trivial
    · rw [if_neg e]
      refine hw.2 l ?_ k
      obtain ⟨j, b, t⟩ := l
      by_cases kk : j = 52
      · subst kk
        have d : 0 ≤ b ∧ b < (sN52 S).2.2.2.1 52 ∧ t = 0 := hd
        rw [n52_c] at d
        obtain ⟨a, c, d⟩ := d
        refine ⟨a, ?_, d⟩
        rcases Int.lt_or_eq_of_le (show b ≤ S.2.2.2.1 52 by omega) with y | y
        · exact y
        · subst y; subst d; exact absurd rfl e
      · revert hd
        unfold xdm
        split <;> first | exact id | (simp only [n52_c51, n52_c53, n52_c54, n52_c55]; exact id) | (rename_i h; exact absurd (congrArg (fun x : XL => x.1) h) kk)
def sN53 (S : XS) : XS := (fun l => if l = (53, S.2.2.2.1 53, 0) then (fun _ => 0) else S.1 l, S.2.1, S.2.2.1, xUpd S.2.2.2.1 53 (S.2.2.2.1 53 + 1), S.2.2.2.2)
theorem n53_c (S : XS) : (sN53 S).2.2.2.1 53 = S.2.2.2.1 53 + 1 := by simp [sN53, xUpd]
theorem n53_c51 (S : XS) : (sN53 S).2.2.2.1 51 = S.2.2.2.1 51 := by simp [sN53, xUpd]
theorem n53_c52 (S : XS) : (sN53 S).2.2.2.1 52 = S.2.2.2.1 52 := by simp [sN53, xUpd]
theorem n53_c54 (S : XS) : (sN53 S).2.2.2.1 54 = S.2.2.2.1 54 := by simp [sN53, xUpd]
theorem n53_c55 (S : XS) : (sN53 S).2.2.2.1 55 = S.2.2.2.1 55 := by simp [sN53, xUpd]
theorem hp_n53 {S : XS} (h0 : 0 ≤ S.2.2.2.1 53) : hp (sN53 S) = xUp (hp S) (53, S.2.2.2.1 53, 0) (.inr (0, 384, .inl (fun _ => 0))) := by
  funext l
  by_cases e : l = (53, S.2.2.2.1 53, 0)
  · subst e
    rw [hp_of (by show 0 ≤ S.2.2.2.1 53 ∧ S.2.2.2.1 53 < (sN53 S).2.2.2.1 53 ∧ (0 : Int) = 0; rw [n53_c]; omega)]
    simp [xUp, sN53, xsh]
  · show _ = if l = _ then _ else _
    rw [if_neg e]
    have hd : xdm (sN53 S).2.2.2 l ↔ xdm S.2.2.2 l := by
      obtain ⟨k, b, t⟩ := l
      by_cases kk : k = 53
      · subst kk
        show (0 ≤ b ∧ b < (sN53 S).2.2.2.1 53 ∧ t = 0) ↔ (0 ≤ b ∧ b < S.2.2.2.1 53 ∧ t = 0)
        rw [n53_c]
        constructor
        · rintro ⟨a, c, d⟩
          refine ⟨a, ?_, d⟩
          rcases Int.lt_or_eq_of_le (show b ≤ S.2.2.2.1 53 by omega) with y | y
          · exact y
          · subst y; subst d; exact absurd rfl e
        · rintro ⟨a, c, d⟩; exact ⟨a, by omega, d⟩
      · unfold xdm
        split <;> first | rfl | (simp only [n53_c51, n53_c52, n53_c54, n53_c55]) | (rename_i h; exact absurd (congrArg (fun x : XL => x.1) h) kk)
    have he : (sN53 S).1 l = S.1 l := by show (if l = _ then _ else _) = _; rw [if_neg e]
    by_cases x : xdm S.2.2.2 l
    · rw [hp_of x, hp_of (hd.mpr x), he]
      exact xsh_cnt _ _ _ _ _ _ _ _
    · rw [hp_no x, hp_no (fun z => x (hd.mp z))]
theorem free53 (S : XS) : hp S (53, S.2.2.2.1 53, 0) = none := hp_no (fun z => by have := z.2.1; omega)
theorem wi_n53 {S : XS} (hw : WI S) : WI (sN53 S) := by
  refine ⟨fun l k => ?_, fun l hd k => ?_⟩
  · show zR ((if l = _ then (fun _ => 0) else S.1 l) k)
    split
    · exact zR_0
    · exact hw.1 l k
  · show wc l.1 k ((if l = _ then (fun _ => 0) else S.1 l) k)
    by_cases e : l = (53, S.2.2.2.1 53, 0)
    · rw [if_pos e, e]
      exact (show (0 : Int) ≤ 0 ∧ (0 : Int) ≤ 999 from ⟨by decide, by decide⟩)
    · rw [if_neg e]
      refine hw.2 l ?_ k
      obtain ⟨j, b, t⟩ := l
      by_cases kk : j = 53
      · subst kk
        have d : 0 ≤ b ∧ b < (sN53 S).2.2.2.1 53 ∧ t = 0 := hd
        rw [n53_c] at d
        obtain ⟨a, c, d⟩ := d
        refine ⟨a, ?_, d⟩
        rcases Int.lt_or_eq_of_le (show b ≤ S.2.2.2.1 53 by omega) with y | y
        · exact y
        · subst y; subst d; exact absurd rfl e
      · revert hd
        unfold xdm
        split <;> first | exact id | (simp only [n53_c51, n53_c52, n53_c54, n53_c55]; exact id) | (rename_i h; exact absurd (congrArg (fun x : XL => x.1) h) kk)
def sN54 (S : XS) : XS := (fun l => if l = (54, S.2.2.2.1 54, 0) then (fun _ => 0) else S.1 l, S.2.1, S.2.2.1, xUpd S.2.2.2.1 54 (S.2.2.2.1 54 + 1), S.2.2.2.2)
theorem n54_c (S : XS) : (sN54 S).2.2.2.1 54 = S.2.2.2.1 54 + 1 := by simp [sN54, xUpd]
theorem n54_c51 (S : XS) : (sN54 S).2.2.2.1 51 = S.2.2.2.1 51 := by simp [sN54, xUpd]
theorem n54_c52 (S : XS) : (sN54 S).2.2.2.1 52 = S.2.2.2.1 52 := by simp [sN54, xUpd]
theorem n54_c53 (S : XS) : (sN54 S).2.2.2.1 53 = S.2.2.2.1 53 := by simp [sN54, xUpd]
theorem n54_c55 (S : XS) : (sN54 S).2.2.2.1 55 = S.2.2.2.1 55 := by simp [sN54, xUpd]
theorem hp_n54 {S : XS} (h0 : 0 ≤ S.2.2.2.1 54) : hp (sN54 S) = xUp (hp S) (54, S.2.2.2.1 54, 0) (.inr (0, 3, .inl (fun _ => 0))) := by
  funext l
  by_cases e : l = (54, S.2.2.2.1 54, 0)
  · subst e
    rw [hp_of (by show 0 ≤ S.2.2.2.1 54 ∧ S.2.2.2.1 54 < (sN54 S).2.2.2.1 54 ∧ (0 : Int) = 0; rw [n54_c]; omega)]
    simp [xUp, sN54, xsh]
  · show _ = if l = _ then _ else _
    rw [if_neg e]
    have hd : xdm (sN54 S).2.2.2 l ↔ xdm S.2.2.2 l := by
      obtain ⟨k, b, t⟩ := l
      by_cases kk : k = 54
      · subst kk
        show (0 ≤ b ∧ b < (sN54 S).2.2.2.1 54 ∧ t = 0) ↔ (0 ≤ b ∧ b < S.2.2.2.1 54 ∧ t = 0)
        rw [n54_c]
        constructor
        · rintro ⟨a, c, d⟩
          refine ⟨a, ?_, d⟩
          rcases Int.lt_or_eq_of_le (show b ≤ S.2.2.2.1 54 by omega) with y | y
          · exact y
          · subst y; subst d; exact absurd rfl e
        · rintro ⟨a, c, d⟩; exact ⟨a, by omega, d⟩
      · unfold xdm
        split <;> first | rfl | (simp only [n54_c51, n54_c52, n54_c53, n54_c55]) | (rename_i h; exact absurd (congrArg (fun x : XL => x.1) h) kk)
    have he : (sN54 S).1 l = S.1 l := by show (if l = _ then _ else _) = _; rw [if_neg e]
    by_cases x : xdm S.2.2.2 l
    · rw [hp_of x, hp_of (hd.mpr x), he]
      exact xsh_cnt _ _ _ _ _ _ _ _
    · rw [hp_no x, hp_no (fun z => x (hd.mp z))]
theorem free54 (S : XS) : hp S (54, S.2.2.2.1 54, 0) = none := hp_no (fun z => by have := z.2.1; omega)
theorem wi_n54 {S : XS} (hw : WI S) : WI (sN54 S) := by
  refine ⟨fun l k => ?_, fun l hd k => ?_⟩
  · show zR ((if l = _ then (fun _ => 0) else S.1 l) k)
    split
    · exact zR_0
    · exact hw.1 l k
  · show wc l.1 k ((if l = _ then (fun _ => 0) else S.1 l) k)
    by_cases e : l = (54, S.2.2.2.1 54, 0)
    · rw [if_pos e, e]
      exact (show (0 : Int) ≤ 0 ∧ (0 : Int) ≤ 7 from ⟨by decide, by decide⟩)
    · rw [if_neg e]
      refine hw.2 l ?_ k
      obtain ⟨j, b, t⟩ := l
      by_cases kk : j = 54
      · subst kk
        have d : 0 ≤ b ∧ b < (sN54 S).2.2.2.1 54 ∧ t = 0 := hd
        rw [n54_c] at d
        obtain ⟨a, c, d⟩ := d
        refine ⟨a, ?_, d⟩
        rcases Int.lt_or_eq_of_le (show b ≤ S.2.2.2.1 54 by omega) with y | y
        · exact y
        · subst y; subst d; exact absurd rfl e
      · revert hd
        unfold xdm
        split <;> first | exact id | (simp only [n54_c51, n54_c52, n54_c53, n54_c55]; exact id) | (rename_i h; exact absurd (congrArg (fun x : XL => x.1) h) kk)
def sN55 (S : XS) : XS := (fun l => if l = (55, S.2.2.2.1 55, 0) then (fun _ => 0) else S.1 l, S.2.1, S.2.2.1, xUpd S.2.2.2.1 55 (S.2.2.2.1 55 + 1), S.2.2.2.2)
theorem n55_c (S : XS) : (sN55 S).2.2.2.1 55 = S.2.2.2.1 55 + 1 := by simp [sN55, xUpd]
theorem n55_c51 (S : XS) : (sN55 S).2.2.2.1 51 = S.2.2.2.1 51 := by simp [sN55, xUpd]
theorem n55_c52 (S : XS) : (sN55 S).2.2.2.1 52 = S.2.2.2.1 52 := by simp [sN55, xUpd]
theorem n55_c53 (S : XS) : (sN55 S).2.2.2.1 53 = S.2.2.2.1 53 := by simp [sN55, xUpd]
theorem n55_c54 (S : XS) : (sN55 S).2.2.2.1 54 = S.2.2.2.1 54 := by simp [sN55, xUpd]
theorem hp_n55 {S : XS} (h0 : 0 ≤ S.2.2.2.1 55) : hp (sN55 S) = xUp (hp S) (55, S.2.2.2.1 55, 0) (.inr (0, 6, .inl (fun _ => 0))) := by
  funext l
  by_cases e : l = (55, S.2.2.2.1 55, 0)
  · subst e
    rw [hp_of (by show 0 ≤ S.2.2.2.1 55 ∧ S.2.2.2.1 55 < (sN55 S).2.2.2.1 55 ∧ (0 : Int) = 0; rw [n55_c]; omega)]
    simp [xUp, sN55, xsh]
  · show _ = if l = _ then _ else _
    rw [if_neg e]
    have hd : xdm (sN55 S).2.2.2 l ↔ xdm S.2.2.2 l := by
      obtain ⟨k, b, t⟩ := l
      by_cases kk : k = 55
      · subst kk
        show (0 ≤ b ∧ b < (sN55 S).2.2.2.1 55 ∧ t = 0) ↔ (0 ≤ b ∧ b < S.2.2.2.1 55 ∧ t = 0)
        rw [n55_c]
        constructor
        · rintro ⟨a, c, d⟩
          refine ⟨a, ?_, d⟩
          rcases Int.lt_or_eq_of_le (show b ≤ S.2.2.2.1 55 by omega) with y | y
          · exact y
          · subst y; subst d; exact absurd rfl e
        · rintro ⟨a, c, d⟩; exact ⟨a, by omega, d⟩
      · unfold xdm
        split <;> first | rfl | (simp only [n55_c51, n55_c52, n55_c53, n55_c54]) | (rename_i h; exact absurd (congrArg (fun x : XL => x.1) h) kk)
    have he : (sN55 S).1 l = S.1 l := by show (if l = _ then _ else _) = _; rw [if_neg e]
    by_cases x : xdm S.2.2.2 l
    · rw [hp_of x, hp_of (hd.mpr x), he]
      exact xsh_cnt _ _ _ _ _ _ _ _
    · rw [hp_no x, hp_no (fun z => x (hd.mp z))]
theorem free55 (S : XS) : hp S (55, S.2.2.2.1 55, 0) = none := hp_no (fun z => by have := z.2.1; omega)
theorem wi_n55 {S : XS} (hw : WI S) : WI (sN55 S) := by
  refine ⟨fun l k => ?_, fun l hd k => ?_⟩
  · show zR ((if l = _ then (fun _ => 0) else S.1 l) k)
    split
    · exact zR_0
    · exact hw.1 l k
  · show wc l.1 k ((if l = _ then (fun _ => 0) else S.1 l) k)
    by_cases e : l = (55, S.2.2.2.1 55, 0)
    · rw [if_pos e, e]
      trivial
    · rw [if_neg e]
      refine hw.2 l ?_ k
      obtain ⟨j, b, t⟩ := l
      by_cases kk : j = 55
      · subst kk
        have d : 0 ≤ b ∧ b < (sN55 S).2.2.2.1 55 ∧ t = 0 := hd
        rw [n55_c] at d
        obtain ⟨a, c, d⟩ := d
        refine ⟨a, ?_, d⟩
        rcases Int.lt_or_eq_of_le (show b ≤ S.2.2.2.1 55 by omega) with y | y
        · exact y
        · subst y; subst d; exact absurd rfl e
      · revert hd
        unfold xdm
        split <;> first | exact id | (simp only [n55_c51, n55_c52, n55_c53, n55_c54]; exact id) | (rename_i h; exact absurd (congrArg (fun x : XL => x.1) h) kk)
/-- the law's own rows alone are new or changed; those that stood stand -/
def NQ (S T : XS) : Prop := (∀ l : XL, (l.1 < 51 ∨ 55 < l.1 ∨ l.2.1 < S.2.2.2.1 l.1) → T.1 l = S.1 l) ∧ T.2.1 = S.2.1 ∧ T.2.2.1 = S.2.2.1 ∧ (∀ k : Int, S.2.2.2.1 k ≤ T.2.2.2.1 k) ∧ T.2.2.2.2 = S.2.2.2.2
theorem NQ.rf (S : XS) : NQ S S := ⟨fun _ _ => rfl, rfl, rfl, fun _ => Int.le_refl _, rfl⟩
theorem NQ.tr {S T U : XS} (h : NQ S T) (k : NQ T U) : NQ S U := ⟨fun l a => (k.1 l (by have := h.2.2.2.1 l.1; omega)).trans (h.1 l a), k.2.1.trans h.2.1, k.2.2.1.trans h.2.2.1, fun j => Int.le_trans (h.2.2.2.1 j) (k.2.2.2.1 j), k.2.2.2.2.trans h.2.2.2.2⟩
theorem NQ.put {S T : XS} (h : NQ S T) {k : Nat} {b : Int} (k1 : 51 ≤ k ∧ k ≤ 55) (hb : S.2.2.2.1 k ≤ b) (i v : Int) : NQ S (putI T (k, b, 0) i v) := ⟨fun l a => by
  rw [putI_o (fun z => by rw [z] at a; dsimp only at a; omega)]; exact h.1 l a, h.2.1, h.2.2.1, h.2.2.2.1, h.2.2.2.2⟩
theorem NQ.n51 (S : XS) : NQ S (sN51 S) := ⟨fun l a => by
  show (if l = _ then _ else _) = _
  rw [if_neg (fun z => by rw [z] at a; rcases a with a | a | a; exact absurd (show (51 : Nat) < 51 from a) (by decide); exact absurd (show 55 < (51 : Nat) from a) (by decide); exact absurd (show S.2.2.2.1 51 < S.2.2.2.1 51 from a) (Int.lt_irrefl _))], rfl, rfl, fun j => by show _ ≤ xUpd _ _ _ _; simp only [xUpd]; split; (rename_i e; rw [e]; omega); exact Int.le_refl _, rfl⟩
theorem NQ.n52 (S : XS) : NQ S (sN52 S) := ⟨fun l a => by
  show (if l = _ then _ else _) = _
  rw [if_neg (fun z => by rw [z] at a; rcases a with a | a | a; exact absurd (show (52 : Nat) < 51 from a) (by decide); exact absurd (show 55 < (52 : Nat) from a) (by decide); exact absurd (show S.2.2.2.1 52 < S.2.2.2.1 52 from a) (Int.lt_irrefl _))], rfl, rfl, fun j => by show _ ≤ xUpd _ _ _ _; simp only [xUpd]; split; (rename_i e; rw [e]; omega); exact Int.le_refl _, rfl⟩
theorem NQ.n53 (S : XS) : NQ S (sN53 S) := ⟨fun l a => by
  show (if l = _ then _ else _) = _
  rw [if_neg (fun z => by rw [z] at a; rcases a with a | a | a; exact absurd (show (53 : Nat) < 51 from a) (by decide); exact absurd (show 55 < (53 : Nat) from a) (by decide); exact absurd (show S.2.2.2.1 53 < S.2.2.2.1 53 from a) (Int.lt_irrefl _))], rfl, rfl, fun j => by show _ ≤ xUpd _ _ _ _; simp only [xUpd]; split; (rename_i e; rw [e]; omega); exact Int.le_refl _, rfl⟩
theorem NQ.n54 (S : XS) : NQ S (sN54 S) := ⟨fun l a => by
  show (if l = _ then _ else _) = _
  rw [if_neg (fun z => by rw [z] at a; rcases a with a | a | a; exact absurd (show (54 : Nat) < 51 from a) (by decide); exact absurd (show 55 < (54 : Nat) from a) (by decide); exact absurd (show S.2.2.2.1 54 < S.2.2.2.1 54 from a) (Int.lt_irrefl _))], rfl, rfl, fun j => by show _ ≤ xUpd _ _ _ _; simp only [xUpd]; split; (rename_i e; rw [e]; omega); exact Int.le_refl _, rfl⟩
theorem NQ.n55 (S : XS) : NQ S (sN55 S) := ⟨fun l a => by
  show (if l = _ then _ else _) = _
  rw [if_neg (fun z => by rw [z] at a; rcases a with a | a | a; exact absurd (show (55 : Nat) < 51 from a) (by decide); exact absurd (show 55 < (55 : Nat) from a) (by decide); exact absurd (show S.2.2.2.1 55 < S.2.2.2.1 55 from a) (Int.lt_irrefl _))], rfl, rfl, fun j => by show _ ≤ xUpd _ _ _ _; simp only [xUpd]; split; (rename_i e; rw [e]; omega); exact Int.le_refl _, rfl⟩
/-- the same, and the row b of ranks -/
def NB (b : Int) (S T : XS) : Prop := (∀ l : XL, l ≠ (53, b, 0) → (l.1 < 51 ∨ 55 < l.1 ∨ l.2.1 < S.2.2.2.1 l.1) → T.1 l = S.1 l) ∧ T.2.1 = S.2.1 ∧ T.2.2.1 = S.2.2.1 ∧ (∀ k : Int, S.2.2.2.1 k ≤ T.2.2.2.1 k) ∧ T.2.2.2.2 = S.2.2.2.2
theorem NQ.nb {S T : XS} (h : NQ S T) (b : Int) : NB b S T := ⟨fun l _ a => h.1 l a, h.2⟩
theorem NB.tr {b : Int} {S T U : XS} (h : NB b S T) (k : NB b T U) : NB b S U := ⟨fun l e a => (k.1 l e (by have := h.2.2.2.1 l.1; omega)).trans (h.1 l e a), k.2.1.trans h.2.1, k.2.2.1.trans h.2.2.1, fun j => Int.le_trans (h.2.2.2.1 j) (k.2.2.2.1 j), k.2.2.2.2.trans h.2.2.2.2⟩
theorem NB.row {b : Int} {S T : XS} (h : NB b S T) (i v : Int) : NB b S (putI T (53, b, 0) i v) := ⟨fun l e a => (putI_o e).trans (h.1 l e a), h.2⟩
theorem NB.put {b : Int} {S T : XS} (h : NB b S T) {k : Nat} {c : Int} (k1 : 51 ≤ k ∧ k ≤ 55) (hb : S.2.2.2.1 k ≤ c) (i v : Int) : NB b S (putI T (k, c, 0) i v) := ⟨fun l e a => by
  rw [putI_o (fun z => by rw [z] at a; dsimp only at a; omega)]; exact h.1 l e a, h.2⟩
theorem NQ.b {S T U : XS} {b : Int} (h : NQ S T) (hb : S.2.2.2.1 53 ≤ b) (k : NB b T U) : NQ S U := ⟨fun l a => (k.1 l (fun z => by rw [z] at a; rcases a with a | a | a; exact absurd (show (53 : Nat) < 51 from a) (by decide); exact absurd (show 55 < (53 : Nat) from a) (by decide); exact absurd (show b < S.2.2.2.1 53 from a) (by omega)) (by have := h.2.2.2.1 l.1; omega)).trans (h.1 l a), k.2.1.trans h.2.1, k.2.2.1.trans h.2.2.1, fun j => Int.le_trans (h.2.2.2.1 j) (k.2.2.2.1 j), k.2.2.2.2.trans h.2.2.2.2⟩
/-- alike but for what the class keeps and the law's new rows -/
def KQ (S T : XS) : Prop := (∀ l : XL, kI l.1 = false → (l.1 < 51 ∨ 55 < l.1 ∨ l.2.1 < S.2.2.2.1 l.1) → T.1 l = S.1 l) ∧ (∀ l : XL, kJ l.1 = false → T.2.1 l = S.2.1 l) ∧ T.2.2.1 = S.2.2.1 ∧ (∀ k : Int, S.2.2.2.1 k ≤ T.2.2.2.1 k) ∧ T.2.2.2.2 = S.2.2.2.2
theorem KQ.rf (S : XS) : KQ S S := ⟨fun _ _ _ => rfl, fun _ _ => rfl, rfl, fun _ => Int.le_refl _, rfl⟩
theorem KQ.tr {S T U : XS} (h : KQ S T) (k : KQ T U) : KQ S U := ⟨fun l e a => (k.1 l e (by have := h.2.2.2.1 l.1; omega)).trans (h.1 l e a), fun l e => (k.2.1 l e).trans (h.2.1 l e), k.2.2.1.trans h.2.2.1, fun j => Int.le_trans (h.2.2.2.1 j) (k.2.2.2.1 j), k.2.2.2.2.trans h.2.2.2.2⟩
theorem NQ.kq {S T : XS} (h : NQ S T) : KQ S T := ⟨fun l _ a => h.1 l a, fun l _ => by rw [h.2.1], h.2.2⟩
theorem QEq.kq {S T : XS} (h : QEq S T) : KQ S T := ⟨fun l e _ => h.1 l e, h.2.1, by rw [h.2.2], fun k => by rw [h.2.2]; exact Int.le_refl _, by rw [h.2.2]⟩
theorem KQ.k {S T : XS} (h : KQ S T) {k : Nat} (e : kI k = false) (hk : k < 51 ∨ 55 < k) (x y : Int) : T.1 (k, x, y) = S.1 (k, x, y) := h.1 (k, x, y) e (by dsimp only; omega)
theorem KQ.rule {S T : XS} (h : KQ S T) : RuleEq S.1 T.1 := ⟨fun r => (h.k (k := 34) rfl (by decide) r 0).symm, fun r i => (h.k (k := 36) rfl (by decide) r i).symm, fun r => (h.k (k := 37) rfl (by decide) r 0).symm, (h.k (k := 4) rfl (by decide) 0 0).symm⟩
theorem KQ.tel {S T : XS} (h : KQ S T) (b k : Int) : T.1 (13, b, k) = S.1 (13, b, k) := h.k (k := 13) rfl (by decide) b k
theorem KQ.hl {S T : XS} (h : KQ S T) (b : Int) (n : Nat) (t : Int) : hl T.1 b n t = hl S.1 b n t := (hl_congr h.rule (fun k => (h.tel b k).symm) n t).symm
theorem KQ.onN {S T : XS} (h : KQ S T) (b : Int) (n : Nat) : onN T.1 b n = onN S.1 b n := onN_congr (fun k => h.tel b k) n
theorem KQ.toldN {S T : XS} (h : KQ S T) (b t : Int) (n : Nat) : toldN T.1 b t n = toldN S.1 b t n := toldN_congr (fun k => h.tel b k) t n
theorem KQ.hBq {S T : XS} (h : KQ S T) (b : Int) (n : Nat) (t q : Int) : hB T.1 b n t q = hB S.1 b n t q := by unfold hB; rw [h.hl]
theorem KQ.lyg {S T : XS} (h : KQ S T) {on : Int} {g : Int → Int} (k : LyG T.1 on g) : LyG S.1 on g := ⟨k.1, Lay_eq h.rule.symm k.2.1, fun g' g0 hl => k.2.2 g' g0 (Lay_eq h.rule hl)⟩
theorem KQ.rsn {S T : XS} (h : KQ S T) {b : Int} {n : Nat} {t : Int} {rk ru wy : Int → Int} (k : Rsn T.1 b n t rk ru wy) : Rsn S.1 b n t rk ru wy := by
  have e := RFin_eq h.rule.symm k
  rw [h.onN, h.toldN, h.hl] at e
  exact e
theorem NT.k {C S T : XS} (h : NT C S) (q : KQ S T) : NT C T := by
  unfold NT
  rw [q.k (k := 50) rfl (by decide)]
  exact h
theorem NR.k {C S T : XS} (h : NR C S) (q : KQ S T) : NR C T := by
  unfold NR
  rw [q.k (k := 50) rfl (by decide)]
  exact h
theorem Cnt.k {S T : XS} (h : Cnt S) (q : KQ S T) : Cnt T := ⟨Int.le_trans h.1 (q.2.2.2.1 51), Int.le_trans h.2.1 (q.2.2.2.1 52), Int.le_trans h.2.2.1 (q.2.2.2.1 53), Int.le_trans h.2.2.2.1 (q.2.2.2.1 54), Int.le_trans h.2.2.2.2 (q.2.2.2.1 55)⟩
