theorem xu_o {h : XH} {l l' : XL} {c : XC} (e : l' ≠ l) : xUp h l c l' = h l' := if_neg e
theorem xu_at {h : XH} {l : XL} {c : XC} : xUp h l c l = some c := if_pos rfl
theorem xu_xu (h : XH) (l : XL) (c c' : XC) : xUp (xUp h l c) l c' = xUp h l c' := by
  funext l'
  show (if l' = l then _ else if l' = l then _ else _) = if l' = l then _ else _
  split <;> rfl
