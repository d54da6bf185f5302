/-- a listener that would hear something else has room for it -/
def EndOk (C : XS) (b : Int) : Prop := ∀ l : Int, 0 ≤ l → l < C.1 (0, 0, 0) 7 → C.1 (14, l, 0) 2 = b → lv C b l ≠ C.2.1 (14, l, 0) 6 → C.1 (14, l, 0) 8 < 120
