/-- the ranks of all facts that hold, together -/
def msN (rk : Int → Int) : Nat → Int
  | 0 => 0
  | k + 1 => if rk k < 999 then msN rk k + rk k else msN rk k
theorem msN_t {rk : Int → Int} {k : Nat} (h : rk k < 999) : msN rk (k + 1) = msN rk k + rk k := if_pos h
theorem msN_f {rk : Int → Int} {k : Nat} (h : ¬ rk k < 999) : msN rk (k + 1) = msN rk k := if_neg h
