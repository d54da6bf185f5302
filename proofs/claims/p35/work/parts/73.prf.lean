theorem BeV.uniq {C : XS} {b : Int} {n : Nat} {t : Int} {rk : Int → Int} {q r w r' w' : Int} (h1 : BeV C b n t rk q r w) (h2 : BeV C b n t rk q r' w') (r0 : 0 ≤ r) (r1 : 0 ≤ r') : r = r' ∧ w = w' := by
  rcases h1 with ⟨-, a⟩ | ⟨-, -, a, a2⟩
  · omega
  · rcases h2 with ⟨-, c⟩ | ⟨-, -, c, c2⟩
    · omega
    · have x : ¬ (r' < r ∨ (r' = r ∧ w' < w)) := fun z => a2 r' w' z c
      have y : ¬ (r < r' ∨ (r = r' ∧ w < w')) := fun z => c2 r w z a
      omega
