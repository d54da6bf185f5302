/-! what the class answers and what the reference answers: layers, ranks, reasons -/
theorem LyG.uniq {f : XL → Int → Int} {on : Int} {g g' : Int → Int} (h : LyG f on g) (h' : LyG f on g') {x : Int} (x0 : 0 ≤ x) (x1 : x ≤ 5) : g x = g' x := by
  have a := h.2.2 g' (fun y y0 y1 => (h'.1 y y0 y1).1) h'.2.1 x x0 x1
  have b := h'.2.2 g (fun y y0 y1 => (h.1 y y0 y1).1) h.2.1 x x0 x1
  omega
theorem lk_rank {C : XS} {b : Int} {n : Nat} {t : Int} {rk rk' ru wy : Int → Int} (h : FinR C b n t rk) (r : Rsn C.1 b n t rk' ru wy) {x p : Nat} (hx : x < 6) (hp : p < 64) : (rk (64 * x + p) = 999 ∧ rk' (64 * x + p) = -1) ∨ (rk (64 * x + p) < 999 ∧ rk (64 * x + p) = rk' (64 * x + p) ∧ ∃ k, RSet C.1 (onN C.1 b n) (toldN C.1 b t n) (hl C.1 b n t) k x p (rk' (64 * x + p)) (ru (64 * x + p)) (wy (64 * x + p))) := by
  rcases h x p hx hp with ⟨m, m1, m2, m3, m4⟩ | ⟨m1, m2⟩
  · rcases r x p hx hp with ⟨k, s⟩ | ⟨k1, k2⟩
    · right
      have s2 := s
      obtain ⟨m', e1, -, e3, e4, -⟩ := s2
      have : m = m' := by
        rcases Nat.lt_trichotomy m m' with z | z | z
        · exact absurd m3 (e4 m z)
        · exact z
        · exact absurd e3 (m4 m' z)
      exact ⟨by omega, by omega, k, s⟩
    · exact absurd m3 (k2 m)
  · rcases r x p hx hp with ⟨k, s⟩ | ⟨k1, k2⟩
    · obtain ⟨m', e1, -, e3, e4, -⟩ := s
      exact absurd e3 (m2 m')
    · exact Or.inl ⟨m1, k1⟩
