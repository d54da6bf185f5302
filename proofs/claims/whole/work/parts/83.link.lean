/-! what the class answers and what the reference answers: layers, ranks, reasons -/
theorem LyG.uniq {f : XL → Int → Int} {on : Int} {g g' : Int → Int} (h : LyG f on g) (h' : LyG f on g') {x : Int} (x0 : 0 ≤ x) (x1 : x ≤ 5) : g x = g' x := by
  have a := h.2.2 g' (fun y y0 y1 => (h'.1 y y0 y1).1) h'.2.1 x x0 x1
  have b := h'.2.2 g (fun y y0 y1 => (h.1 y y0 y1).1) h.2.1 x x0 x1
  omega
theorem lk_rank {C : XS} {b : Int} {n : Nat} {t : Int} {rk rk' ru wy : Int → Int} (h : FinR C b n t rk) (r : Rsn C.1 b n t rk' ru wy) {x p : Nat} (hx : x < 6) (hp : p < 64) : (rk (64 * x + p) = 9999 ∧ rk' (64 * x + p) = -1) ∨ (rk (64 * x + p) < 9999 ∧ rk (64 * x + p) = rk' (64 * x + p) ∧ ∃ k, RSet C.1 (onN C.1 b n) (toldN C.1 b t n) (hl C.1 b n t) k x p (rk' (64 * x + p)) (ru (64 * x + p)) (wy (64 * x + p))) := by
  rcases h x p hx hp with ⟨m, m1, m2, m3, m4⟩ | ⟨m1, m2⟩
  · rcases r x p hx hp with ⟨k, s⟩ | ⟨k1, k2⟩
    · right
      have s2 := s
      obtain ⟨m', e1, -, e3, e4, -⟩ := s2
      have : m = m' := by
        rcases Nat.lt_trichotomy m m' with z | z | z
        · exact absurd m3 (e4 m z)
        · exact z
        · exact absurd e3 (m4 m' z)
      exact ⟨by omega, by omega, k, s⟩
    · exact absurd m3 (k2 m)
  · rcases r x p hx hp with ⟨k, s⟩ | ⟨k1, k2⟩
    · obtain ⟨m', e1, -, e3, e4, -⟩ := s
      exact absurd e3 (m2 m')
    · exact Or.inl ⟨m1, k1⟩
theorem lk_bev {C : XS} {b : Int} {n : Nat} {t : Int} {rk rk' ru wy : Int → Int} (h : FinR C b n t rk) (r : Rsn C.1 b n t rk' ru wy) {q : Int} (q0 : 0 ≤ q) (q1 : q < 384) {z w : Int} (hv : BeV C b n t rk q z w) (hq : 0 < rk q) (h9 : rk q < 9999) : z = ru q ∧ w = wy q := by
  have e := lk_rank h r (x := (q / 64).toNat) (p := (q % 64).toNat) (by omega) (by omega)
  rw [show 64 * (((q / 64).toNat : Nat) : Int) + (((q % 64).toNat : Nat) : Int) = q by omega] at e
  rcases e with ⟨e1, -⟩ | ⟨-, e2, k, m, m1, m2, m3, m4, m5⟩
  · omega
  · rcases hv with ⟨v, -⟩ | ⟨-, -, v2, v3⟩
    · omega
    · obtain ⟨s1, s2⟩ := m5 (by omega)
      rw [show m - 1 = (rk q).toNat - 1 by omega] at s1 s2
      have x : ¬ (ru q < z ∨ (ru q = z ∧ wy q < w)) := fun y => v3 _ _ y s1
      have y : ¬ (z < ru q ∨ (z = ru q ∧ w < wy q)) := fun y => s2 _ _ y v2
      omega
theorem lk_prem {C : XS} {b : Int} {n : Nat} {t : Int} {rk rk' ru wy : Int → Int} (h : FinR C b n t rk) (r : Rsn C.1 b n t rk' ru wy) {q : Int} (q0 : 0 ≤ q) (q1 : q < 384) (h9 : rk q < 9999) {z w : Int} (hv : BeV C b n t rk q z w) (k : Int) : premV C.1 rk' ru wy q k = pvN C.1 z w k := by
  have e := lk_rank h r (x := (q / 64).toNat) (p := (q % 64).toNat) (by omega) (by omega)
  rw [show 64 * (((q / 64).toNat : Nat) : Int) + (((q % 64).toNat : Nat) : Int) = q by omega] at e
  have e2 : rk q = rk' q := by
    rcases e with ⟨e1, -⟩ | ⟨-, e2, -⟩
    · omega
    · exact e2
  unfold premV pvN
  by_cases p : 0 < rk q
  · obtain ⟨rfl, rfl⟩ := lk_bev h r q0 q1 hv p h9
    rcases hv with ⟨v, -⟩ | ⟨-, v2, -⟩
    · omega
    · rw [if_pos (by omega), if_pos v2]
  · rcases hv with ⟨-, v⟩ | ⟨v, -⟩
    · rw [if_neg (by omega), if_neg (by omega)]
    · omega
theorem lk_pm {C : XS} (hC : CB C) {b : Int} (b0 : 0 ≤ b) (b1 : b < C.1 (0, 0, 0) 6) {n : Nat} (hn : (n : Int) ≤ C.1 (9, b, 0) 3) {t : Int} {rk rk' ru wy : Int → Int} (h : FinR C b n t rk) (hrk : ∀ k, 0 ≤ rk k ∧ rk k ≤ 9999) (r : Rsn C.1 b n t rk' ru wy) {a : Int} (a0 : 0 ≤ a) (a1 : a < 384) (h9 : rk a < 9999) (y : Int) : Pm C b n t rk a y ↔ ∃ k : Int, 0 ≤ k ∧ k < 3 ∧ premV C.1 rk' ru wy a k ≠ -1 ∧ y = premV C.1 rk' ru wy a k := by
  have c4 := wf4_2 hC.1
  constructor
  · intro hp
    have l := hp.lt hC b0 b1 hn h hrk
    obtain ⟨z, w, z0, v, c, c1, c2, rfl⟩ := hp
    have zr : z < C.1 (4, 0, 0) 2 := by
      rcases v with ⟨-, v⟩ | ⟨-, -, v, -⟩
      · omega
      · exact v.2.1
    have s34 := wf34_2 hC.1 (b := z) (by omega) (by omega)
    have e : premV C.1 rk' ru wy a (strN C.1 z c) = cfact C.1 z w c := by
      rw [lk_prem h r a0 a1 h9 v]
      unfold pvN
      rw [if_pos z0, premN_at C.1 z w _ c _ (by omega) ⟨c2, rfl⟩]
      rfl
    have sl := strN_le C.1 z c
    exact ⟨strN C.1 z c, by omega, by omega, by rw [e]; omega, e.symm⟩
  · rintro ⟨k, k0, k1, k2, rfl⟩
    have e := lk_rank h r (x := (a / 64).toNat) (p := (a % 64).toNat) (by omega) (by omega)
    rw [show 64 * (((a / 64).toNat : Nat) : Int) + (((a % 64).toNat : Nat) : Int) = a by omega] at e
    rcases e with ⟨e1, -⟩ | ⟨-, e2, j, m, m1, m2, m3, m4, m5⟩
    · omega
    · by_cases p : 0 < rk' a
      · obtain ⟨s1, s2⟩ := m5 (by omega)
        rw [show m - 1 = (rk a).toNat - 1 by omega] at s1 s2
        have v : BeV C b n t rk a (ru a) (wy a) := Or.inr ⟨by omega, s1.1, s1, s2⟩
        have ev := lk_prem h r a0 a1 h9 v k
        rw [ev] at k2 ⊢
        unfold pvN at k2 ⊢
        rw [if_pos s1.1] at k2 ⊢
        rcases premN_cases C.1 (ru a) (wy a) k (C.1 (34, ru a, 0) 2).toNat with q | ⟨i, i1, i2, i3, i4⟩
        · exact absurd q k2
        · exact ⟨ru a, wy a, s1.1, v, i, by omega, i2, i4⟩
      · exact absurd (by unfold premV; rw [if_neg p]) k2
theorem lk_proof {C : XS} (hC : CB C) {b : Int} (b0 : 0 ≤ b) (b1 : b < C.1 (0, 0, 0) 6) {n : Nat} (hn : (n : Int) ≤ C.1 (9, b, 0) 3) {t : Int} {rk rk' ru wy : Int → Int} (h : FinR C b n t rk) (hrk : ∀ k, 0 ≤ rk k ∧ rk k ≤ 9999) (r : Rsn C.1 b n t rk' ru wy) {q : Int} (q0 : 0 ≤ q) (q1 : q < 384) (h9 : rk q < 9999) : cntN (fun x : Nat => PrB C b n t rk q x) 384 = prC C.1 rk' ru wy q := by
  have key : ∀ x : Int, PrB C b n t rk q x ↔ PrS C.1 rk' ru wy q x := fun x => by
    constructor
    · intro z
      exact (z (fun x => (0 ≤ x ∧ x < 384 ∧ rk x < 9999) ∧ PrS C.1 rk' ru wy q x) ⟨⟨q0, q1, h9⟩, PrS.rf _ _ _ _ _⟩ (fun a y ha hp => by
        have l := hp.lt hC b0 b1 hn h hrk
        obtain ⟨k, k0, k1, k2, rfl⟩ := (lk_pm hC b0 b1 hn h hrk r ha.1.1 ha.1.2.1 ha.1.2.2 y).mp hp
        exact ⟨⟨l.1, l.2.1, by have := ha.1.2.2; omega⟩, ha.2.st k0 k1 k2⟩)).2
    · intro z
      exact (z (fun x => (0 ≤ x ∧ x < 384 ∧ rk x < 9999) ∧ PrB C b n t rk q x) ⟨⟨q0, q1, h9⟩, fun P p _ => p⟩ (fun a k k0 k1 ha hk => by
        have pm := (lk_pm hC b0 b1 hn h hrk r ha.1.1 ha.1.2.1 ha.1.2.2 _).mpr ⟨k, k0, k1, hk, rfl⟩
        have l := pm.lt hC b0 b1 hn h hrk
        exact ⟨⟨l.1, l.2.1, by have := ha.1.2.2; omega⟩, fun P p s => s a _ (ha.2 P p s) pm⟩)).2
  unfold prC
  have a := cntN_mono (P := fun x : Nat => PrB C b n t rk q x) (Q := fun x : Nat => PrS C.1 rk' ru wy q x) 384 (fun k _ z => (key k).mp z)
  have c := cntN_mono (P := fun x : Nat => PrS C.1 rk' ru wy q x) (Q := fun x : Nat => PrB C b n t rk q x) 384 (fun k _ z => (key k).mpr z)
  omega
