/-! the reference: the first reason -/
theorem FinR.ok {C : XS} (hC : CB C) {b : Int} (b0 : 0 ≤ b) (b1 : b < C.1 (0, 0, 0) 6) {n : Nat} (hn : (n : Int) ≤ C.1 (9, b, 0) 3) {t : Int} {rk : Int → Int} (h : FinR C b n t rk) {x : Int} (x0 : 0 ≤ x) (x1 : x ≤ 5) {p : Nat} (hp : p < 64) : (∀ m : Nat, m < 999 → (rk (64 * x + p) ≤ m ↔ bitJ (levF C.1 (onN C.1 b n) (hl C.1 b n t) (toldN C.1 b t n) m x) p)) ∧ (rk (64 * x + p) = 999 ↔ ¬ bitJ (hl C.1 b n t x) p) ∧ 0 ≤ rk (64 * x + p) ∧ rk (64 * x + p) ≤ 999 := by
  have e := h x.toNat p (by omega) hp
  have s := hl_stab hC b0 b1 n hn t x x0 x1 p hp
  rw [show ((x.toNat : Nat) : Int) = x by omega] at e
  rcases e with ⟨m, m1, m2, m3, m4⟩ | ⟨m1, m2⟩
  · refine ⟨fun k _ => ⟨fun z => levF_le C.1 _ _ _ m k (by omega) x p hp m3, fun z => ?_⟩, ⟨fun z => by omega, fun z => absurd (s.mpr ⟨m, m3⟩) z⟩, by omega, by omega⟩
    apply Classical.byContradiction
    intro y
    exact m4 k (by omega) z
  · exact ⟨fun k hk => ⟨fun z => by omega, fun z => absurd z (m2 k)⟩, ⟨fun _ z => by obtain ⟨k, hk⟩ := s.mp z; exact m2 k hk, fun _ => m1⟩, by omega, by omega⟩
theorem FinR.rng {C : XS} (hC : CB C) {b : Int} (b0 : 0 ≤ b) (b1 : b < C.1 (0, 0, 0) 6) {n : Nat} (hn : (n : Int) ≤ C.1 (9, b, 0) 3) {t : Int} {rk : Int → Int} (h : FinR C b n t rk) (k : Nat) (hk : k < 999) {r : Nat} (hr : (r : Int) < C.1 (4, 0, 0) 2) {w : Int} (w0 : 0 ≤ w) (w1 : w ≤ 511) (hi : zAnd w (C.1 (34, r, 0) 4) = 0) (hrk : ∀ k, 0 ≤ rk k ∧ rk k ≤ 999) : gvN C.1 rk r w (C.1 (34, r, 0) 2).toNat ≤ k ↔ Fits C.1 (levF C.1 (onN C.1 b n) (hl C.1 b n t) (toldN C.1 b t n) k) (hl C.1 b n t) r w := by
  have c4 := wf4_2 hC.1
  have s34 := wf34_2 hC.1 (b := (r : Int)) (by omega) (by omega)
  have key : ∀ c : Nat, (c : Int) < C.1 (34, r, 0) 2 → ∃ p : Nat, p < 64 ∧ pairF C.1 (36, r, c) w = p ∧ cfact C.1 r w c = 64 * C.1 (36, r, c) 0 + p ∧ 0 ≤ C.1 (36, r, c) 0 ∧ C.1 (36, r, c) 0 ≤ 5 := fun c hc => by
    have rel := dl_rel hC.1 hr hc
    obtain ⟨p, p1, p2, p3⟩ := fact_at ((hC.2.1 r hr).1.2.2 c hc) w0 w1 rel.1 rel.2
    exact ⟨p, p1, p2, by unfold cfact; rw [p2], rel⟩
  constructor
  · intro g
    have gi := gvN_in (f := C.1) hrk r w (C.1 (34, r, 0) 2).toNat
    have ok := gvN_ok (f := C.1) hrk r w (C.1 (34, r, 0) 2).toNat (by omega)
    refine ⟨hi, fun c hc => ?_⟩
    obtain ⟨p, p1, p2, p3, x0, x1⟩ := key c hc
    obtain ⟨o1, o2⟩ := ok c (by omega)
    have e := h.ok hC b0 b1 hn x0 x1 p1
    rw [p3] at o1 o2
    unfold condOk
    rw [p2]
    by_cases q : C.1 (36, r, c) 1 = 0
    · rw [if_pos q]
      exact ⟨fun _ => q, fun _ => (e.1 k hk).mp (by have := o1 q; omega)⟩
    · rw [if_neg q]
      exact ⟨fun z => absurd z (e.2.1.mp (o2 q)), fun z => absurd z q⟩
  · intro f
    refine gvN_le (by omega) _ fun c hc => ?_
    have hcc : (c : Int) < C.1 (34, r, 0) 2 := by omega
    obtain ⟨p, p1, p2, p3, x0, x1⟩ := key c hcc
    have e := h.ok hC b0 b1 hn x0 x1 p1
    have cw := f.2 c hcc
    unfold condOk at cw
    rw [p2] at cw
    rw [p3]
    constructor
    · intro z
      rw [if_pos z] at cw
      exact (e.1 k hk).mpr (cw.mpr z)
    · intro z zl
      rw [if_neg z] at cw
      have := e.2.1.mpr (fun y => z (cw.mp y))
      omega
/-- what because answers -/
def BeV (C : XS) (b : Int) (n : Nat) (t : Int) (rk : Int → Int) (q z w : Int) : Prop := (rk q = 0 ∧ z = -1) ∨ (0 < rk q ∧ 0 ≤ z ∧ Hit C.1 (onN C.1 b n) (levF C.1 (onN C.1 b n) (hl C.1 b n t) (toldN C.1 b t n) ((rk q).toNat - 1)) (hl C.1 b n t) z w (q / 64).toNat (q % 64).toNat ∧ ∀ r' w', Bef r' w' z w → ¬ Hit C.1 (onN C.1 b n) (levF C.1 (onN C.1 b n) (hl C.1 b n t) (toldN C.1 b t n) ((rk q).toNat - 1)) (hl C.1 b n t) r' w' (q / 64).toNat (q % 64).toNat)
