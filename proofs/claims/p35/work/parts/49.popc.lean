/-! bitCount counts bits -/
theorem and_256 (a b r s : Nat) (hr : r < 256) (hs : s < 256) : (256 * a + r) &&& (256 * b + s) = 256 * (a &&& b) + (r &&& s) := by
  have hrs : r &&& s < 2 ^ 8 := Nat.lt_of_le_of_lt Nat.and_le_left hr
  apply Nat.eq_of_testBit_eq
  intro i
  rw [Nat.testBit_and, show 256 * a = 2 ^ 8 * a by omega, show 256 * b = 2 ^ 8 * b by omega, show 256 * (a &&& b) = 2 ^ 8 * (a &&& b) by omega, Nat.testBit_two_pow_mul_add a (show r < 2 ^ 8 from hr), Nat.testBit_two_pow_mul_add b (show s < 2 ^ 8 from hs), Nat.testBit_two_pow_mul_add (a &&& b) hrs]
  split
  · rw [Nat.testBit_and]
  · rw [Nat.testBit_and]
def pg1 (m x : Nat) : Nat := x - ((x / 2) &&& m)
def pg2 (m y : Nat) : Nat := (y &&& m) + ((y / 4) &&& m)
def pg3 (m z : Nat) : Nat := (z + z / 16) &&& m
def pgM (c : Nat) : Nat → Nat
  | 0 => 0
  | k + 1 => 256 * pgM c k + c
theorem pg_t1 : ∀ r : Fin 256, ∀ c : Fin 2, (128 * c.val + r.val / 2) &&& 85 = (r.val / 2) &&& 85 := by decide +kernel
theorem pg_t2 : ∀ r : Fin 256, ∀ c : Fin 4, (64 * c.val + r.val / 4) &&& 51 = (r.val / 4) &&& 51 := by decide +kernel
theorem pg_t3 : ∀ r : Fin 256, ((r.val / 2) &&& 85 ≤ r.val) ∧ pg1 85 r.val < 256 ∧ pg2 51 (pg1 85 r.val) % 16 ≤ 4 ∧ pg2 51 (pg1 85 r.val) / 16 ≤ 4 ∧ pg3 15 (pg2 51 (pg1 85 r.val)) ≤ 8 := by decide +kernel
theorem pg1_step (m t r : Nat) (hr : r < 256) : pg1 (256 * m + 85) (256 * t + r) = 256 * pg1 m t + pg1 85 r := by
  unfold pg1
  have a := pg_t1 ⟨r, hr⟩ ⟨t % 2, by omega⟩
  have b := (pg_t3 ⟨r, hr⟩).1
  have c : (t / 2) &&& m ≤ t := Nat.le_trans Nat.and_le_left (by omega)
  rw [show (256 * t + r) / 2 = 256 * (t / 2) + (128 * (t % 2) + r / 2) by omega, and_256 _ _ _ _ (by omega) (by omega)]
  dsimp only at a b
  rw [a]
  omega
theorem pg2_step (m t r : Nat) (hr : r < 256) : pg2 (256 * m + 51) (256 * t + r) = 256 * pg2 m t + pg2 51 r := by
  unfold pg2
  have a := pg_t2 ⟨r, hr⟩ ⟨t % 4, by omega⟩
  rw [show (256 * t + r) / 4 = 256 * (t / 4) + (64 * (t % 4) + r / 4) by omega, and_256 t m r 51 hr (by omega), and_256 (t / 4) m _ 51 (by omega) (by omega)]
  dsimp only at a
  rw [a]
  omega
theorem and_15 (x : Nat) : x &&& 15 = x % 16 := Nat.and_two_pow_sub_one_eq_mod x 4
theorem pg3_step (m t r : Nat) (hr : r % 16 ≤ 4) (hr2 : r / 16 ≤ 4) (ht : t % 16 ≤ 4) : pg3 (256 * m + 15) (256 * t + r) = 256 * pg3 m t + pg3 15 r := by
  unfold pg3
  rw [show 256 * t + r + (256 * t + r) / 16 = 256 * (t + t / 16) + (r + r / 16 + 16 * (t % 16)) by omega, and_256 _ _ _ _ (by omega) (by omega), and_15, and_15]
  omega
def pgF (k x : Nat) : Nat := pg3 (pgM 15 k) (pg2 (pgM 51 k) (pg1 (pgM 85 k) x))
def pg8 (r : Nat) : Nat := pg3 15 (pg2 51 (pg1 85 r))
theorem pg_nib (k t : Nat) : pg2 (pgM 51 k) (pg1 (pgM 85 k) t) % 16 ≤ 4 := by
  cases k with
  | zero => simp [pgM, pg2]
  | succ k =>
    have e : t = 256 * (t / 256) + t % 256 := by omega
    have h := pg_t3 ⟨t % 256, by omega⟩
    dsimp only at h
    rw [e]
    simp only [pgM]
    rw [pg1_step _ _ _ (by omega), pg2_step _ _ _ h.2.1]
    omega
theorem pgF_step (k t r : Nat) (hr : r < 256) : pgF (k + 1) (256 * t + r) = 256 * pgF k t + pg8 r := by
  have h := pg_t3 ⟨r, hr⟩
  dsimp only at h
  unfold pgF pg8
  simp only [pgM]
  rw [pg1_step _ _ _ hr, pg2_step _ _ _ h.2.1, pg3_step _ _ _ h.2.2.1 h.2.2.2.1 (pg_nib k t)]
def bcN (x : Nat) : Nat → Nat
  | 0 => 0
  | n + 1 => bcN x n + (if x.testBit n then 1 else 0)
theorem pg8_bc : ∀ r : Fin 256, pg8 r.val = bcN r.val 8 := by decide +kernel
theorem bcN_lo (t r : Nat) (hr : r < 256) : ∀ n, n ≤ 8 → bcN (256 * t + r) n = bcN r n
  | 0, _ => rfl
  | n + 1, h => by
    simp only [bcN]
    rw [bcN_lo t r hr n (by omega), show 256 * t = 2 ^ 8 * t by omega, Nat.testBit_two_pow_mul_add t (show r < 2 ^ 8 from hr), if_pos (show n < 8 by omega)]
theorem bcN_hi (t r : Nat) (hr : r < 256) : ∀ n, bcN (256 * t + r) (8 + n) = bcN r 8 + bcN t n
  | 0 => by rw [Nat.add_zero, bcN_lo t r hr 8 (by omega)]; rfl
  | n + 1 => by
    show bcN (256 * t + r) (8 + n) + (if (256 * t + r).testBit (8 + n) then 1 else 0) = bcN r 8 + (bcN t n + (if t.testBit n then 1 else 0))
    rw [bcN_hi t r hr n, show 256 * t = 2 ^ 8 * t by omega, Nat.testBit_two_pow_mul_add t (show r < 2 ^ 8 from hr), if_neg (show ¬ 8 + n < 8 by omega), show 8 + n - 8 = n by omega, Nat.add_assoc]
theorem pgF_0 (x : Nat) : pgF 0 x = 0 := by simp [pgF, pgM, pg3]
theorem pgF_s (k x : Nat) : pgF (k + 1) x = 256 * pgF k (x / 256) + bcN (x % 256) 8 := by
  have e : x = 256 * (x / 256) + x % 256 := by omega
  have h := pg8_bc ⟨x % 256, by omega⟩
  dsimp only at h
  rw [← h]
  calc pgF (k + 1) x = pgF (k + 1) (256 * (x / 256) + x % 256) := by rw [← e]
    _ = _ := pgF_step k _ _ (by omega)
theorem bcN_s (x n : Nat) : bcN x (8 + n) = bcN (x % 256) 8 + bcN (x / 256) n := by
  have e : x = 256 * (x / 256) + x % 256 := by omega
  calc bcN x (8 + n) = bcN (256 * (x / 256) + x % 256) (8 + n) := by rw [← e]
    _ = _ := bcN_hi _ _ (by omega) n
theorem bcN_le (x : Nat) : ∀ n, bcN x n ≤ n
  | 0 => Nat.le_refl _
  | n + 1 => by
    have := bcN_le x n
    simp only [bcN]
    split <;> omega
theorem pg_sum (x : Nat) : ∃ p0 p1 p2 p3 p4 p5 p6 p7 : Nat, p0 ≤ 8 ∧ p1 ≤ 8 ∧ p2 ≤ 8 ∧ p3 ≤ 8 ∧ p4 ≤ 8 ∧ p5 ≤ 8 ∧ p6 ≤ 8 ∧ p7 ≤ 8 ∧ bcN x 64 = p0 + p1 + p2 + p3 + p4 + p5 + p6 + p7 ∧ pgF 8 x = p0 + 256 * (p1 + 256 * (p2 + 256 * (p3 + 256 * (p4 + 256 * (p5 + 256 * (p6 + 256 * p7)))))) := by
  refine ⟨_, _, _, _, _, _, _, _, bcN_le (x % 256) 8, bcN_le (x / 256 % 256) 8, bcN_le (x / 256 / 256 % 256) 8, bcN_le (x / 256 / 256 / 256 % 256) 8, bcN_le (x / 256 / 256 / 256 / 256 % 256) 8, bcN_le (x / 256 / 256 / 256 / 256 / 256 % 256) 8, bcN_le (x / 256 / 256 / 256 / 256 / 256 / 256 % 256) 8, bcN_le (x / 256 / 256 / 256 / 256 / 256 / 256 / 256 % 256) 8, ?_, ?_⟩
  · rw [show (64 : Nat) = 8 + 56 from rfl, bcN_s x 56, show (56 : Nat) = 8 + 48 from rfl, bcN_s _ 48, show (48 : Nat) = 8 + 40 from rfl, bcN_s _ 40, show (40 : Nat) = 8 + 32 from rfl, bcN_s _ 32, show (32 : Nat) = 8 + 24 from rfl, bcN_s _ 24, show (24 : Nat) = 8 + 16 from rfl, bcN_s _ 16, show (16 : Nat) = 8 + 8 from rfl, bcN_s _ 8]
    have z := bcN_s (x / 256 / 256 / 256 / 256 / 256 / 256 / 256) 0
    rw [Nat.add_zero] at z
    rw [z]
    simp only [bcN]
    omega
  · rw [pgF_s, pgF_s, pgF_s, pgF_s, pgF_s, pgF_s, pgF_s, pgF_s, pgF_0]
    omega
theorem pk1 (a q : Nat) (h : a ≤ 255) : (a + 256 * q) / 256 = q := by omega
theorem pk2 (a b q : Nat) (h : a ≤ 255) (h2 : b ≤ 255) : (a + 256 * (b + 256 * q)) / 65536 = q := by
  have k := Nat.div_div_eq_div_mul (a + 256 * (b + 256 * q)) 256 256
  rw [pk1 a _ h, pk1 b q h2, show (256 : Nat) * 256 = 65536 by decide] at k
  exact k.symm
theorem pk4 (a b c d q : Nat) (h : a ≤ 255) (h2 : b ≤ 255) (h3 : c ≤ 255) (h4 : d ≤ 255) : (a + 256 * (b + 256 * (c + 256 * (d + 256 * q)))) / 4294967296 = q := by
  have e1 : (a + 256 * (b + 256 * (c + 256 * (d + 256 * q)))) / 65536 = c + 256 * (d + 256 * q) := pk2 a b _ h h2
  have e2 : (c + 256 * (d + 256 * q)) / 65536 = q := pk2 c d q h3 h4
  have k := Nat.div_div_eq_div_mul (a + 256 * (b + 256 * (c + 256 * (d + 256 * q)))) 65536 65536
  rw [e1, e2, show (65536 : Nat) * 65536 = 4294967296 by decide] at k
  exact k.symm
theorem pk5 (P Q R S : Nat) (h : P + R < 128) : (P + 256 * Q + (R + 256 * S)) % 128 = P + R := by omega
theorem pk6 (p0 p1 p2 p3 p4 p5 p6 p7 : Nat) : p0 + 256 * (p1 + 256 * (p2 + 256 * (p3 + 256 * (p4 + 256 * (p5 + 256 * (p6 + 256 * (p7))))))) + (p1 + 256 * (p2 + 256 * (p3 + 256 * (p4 + 256 * (p5 + 256 * (p6 + 256 * (p7))))))) = (p0 + p1) + 256 * ((p1 + p2) + 256 * ((p2 + p3) + 256 * ((p3 + p4) + 256 * ((p4 + p5) + 256 * ((p5 + p6) + 256 * ((p6 + p7) + 256 * (p7))))))) := by omega
theorem pk6b (p0 p1 p2 p3 p4 p5 p6 p7 : Nat) : (p0 + p1) + 256 * ((p1 + p2) + 256 * ((p2 + p3) + 256 * ((p3 + p4) + 256 * ((p4 + p5) + 256 * ((p5 + p6) + 256 * ((p6 + p7) + 256 * (p7))))))) + ((p2 + p3) + 256 * ((p3 + p4) + 256 * ((p4 + p5) + 256 * ((p5 + p6) + 256 * ((p6 + p7) + 256 * (p7)))))) = (p0 + p1 + p2 + p3) + 256 * ((p1 + p2 + p3 + p4) + 256 * ((p2 + p3 + p4 + p5) + 256 * ((p3 + p4 + p5 + p6) + 256 * ((p4 + p5 + p6 + p7) + 256 * ((p5 + p6 + p7) + 256 * ((p6 + p7) + 256 * (p7))))))) := by omega
theorem pk7 (p0 p1 p2 p3 p4 p5 p6 p7 : Nat) (h0 : p0 ≤ 64) (h1 : p1 ≤ 64) (h2 : p2 ≤ 64) (h3 : p3 ≤ 64) (h4 : p4 ≤ 64) (h5 : p5 ≤ 64) (h6 : p6 ≤ 64) (h7 : p7 ≤ 64) : p0 + 256 * (p1 + 256 * (p2 + 256 * (p3 + 256 * (p4 + 256 * (p5 + 256 * (p6 + 256 * (p7))))))) ≤ 9223372036854775807 := by omega
theorem pk8 (x n : Nat) (h : x ≤ 9223372036854775807) : x + x / n < 18446744073709551616 := by
  have := Nat.div_le_self x n
  omega
theorem pq (x y z p0 p1 p2 p3 p4 p5 p6 p7 : Nat) (h0 : p0 ≤ 8) (h1 : p1 ≤ 8) (h2 : p2 ≤ 8) (h3 : p3 ≤ 8) (h4 : p4 ≤ 8) (h5 : p5 ≤ 8) (h6 : p6 ≤ 8) (h7 : p7 ≤ 8) (e3 : x = p0 + 256 * (p1 + 256 * (p2 + 256 * (p3 + 256 * (p4 + 256 * (p5 + 256 * (p6 + 256 * (p7)))))))) (hy : y = x + x / 256) (hz : z = y + y / 65536) : x + x / 256 < 18446744073709551616 ∧ y + y / 65536 < 18446744073709551616 ∧ z + z / 4294967296 < 18446744073709551616 ∧ (z + z / 4294967296) % 128 = p0 + p1 + p2 + p3 + p4 + p5 + p6 + p7 := by
  have x0 : p0 ≤ 64 := by clear e3 hy hz; omega
  have x1 : p1 ≤ 64 := by clear e3 hy hz; omega
  have x2 : p2 ≤ 64 := by clear e3 hy hz; omega
  have x3 : p3 ≤ 64 := by clear e3 hy hz; omega
  have x4 : p4 ≤ 64 := by clear e3 hy hz; omega
  have x5 : p5 ≤ 64 := by clear e3 hy hz; omega
  have x6 : p6 ≤ 64 := by clear e3 hy hz; omega
  have x7 : p7 ≤ 64 := by clear e3 hy hz; omega
  have y0 : (p0 + p1) ≤ 64 := by clear e3 hy hz; omega
  have y1 : (p1 + p2) ≤ 64 := by clear e3 hy hz; omega
  have y2 : (p2 + p3) ≤ 64 := by clear e3 hy hz; omega
  have y3 : (p3 + p4) ≤ 64 := by clear e3 hy hz; omega
  have y4 : (p4 + p5) ≤ 64 := by clear e3 hy hz; omega
  have y5 : (p5 + p6) ≤ 64 := by clear e3 hy hz; omega
  have y6 : (p6 + p7) ≤ 64 := by clear e3 hy hz; omega
  have y7 : p7 ≤ 64 := by clear e3 hy hz; omega
  have z0 : (p0 + p1 + p2 + p3) ≤ 64 := by clear e3 hy hz; omega
  have z1 : (p1 + p2 + p3 + p4) ≤ 64 := by clear e3 hy hz; omega
  have z2 : (p2 + p3 + p4 + p5) ≤ 64 := by clear e3 hy hz; omega
  have z3 : (p3 + p4 + p5 + p6) ≤ 64 := by clear e3 hy hz; omega
  have z4 : (p4 + p5 + p6 + p7) ≤ 64 := by clear e3 hy hz; omega
  have z5 : (p5 + p6 + p7) ≤ 64 := by clear e3 hy hz; omega
  have z6 : (p6 + p7) ≤ 64 := by clear e3 hy hz; omega
  have z7 : p7 ≤ 64 := by clear e3 hy hz; omega
  have zz : (p0 + p1 + p2 + p3) + (p4 + p5 + p6 + p7) < 128 := by clear e3 hy hz; omega
  have d1 : x / 256 = p1 + 256 * (p2 + 256 * (p3 + 256 * (p4 + 256 * (p5 + 256 * (p6 + 256 * (p7)))))) := by rw [e3]; exact pk1 p0 (p1 + 256 * (p2 + 256 * (p3 + 256 * (p4 + 256 * (p5 + 256 * (p6 + 256 * (p7))))))) (Nat.le_trans x0 (by decide))
  have ey : y = (p0 + p1) + 256 * ((p1 + p2) + 256 * ((p2 + p3) + 256 * ((p3 + p4) + 256 * ((p4 + p5) + 256 * ((p5 + p6) + 256 * ((p6 + p7) + 256 * (p7))))))) := by rw [hy, d1, e3]; exact pk6 p0 p1 p2 p3 p4 p5 p6 p7
  have gx : x ≤ 9223372036854775807 := by rw [e3]; exact pk7 p0 p1 p2 p3 p4 p5 p6 p7 x0 x1 x2 x3 x4 x5 x6 x7
  have d2 : y / 65536 = (p2 + p3) + 256 * ((p3 + p4) + 256 * ((p4 + p5) + 256 * ((p5 + p6) + 256 * ((p6 + p7) + 256 * (p7))))) := by rw [ey]; exact pk2 (p0 + p1) (p1 + p2) ((p2 + p3) + 256 * ((p3 + p4) + 256 * ((p4 + p5) + 256 * ((p5 + p6) + 256 * ((p6 + p7) + 256 * (p7)))))) (Nat.le_trans y0 (by decide)) (Nat.le_trans y1 (by decide))
  have ez : z = (p0 + p1 + p2 + p3) + 256 * ((p1 + p2 + p3 + p4) + 256 * ((p2 + p3 + p4 + p5) + 256 * ((p3 + p4 + p5 + p6) + 256 * ((p4 + p5 + p6 + p7) + 256 * ((p5 + p6 + p7) + 256 * ((p6 + p7) + 256 * (p7))))))) := by rw [hz, d2, ey]; exact pk6b p0 p1 p2 p3 p4 p5 p6 p7
  have gy : y ≤ 9223372036854775807 := by rw [ey]; exact pk7 (p0 + p1) (p1 + p2) (p2 + p3) (p3 + p4) (p4 + p5) (p5 + p6) (p6 + p7) p7 y0 y1 y2 y3 y4 y5 y6 y7
  have d3 : z / 4294967296 = (p4 + p5 + p6 + p7) + 256 * ((p5 + p6 + p7) + 256 * ((p6 + p7) + 256 * (p7))) := by rw [ez]; exact pk4 (p0 + p1 + p2 + p3) (p1 + p2 + p3 + p4) (p2 + p3 + p4 + p5) (p3 + p4 + p5 + p6) ((p4 + p5 + p6 + p7) + 256 * ((p5 + p6 + p7) + 256 * ((p6 + p7) + 256 * (p7)))) (Nat.le_trans z0 (by decide)) (Nat.le_trans z1 (by decide)) (Nat.le_trans z2 (by decide)) (Nat.le_trans z3 (by decide))
  have gz : z ≤ 9223372036854775807 := by rw [ez]; exact pk7 (p0 + p1 + p2 + p3) (p1 + p2 + p3 + p4) (p2 + p3 + p4 + p5) (p3 + p4 + p5 + p6) (p4 + p5 + p6 + p7) (p5 + p6 + p7) (p6 + p7) p7 z0 z1 z2 z3 z4 z5 z6 z7
  refine ⟨pk8 x 256 gx, pk8 y 65536 gy, pk8 z 4294967296 gz, ?_⟩
  have k := pk5 (p0 + p1 + p2 + p3) ((p1 + p2 + p3 + p4) + 256 * ((p2 + p3 + p4 + p5) + 256 * ((p3 + p4 + p5 + p6) + 256 * ((p4 + p5 + p6 + p7) + 256 * ((p5 + p6 + p7) + 256 * ((p6 + p7) + 256 * (p7))))))) (p4 + p5 + p6 + p7) ((p5 + p6 + p7) + 256 * ((p6 + p7) + 256 * (p7))) zz
  rw [d3, ez, k]
  simp only [Nat.add_assoc]
theorem jN_and (a b : Int64) : (a &&& b).toBitVec.toNat = a.toBitVec.toNat &&& b.toBitVec.toNat := rfl
theorem jN_shr (x : Int64) (p : Nat) (hp : p < 64) : (jShr x p).toBitVec.toNat = x.toBitVec.toNat / 2 ^ p := by
  rw [jShr_bv x p hp, BitVec.toNat_ushiftRight, Nat.shiftRight_eq_div_pow]
theorem jN_add (a b : Int64) (h : a.toBitVec.toNat + b.toBitVec.toNat < 18446744073709551616) : (a + b).toBitVec.toNat = a.toBitVec.toNat + b.toBitVec.toNat := by
  show (a.toBitVec + b.toBitVec).toNat = _
  rw [BitVec.toNat_add]
  exact Nat.mod_eq_of_lt h
theorem jN_sub (a b : Int64) (h : b.toBitVec.toNat ≤ a.toBitVec.toNat) : (a - b).toBitVec.toNat = a.toBitVec.toNat - b.toBitVec.toNat := by
  show (a.toBitVec - b.toBitVec).toNat = _
  rw [BitVec.toNat_sub]
  have := a.toBitVec.isLt
  have := b.toBitVec.isLt
  omega
theorem fB3_nat (w : Int64) : (fB3 (fB2 (fB1 w))).toBitVec.toNat = pgF 8 w.toBitVec.toNat := by
  have c1 : (6148914691236517205 : Int64).toBitVec.toNat = pgM 85 8 := by decide +kernel
  have c2 : (3689348814741910323 : Int64).toBitVec.toNat = pgM 51 8 := by decide +kernel
  have c3 : (1085102592571150095 : Int64).toBitVec.toNat = pgM 15 8 := by decide +kernel
  have e1 : (fB1 w).toBitVec.toNat = pg1 (pgM 85 8) w.toBitVec.toNat := by
    have s := jN_shr w 1 (by omega)
    have le : (w.toBitVec.toNat / 2 &&& pgM 85 8) ≤ w.toBitVec.toNat := Nat.le_trans Nat.and_le_left (by omega)
    unfold fB1 pg1
    have k : (jShr w 1 &&& 6148914691236517205).toBitVec.toNat = w.toBitVec.toNat / 2 &&& pgM 85 8 := by rw [jN_and, c1]; rw [show jShr w 1 = jShr w ((1 : Nat) : Int) from rfl, s]
    rw [jN_sub _ _ (by rw [k]; exact le), k]
  have b51 : ∀ y : Nat, (y &&& pgM 51 8) ≤ 3689348814741910323 := fun y => Nat.le_trans Nat.and_le_right (by decide +kernel)
  have e2 : (fB2 (fB1 w)).toBitVec.toNat = pg2 (pgM 51 8) (pg1 (pgM 85 8) w.toBitVec.toNat) := by
    unfold fB2 pg2
    have s := jN_shr (fB1 w) 2 (by omega)
    rw [e1] at s
    have k1 : (fB1 w &&& 3689348814741910323).toBitVec.toNat = pg1 (pgM 85 8) w.toBitVec.toNat &&& pgM 51 8 := by rw [jN_and, c2, e1]
    have k2 : (jShr (fB1 w) 2 &&& 3689348814741910323).toBitVec.toNat = pg1 (pgM 85 8) w.toBitVec.toNat / 4 &&& pgM 51 8 := by rw [jN_and, c2]; rw [show jShr (fB1 w) 2 = jShr (fB1 w) ((2 : Nat) : Int) from rfl, s]
    have := b51 (pg1 (pgM 85 8) w.toBitVec.toNat)
    have := b51 (pg1 (pgM 85 8) w.toBitVec.toNat / 4)
    rw [jN_add _ _ (by rw [k1, k2]; omega), k1, k2]
  have l2 : pg2 (pgM 51 8) (pg1 (pgM 85 8) w.toBitVec.toNat) ≤ 7378697629483820646 := by
    have := b51 (pg1 (pgM 85 8) w.toBitVec.toNat)
    have := b51 (pg1 (pgM 85 8) w.toBitVec.toNat / 4)
    unfold pg2
    omega
  unfold fB3 pgF pg3
  have s := jN_shr (fB2 (fB1 w)) 4 (by omega)
  rw [e2] at s
  have s' : (jShr (fB2 (fB1 w)) 4).toBitVec.toNat = pg2 (pgM 51 8) (pg1 (pgM 85 8) w.toBitVec.toNat) / 16 := by rw [show jShr (fB2 (fB1 w)) 4 = jShr (fB2 (fB1 w)) ((4 : Nat) : Int) from rfl, s]
  rw [jN_and, c3, jN_add _ _ (by rw [e2, s']; omega), e2, s']
theorem fB6_nat (x : Int64) (s : Nat) (b1 : x.toBitVec.toNat + x.toBitVec.toNat / 256 < 18446744073709551616) (b2 : x.toBitVec.toNat + x.toBitVec.toNat / 256 + (x.toBitVec.toNat + x.toBitVec.toNat / 256) / 65536 < 18446744073709551616) (b3 : x.toBitVec.toNat + x.toBitVec.toNat / 256 + (x.toBitVec.toNat + x.toBitVec.toNat / 256) / 65536 + (x.toBitVec.toNat + x.toBitVec.toNat / 256 + (x.toBitVec.toNat + x.toBitVec.toNat / 256) / 65536) / 4294967296 < 18446744073709551616)
    (b4 : (x.toBitVec.toNat + x.toBitVec.toNat / 256 + (x.toBitVec.toNat + x.toBitVec.toNat / 256) / 65536 + (x.toBitVec.toNat + x.toBitVec.toNat / 256 + (x.toBitVec.toNat + x.toBitVec.toNat / 256) / 65536) / 4294967296) % 128 = s) : (fB6 (fB5 (fB4 x))).toBitVec.toNat % 128 = s := by
  have s8 : (jShr x 8).toBitVec.toNat = x.toBitVec.toNat / 256 := by rw [show jShr x 8 = jShr x ((8 : Nat) : Int) from rfl, jN_shr x 8 (by decide)]
  have e4 : (fB4 x).toBitVec.toNat = x.toBitVec.toNat + x.toBitVec.toNat / 256 := by unfold fB4; rw [jN_add _ _ (by rw [s8]; exact b1), s8]
  generalize fB4 x = y at e4 ⊢
  rw [← e4] at b2 b3 b4
  have s16 : (jShr y 16).toBitVec.toNat = y.toBitVec.toNat / 65536 := by rw [show jShr y 16 = jShr y ((16 : Nat) : Int) from rfl, jN_shr y 16 (by decide)]
  have e5 : (fB5 y).toBitVec.toNat = y.toBitVec.toNat + y.toBitVec.toNat / 65536 := by unfold fB5; rw [jN_add _ _ (by rw [s16]; exact b2), s16]
  generalize fB5 y = z at e5 ⊢
  rw [← e5] at b3 b4
  have s32 : (jShr z 32).toBitVec.toNat = z.toBitVec.toNat / 4294967296 := by rw [show jShr z 32 = jShr z ((32 : Nat) : Int) from rfl, jN_shr z 32 (by decide)]
  have e6 : (fB6 z).toBitVec.toNat = z.toBitVec.toNat + z.toBitVec.toNat / 4294967296 := by unfold fB6; rw [jN_add _ _ (by rw [s32]; exact b3), s32]
  rw [e6]
  exact b4
theorem zAnd_low (u : Int64) (s : Nat) (h : u.toBitVec.toNat % 128 = s) : zAnd u.toInt32.toInt 127 = (s : Int) := by
  have k : zAnd u.toInt32.toInt 127 = (Int32.ofBitVec (u.toInt32.toBitVec &&& (zI 127).toBitVec)).toInt := by unfold zAnd; rw [zI_of]; rfl
  have q : (u.toInt32.toBitVec &&& (zI 127).toBitVec).toNat = u.toBitVec.toNat % 128 := by
    rw [BitVec.toNat_and, show (zI 127).toBitVec.toNat = 127 from by decide +kernel, show u.toInt32.toBitVec = u.toBitVec.signExtend 32 from rfl]
    rw [show (127 : Nat) = 2 ^ 7 - 1 from rfl, Nat.and_two_pow_sub_one_eq_mod]
    rw [show u.toBitVec.signExtend 32 = u.toBitVec.setWidth 32 from BitVec.signExtend_eq_setWidth_of_le _ (by decide), BitVec.toNat_setWidth]
    omega
  rw [k, bvInt _ _ q (by omega), h]
theorem fBits_nat (w : Int64) : fBits w = (bcN w.toBitVec.toNat 64 : Nat) := by
  obtain ⟨p0, p1, p2, p3, p4, p5, p6, p7, h0, h1, h2, h3, h4, h5, h6, h7, hs, hf⟩ := pg_sum w.toBitVec.toNat
  have e3 := fB3_nat w
  rw [hf] at e3
  obtain ⟨b1, b2, b3, b4⟩ := pq (fB3 (fB2 (fB1 w))).toBitVec.toNat _ _ p0 p1 p2 p3 p4 p5 p6 p7 h0 h1 h2 h3 h4 h5 h6 h7 e3 rfl rfl
  clear e3 hf
  unfold fBits
  rw [hs]
  exact zAnd_low _ _ (fB6_nat _ _ b1 b2 b3 b4)
theorem bcN_cnt (w : Int64) : ∀ n, n ≤ 64 → bcN w.toBitVec.toNat n = cntN (fun p => bitJ w p) n
  | 0, _ => rfl
  | n + 1, h => by
    have ih := bcN_cnt w n (by omega)
    simp only [bcN]
    rw [ih]
    have b := bitJ_iff w n (by omega)
    rw [BitVec.getLsbD] at b
    by_cases z : bitJ w n
    · rw [cntN_t z, if_pos (b.mp z)]
    · rw [cntN_f z, if_neg (fun y => z (b.mpr y))]
      rfl
/-- how many bits a long has -/
theorem fBits_cnt (w : Int64) : fBits w = (cntN (fun p => bitJ w p) 64 : Nat) := by rw [fBits_nat, bcN_cnt w 64 (Nat.le_refl _)]
theorem fBits_64 (w : Int64) : 0 ≤ fBits w ∧ fBits w ≤ 64 := by
  rw [fBits_cnt]
  have := cntN_le (fun p => bitJ w p) 64
  omega
