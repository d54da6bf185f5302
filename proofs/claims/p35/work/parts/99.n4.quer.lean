/-! p35: the law's questions; C: the world as told -/
set_option maxHeartbeats 4000000 in
set_option maxRecDepth 100000 in
theorem k_knowing (C S : XS) (hL : LW S) (q : KQ C S) : X mL_knowing 0 (xEnt mL_knowing [xR (0, 0, 0), xI 0]) [] (hp S) 6 36 (pK S (C.1 (9, 0, 0) 3)) := by
  have h6 : S.1 (0, 0, 0) 6 = 1 := hL.2.2.2.2.2.1
  have c4 := wf4_2 hL.1.1
  have c9 := wf9_3 hL.1.1 (b := 0) (by decide) (by decide)
  have e9 : S.1 (9, 0, 0) 3 = C.1 (9, 0, 0) 3 := congrFun (q.k (k := 9) rfl (by decide) 0 0) 3
  have e4 : S.1 (4, 0, 0) 2 = C.1 (4, 0, 0) 2 := congrFun (q.k (k := 4) rfl (by decide) 0 0) 2
  refine X.weak (wo_knowing S hL.i 0 ⟨by omega, by omega⟩) (Nat.le_refl _) (Nat.le_refl _) (fun _ _ z => WO.k (fun k v D hR => ?_) z)
  rcases hR with ⟨rfl, g1, rfl, hD⟩ | ⟨rfl, g1, hD⟩
  · exact ⟨hD, by rw [if_pos rfl]; exact e9⟩
  · exfalso; omega
set_option maxHeartbeats 4000000 in
set_option maxRecDepth 100000 in
theorem k_isOn (C S : XS) (hL : LW S) (q : KQ C S) (n : Nat) (hn : (n : Int) ≤ C.1 (9, 0, 0) 3) (r : Int) (r0 : 0 ≤ r) (r1 : r < C.1 (4, 0, 0) 2) : X mL_isOn 0 (xEnt mL_isOn [xR (0, 0, 0), xI 0, xI r, xI (n : Int)]) [] (hp S) 6 36 (pK S (bI (bitI (onN C.1 0 n) r))) := by
  have h6 : S.1 (0, 0, 0) 6 = 1 := hL.2.2.2.2.2.1
  have c4 := wf4_2 hL.1.1
  have c9 := wf9_3 hL.1.1 (b := 0) (by decide) (by decide)
  have e9 : S.1 (9, 0, 0) 3 = C.1 (9, 0, 0) 3 := congrFun (q.k (k := 9) rfl (by decide) 0 0) 3
  have e4 : S.1 (4, 0, 0) 2 = C.1 (4, 0, 0) 2 := congrFun (q.k (k := 4) rfl (by decide) 0 0) 2
  refine X.weak (wo_isOn S hL.i 0 r (n : Int) ⟨by omega, by omega⟩ ⟨by omega, by omega⟩ ⟨by omega, by omega⟩) (Nat.le_refl _) (Nat.le_refl _) (fun _ _ z => WO.k (fun k v D hR => ?_) z)
  rcases hR with ⟨rfl, g1, rfl, hD⟩ | ⟨rfl, g1, hD⟩
  · exact ⟨hD, by rw [if_pos rfl]; rw [Int.toNat_natCast, q.onN]⟩
  · exfalso; omega
set_option maxHeartbeats 4000000 in
set_option maxRecDepth 100000 in
theorem k_holds (C S : XS) (hL : LW S) (q : KQ C S) (n : Nat) (hn : (n : Int) ≤ C.1 (9, 0, 0) 3) (t : Int) (t0 : 0 ≤ t) (t1 : t < 24) (x : Int) (x0 : 0 ≤ x) (x1 : x < 384) : X mL_holds 0 (xEnt mL_holds [xR (0, 0, 0), xI 0, xI (n : Int), xI t, xI x]) [] (hp S) 6 36 (pK S (bI (hB C.1 0 n t x))) := by
  have h6 : S.1 (0, 0, 0) 6 = 1 := hL.2.2.2.2.2.1
  have c4 := wf4_2 hL.1.1
  have c9 := wf9_3 hL.1.1 (b := 0) (by decide) (by decide)
  have e9 : S.1 (9, 0, 0) 3 = C.1 (9, 0, 0) 3 := congrFun (q.k (k := 9) rfl (by decide) 0 0) 3
  have e4 : S.1 (4, 0, 0) 2 = C.1 (4, 0, 0) 2 := congrFun (q.k (k := 4) rfl (by decide) 0 0) 2
  refine X.weak (wo_holds S hL.i 0 (n : Int) t x ⟨by omega, by omega⟩ ⟨by omega, by omega⟩ ⟨by omega, by omega⟩ ⟨by omega, by omega⟩) (Nat.le_refl _) (Nat.le_refl _) (fun _ _ z => WO.k (fun k v D hR => ?_) z)
  rcases hR with ⟨rfl, g1, g2, rfl, hD⟩ | ⟨rfl, g1, hD⟩ | ⟨rfl, g1, g2, hD⟩
  · exact ⟨hD, by rw [if_pos rfl]; rw [Int.toNat_natCast, q.hBq]⟩
  · exfalso; omega
  · exfalso; omega
set_option maxHeartbeats 4000000 in
set_option maxRecDepth 100000 in
theorem k_holdsAnew (C S : XS) (hL : LW S) (q : KQ C S) (n : Nat) (hn : (n : Int) ≤ C.1 (9, 0, 0) 3) (t : Int) (t0 : 0 ≤ t) (t1 : t < 24) (x : Int) (x0 : 0 ≤ x) (x1 : x < 384) : X mL_holdsAnew 0 (xEnt mL_holdsAnew [xR (0, 0, 0), xI 0, xI (n : Int), xI t, xI x]) [] (hp S) 6 36 (pK S (bI (hB C.1 0 n t x))) := by
  have h6 : S.1 (0, 0, 0) 6 = 1 := hL.2.2.2.2.2.1
  have c4 := wf4_2 hL.1.1
  have c9 := wf9_3 hL.1.1 (b := 0) (by decide) (by decide)
  have e9 : S.1 (9, 0, 0) 3 = C.1 (9, 0, 0) 3 := congrFun (q.k (k := 9) rfl (by decide) 0 0) 3
  have e4 : S.1 (4, 0, 0) 2 = C.1 (4, 0, 0) 2 := congrFun (q.k (k := 4) rfl (by decide) 0 0) 2
  refine X.weak (wo_holdsAnew S hL.i 0 (n : Int) t x ⟨by omega, by omega⟩ ⟨by omega, by omega⟩ ⟨by omega, by omega⟩ ⟨by omega, by omega⟩) (Nat.le_refl _) (Nat.le_refl _) (fun _ _ z => WO.k (fun k v D hR => ?_) z)
  rcases hR with ⟨rfl, g1, g2, rfl, hD⟩ | ⟨rfl, g1, hD⟩ | ⟨rfl, g1, g2, hD⟩
  · exact ⟨hD, by rw [if_pos rfl]; rw [Int.toNat_natCast, q.hBq]⟩
  · exfalso; omega
  · exfalso; omega
set_option maxHeartbeats 4000000 in
set_option maxRecDepth 100000 in
theorem k_count (C S : XS) (hL : LW S) (q : KQ C S) (n : Nat) (hn : (n : Int) ≤ C.1 (9, 0, 0) 3) (t : Int) (t0 : 0 ≤ t) (t1 : t < 24) (r : Int) (r0 : 0 ≤ r) (r1 : r < 6) : X mL_count 0 (xEnt mL_count [xR (0, 0, 0), xI 0, xI (n : Int), xI t, xI r]) [] (hp S) 6 36 (pK S (fBits (hl C.1 0 n t r))) := by
  have h6 : S.1 (0, 0, 0) 6 = 1 := hL.2.2.2.2.2.1
  have c4 := wf4_2 hL.1.1
  have c9 := wf9_3 hL.1.1 (b := 0) (by decide) (by decide)
  have e9 : S.1 (9, 0, 0) 3 = C.1 (9, 0, 0) 3 := congrFun (q.k (k := 9) rfl (by decide) 0 0) 3
  have e4 : S.1 (4, 0, 0) 2 = C.1 (4, 0, 0) 2 := congrFun (q.k (k := 4) rfl (by decide) 0 0) 2
  refine X.weak (wo_count S hL.i 0 (n : Int) t r ⟨by omega, by omega⟩ ⟨by omega, by omega⟩ ⟨by omega, by omega⟩ ⟨by omega, by omega⟩) (Nat.le_refl _) (Nat.le_refl _) (fun _ _ z => WO.k (fun k v D hR => ?_) z)
  rcases hR with ⟨rfl, g1, g2, rfl, hD⟩ | ⟨rfl, g1, hD⟩ | ⟨rfl, g1, g2, hD⟩
  · exact ⟨hD, by rw [if_pos rfl]; rw [Int.toNat_natCast, q.hl]⟩
  · exfalso; omega
  · exfalso; omega
set_option maxHeartbeats 4000000 in
set_option maxRecDepth 100000 in
theorem k_layer (C S : XS) (hL : LW S) (q : KQ C S) (g : Int → Int) (hg : LyG C.1 (onN C.1 0 (C.1 (9, 0, 0) 3).toNat) g) (r : Int) (r0 : 0 ≤ r) (r1 : r < 6) : X mL_layer 0 (xEnt mL_layer [xR (0, 0, 0), xI 0, xI r]) [] (hp S) 6 36 (pK S (g r)) := by
  have h6 : S.1 (0, 0, 0) 6 = 1 := hL.2.2.2.2.2.1
  have c4 := wf4_2 hL.1.1
  have c9 := wf9_3 hL.1.1 (b := 0) (by decide) (by decide)
  have e9 : S.1 (9, 0, 0) 3 = C.1 (9, 0, 0) 3 := congrFun (q.k (k := 9) rfl (by decide) 0 0) 3
  have e4 : S.1 (4, 0, 0) 2 = C.1 (4, 0, 0) 2 := congrFun (q.k (k := 4) rfl (by decide) 0 0) 2
  refine X.weak (wo_layer S hL.i 0 r ⟨by omega, by omega⟩ ⟨by omega, by omega⟩) (Nat.le_refl _) (Nat.le_refl _) (fun _ _ z => WO.k (fun k v D hR => ?_) z)
  rcases hR with ⟨rfl, g1, g2, g1r, hg1, rfl, hD⟩ | ⟨rfl, g1, hD⟩ | ⟨rfl, g1, g2, hD⟩
  · exact ⟨hD, by rw [if_pos rfl]; have hs : onN S.1 0 (S.1 (9, 0, 0) 3).toNat = onN C.1 0 (C.1 (9, 0, 0) 3).toNat := (by rw [e9, q.onN]); rw [hs] at hg1; exact LyG.uniq (q.lyg hg1) hg (by omega) (by omega)⟩
  · exfalso; omega
  · exfalso; omega
theorem rk_fix {C : XS} (hC : CB C) (hC6 : C.1 (0, 0, 0) 6 = 1) {n : Nat} (hn : (n : Int) ≤ C.1 (9, 0, 0) 3) {t : Int} {rk rk1 ru wy : Int → Int} (hF : FinR C 0 n t rk) (hr : Rsn C.1 0 n t rk1 ru wy) {x : Int} (x0 : 0 ≤ x) (x1 : x < 384) : (rk x < 999 ↔ bI (hB C.1 0 n t x) = 1) ∧ (rk x < 999 → rk1 x = rk x) := by
  have e := lk_rank hF hr (x := (x / 64).toNat) (p := (x % 64).toNat) (by omega) (by omega)
  rw [show 64 * (((x / 64).toNat : Nat) : Int) + (((x % 64).toNat : Nat) : Int) = x by omega] at e
  have f := (hF.hb hC (b := 0) (by omega) (by omega) hn (q := x) x0 x1).1
  refine ⟨f.trans bI_1.symm, fun h => ?_⟩
  rcases e with ⟨e1, e2⟩ | ⟨e1, e2, -⟩
  · omega
  · exact e2.symm
set_option maxHeartbeats 4000000 in
set_option maxRecDepth 100000 in
theorem k_rank1 (C S : XS) (hL : LW S) (q : KQ C S) (n : Nat) (hn : (n : Int) ≤ C.1 (9, 0, 0) 3) (t : Int) (t0 : 0 ≤ t) (t1 : t < 24) (x : Int) (x0 : 0 ≤ x) (x1 : x < 384) (rk : Int → Int) (hF : FinR C 0 n t rk) (hC : CB C) (hC6 : C.1 (0, 0, 0) 6 = 1) (hx : rk x < 999) (hb : bI (hB S.1 0 ((n : Nat) : Int).toNat t x) = 1) : X mL_rank 0 (xEnt mL_rank [xR (0, 0, 0), xI 0, xI (n : Int), xI t, xI x]) [] (hp S) 6 36 (pK S (rk x)) := by
  have h6 : S.1 (0, 0, 0) 6 = 1 := hL.2.2.2.2.2.1
  have c4 := wf4_2 hL.1.1
  have c9 := wf9_3 hL.1.1 (b := 0) (by decide) (by decide)
  have e9 : S.1 (9, 0, 0) 3 = C.1 (9, 0, 0) 3 := congrFun (q.k (k := 9) rfl (by decide) 0 0) 3
  have e4 : S.1 (4, 0, 0) 2 = C.1 (4, 0, 0) 2 := congrFun (q.k (k := 4) rfl (by decide) 0 0) 2
  refine X.weak (wo_rank S hL.i 0 (n : Int) t x ⟨by omega, by omega⟩ ⟨by omega, by omega⟩ ⟨by omega, by omega⟩ ⟨by omega, by omega⟩) (Nat.le_refl _) (Nat.le_refl _) (fun _ _ z => WO.k (fun k v D hR => ?_) z)
  rcases hR with ⟨rfl, g1, g2, g3, rk1, ru, wy, hr1, rfl, hD⟩ | ⟨rfl, g1, hD⟩ | ⟨rfl, g1, g2, hD⟩ | ⟨rfl, g1, g2, g3, hD⟩
  · exact ⟨hD, by rw [if_pos rfl]; exact (rk_fix hC hC6 hn hF (q.rsn (by rw [Int.toNat_natCast] at hr1; exact hr1)) x0 x1).2 hx⟩
  · exfalso; omega
  · exfalso; omega
  · exfalso; omega
set_option maxHeartbeats 4000000 in
set_option maxRecDepth 100000 in
theorem k_rank0 (C S : XS) (hL : LW S) (q : KQ C S) (n : Nat) (hn : (n : Int) ≤ C.1 (9, 0, 0) 3) (t : Int) (t0 : 0 ≤ t) (t1 : t < 24) (x : Int) (x0 : 0 ≤ x) (x1 : x < 384) (hb : ¬ bI (hB S.1 0 ((n : Nat) : Int).toNat t x) = 1) : X mL_rank 0 (xEnt mL_rank [xR (0, 0, 0), xI 0, xI (n : Int), xI t, xI x]) [] (hp S) 6 36 (pK S (-900003)) := by
  have h6 : S.1 (0, 0, 0) 6 = 1 := hL.2.2.2.2.2.1
  have c4 := wf4_2 hL.1.1
  have c9 := wf9_3 hL.1.1 (b := 0) (by decide) (by decide)
  have e9 : S.1 (9, 0, 0) 3 = C.1 (9, 0, 0) 3 := congrFun (q.k (k := 9) rfl (by decide) 0 0) 3
  have e4 : S.1 (4, 0, 0) 2 = C.1 (4, 0, 0) 2 := congrFun (q.k (k := 4) rfl (by decide) 0 0) 2
  refine X.weak (wo_rank S hL.i 0 (n : Int) t x ⟨by omega, by omega⟩ ⟨by omega, by omega⟩ ⟨by omega, by omega⟩ ⟨by omega, by omega⟩) (Nat.le_refl _) (Nat.le_refl _) (fun _ _ z => WO.k (fun k v D hR => ?_) z)
  rcases hR with ⟨rfl, g1, g2, g3, rk1, ru, wy, hr1, rfl, hD⟩ | ⟨rfl, g1, hD⟩ | ⟨rfl, g1, g2, hD⟩ | ⟨rfl, g1, g2, g3, hD⟩
  · exfalso; omega
  · exfalso; omega
  · exfalso; omega
  · exact ⟨hD, by rw [if_neg (by decide)]; decide⟩
set_option maxHeartbeats 4000000 in
set_option maxRecDepth 100000 in
theorem e_holds1 (C S : XS) (hL : LW S) (q : KQ C S) : X mL_holds 0 (xEnt mL_holds [xR (0, 0, 0), xI 0, xI (C.1 (9, 0, 0) 3 + 1), xI 0, xI 0]) [] (hp S) 6 36 (pK S (-900001)) := by
  have h6 : S.1 (0, 0, 0) 6 = 1 := hL.2.2.2.2.2.1
  have c4 := wf4_2 hL.1.1
  have c9 := wf9_3 hL.1.1 (b := 0) (by decide) (by decide)
  have e9 : S.1 (9, 0, 0) 3 = C.1 (9, 0, 0) 3 := congrFun (q.k (k := 9) rfl (by decide) 0 0) 3
  have e4 : S.1 (4, 0, 0) 2 = C.1 (4, 0, 0) 2 := congrFun (q.k (k := 4) rfl (by decide) 0 0) 2
  refine X.weak (wo_holds S hL.i 0 (C.1 (9, 0, 0) 3 + 1) 0 0 ⟨by omega, by omega⟩ ⟨by omega, by omega⟩ ⟨by omega, by omega⟩ ⟨by omega, by omega⟩) (Nat.le_refl _) (Nat.le_refl _) (fun _ _ z => WO.k (fun k v D hR => ?_) z)
  rcases hR with ⟨rfl, g1, g2, rfl, hD⟩ | ⟨rfl, g1, hD⟩ | ⟨rfl, g1, g2, hD⟩
  · exfalso; omega
  · exact ⟨hD, by rw [if_neg (by decide)]; decide⟩
  · exfalso; omega
set_option maxHeartbeats 4000000 in
set_option maxRecDepth 100000 in
theorem e_holds2 (C S : XS) (hL : LW S) (q : KQ C S) : X mL_holds 0 (xEnt mL_holds [xR (0, 0, 0), xI 1, xI 0, xI 0, xI 0]) [] (hp S) 6 36 (pK S (-900001)) := by
  have h6 : S.1 (0, 0, 0) 6 = 1 := hL.2.2.2.2.2.1
  have c4 := wf4_2 hL.1.1
  have c9 := wf9_3 hL.1.1 (b := 0) (by decide) (by decide)
  have e9 : S.1 (9, 0, 0) 3 = C.1 (9, 0, 0) 3 := congrFun (q.k (k := 9) rfl (by decide) 0 0) 3
  have e4 : S.1 (4, 0, 0) 2 = C.1 (4, 0, 0) 2 := congrFun (q.k (k := 4) rfl (by decide) 0 0) 2
  refine X.weak (wo_holds S hL.i 1 0 0 0 ⟨by omega, by omega⟩ ⟨by omega, by omega⟩ ⟨by omega, by omega⟩ ⟨by omega, by omega⟩) (Nat.le_refl _) (Nat.le_refl _) (fun _ _ z => WO.k (fun k v D hR => ?_) z)
  rcases hR with ⟨rfl, g1, g2, rfl, hD⟩ | ⟨rfl, g1, hD⟩ | ⟨rfl, g1, g2, hD⟩
  · exfalso; omega
  · exact ⟨hD, by rw [if_neg (by decide)]; decide⟩
  · exfalso; omega
set_option maxHeartbeats 4000000 in
set_option maxRecDepth 100000 in
theorem e_holds3 (C S : XS) (hL : LW S) (q : KQ C S) : X mL_holds 0 (xEnt mL_holds [xR (0, 0, 0), xI 0, xI 0, xI 24, xI 0]) [] (hp S) 6 36 (pK S (-900002)) := by
  have h6 : S.1 (0, 0, 0) 6 = 1 := hL.2.2.2.2.2.1
  have c4 := wf4_2 hL.1.1
  have c9 := wf9_3 hL.1.1 (b := 0) (by decide) (by decide)
  have e9 : S.1 (9, 0, 0) 3 = C.1 (9, 0, 0) 3 := congrFun (q.k (k := 9) rfl (by decide) 0 0) 3
  have e4 : S.1 (4, 0, 0) 2 = C.1 (4, 0, 0) 2 := congrFun (q.k (k := 4) rfl (by decide) 0 0) 2
  refine X.weak (wo_holds S hL.i 0 0 24 0 ⟨by omega, by omega⟩ ⟨by omega, by omega⟩ ⟨by omega, by omega⟩ ⟨by omega, by omega⟩) (Nat.le_refl _) (Nat.le_refl _) (fun _ _ z => WO.k (fun k v D hR => ?_) z)
  rcases hR with ⟨rfl, g1, g2, rfl, hD⟩ | ⟨rfl, g1, hD⟩ | ⟨rfl, g1, g2, hD⟩
  · exfalso; omega
  · exfalso; omega
  · exact ⟨hD, by rw [if_neg (by decide)]; decide⟩
set_option maxHeartbeats 4000000 in
set_option maxRecDepth 100000 in
theorem e_holds4 (C S : XS) (hL : LW S) (q : KQ C S) : X mL_holds 0 (xEnt mL_holds [xR (0, 0, 0), xI 0, xI 0, xI 0, xI 384]) [] (hp S) 6 36 (pK S (-900002)) := by
  have h6 : S.1 (0, 0, 0) 6 = 1 := hL.2.2.2.2.2.1
  have c4 := wf4_2 hL.1.1
  have c9 := wf9_3 hL.1.1 (b := 0) (by decide) (by decide)
  have e9 : S.1 (9, 0, 0) 3 = C.1 (9, 0, 0) 3 := congrFun (q.k (k := 9) rfl (by decide) 0 0) 3
  have e4 : S.1 (4, 0, 0) 2 = C.1 (4, 0, 0) 2 := congrFun (q.k (k := 4) rfl (by decide) 0 0) 2
  refine X.weak (wo_holds S hL.i 0 0 0 384 ⟨by omega, by omega⟩ ⟨by omega, by omega⟩ ⟨by omega, by omega⟩ ⟨by omega, by omega⟩) (Nat.le_refl _) (Nat.le_refl _) (fun _ _ z => WO.k (fun k v D hR => ?_) z)
  rcases hR with ⟨rfl, g1, g2, rfl, hD⟩ | ⟨rfl, g1, hD⟩ | ⟨rfl, g1, g2, hD⟩
  · exfalso; omega
  · exfalso; omega
  · exact ⟨hD, by rw [if_neg (by decide)]; decide⟩
set_option maxHeartbeats 4000000 in
set_option maxRecDepth 100000 in
theorem e_count1 (C S : XS) (hL : LW S) (q : KQ C S) : X mL_count 0 (xEnt mL_count [xR (0, 0, 0), xI 0, xI (-1), xI 0, xI 0]) [] (hp S) 6 36 (pK S (-900001)) := by
  have h6 : S.1 (0, 0, 0) 6 = 1 := hL.2.2.2.2.2.1
  have c4 := wf4_2 hL.1.1
  have c9 := wf9_3 hL.1.1 (b := 0) (by decide) (by decide)
  have e9 : S.1 (9, 0, 0) 3 = C.1 (9, 0, 0) 3 := congrFun (q.k (k := 9) rfl (by decide) 0 0) 3
  have e4 : S.1 (4, 0, 0) 2 = C.1 (4, 0, 0) 2 := congrFun (q.k (k := 4) rfl (by decide) 0 0) 2
  refine X.weak (wo_count S hL.i 0 (-1) 0 0 ⟨by omega, by omega⟩ ⟨by omega, by omega⟩ ⟨by omega, by omega⟩ ⟨by omega, by omega⟩) (Nat.le_refl _) (Nat.le_refl _) (fun _ _ z => WO.k (fun k v D hR => ?_) z)
  rcases hR with ⟨rfl, g1, g2, rfl, hD⟩ | ⟨rfl, g1, hD⟩ | ⟨rfl, g1, g2, hD⟩
  · exfalso; omega
  · exact ⟨hD, by rw [if_neg (by decide)]; decide⟩
  · exfalso; omega
set_option maxHeartbeats 4000000 in
set_option maxRecDepth 100000 in
theorem e_count2 (C S : XS) (hL : LW S) (q : KQ C S) : X mL_count 0 (xEnt mL_count [xR (0, 0, 0), xI 0, xI 0, xI 0, xI 6]) [] (hp S) 6 36 (pK S (-900002)) := by
  have h6 : S.1 (0, 0, 0) 6 = 1 := hL.2.2.2.2.2.1
  have c4 := wf4_2 hL.1.1
  have c9 := wf9_3 hL.1.1 (b := 0) (by decide) (by decide)
  have e9 : S.1 (9, 0, 0) 3 = C.1 (9, 0, 0) 3 := congrFun (q.k (k := 9) rfl (by decide) 0 0) 3
  have e4 : S.1 (4, 0, 0) 2 = C.1 (4, 0, 0) 2 := congrFun (q.k (k := 4) rfl (by decide) 0 0) 2
  refine X.weak (wo_count S hL.i 0 0 0 6 ⟨by omega, by omega⟩ ⟨by omega, by omega⟩ ⟨by omega, by omega⟩ ⟨by omega, by omega⟩) (Nat.le_refl _) (Nat.le_refl _) (fun _ _ z => WO.k (fun k v D hR => ?_) z)
  rcases hR with ⟨rfl, g1, g2, rfl, hD⟩ | ⟨rfl, g1, hD⟩ | ⟨rfl, g1, g2, hD⟩
  · exfalso; omega
  · exfalso; omega
  · exact ⟨hD, by rw [if_neg (by decide)]; decide⟩
set_option maxHeartbeats 4000000 in
set_option maxRecDepth 100000 in
theorem e_rank (C S : XS) (hL : LW S) (q : KQ C S) : X mL_rank 0 (xEnt mL_rank [xR (0, 0, 0), xI 0, xI 0, xI (-1), xI 0]) [] (hp S) 6 36 (pK S (-900002)) := by
  have h6 : S.1 (0, 0, 0) 6 = 1 := hL.2.2.2.2.2.1
  have c4 := wf4_2 hL.1.1
  have c9 := wf9_3 hL.1.1 (b := 0) (by decide) (by decide)
  have e9 : S.1 (9, 0, 0) 3 = C.1 (9, 0, 0) 3 := congrFun (q.k (k := 9) rfl (by decide) 0 0) 3
  have e4 : S.1 (4, 0, 0) 2 = C.1 (4, 0, 0) 2 := congrFun (q.k (k := 4) rfl (by decide) 0 0) 2
  refine X.weak (wo_rank S hL.i 0 0 (-1) 0 ⟨by omega, by omega⟩ ⟨by omega, by omega⟩ ⟨by omega, by omega⟩ ⟨by omega, by omega⟩) (Nat.le_refl _) (Nat.le_refl _) (fun _ _ z => WO.k (fun k v D hR => ?_) z)
  rcases hR with ⟨rfl, g1, g2, g3, rk1, ru, wy, hr1, rfl, hD⟩ | ⟨rfl, g1, hD⟩ | ⟨rfl, g1, g2, hD⟩ | ⟨rfl, g1, g2, g3, hD⟩
  · exfalso; omega
  · exfalso; omega
  · exact ⟨hD, by rw [if_neg (by decide)]; decide⟩
  · exfalso; omega
set_option maxHeartbeats 4000000 in
set_option maxRecDepth 100000 in
theorem e_tell1 (C S : XS) (hL : LW S) (q : KQ C S) : X mL_tell 0 (xEnt mL_tell [xR (0, 0, 0), xI 1, xI 0, xI 0, xI 0]) [] (hp S) 6 36 (pK S (-900001)) := by
  have h6 : S.1 (0, 0, 0) 6 = 1 := hL.2.2.2.2.2.1
  have c4 := wf4_2 hL.1.1
  have c9 := wf9_3 hL.1.1 (b := 0) (by decide) (by decide)
  have e9 : S.1 (9, 0, 0) 3 = C.1 (9, 0, 0) 3 := congrFun (q.k (k := 9) rfl (by decide) 0 0) 3
  have e4 : S.1 (4, 0, 0) 2 = C.1 (4, 0, 0) 2 := congrFun (q.k (k := 4) rfl (by decide) 0 0) 2
  refine X.weak (wo_tell S hL.i 1 0 0 0 ⟨by omega, by omega⟩ ⟨by omega, by omega⟩ ⟨by omega, by omega⟩ ⟨by omega, by omega⟩) (Nat.le_refl _) (Nat.le_refl _) (fun _ _ z => WO.k (fun k v D hR => ?_) z)
  rcases hR with ⟨rfl, g1, g2, g3, g4, rfl, hD⟩ | ⟨rfl, g1, hD⟩ | ⟨rfl, g1, g2, hD⟩ | ⟨rfl, g1, g2, g3, hD⟩ | ⟨rfl, g1, g2, g3, g4, hD⟩
  · exfalso; omega
  · exact ⟨hD, by rw [if_neg (by decide)]; decide⟩
  · exfalso; omega
  · exfalso; omega
  · exfalso; omega
set_option maxHeartbeats 4000000 in
set_option maxRecDepth 100000 in
theorem e_tell2 (C S : XS) (hL : LW S) (q : KQ C S) : X mL_tell 0 (xEnt mL_tell [xR (0, 0, 0), xI 0, xI 384, xI 0, xI 0]) [] (hp S) 6 36 (pK S (-900002)) := by
  have h6 : S.1 (0, 0, 0) 6 = 1 := hL.2.2.2.2.2.1
  have c4 := wf4_2 hL.1.1
  have c9 := wf9_3 hL.1.1 (b := 0) (by decide) (by decide)
  have e9 : S.1 (9, 0, 0) 3 = C.1 (9, 0, 0) 3 := congrFun (q.k (k := 9) rfl (by decide) 0 0) 3
  have e4 : S.1 (4, 0, 0) 2 = C.1 (4, 0, 0) 2 := congrFun (q.k (k := 4) rfl (by decide) 0 0) 2
  refine X.weak (wo_tell S hL.i 0 384 0 0 ⟨by omega, by omega⟩ ⟨by omega, by omega⟩ ⟨by omega, by omega⟩ ⟨by omega, by omega⟩) (Nat.le_refl _) (Nat.le_refl _) (fun _ _ z => WO.k (fun k v D hR => ?_) z)
  rcases hR with ⟨rfl, g1, g2, g3, g4, rfl, hD⟩ | ⟨rfl, g1, hD⟩ | ⟨rfl, g1, g2, hD⟩ | ⟨rfl, g1, g2, g3, hD⟩ | ⟨rfl, g1, g2, g3, g4, hD⟩
  · exfalso; omega
  · exfalso; omega
  · exact ⟨hD, by rw [if_neg (by decide)]; decide⟩
  · exfalso; omega
  · exfalso; omega
set_option maxHeartbeats 4000000 in
set_option maxRecDepth 100000 in
theorem e_tell3 (C S : XS) (hL : LW S) (q : KQ C S) : X mL_tell 0 (xEnt mL_tell [xR (0, 0, 0), xI 0, xI 0, xI 5, xI 4]) [] (hp S) 6 36 (pK S (-900002)) := by
  have h6 : S.1 (0, 0, 0) 6 = 1 := hL.2.2.2.2.2.1
  have c4 := wf4_2 hL.1.1
  have c9 := wf9_3 hL.1.1 (b := 0) (by decide) (by decide)
  have e9 : S.1 (9, 0, 0) 3 = C.1 (9, 0, 0) 3 := congrFun (q.k (k := 9) rfl (by decide) 0 0) 3
  have e4 : S.1 (4, 0, 0) 2 = C.1 (4, 0, 0) 2 := congrFun (q.k (k := 4) rfl (by decide) 0 0) 2
  refine X.weak (wo_tell S hL.i 0 0 5 4 ⟨by omega, by omega⟩ ⟨by omega, by omega⟩ ⟨by omega, by omega⟩ ⟨by omega, by omega⟩) (Nat.le_refl _) (Nat.le_refl _) (fun _ _ z => WO.k (fun k v D hR => ?_) z)
  rcases hR with ⟨rfl, g1, g2, g3, g4, rfl, hD⟩ | ⟨rfl, g1, hD⟩ | ⟨rfl, g1, g2, hD⟩ | ⟨rfl, g1, g2, g3, hD⟩ | ⟨rfl, g1, g2, g3, g4, hD⟩
  · exfalso; omega
  · exfalso; omega
  · exact ⟨hD, by rw [if_neg (by decide)]; decide⟩
  · exfalso; omega
  · exfalso; omega
set_option maxHeartbeats 4000000 in
set_option maxRecDepth 100000 in
theorem e_untell (C S : XS) (hL : LW S) (q : KQ C S) : X mL_untell 0 (xEnt mL_untell [xR (0, 0, 0), xI 0, xI 0, xI 0, xI 24]) [] (hp S) 6 36 (pK S (-900002)) := by
  have h6 : S.1 (0, 0, 0) 6 = 1 := hL.2.2.2.2.2.1
  have c4 := wf4_2 hL.1.1
  have c9 := wf9_3 hL.1.1 (b := 0) (by decide) (by decide)
  have e9 : S.1 (9, 0, 0) 3 = C.1 (9, 0, 0) 3 := congrFun (q.k (k := 9) rfl (by decide) 0 0) 3
  have e4 : S.1 (4, 0, 0) 2 = C.1 (4, 0, 0) 2 := congrFun (q.k (k := 4) rfl (by decide) 0 0) 2
  refine X.weak (wo_untell S hL.i 0 0 0 24 ⟨by omega, by omega⟩ ⟨by omega, by omega⟩ ⟨by omega, by omega⟩ ⟨by omega, by omega⟩) (Nat.le_refl _) (Nat.le_refl _) (fun _ _ z => WO.k (fun k v D hR => ?_) z)
  rcases hR with ⟨rfl, g1, g2, g3, rfl, hD⟩ | ⟨rfl, g1, hD⟩ | ⟨rfl, g1, g2, hD⟩ | ⟨rfl, g1, g2, g3, hD⟩
  · exfalso; omega
  · exfalso; omega
  · exact ⟨hD, by rw [if_neg (by decide)]; decide⟩
  · exfalso; omega
set_option maxHeartbeats 4000000 in
set_option maxRecDepth 100000 in
theorem e_turn (C S : XS) (hL : LW S) (q : KQ C S) : X mL_turn 0 (xEnt mL_turn [xR (0, 0, 0), xI 0, xI (C.1 (4, 0, 0) 2), xI 1]) [] (hp S) 6 36 (pK S (-900001)) := by
  have h6 : S.1 (0, 0, 0) 6 = 1 := hL.2.2.2.2.2.1
  have c4 := wf4_2 hL.1.1
  have c9 := wf9_3 hL.1.1 (b := 0) (by decide) (by decide)
  have e9 : S.1 (9, 0, 0) 3 = C.1 (9, 0, 0) 3 := congrFun (q.k (k := 9) rfl (by decide) 0 0) 3
  have e4 : S.1 (4, 0, 0) 2 = C.1 (4, 0, 0) 2 := congrFun (q.k (k := 4) rfl (by decide) 0 0) 2
  refine X.weak (wo_turn S hL.i 0 (C.1 (4, 0, 0) 2) 1 ⟨by omega, by omega⟩ ⟨by omega, by omega⟩ (Or.inr rfl)) (Nat.le_refl _) (Nat.le_refl _) (fun _ _ z => WO.k (fun k v D hR => ?_) z)
  rcases hR with ⟨rfl, g1, g2, g3, rfl, hD⟩ | ⟨rfl, g1, hD⟩ | ⟨rfl, g1, g2, hD⟩ | ⟨rfl, g1, g2, g3, hD⟩
  · exfalso; omega
  · exact ⟨hD, by rw [if_neg (by decide)]; decide⟩
  · exfalso; omega
  · exfalso; omega
set_option maxHeartbeats 4000000 in
set_option maxRecDepth 100000 in
theorem e_isOn (C S : XS) (hL : LW S) (q : KQ C S) : X mL_isOn 0 (xEnt mL_isOn [xR (0, 0, 0), xI 0, xI 0, xI (C.1 (9, 0, 0) 3 + 1)]) [] (hp S) 6 36 (pK S (-900001)) := by
  have h6 : S.1 (0, 0, 0) 6 = 1 := hL.2.2.2.2.2.1
  have c4 := wf4_2 hL.1.1
  have c9 := wf9_3 hL.1.1 (b := 0) (by decide) (by decide)
  have e9 : S.1 (9, 0, 0) 3 = C.1 (9, 0, 0) 3 := congrFun (q.k (k := 9) rfl (by decide) 0 0) 3
  have e4 : S.1 (4, 0, 0) 2 = C.1 (4, 0, 0) 2 := congrFun (q.k (k := 4) rfl (by decide) 0 0) 2
  refine X.weak (wo_isOn S hL.i 0 0 (C.1 (9, 0, 0) 3 + 1) ⟨by omega, by omega⟩ ⟨by omega, by omega⟩ ⟨by omega, by omega⟩) (Nat.le_refl _) (Nat.le_refl _) (fun _ _ z => WO.k (fun k v D hR => ?_) z)
  rcases hR with ⟨rfl, g1, rfl, hD⟩ | ⟨rfl, g1, hD⟩
  · exfalso; omega
  · exact ⟨hD, by rw [if_neg (by decide)]; decide⟩
set_option maxHeartbeats 4000000 in
set_option maxRecDepth 100000 in
theorem e_layer (C S : XS) (hL : LW S) (q : KQ C S) : X mL_layer 0 (xEnt mL_layer [xR (0, 0, 0), xI 0, xI 6]) [] (hp S) 6 36 (pK S (-900002)) := by
  have h6 : S.1 (0, 0, 0) 6 = 1 := hL.2.2.2.2.2.1
  have c4 := wf4_2 hL.1.1
  have c9 := wf9_3 hL.1.1 (b := 0) (by decide) (by decide)
  have e9 : S.1 (9, 0, 0) 3 = C.1 (9, 0, 0) 3 := congrFun (q.k (k := 9) rfl (by decide) 0 0) 3
  have e4 : S.1 (4, 0, 0) 2 = C.1 (4, 0, 0) 2 := congrFun (q.k (k := 4) rfl (by decide) 0 0) 2
  refine X.weak (wo_layer S hL.i 0 6 ⟨by omega, by omega⟩ ⟨by omega, by omega⟩) (Nat.le_refl _) (Nat.le_refl _) (fun _ _ z => WO.k (fun k v D hR => ?_) z)
  rcases hR with ⟨rfl, g1, g2, g1r, hg1, rfl, hD⟩ | ⟨rfl, g1, hD⟩ | ⟨rfl, g1, g2, hD⟩
  · exfalso; omega
  · exfalso; omega
  · exact ⟨hD, by rw [if_neg (by decide)]; decide⟩
set_option maxHeartbeats 4000000 in
set_option maxRecDepth 100000 in
theorem e_knowing (C S : XS) (hL : LW S) (q : KQ C S) : X mL_knowing 0 (xEnt mL_knowing [xR (0, 0, 0), xI (-1)]) [] (hp S) 6 36 (pK S (-900001)) := by
  have h6 : S.1 (0, 0, 0) 6 = 1 := hL.2.2.2.2.2.1
  have c4 := wf4_2 hL.1.1
  have c9 := wf9_3 hL.1.1 (b := 0) (by decide) (by decide)
  have e9 : S.1 (9, 0, 0) 3 = C.1 (9, 0, 0) 3 := congrFun (q.k (k := 9) rfl (by decide) 0 0) 3
  have e4 : S.1 (4, 0, 0) 2 = C.1 (4, 0, 0) 2 := congrFun (q.k (k := 4) rfl (by decide) 0 0) 2
  refine X.weak (wo_knowing S hL.i (-1) ⟨by omega, by omega⟩) (Nat.le_refl _) (Nat.le_refl _) (fun _ _ z => WO.k (fun k v D hR => ?_) z)
  rcases hR with ⟨rfl, g1, rfl, hD⟩ | ⟨rfl, g1, hD⟩
  · exfalso; omega
  · exact ⟨hD, by rw [if_neg (by decide)]; decide⟩
set_option maxHeartbeats 4000000 in
set_option maxRecDepth 100000 in
theorem e_addRule1 (C S : XS) (hL : LW S) (q : KQ C S) : X mL_addRule 0 (xEnt mL_addRule [xR (0, 0, 0), xI 6, xI 0, xI 0, xI 0, xI 0, xI 0]) [] (hp S) 6 36 (pK S (-900001)) := by
  have h6 : S.1 (0, 0, 0) 6 = 1 := hL.2.2.2.2.2.1
  have c4 := wf4_2 hL.1.1
  have c9 := wf9_3 hL.1.1 (b := 0) (by decide) (by decide)
  have e9 : S.1 (9, 0, 0) 3 = C.1 (9, 0, 0) 3 := congrFun (q.k (k := 9) rfl (by decide) 0 0) 3
  have e4 : S.1 (4, 0, 0) 2 = C.1 (4, 0, 0) 2 := congrFun (q.k (k := 4) rfl (by decide) 0 0) 2
  refine X.weak (wo_addRule S hL.i 6 0 0 0 0 0 ⟨by omega, by omega⟩ ⟨by omega, by omega⟩ ⟨by omega, by omega⟩ ⟨by omega, by omega⟩ ⟨by omega, by omega⟩ ⟨by omega, by omega⟩) (Nat.le_refl _) (Nat.le_refl _) (fun _ _ z => WO.k (fun k v D hR => ?_) z)
  rcases hR with ⟨rfl, g1, g2, rfl, hD⟩ | ⟨rfl, g1, hD⟩ | ⟨rfl, g1, g2, hD⟩
  · exfalso; omega
  · exact ⟨hD, by rw [if_neg (by decide)]; decide⟩
  · exfalso; omega
set_option maxHeartbeats 4000000 in
set_option maxRecDepth 100000 in
theorem e_addRule2 (C S : XS) (hL : LW S) (q : KQ C S) : X mL_addRule 0 (xEnt mL_addRule [xR (0, 0, 0), xI 0, xI 0, xI 3, xI 0, xI 0, xI 0]) [] (hp S) 6 36 (pK S (-900001)) := by
  have h6 : S.1 (0, 0, 0) 6 = 1 := hL.2.2.2.2.2.1
  have c4 := wf4_2 hL.1.1
  have c9 := wf9_3 hL.1.1 (b := 0) (by decide) (by decide)
  have e9 : S.1 (9, 0, 0) 3 = C.1 (9, 0, 0) 3 := congrFun (q.k (k := 9) rfl (by decide) 0 0) 3
  have e4 : S.1 (4, 0, 0) 2 = C.1 (4, 0, 0) 2 := congrFun (q.k (k := 4) rfl (by decide) 0 0) 2
  refine X.weak (wo_addRule S hL.i 0 0 3 0 0 0 ⟨by omega, by omega⟩ ⟨by omega, by omega⟩ ⟨by omega, by omega⟩ ⟨by omega, by omega⟩ ⟨by omega, by omega⟩ ⟨by omega, by omega⟩) (Nat.le_refl _) (Nat.le_refl _) (fun _ _ z => WO.k (fun k v D hR => ?_) z)
  rcases hR with ⟨rfl, g1, g2, rfl, hD⟩ | ⟨rfl, g1, hD⟩ | ⟨rfl, g1, g2, hD⟩
  · exfalso; omega
  · exact ⟨hD, by rw [if_neg (by decide)]; decide⟩
  · exfalso; omega
set_option maxHeartbeats 4000000 in
set_option maxRecDepth 100000 in
theorem e_addCond1 (C S : XS) (hL : LW S) (q : KQ C S) : X mL_addCondition 0 (xEnt mL_addCondition [xR (0, 0, 0), xI (C.1 (4, 0, 0) 2), xI 0, xI 0, xI 0, xI 0]) [] (hp S) 6 36 (pK S (-900001)) := by
  have h6 : S.1 (0, 0, 0) 6 = 1 := hL.2.2.2.2.2.1
  have c4 := wf4_2 hL.1.1
  have c9 := wf9_3 hL.1.1 (b := 0) (by decide) (by decide)
  have e9 : S.1 (9, 0, 0) 3 = C.1 (9, 0, 0) 3 := congrFun (q.k (k := 9) rfl (by decide) 0 0) 3
  have e4 : S.1 (4, 0, 0) 2 = C.1 (4, 0, 0) 2 := congrFun (q.k (k := 4) rfl (by decide) 0 0) 2
  refine X.weak (wo_addCondition S hL.i (C.1 (4, 0, 0) 2) 0 0 0 0 ⟨by omega, by omega⟩ ⟨by omega, by omega⟩ ⟨by omega, by omega⟩ ⟨by omega, by omega⟩ (Or.inl rfl)) (Nat.le_refl _) (Nat.le_refl _) (fun _ _ z => WO.k (fun k v D hR => ?_) z)
  rcases hR with ⟨rfl, g1, g2, g3, rfl, hD⟩ | ⟨rfl, g1, hD⟩ | ⟨rfl, g1, g2, hD⟩ | ⟨rfl, g1, g2, g3, hD⟩
  · exfalso; omega
  · exact ⟨hD, by rw [if_neg (by decide)]; decide⟩
  · exfalso; omega
  · exfalso; omega
set_option maxHeartbeats 4000000 in
set_option maxRecDepth 100000 in
theorem e_addCond2 (C S : XS) (hL : LW S) (q : KQ C S) (h4 : 1 ≤ C.1 (4, 0, 0) 2) : X mL_addCondition 0 (xEnt mL_addCondition [xR (0, 0, 0), xI 0, xI 0, xI 0, xI 3, xI 0]) [] (hp S) 6 36 (pK S (-900002)) := by
  have h6 : S.1 (0, 0, 0) 6 = 1 := hL.2.2.2.2.2.1
  have c4 := wf4_2 hL.1.1
  have c9 := wf9_3 hL.1.1 (b := 0) (by decide) (by decide)
  have e9 : S.1 (9, 0, 0) 3 = C.1 (9, 0, 0) 3 := congrFun (q.k (k := 9) rfl (by decide) 0 0) 3
  have e4 : S.1 (4, 0, 0) 2 = C.1 (4, 0, 0) 2 := congrFun (q.k (k := 4) rfl (by decide) 0 0) 2
  refine X.weak (wo_addCondition S hL.i 0 0 0 3 0 ⟨by omega, by omega⟩ ⟨by omega, by omega⟩ ⟨by omega, by omega⟩ ⟨by omega, by omega⟩ (Or.inl rfl)) (Nat.le_refl _) (Nat.le_refl _) (fun _ _ z => WO.k (fun k v D hR => ?_) z)
  rcases hR with ⟨rfl, g1, g2, g3, rfl, hD⟩ | ⟨rfl, g1, hD⟩ | ⟨rfl, g1, g2, hD⟩ | ⟨rfl, g1, g2, g3, hD⟩
  · exfalso; omega
  · exfalso; omega
  · exact ⟨hD, by rw [if_neg (by decide)]; decide⟩
  · exfalso; omega
set_option maxHeartbeats 4000000 in
set_option maxRecDepth 100000 in
theorem e_setU (C S : XS) (hL : LW S) (q : KQ C S) : X mL_setUnique 0 (xEnt mL_setUnique [xR (0, 0, 0), xI 6, xI 1]) [] (hp S) 6 36 (pK S (-900001)) := by
  have h6 : S.1 (0, 0, 0) 6 = 1 := hL.2.2.2.2.2.1
  have c4 := wf4_2 hL.1.1
  have c9 := wf9_3 hL.1.1 (b := 0) (by decide) (by decide)
  have e9 : S.1 (9, 0, 0) 3 = C.1 (9, 0, 0) 3 := congrFun (q.k (k := 9) rfl (by decide) 0 0) 3
  have e4 : S.1 (4, 0, 0) 2 = C.1 (4, 0, 0) 2 := congrFun (q.k (k := 4) rfl (by decide) 0 0) 2
  refine X.weak (wo_setUnique S hL.i 6 1 ⟨by omega, by omega⟩ (Or.inr rfl)) (Nat.le_refl _) (Nat.le_refl _) (fun _ _ z => WO.k (fun k v D hR => ?_) z)
  rcases hR with ⟨rfl, g1, rfl, hD⟩ | ⟨rfl, g1, hD⟩
  · exfalso; omega
  · exact ⟨hD, by rw [if_neg (by decide)]; decide⟩
theorem fn_32 {x : UInt32} (h : vf_n32 x) : x.toNat % 2147483648 ≤ 2139095040 := by
  unfold vf_n32 at h
  rw [UInt32.le_iff_toNat_le, UInt32.toNat_and] at h
  have e : x.toNat &&& 2147483647 = x.toNat % 2147483648 := by
    rw [show (2147483647 : Nat) = 2 ^ 31 - 1 from rfl, Nat.and_two_pow_sub_one_eq_mod]
  have h2 : x.toNat &&& 2147483647 ≤ 2139095040 := h
  omega
theorem fn_64 {x : UInt64} (h : vf_n64 x) : x.toNat % 9223372036854775808 ≤ 9218868437227405312 := by
  unfold vf_n64 at h
  rw [UInt64.le_iff_toNat_le, UInt64.toNat_and] at h
  have e : x.toNat &&& 9223372036854775807 = x.toNat % 9223372036854775808 := by
    rw [show (9223372036854775807 : Nat) = 2 ^ 63 - 1 from rfl, Nat.and_two_pow_sub_one_eq_mod]
  have h2 : x.toNat &&& 9223372036854775807 ≤ 9218868437227405312 := h
  omega
theorem fn_ord {d : FP.Core.Datum} (h : d ≠ .nan) : FP.Core.order d d = some .eq := by
  have c : ∀ i : Int, compare i i = .eq := fun i => by simp [compare, compareOfLessAndEq]
  cases d with
  | nan => exact absurd rfl h
  | inf s => exact congrArg some (c _)
  | fin s a b => exact congrArg some (c _)
theorem fcmp_self {x : UInt32} (h : vf_n32 x) : (Op.cmpValue (FP.fcmp x x) .l).toInt = 0 := by
  have e : FP.fcmp x x = some .eq := fn_ord (fn_dec32 (fn_32 h))
  rw [e]
  rfl
theorem dcmp_self {x : UInt64} (h : vf_n64 x) : (Op.cmpValue (FP.dcmp x x) .l).toInt = 0 := by
  have e : FP.dcmp x x = some .eq := fn_ord (fn_dec64 (fn_64 h))
  rw [e]
  rfl
