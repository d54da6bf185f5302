/-! each kind of cell: what lies there -/
theorem dm0 (S : XS) : xdm S.2.2.2 (0, 0, 0) := ⟨rfl, rfl⟩
theorem hp0 (S : XS) : hp S (0, 0, 0) = some (.inl (8, [xR (1, 0, 0), xR (2, 0, 0), xR (3, 0, 0), xR (4, 0, 0), xR (5, 0, 0), xR (6, 0, 0), xI (S.1 (0, 0, 0) 6), xI (S.1 (0, 0, 0) 7), xI (S.1 (0, 0, 0) 8)])) := hp_of (dm0 S)
theorem pu0_6 (S : XS) (v : Int) : hp (putI S (0, 0, 0) 6 v) = xUp (hp S) (0, 0, 0) (.inl (8, [xR (1, 0, 0), xR (2, 0, 0), xR (3, 0, 0), xR (4, 0, 0), xR (5, 0, 0), xR (6, 0, 0), xI v, xI (S.1 (0, 0, 0) 7), xI (S.1 (0, 0, 0) 8)])) := hp_putI (dm0 S) rfl
theorem pu0_7 (S : XS) (v : Int) : hp (putI S (0, 0, 0) 7 v) = xUp (hp S) (0, 0, 0) (.inl (8, [xR (1, 0, 0), xR (2, 0, 0), xR (3, 0, 0), xR (4, 0, 0), xR (5, 0, 0), xR (6, 0, 0), xI (S.1 (0, 0, 0) 6), xI v, xI (S.1 (0, 0, 0) 8)])) := hp_putI (dm0 S) rfl
theorem pu0_8 (S : XS) (v : Int) : hp (putI S (0, 0, 0) 8 v) = xUp (hp S) (0, 0, 0) (.inl (8, [xR (1, 0, 0), xR (2, 0, 0), xR (3, 0, 0), xR (4, 0, 0), xR (5, 0, 0), xR (6, 0, 0), xI (S.1 (0, 0, 0) 6), xI (S.1 (0, 0, 0) 7), xI v])) := hp_putI (dm0 S) rfl
theorem dm1 (S : XS) : xdm S.2.2.2 (1, 0, 0) := ⟨rfl, rfl⟩
theorem hp1 (S : XS) : hp S (1, 0, 0) = some (.inr (7, 4, .inr (.inr (.inr (fun b => some (9, b, 0)))))) := hp_of (dm1 S)
theorem dm2 (S : XS) : xdm S.2.2.2 (2, 0, 0) := ⟨rfl, rfl⟩
theorem hp2 (S : XS) : hp S (2, 0, 0) = some (.inr (8, 5, .inr (.inr (.inr (fun b => some (14, b, 0)))))) := hp_of (dm2 S)
theorem dm3 (S : XS) : xdm S.2.2.2 (3, 0, 0) := ⟨rfl, rfl⟩
theorem hp3 (S : XS) : hp S (3, 0, 0) = some (.inr (2, 6, .inl (S.1 (3, 0, 0)))) := hp_of (dm3 S)
theorem pa3 (S : XS) (i v : Int) : hp (putI S (3, 0, 0) i v) = xUp (hp S) (3, 0, 0) (.inr (2, 6, .inl (xUpd (S.1 (3, 0, 0)) i v))) := hp_putI (dm3 S) rfl
theorem dm4 (S : XS) : xdm S.2.2.2 (4, 0, 0) := ⟨rfl, rfl⟩
theorem hp4 (S : XS) : hp S (4, 0, 0) = some (.inl (5, [xR (32, 0, 0), xR (33, 0, 0), xI (S.1 (4, 0, 0) 2)])) := hp_of (dm4 S)
theorem pu4_2 (S : XS) (v : Int) : hp (putI S (4, 0, 0) 2 v) = xUp (hp S) (4, 0, 0) (.inl (5, [xR (32, 0, 0), xR (33, 0, 0), xI v])) := hp_putI (dm4 S) rfl
theorem dm5 (S : XS) : xdm S.2.2.2 (5, 0, 0) := ⟨rfl, rfl⟩
theorem hp5 (S : XS) : hp S (5, 0, 0) = some (.inl (3, [xR (7, 0, 0), xR (40, 0, 0), xR (41, 0, 0), xR (42, 0, 0), xR (43, 0, 0), xR (44, 0, 0), xR (45, 0, 0), xR (46, 0, 0)])) := hp_of (dm5 S)
theorem dm6 (S : XS) : xdm S.2.2.2 (6, 0, 0) := ⟨rfl, rfl⟩
theorem hp6 (S : XS) : hp S (6, 0, 0) = some (.inl (6, [xR (16, 0, 0), xR (26, 0, 0), xI (S.1 (6, 0, 0) 2)])) := hp_of (dm6 S)
theorem pu6_2 (S : XS) (v : Int) : hp (putI S (6, 0, 0) 2 v) = xUp (hp S) (6, 0, 0) (.inl (6, [xR (16, 0, 0), xR (26, 0, 0), xI v])) := hp_putI (dm6 S) rfl
theorem dm7 (S : XS) : xdm S.2.2.2 (7, 0, 0) := ⟨rfl, rfl⟩
theorem hp7 (S : XS) : hp S (7, 0, 0) = some (.inl (6, [xR (17, 0, 0), xR (27, 0, 0), xI (S.1 (7, 0, 0) 2)])) := hp_of (dm7 S)
theorem pu7_2 (S : XS) (v : Int) : hp (putI S (7, 0, 0) 2 v) = xUp (hp S) (7, 0, 0) (.inl (6, [xR (17, 0, 0), xR (27, 0, 0), xI v])) := hp_putI (dm7 S) rfl
theorem dm8 (S : XS) {b t : Int} (h1 : 0 ≤ b) (h2 : b < 4) (h3 : 0 ≤ t) (h4 : t < 24) : xdm S.2.2.2 (8, b, t) := ⟨h1, h2, h3, h4⟩
theorem hp8 (S : XS) {b t : Int} (h1 : 0 ≤ b) (h2 : b < 4) (h3 : 0 ≤ t) (h4 : t < 24) : hp S (8, b, t) = some (.inl (6, [xR (18, b, t), xR (28, b, t), xI (S.1 (8, b, t) 2)])) := hp_of (dm8 S h1 h2 h3 h4)
theorem pu8_2 (S : XS) {b t : Int} (h1 : 0 ≤ b) (h2 : b < 4) (h3 : 0 ≤ t) (h4 : t < 24) (v : Int) : hp (putI S (8, b, t) 2 v) = xUp (hp S) (8, b, t) (.inl (6, [xR (18, b, t), xR (28, b, t), xI v])) := hp_putI (dm8 S h1 h2 h3 h4) rfl
theorem dm16 (S : XS) : xdm S.2.2.2 (16, 0, 0) := ⟨rfl, rfl⟩
theorem hp16 (S : XS) : hp S (16, 0, 0) = some (.inr (1, 6, .inr (.inl (S.2.1 (16, 0, 0))))) := hp_of (dm16 S)
theorem pa16 (S : XS) (i : Int) (v : Int64) : hp (putJ S (16, 0, 0) i v) = xUp (hp S) (16, 0, 0) (.inr (1, 6, .inr (.inl (xUpd (S.2.1 (16, 0, 0)) i v)))) := hp_putJ (dm16 S) rfl
theorem dm17 (S : XS) : xdm S.2.2.2 (17, 0, 0) := ⟨rfl, rfl⟩
theorem hp17 (S : XS) : hp S (17, 0, 0) = some (.inr (1, 6, .inr (.inl (S.2.1 (17, 0, 0))))) := hp_of (dm17 S)
theorem pa17 (S : XS) (i : Int) (v : Int64) : hp (putJ S (17, 0, 0) i v) = xUp (hp S) (17, 0, 0) (.inr (1, 6, .inr (.inl (xUpd (S.2.1 (17, 0, 0)) i v)))) := hp_putJ (dm17 S) rfl
theorem dm18 (S : XS) {b t : Int} (h1 : 0 ≤ b) (h2 : b < 4) (h3 : 0 ≤ t) (h4 : t < 24) : xdm S.2.2.2 (18, b, t) := ⟨h1, h2, h3, h4⟩
theorem hp18 (S : XS) {b t : Int} (h1 : 0 ≤ b) (h2 : b < 4) (h3 : 0 ≤ t) (h4 : t < 24) : hp S (18, b, t) = some (.inr (1, 6, .inr (.inl (S.2.1 (18, b, t))))) := hp_of (dm18 S h1 h2 h3 h4)
theorem pa18 (S : XS) {b t : Int} (h1 : 0 ≤ b) (h2 : b < 4) (h3 : 0 ≤ t) (h4 : t < 24) (i : Int) (v : Int64) : hp (putJ S (18, b, t) i v) = xUp (hp S) (18, b, t) (.inr (1, 6, .inr (.inl (xUpd (S.2.1 (18, b, t)) i v)))) := hp_putJ (dm18 S h1 h2 h3 h4) rfl
theorem dm26 (S : XS) : xdm S.2.2.2 (26, 0, 0) := ⟨rfl, rfl⟩
theorem hp26 (S : XS) : hp S (26, 0, 0) = some (.inr (1, 6, .inr (.inl (S.2.1 (26, 0, 0))))) := hp_of (dm26 S)
theorem pa26 (S : XS) (i : Int) (v : Int64) : hp (putJ S (26, 0, 0) i v) = xUp (hp S) (26, 0, 0) (.inr (1, 6, .inr (.inl (xUpd (S.2.1 (26, 0, 0)) i v)))) := hp_putJ (dm26 S) rfl
theorem dm27 (S : XS) : xdm S.2.2.2 (27, 0, 0) := ⟨rfl, rfl⟩
theorem hp27 (S : XS) : hp S (27, 0, 0) = some (.inr (1, 6, .inr (.inl (S.2.1 (27, 0, 0))))) := hp_of (dm27 S)
theorem pa27 (S : XS) (i : Int) (v : Int64) : hp (putJ S (27, 0, 0) i v) = xUp (hp S) (27, 0, 0) (.inr (1, 6, .inr (.inl (xUpd (S.2.1 (27, 0, 0)) i v)))) := hp_putJ (dm27 S) rfl
theorem dm28 (S : XS) {b t : Int} (h1 : 0 ≤ b) (h2 : b < 4) (h3 : 0 ≤ t) (h4 : t < 24) : xdm S.2.2.2 (28, b, t) := ⟨h1, h2, h3, h4⟩
theorem hp28 (S : XS) {b t : Int} (h1 : 0 ≤ b) (h2 : b < 4) (h3 : 0 ≤ t) (h4 : t < 24) : hp S (28, b, t) = some (.inr (1, 6, .inr (.inl (S.2.1 (28, b, t))))) := hp_of (dm28 S h1 h2 h3 h4)
theorem pa28 (S : XS) {b t : Int} (h1 : 0 ≤ b) (h2 : b < 4) (h3 : 0 ≤ t) (h4 : t < 24) (i : Int) (v : Int64) : hp (putJ S (28, b, t) i v) = xUp (hp S) (28, b, t) (.inr (1, 6, .inr (.inl (xUpd (S.2.1 (28, b, t)) i v)))) := hp_putJ (dm28 S h1 h2 h3 h4) rfl
theorem dm9 (S : XS) {b : Int} (h1 : 0 ≤ b) (h2 : b < 4) : xdm S.2.2.2 (9, b, 0) := ⟨h1, h2, rfl⟩
theorem hp9 (S : XS) {b : Int} (h1 : 0 ≤ b) (h2 : b < 4) : hp S (9, b, 0) = some (.inl (0, [xR (10, b, 0), xR (11, b, 0), xR (12, b, 0), xI (S.1 (9, b, 0) 3), xI (S.1 (9, b, 0) 4), xI (S.1 (9, b, 0) 5), xI (S.1 (9, b, 0) 6)])) := hp_of (dm9 S h1 h2)
theorem pu9_3 (S : XS) {b : Int} (h1 : 0 ≤ b) (h2 : b < 4) (v : Int) : hp (putI S (9, b, 0) 3 v) = xUp (hp S) (9, b, 0) (.inl (0, [xR (10, b, 0), xR (11, b, 0), xR (12, b, 0), xI v, xI (S.1 (9, b, 0) 4), xI (S.1 (9, b, 0) 5), xI (S.1 (9, b, 0) 6)])) := hp_putI (dm9 S h1 h2) rfl
theorem pu9_4 (S : XS) {b : Int} (h1 : 0 ≤ b) (h2 : b < 4) (v : Int) : hp (putI S (9, b, 0) 4 v) = xUp (hp S) (9, b, 0) (.inl (0, [xR (10, b, 0), xR (11, b, 0), xR (12, b, 0), xI (S.1 (9, b, 0) 3), xI v, xI (S.1 (9, b, 0) 5), xI (S.1 (9, b, 0) 6)])) := hp_putI (dm9 S h1 h2) rfl
theorem pu9_5 (S : XS) {b : Int} (h1 : 0 ≤ b) (h2 : b < 4) (v : Int) : hp (putI S (9, b, 0) 5 v) = xUp (hp S) (9, b, 0) (.inl (0, [xR (10, b, 0), xR (11, b, 0), xR (12, b, 0), xI (S.1 (9, b, 0) 3), xI (S.1 (9, b, 0) 4), xI v, xI (S.1 (9, b, 0) 6)])) := hp_putI (dm9 S h1 h2) rfl
theorem pu9_6 (S : XS) {b : Int} (h1 : 0 ≤ b) (h2 : b < 4) (v : Int) : hp (putI S (9, b, 0) 6 v) = xUp (hp S) (9, b, 0) (.inl (0, [xR (10, b, 0), xR (11, b, 0), xR (12, b, 0), xI (S.1 (9, b, 0) 3), xI (S.1 (9, b, 0) 4), xI (S.1 (9, b, 0) 5), xI v])) := hp_putI (dm9 S h1 h2) rfl
theorem dm10 (S : XS) {b : Int} (h1 : 0 ≤ b) (h2 : b < 4) : xdm S.2.2.2 (10, b, 0) := ⟨h1, h2, rfl⟩
theorem hp10 (S : XS) {b : Int} (h1 : 0 ≤ b) (h2 : b < 4) : hp S (10, b, 0) = some (.inr (5, 60, .inr (.inr (.inr (fun k => some (13, b, k)))))) := hp_of (dm10 S h1 h2)
theorem dm11 (S : XS) {b : Int} (h1 : 0 ≤ b) (h2 : b < 4) : xdm S.2.2.2 (11, b, 0) := ⟨h1, h2, rfl⟩
theorem hp11 (S : XS) {b : Int} (h1 : 0 ≤ b) (h2 : b < 4) : hp S (11, b, 0) = some (.inr (0, 61, .inl (S.1 (11, b, 0)))) := hp_of (dm11 S h1 h2)
theorem pa11 (S : XS) {b : Int} (h1 : 0 ≤ b) (h2 : b < 4) (i v : Int) : hp (putI S (11, b, 0) i v) = xUp (hp S) (11, b, 0) (.inr (0, 61, .inl (xUpd (S.1 (11, b, 0)) i v))) := hp_putI (dm11 S h1 h2) rfl
theorem dm12 (S : XS) {b : Int} (h1 : 0 ≤ b) (h2 : b < 4) : xdm S.2.2.2 (12, b, 0) := ⟨h1, h2, rfl⟩
theorem hp12 (S : XS) {b : Int} (h1 : 0 ≤ b) (h2 : b < 4) : hp S (12, b, 0) = some (.inr (6, 24, .inr (.inr (.inr (fun k => some (8, b, k)))))) := hp_of (dm12 S h1 h2)
theorem dm13 (S : XS) {b t : Int} (h1 : 0 ≤ b) (h2 : b < 4) (h3 : 0 ≤ t) (h4 : t < 60) : xdm S.2.2.2 (13, b, t) := ⟨h1, h2, h3, h4⟩
theorem hp13 (S : XS) {b t : Int} (h1 : 0 ≤ b) (h2 : b < 4) (h3 : 0 ≤ t) (h4 : t < 60) : hp S (13, b, t) = some (.inl (7, [xI (S.1 (13, b, t) 0), xI (S.1 (13, b, t) 1), xI (S.1 (13, b, t) 2), xI (S.1 (13, b, t) 3), xI (S.1 (13, b, t) 4), xI (S.1 (13, b, t) 5), xI (S.1 (13, b, t) 6), xI (S.1 (13, b, t) 7)])) := hp_of (dm13 S h1 h2 h3 h4)
theorem pu13_0 (S : XS) {b t : Int} (h1 : 0 ≤ b) (h2 : b < 4) (h3 : 0 ≤ t) (h4 : t < 60) (v : Int) : hp (putI S (13, b, t) 0 v) = xUp (hp S) (13, b, t) (.inl (7, [xI v, xI (S.1 (13, b, t) 1), xI (S.1 (13, b, t) 2), xI (S.1 (13, b, t) 3), xI (S.1 (13, b, t) 4), xI (S.1 (13, b, t) 5), xI (S.1 (13, b, t) 6), xI (S.1 (13, b, t) 7)])) := hp_putI (dm13 S h1 h2 h3 h4) rfl
theorem pu13_1 (S : XS) {b t : Int} (h1 : 0 ≤ b) (h2 : b < 4) (h3 : 0 ≤ t) (h4 : t < 60) (v : Int) : hp (putI S (13, b, t) 1 v) = xUp (hp S) (13, b, t) (.inl (7, [xI (S.1 (13, b, t) 0), xI v, xI (S.1 (13, b, t) 2), xI (S.1 (13, b, t) 3), xI (S.1 (13, b, t) 4), xI (S.1 (13, b, t) 5), xI (S.1 (13, b, t) 6), xI (S.1 (13, b, t) 7)])) := hp_putI (dm13 S h1 h2 h3 h4) rfl
theorem pu13_2 (S : XS) {b t : Int} (h1 : 0 ≤ b) (h2 : b < 4) (h3 : 0 ≤ t) (h4 : t < 60) (v : Int) : hp (putI S (13, b, t) 2 v) = xUp (hp S) (13, b, t) (.inl (7, [xI (S.1 (13, b, t) 0), xI (S.1 (13, b, t) 1), xI v, xI (S.1 (13, b, t) 3), xI (S.1 (13, b, t) 4), xI (S.1 (13, b, t) 5), xI (S.1 (13, b, t) 6), xI (S.1 (13, b, t) 7)])) := hp_putI (dm13 S h1 h2 h3 h4) rfl
theorem pu13_3 (S : XS) {b t : Int} (h1 : 0 ≤ b) (h2 : b < 4) (h3 : 0 ≤ t) (h4 : t < 60) (v : Int) : hp (putI S (13, b, t) 3 v) = xUp (hp S) (13, b, t) (.inl (7, [xI (S.1 (13, b, t) 0), xI (S.1 (13, b, t) 1), xI (S.1 (13, b, t) 2), xI v, xI (S.1 (13, b, t) 4), xI (S.1 (13, b, t) 5), xI (S.1 (13, b, t) 6), xI (S.1 (13, b, t) 7)])) := hp_putI (dm13 S h1 h2 h3 h4) rfl
theorem pu13_4 (S : XS) {b t : Int} (h1 : 0 ≤ b) (h2 : b < 4) (h3 : 0 ≤ t) (h4 : t < 60) (v : Int) : hp (putI S (13, b, t) 4 v) = xUp (hp S) (13, b, t) (.inl (7, [xI (S.1 (13, b, t) 0), xI (S.1 (13, b, t) 1), xI (S.1 (13, b, t) 2), xI (S.1 (13, b, t) 3), xI v, xI (S.1 (13, b, t) 5), xI (S.1 (13, b, t) 6), xI (S.1 (13, b, t) 7)])) := hp_putI (dm13 S h1 h2 h3 h4) rfl
theorem pu13_5 (S : XS) {b t : Int} (h1 : 0 ≤ b) (h2 : b < 4) (h3 : 0 ≤ t) (h4 : t < 60) (v : Int) : hp (putI S (13, b, t) 5 v) = xUp (hp S) (13, b, t) (.inl (7, [xI (S.1 (13, b, t) 0), xI (S.1 (13, b, t) 1), xI (S.1 (13, b, t) 2), xI (S.1 (13, b, t) 3), xI (S.1 (13, b, t) 4), xI v, xI (S.1 (13, b, t) 6), xI (S.1 (13, b, t) 7)])) := hp_putI (dm13 S h1 h2 h3 h4) rfl
theorem pu13_6 (S : XS) {b t : Int} (h1 : 0 ≤ b) (h2 : b < 4) (h3 : 0 ≤ t) (h4 : t < 60) (v : Int) : hp (putI S (13, b, t) 6 v) = xUp (hp S) (13, b, t) (.inl (7, [xI (S.1 (13, b, t) 0), xI (S.1 (13, b, t) 1), xI (S.1 (13, b, t) 2), xI (S.1 (13, b, t) 3), xI (S.1 (13, b, t) 4), xI (S.1 (13, b, t) 5), xI v, xI (S.1 (13, b, t) 7)])) := hp_putI (dm13 S h1 h2 h3 h4) rfl
theorem pu13_7 (S : XS) {b t : Int} (h1 : 0 ≤ b) (h2 : b < 4) (h3 : 0 ≤ t) (h4 : t < 60) (v : Int) : hp (putI S (13, b, t) 7 v) = xUp (hp S) (13, b, t) (.inl (7, [xI (S.1 (13, b, t) 0), xI (S.1 (13, b, t) 1), xI (S.1 (13, b, t) 2), xI (S.1 (13, b, t) 3), xI (S.1 (13, b, t) 4), xI (S.1 (13, b, t) 5), xI (S.1 (13, b, t) 6), xI v])) := hp_putI (dm13 S h1 h2 h3 h4) rfl
theorem dm14 (S : XS) {b : Int} (h1 : 0 ≤ b) (h2 : b < 5) : xdm S.2.2.2 (14, b, 0) := ⟨h1, h2, rfl⟩
theorem hp14 (S : XS) {b : Int} (h1 : 0 ≤ b) (h2 : b < 5) : hp S (14, b, 0) = some (.inl (1, [xR (30, b, 0), xR (31, b, 0), xI (S.1 (14, b, 0) 2), xI (S.1 (14, b, 0) 3), xI (S.1 (14, b, 0) 4), xJ (S.2.1 (14, b, 0) 5), xJ (S.2.1 (14, b, 0) 6), xI (S.1 (14, b, 0) 7), xI (S.1 (14, b, 0) 8), xI (S.1 (14, b, 0) 9)])) := hp_of (dm14 S h1 h2)
theorem pu14_2 (S : XS) {b : Int} (h1 : 0 ≤ b) (h2 : b < 5) (v : Int) : hp (putI S (14, b, 0) 2 v) = xUp (hp S) (14, b, 0) (.inl (1, [xR (30, b, 0), xR (31, b, 0), xI v, xI (S.1 (14, b, 0) 3), xI (S.1 (14, b, 0) 4), xJ (S.2.1 (14, b, 0) 5), xJ (S.2.1 (14, b, 0) 6), xI (S.1 (14, b, 0) 7), xI (S.1 (14, b, 0) 8), xI (S.1 (14, b, 0) 9)])) := hp_putI (dm14 S h1 h2) rfl
theorem pu14_3 (S : XS) {b : Int} (h1 : 0 ≤ b) (h2 : b < 5) (v : Int) : hp (putI S (14, b, 0) 3 v) = xUp (hp S) (14, b, 0) (.inl (1, [xR (30, b, 0), xR (31, b, 0), xI (S.1 (14, b, 0) 2), xI v, xI (S.1 (14, b, 0) 4), xJ (S.2.1 (14, b, 0) 5), xJ (S.2.1 (14, b, 0) 6), xI (S.1 (14, b, 0) 7), xI (S.1 (14, b, 0) 8), xI (S.1 (14, b, 0) 9)])) := hp_putI (dm14 S h1 h2) rfl
theorem pu14_4 (S : XS) {b : Int} (h1 : 0 ≤ b) (h2 : b < 5) (v : Int) : hp (putI S (14, b, 0) 4 v) = xUp (hp S) (14, b, 0) (.inl (1, [xR (30, b, 0), xR (31, b, 0), xI (S.1 (14, b, 0) 2), xI (S.1 (14, b, 0) 3), xI v, xJ (S.2.1 (14, b, 0) 5), xJ (S.2.1 (14, b, 0) 6), xI (S.1 (14, b, 0) 7), xI (S.1 (14, b, 0) 8), xI (S.1 (14, b, 0) 9)])) := hp_putI (dm14 S h1 h2) rfl
theorem pu14_5 (S : XS) {b : Int} (h1 : 0 ≤ b) (h2 : b < 5) (v : Int64) : hp (putJ S (14, b, 0) 5 v) = xUp (hp S) (14, b, 0) (.inl (1, [xR (30, b, 0), xR (31, b, 0), xI (S.1 (14, b, 0) 2), xI (S.1 (14, b, 0) 3), xI (S.1 (14, b, 0) 4), xJ v, xJ (S.2.1 (14, b, 0) 6), xI (S.1 (14, b, 0) 7), xI (S.1 (14, b, 0) 8), xI (S.1 (14, b, 0) 9)])) := hp_putJ (dm14 S h1 h2) rfl
theorem pu14_6 (S : XS) {b : Int} (h1 : 0 ≤ b) (h2 : b < 5) (v : Int64) : hp (putJ S (14, b, 0) 6 v) = xUp (hp S) (14, b, 0) (.inl (1, [xR (30, b, 0), xR (31, b, 0), xI (S.1 (14, b, 0) 2), xI (S.1 (14, b, 0) 3), xI (S.1 (14, b, 0) 4), xJ (S.2.1 (14, b, 0) 5), xJ v, xI (S.1 (14, b, 0) 7), xI (S.1 (14, b, 0) 8), xI (S.1 (14, b, 0) 9)])) := hp_putJ (dm14 S h1 h2) rfl
theorem pu14_7 (S : XS) {b : Int} (h1 : 0 ≤ b) (h2 : b < 5) (v : Int) : hp (putI S (14, b, 0) 7 v) = xUp (hp S) (14, b, 0) (.inl (1, [xR (30, b, 0), xR (31, b, 0), xI (S.1 (14, b, 0) 2), xI (S.1 (14, b, 0) 3), xI (S.1 (14, b, 0) 4), xJ (S.2.1 (14, b, 0) 5), xJ (S.2.1 (14, b, 0) 6), xI v, xI (S.1 (14, b, 0) 8), xI (S.1 (14, b, 0) 9)])) := hp_putI (dm14 S h1 h2) rfl
theorem pu14_8 (S : XS) {b : Int} (h1 : 0 ≤ b) (h2 : b < 5) (v : Int) : hp (putI S (14, b, 0) 8 v) = xUp (hp S) (14, b, 0) (.inl (1, [xR (30, b, 0), xR (31, b, 0), xI (S.1 (14, b, 0) 2), xI (S.1 (14, b, 0) 3), xI (S.1 (14, b, 0) 4), xJ (S.2.1 (14, b, 0) 5), xJ (S.2.1 (14, b, 0) 6), xI (S.1 (14, b, 0) 7), xI v, xI (S.1 (14, b, 0) 9)])) := hp_putI (dm14 S h1 h2) rfl
theorem pu14_9 (S : XS) {b : Int} (h1 : 0 ≤ b) (h2 : b < 5) (v : Int) : hp (putI S (14, b, 0) 9 v) = xUp (hp S) (14, b, 0) (.inl (1, [xR (30, b, 0), xR (31, b, 0), xI (S.1 (14, b, 0) 2), xI (S.1 (14, b, 0) 3), xI (S.1 (14, b, 0) 4), xJ (S.2.1 (14, b, 0) 5), xJ (S.2.1 (14, b, 0) 6), xI (S.1 (14, b, 0) 7), xI (S.1 (14, b, 0) 8), xI v])) := hp_putI (dm14 S h1 h2) rfl
theorem dm30 (S : XS) {b : Int} (h1 : 0 ≤ b) (h2 : b < 5) : xdm S.2.2.2 (30, b, 0) := ⟨h1, h2, rfl⟩
theorem hp30 (S : XS) {b : Int} (h1 : 0 ≤ b) (h2 : b < 5) : hp S (30, b, 0) = some (.inr (1, 120, .inr (.inl (S.2.1 (30, b, 0))))) := hp_of (dm30 S h1 h2)
theorem pa30 (S : XS) {b : Int} (h1 : 0 ≤ b) (h2 : b < 5) (i : Int) (v : Int64) : hp (putJ S (30, b, 0) i v) = xUp (hp S) (30, b, 0) (.inr (1, 120, .inr (.inl (xUpd (S.2.1 (30, b, 0)) i v)))) := hp_putJ (dm30 S h1 h2) rfl
theorem dm31 (S : XS) {b : Int} (h1 : 0 ≤ b) (h2 : b < 5) : xdm S.2.2.2 (31, b, 0) := ⟨h1, h2, rfl⟩
theorem hp31 (S : XS) {b : Int} (h1 : 0 ≤ b) (h2 : b < 5) : hp S (31, b, 0) = some (.inr (1, 120, .inr (.inl (S.2.1 (31, b, 0))))) := hp_of (dm31 S h1 h2)
theorem pa31 (S : XS) {b : Int} (h1 : 0 ≤ b) (h2 : b < 5) (i : Int) (v : Int64) : hp (putJ S (31, b, 0) i v) = xUp (hp S) (31, b, 0) (.inr (1, 120, .inr (.inl (xUpd (S.2.1 (31, b, 0)) i v)))) := hp_putJ (dm31 S h1 h2) rfl
theorem dm32 (S : XS) : xdm S.2.2.2 (32, 0, 0) := ⟨rfl, rfl⟩
theorem hp32 (S : XS) : hp S (32, 0, 0) = some (.inr (10, 10, .inr (.inr (.inr (fun b => some (34, b, 0)))))) := hp_of (dm32 S)
theorem dm33 (S : XS) : xdm S.2.2.2 (33, 0, 0) := ⟨rfl, rfl⟩
theorem hp33 (S : XS) : hp S (33, 0, 0) = some (.inr (0, 6, .inl (S.1 (33, 0, 0)))) := hp_of (dm33 S)
theorem pa33 (S : XS) (i v : Int) : hp (putI S (33, 0, 0) i v) = xUp (hp S) (33, 0, 0) (.inr (0, 6, .inl (xUpd (S.1 (33, 0, 0)) i v))) := hp_putI (dm33 S) rfl
theorem dm34 (S : XS) {b : Int} (h1 : 0 ≤ b) (h2 : b < 10) : xdm S.2.2.2 (34, b, 0) := ⟨h1, h2, rfl⟩
theorem hp34 (S : XS) {b : Int} (h1 : 0 ≤ b) (h2 : b < 10) : hp S (34, b, 0) = some (.inl (4, [xR (37, b, 0), xR (35, b, 0), xI (S.1 (34, b, 0) 2), xI (S.1 (34, b, 0) 3), xI (S.1 (34, b, 0) 4), xI (S.1 (34, b, 0) 5)])) := hp_of (dm34 S h1 h2)
theorem pu34_2 (S : XS) {b : Int} (h1 : 0 ≤ b) (h2 : b < 10) (v : Int) : hp (putI S (34, b, 0) 2 v) = xUp (hp S) (34, b, 0) (.inl (4, [xR (37, b, 0), xR (35, b, 0), xI v, xI (S.1 (34, b, 0) 3), xI (S.1 (34, b, 0) 4), xI (S.1 (34, b, 0) 5)])) := hp_putI (dm34 S h1 h2) rfl
theorem pu34_3 (S : XS) {b : Int} (h1 : 0 ≤ b) (h2 : b < 10) (v : Int) : hp (putI S (34, b, 0) 3 v) = xUp (hp S) (34, b, 0) (.inl (4, [xR (37, b, 0), xR (35, b, 0), xI (S.1 (34, b, 0) 2), xI v, xI (S.1 (34, b, 0) 4), xI (S.1 (34, b, 0) 5)])) := hp_putI (dm34 S h1 h2) rfl
theorem pu34_4 (S : XS) {b : Int} (h1 : 0 ≤ b) (h2 : b < 10) (v : Int) : hp (putI S (34, b, 0) 4 v) = xUp (hp S) (34, b, 0) (.inl (4, [xR (37, b, 0), xR (35, b, 0), xI (S.1 (34, b, 0) 2), xI (S.1 (34, b, 0) 3), xI v, xI (S.1 (34, b, 0) 5)])) := hp_putI (dm34 S h1 h2) rfl
theorem pu34_5 (S : XS) {b : Int} (h1 : 0 ≤ b) (h2 : b < 10) (v : Int) : hp (putI S (34, b, 0) 5 v) = xUp (hp S) (34, b, 0) (.inl (4, [xR (37, b, 0), xR (35, b, 0), xI (S.1 (34, b, 0) 2), xI (S.1 (34, b, 0) 3), xI (S.1 (34, b, 0) 4), xI v])) := hp_putI (dm34 S h1 h2) rfl
theorem dm35 (S : XS) {b : Int} (h1 : 0 ≤ b) (h2 : b < 10) : xdm S.2.2.2 (35, b, 0) := ⟨h1, h2, rfl⟩
theorem hp35 (S : XS) {b : Int} (h1 : 0 ≤ b) (h2 : b < 10) : hp S (35, b, 0) = some (.inr (9, 3, .inr (.inr (.inr (fun k => some (36, b, k)))))) := hp_of (dm35 S h1 h2)
theorem dm36 (S : XS) {b t : Int} (h1 : 0 ≤ b) (h2 : b < 10) (h3 : 0 ≤ t) (h4 : t < 3) : xdm S.2.2.2 (36, b, t) := ⟨h1, h2, h3, h4⟩
theorem hp36 (S : XS) {b t : Int} (h1 : 0 ≤ b) (h2 : b < 10) (h3 : 0 ≤ t) (h4 : t < 3) : hp S (36, b, t) = some (.inl (2, [xI (S.1 (36, b, t) 0), xI (S.1 (36, b, t) 1), xI (S.1 (36, b, t) 2), xI (S.1 (36, b, t) 3)])) := hp_of (dm36 S h1 h2 h3 h4)
theorem pu36_0 (S : XS) {b t : Int} (h1 : 0 ≤ b) (h2 : b < 10) (h3 : 0 ≤ t) (h4 : t < 3) (v : Int) : hp (putI S (36, b, t) 0 v) = xUp (hp S) (36, b, t) (.inl (2, [xI v, xI (S.1 (36, b, t) 1), xI (S.1 (36, b, t) 2), xI (S.1 (36, b, t) 3)])) := hp_putI (dm36 S h1 h2 h3 h4) rfl
theorem pu36_1 (S : XS) {b t : Int} (h1 : 0 ≤ b) (h2 : b < 10) (h3 : 0 ≤ t) (h4 : t < 3) (v : Int) : hp (putI S (36, b, t) 1 v) = xUp (hp S) (36, b, t) (.inl (2, [xI (S.1 (36, b, t) 0), xI v, xI (S.1 (36, b, t) 2), xI (S.1 (36, b, t) 3)])) := hp_putI (dm36 S h1 h2 h3 h4) rfl
theorem pu36_2 (S : XS) {b t : Int} (h1 : 0 ≤ b) (h2 : b < 10) (h3 : 0 ≤ t) (h4 : t < 3) (v : Int) : hp (putI S (36, b, t) 2 v) = xUp (hp S) (36, b, t) (.inl (2, [xI (S.1 (36, b, t) 0), xI (S.1 (36, b, t) 1), xI v, xI (S.1 (36, b, t) 3)])) := hp_putI (dm36 S h1 h2 h3 h4) rfl
theorem pu36_3 (S : XS) {b t : Int} (h1 : 0 ≤ b) (h2 : b < 10) (h3 : 0 ≤ t) (h4 : t < 3) (v : Int) : hp (putI S (36, b, t) 3 v) = xUp (hp S) (36, b, t) (.inl (2, [xI (S.1 (36, b, t) 0), xI (S.1 (36, b, t) 1), xI (S.1 (36, b, t) 2), xI v])) := hp_putI (dm36 S h1 h2 h3 h4) rfl
theorem dm37 (S : XS) {b : Int} (h1 : 0 ≤ b) (h2 : b < 10) : xdm S.2.2.2 (37, b, 0) := ⟨h1, h2, rfl⟩
theorem hp37 (S : XS) {b : Int} (h1 : 0 ≤ b) (h2 : b < 10) : hp S (37, b, 0) = some (.inl (2, [xI (S.1 (37, b, 0) 0), xI (S.1 (37, b, 0) 1), xI (S.1 (37, b, 0) 2), xI (S.1 (37, b, 0) 3)])) := hp_of (dm37 S h1 h2)
theorem pu37_0 (S : XS) {b : Int} (h1 : 0 ≤ b) (h2 : b < 10) (v : Int) : hp (putI S (37, b, 0) 0 v) = xUp (hp S) (37, b, 0) (.inl (2, [xI v, xI (S.1 (37, b, 0) 1), xI (S.1 (37, b, 0) 2), xI (S.1 (37, b, 0) 3)])) := hp_putI (dm37 S h1 h2) rfl
theorem pu37_1 (S : XS) {b : Int} (h1 : 0 ≤ b) (h2 : b < 10) (v : Int) : hp (putI S (37, b, 0) 1 v) = xUp (hp S) (37, b, 0) (.inl (2, [xI (S.1 (37, b, 0) 0), xI v, xI (S.1 (37, b, 0) 2), xI (S.1 (37, b, 0) 3)])) := hp_putI (dm37 S h1 h2) rfl
theorem pu37_2 (S : XS) {b : Int} (h1 : 0 ≤ b) (h2 : b < 10) (v : Int) : hp (putI S (37, b, 0) 2 v) = xUp (hp S) (37, b, 0) (.inl (2, [xI (S.1 (37, b, 0) 0), xI (S.1 (37, b, 0) 1), xI v, xI (S.1 (37, b, 0) 3)])) := hp_putI (dm37 S h1 h2) rfl
theorem pu37_3 (S : XS) {b : Int} (h1 : 0 ≤ b) (h2 : b < 10) (v : Int) : hp (putI S (37, b, 0) 3 v) = xUp (hp S) (37, b, 0) (.inl (2, [xI (S.1 (37, b, 0) 0), xI (S.1 (37, b, 0) 1), xI (S.1 (37, b, 0) 2), xI v])) := hp_putI (dm37 S h1 h2) rfl
theorem dm40 (S : XS) : xdm S.2.2.2 (40, 0, 0) := ⟨rfl, rfl⟩
theorem hp40 (S : XS) : hp S (40, 0, 0) = some (.inr (0, 384, .inl (S.1 (40, 0, 0)))) := hp_of (dm40 S)
theorem pa40 (S : XS) (i v : Int) : hp (putI S (40, 0, 0) i v) = xUp (hp S) (40, 0, 0) (.inr (0, 384, .inl (xUpd (S.1 (40, 0, 0)) i v))) := hp_putI (dm40 S) rfl
theorem dm41 (S : XS) : xdm S.2.2.2 (41, 0, 0) := ⟨rfl, rfl⟩
theorem hp41 (S : XS) : hp S (41, 0, 0) = some (.inr (0, 384, .inl (S.1 (41, 0, 0)))) := hp_of (dm41 S)
theorem pa41 (S : XS) (i v : Int) : hp (putI S (41, 0, 0) i v) = xUp (hp S) (41, 0, 0) (.inr (0, 384, .inl (xUpd (S.1 (41, 0, 0)) i v))) := hp_putI (dm41 S) rfl
theorem dm42 (S : XS) : xdm S.2.2.2 (42, 0, 0) := ⟨rfl, rfl⟩
theorem hp42 (S : XS) : hp S (42, 0, 0) = some (.inr (0, 384, .inl (S.1 (42, 0, 0)))) := hp_of (dm42 S)
theorem pa42 (S : XS) (i v : Int) : hp (putI S (42, 0, 0) i v) = xUp (hp S) (42, 0, 0) (.inr (0, 384, .inl (xUpd (S.1 (42, 0, 0)) i v))) := hp_putI (dm42 S) rfl
theorem dm43 (S : XS) : xdm S.2.2.2 (43, 0, 0) := ⟨rfl, rfl⟩
theorem hp43 (S : XS) : hp S (43, 0, 0) = some (.inr (1, 6, .inr (.inl (S.2.1 (43, 0, 0))))) := hp_of (dm43 S)
theorem pa43 (S : XS) (i : Int) (v : Int64) : hp (putJ S (43, 0, 0) i v) = xUp (hp S) (43, 0, 0) (.inr (1, 6, .inr (.inl (xUpd (S.2.1 (43, 0, 0)) i v)))) := hp_putJ (dm43 S) rfl
theorem dm44 (S : XS) : xdm S.2.2.2 (44, 0, 0) := ⟨rfl, rfl⟩
theorem hp44 (S : XS) : hp S (44, 0, 0) = some (.inr (1, 6, .inr (.inl (S.2.1 (44, 0, 0))))) := hp_of (dm44 S)
theorem pa44 (S : XS) (i : Int) (v : Int64) : hp (putJ S (44, 0, 0) i v) = xUp (hp S) (44, 0, 0) (.inr (1, 6, .inr (.inl (xUpd (S.2.1 (44, 0, 0)) i v)))) := hp_putJ (dm44 S) rfl
theorem dm45 (S : XS) : xdm S.2.2.2 (45, 0, 0) := ⟨rfl, rfl⟩
theorem hp45 (S : XS) : hp S (45, 0, 0) = some (.inr (1, 6, .inr (.inl (S.2.1 (45, 0, 0))))) := hp_of (dm45 S)
theorem pa45 (S : XS) (i : Int) (v : Int64) : hp (putJ S (45, 0, 0) i v) = xUp (hp S) (45, 0, 0) (.inr (1, 6, .inr (.inl (xUpd (S.2.1 (45, 0, 0)) i v)))) := hp_putJ (dm45 S) rfl
theorem dm46 (S : XS) : xdm S.2.2.2 (46, 0, 0) := ⟨rfl, rfl⟩
theorem hp46 (S : XS) : hp S (46, 0, 0) = some (.inr (0, 384, .inl (S.1 (46, 0, 0)))) := hp_of (dm46 S)
theorem pa46 (S : XS) (i v : Int) : hp (putI S (46, 0, 0) i v) = xUp (hp S) (46, 0, 0) (.inr (0, 384, .inl (xUpd (S.1 (46, 0, 0)) i v))) := hp_putI (dm46 S) rfl
theorem dm99 (S : XS) : xdm S.2.2.2 (99, 0, 0) := ⟨rfl, rfl⟩
theorem hp99 (S : XS) : hp S (99, 0, 0) = some (.inr (0, S.2.2.2.2.2, .inl (S.1 (99, 0, 0)))) := hp_of (dm99 S)
theorem pa99 (S : XS) (i v : Int) : hp (putI S (99, 0, 0) i v) = xUp (hp S) (99, 0, 0) (.inr (0, S.2.2.2.2.2, .inl (xUpd (S.1 (99, 0, 0)) i v))) := hp_putI (dm99 S) rfl

theorem dm50 (S : XS) : xdm S.2.2.2 (50, 0, 0) := ⟨rfl, rfl⟩
theorem hp50 (S : XS) : hp S (50, 0, 0) = some (.inr (0, 1800, .inl (S.1 (50, 0, 0)))) := hp_of (dm50 S)
theorem pa50 (S : XS) (i v : Int) : hp (putI S (50, 0, 0) i v) = xUp (hp S) (50, 0, 0) (.inr (0, 1800, .inl (xUpd (S.1 (50, 0, 0)) i v))) := hp_putI (dm50 S) rfl
theorem dm51 (S : XS) {b : Int} (h1 : 0 ≤ b) (h2 : b < S.2.2.2.1 51) : xdm S.2.2.2 (51, b, 0) := ⟨h1, h2, rfl⟩
theorem hp51 (S : XS) {b : Int} (h1 : 0 ≤ b) (h2 : b < S.2.2.2.1 51) : hp S (51, b, 0) = some (.inr (2, 10, .inl (S.1 (51, b, 0)))) := hp_of (dm51 S h1 h2)
theorem pa51 (S : XS) {b : Int} (h1 : 0 ≤ b) (h2 : b < S.2.2.2.1 51) (i v : Int) : hp (putI S (51, b, 0) i v) = xUp (hp S) (51, b, 0) (.inr (2, 10, .inl (xUpd (S.1 (51, b, 0)) i v))) := hp_putI (dm51 S h1 h2) rfl
theorem dm52 (S : XS) {b : Int} (h1 : 0 ≤ b) (h2 : b < S.2.2.2.1 52) : xdm S.2.2.2 (52, b, 0) := ⟨h1, h2, rfl⟩
theorem hp52 (S : XS) {b : Int} (h1 : 0 ≤ b) (h2 : b < S.2.2.2.1 52) : hp S (52, b, 0) = some (.inr (0, 7, .inl (S.1 (52, b, 0)))) := hp_of (dm52 S h1 h2)
theorem pa52 (S : XS) {b : Int} (h1 : 0 ≤ b) (h2 : b < S.2.2.2.1 52) (i v : Int) : hp (putI S (52, b, 0) i v) = xUp (hp S) (52, b, 0) (.inr (0, 7, .inl (xUpd (S.1 (52, b, 0)) i v))) := hp_putI (dm52 S h1 h2) rfl
theorem dm53 (S : XS) {b : Int} (h1 : 0 ≤ b) (h2 : b < S.2.2.2.1 53) : xdm S.2.2.2 (53, b, 0) := ⟨h1, h2, rfl⟩
theorem hp53 (S : XS) {b : Int} (h1 : 0 ≤ b) (h2 : b < S.2.2.2.1 53) : hp S (53, b, 0) = some (.inr (0, 384, .inl (S.1 (53, b, 0)))) := hp_of (dm53 S h1 h2)
theorem pa53 (S : XS) {b : Int} (h1 : 0 ≤ b) (h2 : b < S.2.2.2.1 53) (i v : Int) : hp (putI S (53, b, 0) i v) = xUp (hp S) (53, b, 0) (.inr (0, 384, .inl (xUpd (S.1 (53, b, 0)) i v))) := hp_putI (dm53 S h1 h2) rfl
theorem dm54 (S : XS) {b : Int} (h1 : 0 ≤ b) (h2 : b < S.2.2.2.1 54) : xdm S.2.2.2 (54, b, 0) := ⟨h1, h2, rfl⟩
theorem hp54 (S : XS) {b : Int} (h1 : 0 ≤ b) (h2 : b < S.2.2.2.1 54) : hp S (54, b, 0) = some (.inr (0, 3, .inl (S.1 (54, b, 0)))) := hp_of (dm54 S h1 h2)
theorem pa54 (S : XS) {b : Int} (h1 : 0 ≤ b) (h2 : b < S.2.2.2.1 54) (i v : Int) : hp (putI S (54, b, 0) i v) = xUp (hp S) (54, b, 0) (.inr (0, 3, .inl (xUpd (S.1 (54, b, 0)) i v))) := hp_putI (dm54 S h1 h2) rfl
theorem dm55 (S : XS) {b : Int} (h1 : 0 ≤ b) (h2 : b < S.2.2.2.1 55) : xdm S.2.2.2 (55, b, 0) := ⟨h1, h2, rfl⟩
theorem hp55 (S : XS) {b : Int} (h1 : 0 ≤ b) (h2 : b < S.2.2.2.1 55) : hp S (55, b, 0) = some (.inr (0, 6, .inl (S.1 (55, b, 0)))) := hp_of (dm55 S h1 h2)
theorem pa55 (S : XS) {b : Int} (h1 : 0 ≤ b) (h2 : b < S.2.2.2.1 55) (i v : Int) : hp (putI S (55, b, 0) i v) = xUp (hp S) (55, b, 0) (.inr (0, 6, .inl (xUpd (S.1 (55, b, 0)) i v))) := hp_putI (dm55 S h1 h2) rfl
