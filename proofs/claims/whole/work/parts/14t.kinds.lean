/-! each kind of cell: what lies there -/
theorem dm0 (S : XS) : xdm S.2.2.2 (0, 0, 0) := ⟨rfl, rfl⟩
theorem hp0 (S : XS) : hp S (0, 0, 0) = some (.inl (8, [xR (1, 0, 0), xR (2, 0, 0), xR (3, 0, 0), xR (4, 0, 0), xR (5, 0, 0), xR (6, 0, 0), xI (S.1 (0, 0, 0) 6), xI (S.1 (0, 0, 0) 7), xI (S.1 (0, 0, 0) 8)])) := hp_of (dm0 S)
theorem pu0_6 (S : XS) (v : Int) : hp (putI S (0, 0, 0) 6 v) = xUp (hp S) (0, 0, 0) (.inl (8, [xR (1, 0, 0), xR (2, 0, 0), xR (3, 0, 0), xR (4, 0, 0), xR (5, 0, 0), xR (6, 0, 0), xI v, xI (S.1 (0, 0, 0) 7), xI (S.1 (0, 0, 0) 8)])) := hp_putI (dm0 S) rfl
theorem pu0_7 (S : XS) (v : Int) : hp (putI S (0, 0, 0) 7 v) = xUp (hp S) (0, 0, 0) (.inl (8, [xR (1, 0, 0), xR (2, 0, 0), xR (3, 0, 0), xR (4, 0, 0), xR (5, 0, 0), xR (6, 0, 0), xI (S.1 (0, 0, 0) 6), xI v, xI (S.1 (0, 0, 0) 8)])) := hp_putI (dm0 S) rfl
theorem pu0_8 (S : XS) (v : Int) : hp (putI S (0, 0, 0) 8 v) = xUp (hp S) (0, 0, 0) (.inl (8, [xR (1, 0, 0), xR (2, 0, 0), xR (3, 0, 0), xR (4, 0, 0), xR (5, 0, 0), xR (6, 0, 0), xI (S.1 (0, 0, 0) 6), xI (S.1 (0, 0, 0) 7), xI v])) := hp_putI (dm0 S) rfl
theorem dm1 (S : XS) : xdm S.2.2.2 (1, 0, 0) := ⟨rfl, rfl⟩
theorem hp1 (S : XS) : hp S (1, 0, 0) = some (.inr (7, 4, .inr (.inr (.inr (fun b => some (9, b, 0)))))) := hp_of (dm1 S)
theorem dm2 (S : XS) : xdm S.2.2.2 (2, 0, 0) := ⟨rfl, rfl⟩
theorem hp2 (S : XS) : hp S (2, 0, 0) = some (.inr (8, 5, .inr (.inr (.inr (fun b => some (14, b, 0)))))) := hp_of (dm2 S)
theorem dm3 (S : XS) : xdm S.2.2.2 (3, 0, 0) := ⟨rfl, rfl⟩
theorem hp3 (S : XS) : hp S (3, 0, 0) = some (.inr (2, 6, .inl (S.1 (3, 0, 0)))) := hp_of (dm3 S)
theorem pa3 (S : XS) (i v : Int) : hp (putI S (3, 0, 0) i v) = xUp (hp S) (3, 0, 0) (.inr (2, 6, .inl (xUpd (S.1 (3, 0, 0)) i v))) := hp_putI (dm3 S) rfl
theorem dm4 (S : XS) : xdm S.2.2.2 (4, 0, 0) := ⟨rfl, rfl⟩
theorem hp4 (S : XS) : hp S (4, 0, 0) = some (.inl (5, [xR (32, 0, 0), xR (33, 0, 0), xI (S.1 (4, 0, 0) 2)])) := hp_of (dm4 S)
theorem pu4_2 (S : XS) (v : Int) : hp (putI S (4, 0, 0) 2 v) = xUp (hp S) (4, 0, 0) (.inl (5, [xR (32, 0, 0), xR (33, 0, 0), xI v])) := hp_putI (dm4 S) rfl
theorem dm5 (S : XS) : xdm S.2.2.2 (5, 0, 0) := ⟨rfl, rfl⟩
theorem hp5 (S : XS) : hp S (5, 0, 0) = some (.inl (3, [xR (7, 0, 0), xR (40, 0, 0), xR (41, 0, 0), xR (42, 0, 0), xR (43, 0, 0), xR (44, 0, 0), xR (45, 0, 0), xR (46, 0, 0)])) := hp_of (dm5 S)
theorem dm6 (S : XS) : xdm S.2.2.2 (6, 0, 0) := ⟨rfl, rfl⟩
theorem hp6 (S : XS) : hp S (6, 0, 0) = some (.inl (6, [xR (16, 0, 0), xR (26, 0, 0), xI (S.1 (6, 0, 0) 2)])) := hp_of (dm6 S)
theorem pu6_2 (S : XS) (v : Int) : hp (putI S (6, 0, 0) 2 v) = xUp (hp S) (6, 0, 0) (.inl (6, [xR (16, 0, 0), xR (26, 0, 0), xI v])) := hp_putI (dm6 S) rfl
theorem dm7 (S : XS) : xdm S.2.2.2 (7, 0, 0) := ⟨rfl, rfl⟩
theorem hp7 (S : XS) : hp S (7, 0, 0) = some (.inl (6, [xR (17, 0, 0), xR (27, 0, 0), xI (S.1 (7, 0, 0) 2)])) := hp_of (dm7 S)
theorem pu7_2 (S : XS) (v : Int) : hp (putI S (7, 0, 0) 2 v) = xUp (hp S) (7, 0, 0) (.inl (6, [xR (17, 0, 0), xR (27, 0, 0), xI v])) := hp_putI (dm7 S) rfl
theorem dm8 (S : XS) {b t : Int} (h1 : 0 ≤ b) (h2 : b < 4) (h3 : 0 ≤ t) (h4 : t < 24) : xdm S.2.2.2 (8, b, t) := ⟨h1, h2, h3, h4⟩
theorem hp8 (S : XS) {b t : Int} (h1 : 0 ≤ b) (h2 : b < 4) (h3 : 0 ≤ t) (h4 : t < 24) : hp S (8, b, t) = some (.inl (6, [xR (18, b, t), xR (28, b, t), xI (S.1 (8, b, t) 2)])) := hp_of (dm8 S h1 h2 h3 h4)
theorem pu8_2 (S : XS) {b t : Int} (h1 : 0 ≤ b) (h2 : b < 4) (h3 : 0 ≤ t) (h4 : t < 24) (v : Int) : hp (putI S (8, b, t) 2 v) = xUp (hp S) (8, b, t) (.inl (6, [xR (18, b, t), xR (28, b, t), xI v])) := hp_putI (dm8 S h1 h2 h3 h4) rfl
theorem dm16 (S : XS) : xdm S.2.2.2 (16, 0, 0) := ⟨rfl, rfl⟩
theorem hp16 (S : XS) : hp S (16, 0, 0) = some (.inr (1, 6, .inr (.inl (S.2.1 (16, 0, 0))))) := hp_of (dm16 S)
theorem pa16 (S : XS) (i : Int) (v : Int64) : hp (putJ S (16, 0, 0) i v) = xUp (hp S) (16, 0, 0) (.inr (1, 6, .inr (.inl (xUpd (S.2.1 (16, 0, 0)) i v)))) := hp_putJ (dm16 S) rfl
theorem dm17 (S : XS) : xdm S.2.2.2 (17, 0, 0) := ⟨rfl, rfl⟩
theorem hp17 (S : XS) : hp S (17, 0, 0) = some (.inr (1, 6, .inr (.inl (S.2.1 (17, 0, 0))))) := hp_of (dm17 S)
theorem pa17 (S : XS) (i : Int) (v : Int64) : hp (putJ S (17, 0, 0) i v) = xUp (hp S) (17, 0, 0) (.inr (1, 6, .inr (.inl (xUpd (S.2.1 (17, 0, 0)) i v)))) := hp_putJ (dm17 S) rfl
theorem dm18 (S : XS) {b t : Int} (h1 : 0 ≤ b) (h2 : b < 4) (h3 : 0 ≤ t) (h4 : t < 24) : xdm S.2.2.2 (18, b, t) := ⟨h1, h2, h3, h4⟩
theorem hp18 (S : XS) {b t : Int} (h1 : 0 ≤ b) (h2 : b < 4) (h3 : 0 ≤ t) (h4 : t < 24) : hp S (18, b, t) = some (.inr (1, 6, .inr (.inl (S.2.1 (18, b, t))))) := hp_of (dm18 S h1 h2 h3 h4)
theorem pa18 (S : XS) {b t : Int} (h1 : 0 ≤ b) (h2 : b < 4) (h3 : 0 ≤ t) (h4 : t < 24) (i : Int) (v : Int64) : hp (putJ S (18, b, t) i v) = xUp (hp S) (18, b, t) (.inr (1, 6, .inr (.inl (xUpd (S.2.1 (18, b, t)) i v)))) := hp_putJ (dm18 S h1 h2 h3 h4) rfl
theorem dm26 (S : XS) : xdm S.2.2.2 (26, 0, 0) := ⟨rfl, rfl⟩
theorem hp26 (S : XS) : hp S (26, 0, 0) = some (.inr (1, 6, .inr (.inl (S.2.1 (26, 0, 0))))) := hp_of (dm26 S)
theorem pa26 (S : XS) (i : Int) (v : Int64) : hp (putJ S (26, 0, 0) i v) = xUp (hp S) (26, 0, 0) (.inr (1, 6, .inr (.inl (xUpd (S.2.1 (26, 0, 0)) i v)))) := hp_putJ (dm26 S) rfl
theorem dm27 (S : XS) : xdm S.2.2.2 (27, 0, 0) := ⟨rfl, rfl⟩
theorem hp27 (S : XS) : hp S (27, 0, 0) = some (.inr (1, 6, .inr (.inl (S.2.1 (27, 0, 0))))) := hp_of (dm27 S)
theorem pa27 (S : XS) (i : Int) (v : Int64) : hp (putJ S (27, 0, 0) i v) = xUp (hp S) (27, 0, 0) (.inr (1, 6, .inr (.inl (xUpd (S.2.1 (27, 0, 0)) i v)))) := hp_putJ (dm27 S) rfl
theorem dm28 (S : XS) {b t : Int} (h1 : 0 ≤ b) (h2 : b < 4) (h3 : 0 ≤ t) (h4 : t < 24) : xdm S.2.2.2 (28, b, t) := ⟨h1, h2, h3, h4⟩
theorem hp28 (S : XS) {b t : Int} (h1 : 0 ≤ b) (h2 : b < 4) (h3 : 0 ≤ t) (h4 : t < 24) : hp S (28, b, t) = some (.inr (1, 6, .inr (.inl (S.2.1 (28, b, t))))) := hp_of (dm28 S h1 h2 h3 h4)
theorem pa28 (S : XS) {b t : Int} (h1 : 0 ≤ b) (h2 : b < 4) (h3 : 0 ≤ t) (h4 : t < 24) (i : Int) (v : Int64) : hp (putJ S (28, b, t) i v) = xUp (hp S) (28, b, t) (.inr (1, 6, .inr (.inl (xUpd (S.2.1 (28, b, t)) i v)))) := hp_putJ (dm28 S h1 h2 h3 h4) rfl
theorem dm9 (S : XS) {b : Int} (h1 : 0 ≤ b) (h2 : b < 4) : xdm S.2.2.2 (9, b, 0) := ⟨h1, h2, rfl⟩
theorem hp9 (S : XS) {b : Int} (h1 : 0 ≤ b) (h2 : b < 4) : hp S (9, b, 0) = some (.inl (0, [xR (10, b, 0), xR (11, b, 0), xR (12, b, 0), xI (S.1 (9, b, 0) 3), xI (S.1 (9, b, 0) 4), xI (S.1 (9, b, 0) 5), xI (S.1 (9, b, 0) 6)])) := hp_of (dm9 S h1 h2)
theorem pu9_3 (S : XS) {b : Int} (h1 : 0 ≤ b) (h2 : b < 4) (v : Int) : hp (putI S (9, b, 0) 3 v) = xUp (hp S) (9, b, 0) (.inl (0, [xR (10, b, 0), xR (11, b, 0), xR (12, b, 0), xI v, xI (S.1 (9, b, 0) 4), xI (S.1 (9, b, 0) 5), xI (S.1 (9, b, 0) 6)])) := hp_putI (dm9 S h1 h2) rfl
theorem pu9_4 (S : XS) {b : Int} (h1 : 0 ≤ b) (h2 : b < 4) (v : Int) : hp (putI S (9, b, 0) 4 v) = xUp (hp S) (9, b, 0) (.inl (0, [xR (10, b, 0), xR (11, b, 0), xR (12, b, 0), xI (S.1 (9, b, 0) 3), xI v, xI (S.1 (9, b, 0) 5), xI (S.1 (9, b, 0) 6)])) := hp_putI (dm9 S h1 h2) rfl
theorem pu9_5 (S : XS) {b : Int} (h1 : 0 ≤ b) (h2 : b < 4) (v : Int) : hp (putI S (9, b, 0) 5 v) = xUp (hp S) (9, b, 0) (.inl (0, [xR (10, b, 0), xR (11, b, 0), xR (12, b, 0), xI (S.1 (9, b, 0) 3), xI (S.1 (9, b, 0) 4), xI v, xI (S.1 (9, b, 0) 6)])) := hp_putI (dm9 S h1 h2) rfl
theorem pu9_6 (S : XS) {b : Int} (h1 : 0 ≤ b) (h2 : b < 4) (v : Int) : hp (putI S (9, b, 0) 6 v) = xUp (hp S) (9, b, 0) (.inl (0, [xR (10, b, 0), xR (11, b, 0), xR (12, b, 0), xI (S.1 (9, b, 0) 3), xI (S.1 (9, b, 0) 4), xI (S.1 (9, b, 0) 5), xI v])) := hp_putI (dm9 S h1 h2) rfl
theorem dm10 (S : XS) {b : Int} (h1 : 0 ≤ b) (h2 : b < 4) : xdm S.2.2.2 (10, b, 0) := ⟨h1, h2, rfl⟩
theorem hp10 (S : XS) {b : Int} (h1 : 0 ≤ b) (h2 : b < 4) : hp S (10, b, 0) = some (.inr (5, 60, .inr (.inr (.inr (fun k => some (13, b, k)))))) := hp_of (dm10 S h1 h2)
theorem dm11 (S : XS) {b : Int} (h1 : 0 ≤ b) (h2 : b < 4) : xdm S.2.2.2 (11, b, 0) := ⟨h1, h2, rfl⟩
theorem hp11 (S : XS) {b : Int} (h1 : 0 ≤ b) (h2 : b < 4) : hp S (11, b, 0) = some (.inr (0, 61, .inl (S.1 (11, b, 0)))) := hp_of (dm11 S h1 h2)
theorem pa11 (S : XS) {b : Int} (h1 : 0 ≤ b) (h2 : b < 4) (i v : Int) : hp (putI S (11, b, 0) i v) = xUp (hp S) (11, b, 0) (.inr (0, 61, .inl (xUpd (S.1 (11, b, 0)) i v))) := hp_putI (dm11 S h1 h2) rfl
theorem dm12 (S : XS) {b : Int} (h1 : 0 ≤ b) (h2 : b < 4) : xdm S.2.2.2 (12, b, 0) := ⟨h1, h2, rfl⟩
theorem hp12 (S : XS) {b : Int} (h1 : 0 ≤ b) (h2 : b < 4) : hp S (12, b, 0) = some (.inr (6, 24, .inr (.inr (.inr (fun k => some (8, b, k)))))) := hp_of (dm12 S h1 h2)
theorem dm13 (S : XS) {b t : Int} (h1 : 0 ≤ b) (h2 : b < 4) (h3 : 0 ≤ t) (h4 : t < 60) : xdm S.2.2.2 (13, b, t) := ⟨h1, h2, h3, h4⟩
theorem hp13 (S : XS) {b t : Int} (h1 : 0 ≤ b) (h2 : b < 4) (h3 : 0 ≤ t) (h4 : t < 60) : hp S (13, b, t) = some (.inl (7, [xI (S.1 (13, b, t) 0), xI (S.1 (13, b, t) 1), xI (S.1 (13, b, t) 2), xI (S.1 (13, b, t) 3), xI (S.1 (13, b, t) 4), xI (S.1 (13, b, t) 5), xI (S.1 (13, b, t) 6), xI (S.1 (13, b, t) 7)])) := hp_of (dm13 S h1 h2 h3 h4)
theorem pu13_0 (S : XS) {b t : Int} (h1 : 0 ≤ b) (h2 : b < 4) (h3 : 0 ≤ t) (h4 : t < 60) (v : Int) : hp (putI S (13, b, t) 0 v) = xUp (hp S) (13, b, t) (.inl (7, [xI v, xI (S.1 (13, b, t) 1), xI (S.1 (13, b, t) 2), xI (S.1 (13, b, t) 3), xI (S.1 (13, b, t) 4), xI (S.1 (13, b, t) 5), xI (S.1 (13, b, t) 6), xI (S.1 (13, b, t) 7)])) := hp_putI (dm13 S h1 h2 h3 h4) rfl
theorem pu13_1 (S : XS) {b t : Int} (h1 : 0 ≤ b) (h2 : b < 4) (h3 : 0 ≤ t) (h4 : t < 60) (v : Int) : hp (putI S (13, b, t) 1 v) = xUp (hp S) (13, b, t) (.inl (7, [xI (S.1 (13, b, t) 0), xI v, xI (S.1 (13, b, t) 2), xI (S.1 (13, b, t) 3), xI (S.1 (13, b, t) 4), xI (S.1 (13, b, t) 5), xI (S.1 (13, b, t) 6), xI (S.1 (13, b, t) 7)])) := hp_putI (dm13 S h1 h2 h3 h4) rfl
theorem pu13_2 (S : XS) {b t : Int} (h1 : 0 ≤ b) (h2 : b < 4) (h3 : 0 ≤ t) (h4 : t < 60) (v : Int) : hp (putI S (13, b, t) 2 v) = xUp (hp S) (13, b, t) (.inl (7, [xI (S.1 (13, b, t) 0), xI (S.1 (13, b, t) 1), xI v, xI (S.1 (13, b, t) 3), xI (S.1 (13, b, t) 4), xI (S.1 (13, b, t) 5), xI (S.1 (13, b, t) 6), xI (S.1 (13, b, t) 7)])) := hp_putI (dm13 S h1 h2 h3 h4) rfl
theorem pu13_3 (S : XS) {b t : Int} (h1 : 0 ≤ b) (h2 : b < 4) (h3 : 0 ≤ t) (h4 : t < 60) (v : Int) : hp (putI S (13, b, t) 3 v) = xUp (hp S) (13, b, t) (.inl (7, [xI (S.1 (13, b, t) 0), xI (S.1 (13, b, t) 1), xI (S.1 (13, b, t) 2), xI v, xI (S.1 (13, b, t) 4), xI (S.1 (13, b, t) 5), xI (S.1 (13, b, t) 6), xI (S.1 (13, b, t) 7)])) := hp_putI (dm13 S h1 h2 h3 h4) rfl
theorem pu13_4 (S : XS) {b t : Int} (h1 : 0 ≤ b) (h2 : b < 4) (h3 : 0 ≤ t) (h4 : t < 60) (v : Int) : hp (putI S (13, b, t) 4 v) = xUp (hp S) (13, b, t) (.inl (7, [xI (S.1 (13, b, t) 0), xI (S.1 (13, b, t) 1), xI (S.1 (13, b, t) 2), xI (S.1 (13, b, t) 3), xI v, xI (S.1 (13, b, t) 5), xI (S.1 (13, b, t) 6), xI (S.1 (13, b, t) 7)])) := hp_putI (dm13 S h1 h2 h3 h4) rfl
theorem pu13_5 (S : XS) {b t : Int} (h1 : 0 ≤ b) (h2 : b < 4) (h3 : 0 ≤ t) (h4 : t < 60) (v : Int) : hp (putI S (13, b, t) 5 v) = xUp (hp S) (13, b, t) (.inl (7, [xI (S.1 (13, b, t) 0), xI (S.1 (13, b, t) 1), xI (S.1 (13, b, t) 2), xI (S.1 (13, b, t) 3), xI (S.1 (13, b, t) 4), xI v, xI (S.1 (13, b, t) 6), xI (S.1 (13, b, t) 7)])) := hp_putI (dm13 S h1 h2 h3 h4) rfl
theorem pu13_6 (S : XS) {b t : Int} (h1 : 0 ≤ b) (h2 : b < 4) (h3 : 0 ≤ t) (h4 : t < 60) (v : Int) : hp (putI S (13, b, t) 6 v) = xUp (hp S) (13, b, t) (.inl (7, [xI (S.1 (13, b, t) 0), xI (S.1 (13, b, t) 1), xI (S.1 (13, b, t) 2), xI (S.1 (13, b, t) 3), xI (S.1 (13, b, t) 4), xI (S.1 (13, b, t) 5), xI v, xI (S.1 (13, b, t) 7)])) := hp_putI (dm13 S h1 h2 h3 h4) rfl
theorem pu13_7 (S : XS) {b t : Int} (h1 : 0 ≤ b) (h2 : b < 4) (h3 : 0 ≤ t) (h4 : t < 60) (v : Int) : hp (putI S (13, b, t) 7 v) = xUp (hp S) (13, b, t) (.inl (7, [xI (S.1 (13, b, t) 0), xI (S.1 (13, b, t) 1), xI (S.1 (13, b, t) 2), xI (S.1 (13, b, t) 3), xI (S.1 (13, b, t) 4), xI (S.1 (13, b, t) 5), xI (S.1 (13, b, t) 6), xI v])) := hp_putI (dm13 S h1 h2 h3 h4) rfl
theorem dm14 (S : XS) {b : Int} (h1 : 0 ≤ b) (h2 : b < 5) : xdm S.2.2.2 (14, b, 0) := ⟨h1, h2, rfl⟩
theorem hp14 (S : XS) {b : Int} (h1 : 0 ≤ b) (h2 : b < 5) : hp S (14, b, 0) = some (.inl (1, [xR (30, b, 0), xR (31, b, 0), xI (S.1 (14, b, 0) 2), xI (S.1 (14, b, 0) 3), xI (S.1 (14, b, 0) 4), xJ (S.2.1 (14, b, 0) 5), xJ (S.2.1 (14, b, 0) 6), xI (S.1 (14, b, 0) 7), xI (S.1 (14, b, 0) 8), xI (S.1 (14, b, 0) 9)])) := hp_of (dm14 S h1 h2)
theorem pu14_2 (S : XS) {b : Int} (h1 : 0 ≤ b) (h2 : b < 5) (v : Int) : hp (putI S (14, b, 0) 2 v) = xUp (hp S) (14, b, 0) (.inl (1, [xR (30, b, 0), xR (31, b, 0), xI v, xI (S.1 (14, b, 0) 3), xI (S.1 (14, b, 0) 4), xJ (S.2.1 (14, b, 0) 5), xJ (S.2.1 (14, b, 0) 6), xI (S.1 (14, b, 0) 7), xI (S.1 (14, b, 0) 8), xI (S.1 (14, b, 0) 9)])) := hp_putI (dm14 S h1 h2) rfl
theorem pu14_3 (S : XS) {b : Int} (h1 : 0 ≤ b) (h2 : b < 5) (v : Int) : hp (putI S (14, b, 0) 3 v) = xUp (hp S) (14, b, 0) (.inl (1, [xR (30, b, 0), xR (31, b, 0), xI (S.1 (14, b, 0) 2), xI v, xI (S.1 (14, b, 0) 4), xJ (S.2.1 (14, b, 0) 5), xJ (S.2.1 (14, b, 0) 6), xI (S.1 (14, b, 0) 7), xI (S.1 (14, b, 0) 8), xI (S.1 (14, b, 0) 9)])) := hp_putI (dm14 S h1 h2) rfl
theorem pu14_4 (S : XS) {b : Int} (h1 : 0 ≤ b) (h2 : b < 5) (v : Int) : hp (putI S (14, b, 0) 4 v) = xUp (hp S) (14, b, 0) (.inl (1, [xR (30, b, 0), xR (31, b, 0), xI (S.1 (14, b, 0) 2), xI (S.1 (14, b, 0) 3), xI v, xJ (S.2.1 (14, b, 0) 5), xJ (S.2.1 (14, b, 0) 6), xI (S.1 (14, b, 0) 7), xI (S.1 (14, b, 0) 8), xI (S.1 (14, b, 0) 9)])) := hp_putI (dm14 S h1 h2) rfl
theorem pu14_5 (S : XS) {b : Int} (h1 : 0 ≤ b) (h2 : b < 5) (v : Int64) : hp (putJ S (14, b, 0) 5 v) = xUp (hp S) (14, b, 0) (.inl (1, [xR (30, b, 0), xR (31, b, 0), xI (S.1 (14, b, 0) 2), xI (S.1 (14, b, 0) 3), xI (S.1 (14, b, 0) 4), xJ v, xJ (S.2.1 (14, b, 0) 6), xI (S.1 (14, b, 0) 7), xI (S.1 (14, b, 0) 8), xI (S.1 (14, b, 0) 9)])) := hp_putJ (dm14 S h1 h2) rfl
theorem pu14_6 (S : XS) {b : Int} (h1 : 0 ≤ b) (h2 : b < 5) (v : Int64) : hp (putJ S (14, b, 0) 6 v) = xUp (hp S) (14, b, 0) (.inl (1, [xR (30, b, 0), xR (31, b, 0), xI (S.1 (14, b, 0) 2), xI (S.1 (14, b, 0) 3), xI (S.1 (14, b, 0) 4), xJ (S.2.1 (14, b, 0) 5), xJ v, xI (S.1 (14, b, 0) 7), xI (S.1 (14, b, 0) 8), xI (S.1 (14, b, 0) 9)])) := hp_putJ (dm14 S h1 h2) rfl
theorem pu14_7 (S : XS) {b : Int} (h1 : 0 ≤ b) (h2 : b < 5) (v : Int) : hp (putI S (14, b, 0) 7 v) = xUp (hp S) (14, b, 0) (.inl (1, [xR (30, b, 0), xR (31, b, 0), xI (S.1 (14, b, 0) 2), xI (S.1 (14, b, 0) 3), xI (S.1 (14, b, 0) 4), xJ (S.2.1 (14, b, 0) 5), xJ (S.2.1 (14, b, 0) 6), xI v, xI (S.1 (14, b, 0) 8), xI (S.1 (14, b, 0) 9)])) := hp_putI (dm14 S h1 h2) rfl
theorem pu14_8 (S : XS) {b : Int} (h1 : 0 ≤ b) (h2 : b < 5) (v : Int) : hp (putI S (14, b, 0) 8 v) = xUp (hp S) (14, b, 0) (.inl (1, [xR (30, b, 0), xR (31, b, 0), xI (S.1 (14, b, 0) 2), xI (S.1 (14, b, 0) 3), xI (S.1 (14, b, 0) 4), xJ (S.2.1 (14, b, 0) 5), xJ (S.2.1 (14, b, 0) 6), xI (S.1 (14, b, 0) 7), xI v, xI (S.1 (14, b, 0) 9)])) := hp_putI (dm14 S h1 h2) rfl
theorem pu14_9 (S : XS) {b : Int} (h1 : 0 ≤ b) (h2 : b < 5) (v : Int) : hp (putI S (14, b, 0) 9 v) = xUp (hp S) (14, b, 0) (.inl (1, [xR (30, b, 0), xR (31, b, 0), xI (S.1 (14, b, 0) 2), xI (S.1 (14, b, 0) 3), xI (S.1 (14, b, 0) 4), xJ (S.2.1 (14, b, 0) 5), xJ (S.2.1 (14, b, 0) 6), xI (S.1 (14, b, 0) 7), xI (S.1 (14, b, 0) 8), xI v])) := hp_putI (dm14 S h1 h2) rfl
theorem dm30 (S : XS) {b : Int} (h1 : 0 ≤ b) (h2 : b < 5) : xdm S.2.2.2 (30, b, 0) := ⟨h1, h2, rfl⟩
theorem hp30 (S : XS) {b : Int} (h1 : 0 ≤ b) (h2 : b < 5) : hp S (30, b, 0) = some (.inr (1, 120, .inr (.inl (S.2.1 (30, b, 0))))) := hp_of (dm30 S h1 h2)
theorem pa30 (S : XS) {b : Int} (h1 : 0 ≤ b) (h2 : b < 5) (i : Int) (v : Int64) : hp (putJ S (30, b, 0) i v) = xUp (hp S) (30, b, 0) (.inr (1, 120, .inr (.inl (xUpd (S.2.1 (30, b, 0)) i v)))) := hp_putJ (dm30 S h1 h2) rfl
theorem dm31 (S : XS) {b : Int} (h1 : 0 ≤ b) (h2 : b < 5) : xdm S.2.2.2 (31, b, 0) := ⟨h1, h2, rfl⟩
theorem hp31 (S : XS) {b : Int} (h1 : 0 ≤ b) (h2 : b < 5) : hp S (31, b, 0) = some (.inr (1, 120, .inr (.inl (S.2.1 (31, b, 0))))) := hp_of (dm31 S h1 h2)
theorem pa31 (S : XS) {b : Int} (h1 : 0 ≤ b) (h2 : b < 5) (i : Int) (v : Int64) : hp (putJ S (31, b, 0) i v) = xUp (hp S) (31, b, 0) (.inr (1, 120, .inr (.inl (xUpd (S.2.1 (31, b, 0)) i v)))) := hp_putJ (dm31 S h1 h2) rfl
theorem dm32 (S : XS) : xdm S.2.2.2 (32, 0, 0) := ⟨rfl, rfl⟩
theorem hp32 (S : XS) : hp S (32, 0, 0) = some (.inr (10, 10, .inr (.inr (.inr (fun b => some (34, b, 0)))))) := hp_of (dm32 S)
theorem dm33 (S : XS) : xdm S.2.2.2 (33, 0, 0) := ⟨rfl, rfl⟩
theorem hp33 (S : XS) : hp S (33, 0, 0) = some (.inr (0, 6, .inl (S.1 (33, 0, 0)))) := hp_of (dm33 S)
theorem pa33 (S : XS) (i v : Int) : hp (putI S (33, 0, 0) i v) = xUp (hp S) (33, 0, 0) (.inr (0, 6, .inl (xUpd (S.1 (33, 0, 0)) i v))) := hp_putI (dm33 S) rfl
theorem dm34 (S : XS) {b : Int} (h1 : 0 ≤ b) (h2 : b < 10) : xdm S.2.2.2 (34, b, 0) := ⟨h1, h2, rfl⟩
theorem hp34 (S : XS) {b : Int} (h1 : 0 ≤ b) (h2 : b < 10) : hp S (34, b, 0) = some (.inl (4, [xR (37, b, 0), xR (35, b, 0), xI (S.1 (34, b, 0) 2), xI (S.1 (34, b, 0) 3), xI (S.1 (34, b, 0) 4), xI (S.1 (34, b, 0) 5)])) := hp_of (dm34 S h1 h2)
theorem pu34_2 (S : XS) {b : Int} (h1 : 0 ≤ b) (h2 : b < 10) (v : Int) : hp (putI S (34, b, 0) 2 v) = xUp (hp S) (34, b, 0) (.inl (4, [xR (37, b, 0), xR (35, b, 0), xI v, xI (S.1 (34, b, 0) 3), xI (S.1 (34, b, 0) 4), xI (S.1 (34, b, 0) 5)])) := hp_putI (dm34 S h1 h2) rfl
theorem pu34_3 (S : XS) {b : Int} (h1 : 0 ≤ b) (h2 : b < 10) (v : Int) : hp (putI S (34, b, 0) 3 v) = xUp (hp S) (34, b, 0) (.inl (4, [xR (37, b, 0), xR (35, b, 0), xI (S.1 (34, b, 0) 2), xI v, xI (S.1 (34, b, 0) 4), xI (S.1 (34, b, 0) 5)])) := hp_putI (dm34 S h1 h2) rfl
theorem pu34_4 (S : XS) {b : Int} (h1 : 0 ≤ b) (h2 : b < 10) (v : Int) : hp (putI S (34, b, 0) 4 v) = xUp (hp S) (34, b, 0) (.inl (4, [xR (37, b, 0), xR (35, b, 0), xI (S.1 (34, b, 0) 2), xI (S.1 (34, b, 0) 3), xI v, xI (S.1 (34, b, 0) 5)])) := hp_putI (dm34 S h1 h2) rfl
theorem pu34_5 (S : XS) {b : Int} (h1 : 0 ≤ b) (h2 : b < 10) (v : Int) : hp (putI S (34, b, 0) 5 v) = xUp (hp S) (34, b, 0) (.inl (4, [xR (37, b, 0), xR (35, b, 0), xI (S.1 (34, b, 0) 2), xI (S.1 (34, b, 0) 3), xI (S.1 (34, b, 0) 4), xI v])) := hp_putI (dm34 S h1 h2) rfl
theorem dm35 (S : XS) {b : Int} (h1 : 0 ≤ b) (h2 : b < 10) : xdm S.2.2.2 (35, b, 0) := ⟨h1, h2, rfl⟩
theorem hp35 (S : XS) {b : Int} (h1 : 0 ≤ b) (h2 : b < 10) : hp S (35, b, 0) = some (.inr (9, 3, .inr (.inr (.inr (fun k => some (36, b, k)))))) := hp_of (dm35 S h1 h2)
theorem dm36 (S : XS) {b t : Int} (h1 : 0 ≤ b) (h2 : b < 10) (h3 : 0 ≤ t) (h4 : t < 3) : xdm S.2.2.2 (36, b, t) := ⟨h1, h2, h3, h4⟩
theorem hp36 (S : XS) {b t : Int} (h1 : 0 ≤ b) (h2 : b < 10) (h3 : 0 ≤ t) (h4 : t < 3) : hp S (36, b, t) = some (.inl (2, [xI (S.1 (36, b, t) 0), xI (S.1 (36, b, t) 1), xI (S.1 (36, b, t) 2), xI (S.1 (36, b, t) 3)])) := hp_of (dm36 S h1 h2 h3 h4)
theorem pu36_0 (S : XS) {b t : Int} (h1 : 0 ≤ b) (h2 : b < 10) (h3 : 0 ≤ t) (h4 : t < 3) (v : Int) : hp (putI S (36, b, t) 0 v) = xUp (hp S) (36, b, t) (.inl (2, [xI v, xI (S.1 (36, b, t) 1), xI (S.1 (36, b, t) 2), xI (S.1 (36, b, t) 3)])) := hp_putI (dm36 S h1 h2 h3 h4) rfl
theorem pu36_1 (S : XS) {b t : Int} (h1 : 0 ≤ b) (h2 : b < 10) (h3 : 0 ≤ t) (h4 : t < 3) (v : Int) : hp (putI S (36, b, t) 1 v) = xUp (hp S) (36, b, t) (.inl (2, [xI (S.1 (36, b, t) 0), xI v, xI (S.1 (36, b, t) 2), xI (S.1 (36, b, t) 3)])) := hp_putI (dm36 S h1 h2 h3 h4) rfl
theorem pu36_2 (S : XS) {b t : Int} (h1 : 0 ≤ b) (h2 : b < 10) (h3 : 0 ≤ t) (h4 : t < 3) (v : Int) : hp (putI S (36, b, t) 2 v) = xUp (hp S) (36, b, t) (.inl (2, [xI (S.1 (36, b, t) 0), xI (S.1 (36, b, t) 1), xI v, xI (S.1 (36, b, t) 3)])) := hp_putI (dm36 S h1 h2 h3 h4) rfl
theorem pu36_3 (S : XS) {b t : Int} (h1 : 0 ≤ b) (h2 : b < 10) (h3 : 0 ≤ t) (h4 : t < 3) (v : Int) : hp (putI S (36, b, t) 3 v) = xUp (hp S) (36, b, t) (.inl (2, [xI (S.1 (36, b, t) 0), xI (S.1 (36, b, t) 1), xI (S.1 (36, b, t) 2), xI v])) := hp_putI (dm36 S h1 h2 h3 h4) rfl
theorem dm37 (S : XS) {b : Int} (h1 : 0 ≤ b) (h2 : b < 10) : xdm S.2.2.2 (37, b, 0) := ⟨h1, h2, rfl⟩
theorem hp37 (S : XS) {b : Int} (h1 : 0 ≤ b) (h2 : b < 10) : hp S (37, b, 0) = some (.inl (2, [xI (S.1 (37, b, 0) 0), xI (S.1 (37, b, 0) 1), xI (S.1 (37, b, 0) 2), xI (S.1 (37, b, 0) 3)])) := hp_of (dm37 S h1 h2)
theorem pu37_0 (S : XS) {b : Int} (h1 : 0 ≤ b) (h2 : b < 10) (v : Int) : hp (putI S (37, b, 0) 0 v) = xUp (hp S) (37, b, 0) (.inl (2, [xI v, xI (S.1 (37, b, 0) 1), xI (S.1 (37, b, 0) 2), xI (S.1 (37, b, 0) 3)])) := hp_putI (dm37 S h1 h2) rfl
theorem pu37_1 (S : XS) {b : Int} (h1 : 0 ≤ b) (h2 : b < 10) (v : Int) : hp (putI S (37, b, 0) 1 v) = xUp (hp S) (37, b, 0) (.inl (2, [xI (S.1 (37, b, 0) 0), xI v, xI (S.1 (37, b, 0) 2), xI (S.1 (37, b, 0) 3)])) := hp_putI (dm37 S h1 h2) rfl
theorem pu37_2 (S : XS) {b : Int} (h1 : 0 ≤ b) (h2 : b < 10) (v : Int) : hp (putI S (37, b, 0) 2 v) = xUp (hp S) (37, b, 0) (.inl (2, [xI (S.1 (37, b, 0) 0), xI (S.1 (37, b, 0) 1), xI v, xI (S.1 (37, b, 0) 3)])) := hp_putI (dm37 S h1 h2) rfl
theorem pu37_3 (S : XS) {b : Int} (h1 : 0 ≤ b) (h2 : b < 10) (v : Int) : hp (putI S (37, b, 0) 3 v) = xUp (hp S) (37, b, 0) (.inl (2, [xI (S.1 (37, b, 0) 0), xI (S.1 (37, b, 0) 1), xI (S.1 (37, b, 0) 2), xI v])) := hp_putI (dm37 S h1 h2) rfl
theorem dm40 (S : XS) : xdm S.2.2.2 (40, 0, 0) := ⟨rfl, rfl⟩
theorem hp40 (S : XS) : hp S (40, 0, 0) = some (.inr (0, 384, .inl (S.1 (40, 0, 0)))) := hp_of (dm40 S)
theorem pa40 (S : XS) (i v : Int) : hp (putI S (40, 0, 0) i v) = xUp (hp S) (40, 0, 0) (.inr (0, 384, .inl (xUpd (S.1 (40, 0, 0)) i v))) := hp_putI (dm40 S) rfl
theorem dm41 (S : XS) : xdm S.2.2.2 (41, 0, 0) := ⟨rfl, rfl⟩
theorem hp41 (S : XS) : hp S (41, 0, 0) = some (.inr (0, 384, .inl (S.1 (41, 0, 0)))) := hp_of (dm41 S)
theorem pa41 (S : XS) (i v : Int) : hp (putI S (41, 0, 0) i v) = xUp (hp S) (41, 0, 0) (.inr (0, 384, .inl (xUpd (S.1 (41, 0, 0)) i v))) := hp_putI (dm41 S) rfl
theorem dm42 (S : XS) : xdm S.2.2.2 (42, 0, 0) := ⟨rfl, rfl⟩
theorem hp42 (S : XS) : hp S (42, 0, 0) = some (.inr (0, 384, .inl (S.1 (42, 0, 0)))) := hp_of (dm42 S)
theorem pa42 (S : XS) (i v : Int) : hp (putI S (42, 0, 0) i v) = xUp (hp S) (42, 0, 0) (.inr (0, 384, .inl (xUpd (S.1 (42, 0, 0)) i v))) := hp_putI (dm42 S) rfl
theorem dm43 (S : XS) : xdm S.2.2.2 (43, 0, 0) := ⟨rfl, rfl⟩
theorem hp43 (S : XS) : hp S (43, 0, 0) = some (.inr (1, 6, .inr (.inl (S.2.1 (43, 0, 0))))) := hp_of (dm43 S)
theorem pa43 (S : XS) (i : Int) (v : Int64) : hp (putJ S (43, 0, 0) i v) = xUp (hp S) (43, 0, 0) (.inr (1, 6, .inr (.inl (xUpd (S.2.1 (43, 0, 0)) i v)))) := hp_putJ (dm43 S) rfl
theorem dm44 (S : XS) : xdm S.2.2.2 (44, 0, 0) := ⟨rfl, rfl⟩
theorem hp44 (S : XS) : hp S (44, 0, 0) = some (.inr (1, 6, .inr (.inl (S.2.1 (44, 0, 0))))) := hp_of (dm44 S)
theorem pa44 (S : XS) (i : Int) (v : Int64) : hp (putJ S (44, 0, 0) i v) = xUp (hp S) (44, 0, 0) (.inr (1, 6, .inr (.inl (xUpd (S.2.1 (44, 0, 0)) i v)))) := hp_putJ (dm44 S) rfl
theorem dm45 (S : XS) : xdm S.2.2.2 (45, 0, 0) := ⟨rfl, rfl⟩
theorem hp45 (S : XS) : hp S (45, 0, 0) = some (.inr (1, 6, .inr (.inl (S.2.1 (45, 0, 0))))) := hp_of (dm45 S)
theorem pa45 (S : XS) (i : Int) (v : Int64) : hp (putJ S (45, 0, 0) i v) = xUp (hp S) (45, 0, 0) (.inr (1, 6, .inr (.inl (xUpd (S.2.1 (45, 0, 0)) i v)))) := hp_putJ (dm45 S) rfl
theorem dm46 (S : XS) : xdm S.2.2.2 (46, 0, 0) := ⟨rfl, rfl⟩
theorem hp46 (S : XS) : hp S (46, 0, 0) = some (.inr (0, 384, .inl (S.1 (46, 0, 0)))) := hp_of (dm46 S)
theorem pa46 (S : XS) (i v : Int) : hp (putI S (46, 0, 0) i v) = xUp (hp S) (46, 0, 0) (.inr (0, 384, .inl (xUpd (S.1 (46, 0, 0)) i v))) := hp_putI (dm46 S) rfl
theorem dm50 (S : XS) : xdm S.2.2.2 (50, 0, 0) := ⟨rfl, rfl⟩
theorem hp50 (S : XS) : hp S (50, 0, 0) = some (.inl (9, [xR (51, 0, 0), xR (52, 0, 0), xR (53, 0, 0), xR (54, 0, 0), xR (55, 0, 0), xR (56, 0, 0), xR (57, 0, 0), xR (58, 0, 0), xR (59, 0, 0), xR (60, 0, 0), xR (61, 0, 0), xI (S.1 (50, 0, 0) 11), xI (S.1 (50, 0, 0) 12), xI (S.1 (50, 0, 0) 13), xR (62, 0, 0), xR (63, 0, 0), xR (64, 0, 0), xR (65, 0, 0), xR (66, 0, 0), xR (67, 0, 0), xR (68, 0, 0), xR (69, 0, 0), xR (80, 0, 0), xR (70, 0, 0), xI (S.1 (50, 0, 0) 24), xI (S.1 (50, 0, 0) 25), xR (71, 0, 0), xR (72, 0, 0), xR (73, 0, 0), xR (74, 0, 0), xR (75, 0, 0)])) := hp_of (dm50 S)
theorem pu50_11 (S : XS) (v : Int) : hp (putI S (50, 0, 0) 11 v) = xUp (hp S) (50, 0, 0) (.inl (9, [xR (51, 0, 0), xR (52, 0, 0), xR (53, 0, 0), xR (54, 0, 0), xR (55, 0, 0), xR (56, 0, 0), xR (57, 0, 0), xR (58, 0, 0), xR (59, 0, 0), xR (60, 0, 0), xR (61, 0, 0), xI v, xI (S.1 (50, 0, 0) 12), xI (S.1 (50, 0, 0) 13), xR (62, 0, 0), xR (63, 0, 0), xR (64, 0, 0), xR (65, 0, 0), xR (66, 0, 0), xR (67, 0, 0), xR (68, 0, 0), xR (69, 0, 0), xR (80, 0, 0), xR (70, 0, 0), xI (S.1 (50, 0, 0) 24), xI (S.1 (50, 0, 0) 25), xR (71, 0, 0), xR (72, 0, 0), xR (73, 0, 0), xR (74, 0, 0), xR (75, 0, 0)])) := hp_putI (dm50 S) rfl
theorem pu50_12 (S : XS) (v : Int) : hp (putI S (50, 0, 0) 12 v) = xUp (hp S) (50, 0, 0) (.inl (9, [xR (51, 0, 0), xR (52, 0, 0), xR (53, 0, 0), xR (54, 0, 0), xR (55, 0, 0), xR (56, 0, 0), xR (57, 0, 0), xR (58, 0, 0), xR (59, 0, 0), xR (60, 0, 0), xR (61, 0, 0), xI (S.1 (50, 0, 0) 11), xI v, xI (S.1 (50, 0, 0) 13), xR (62, 0, 0), xR (63, 0, 0), xR (64, 0, 0), xR (65, 0, 0), xR (66, 0, 0), xR (67, 0, 0), xR (68, 0, 0), xR (69, 0, 0), xR (80, 0, 0), xR (70, 0, 0), xI (S.1 (50, 0, 0) 24), xI (S.1 (50, 0, 0) 25), xR (71, 0, 0), xR (72, 0, 0), xR (73, 0, 0), xR (74, 0, 0), xR (75, 0, 0)])) := hp_putI (dm50 S) rfl
theorem pu50_13 (S : XS) (v : Int) : hp (putI S (50, 0, 0) 13 v) = xUp (hp S) (50, 0, 0) (.inl (9, [xR (51, 0, 0), xR (52, 0, 0), xR (53, 0, 0), xR (54, 0, 0), xR (55, 0, 0), xR (56, 0, 0), xR (57, 0, 0), xR (58, 0, 0), xR (59, 0, 0), xR (60, 0, 0), xR (61, 0, 0), xI (S.1 (50, 0, 0) 11), xI (S.1 (50, 0, 0) 12), xI v, xR (62, 0, 0), xR (63, 0, 0), xR (64, 0, 0), xR (65, 0, 0), xR (66, 0, 0), xR (67, 0, 0), xR (68, 0, 0), xR (69, 0, 0), xR (80, 0, 0), xR (70, 0, 0), xI (S.1 (50, 0, 0) 24), xI (S.1 (50, 0, 0) 25), xR (71, 0, 0), xR (72, 0, 0), xR (73, 0, 0), xR (74, 0, 0), xR (75, 0, 0)])) := hp_putI (dm50 S) rfl
theorem pu50_24 (S : XS) (v : Int) : hp (putI S (50, 0, 0) 24 v) = xUp (hp S) (50, 0, 0) (.inl (9, [xR (51, 0, 0), xR (52, 0, 0), xR (53, 0, 0), xR (54, 0, 0), xR (55, 0, 0), xR (56, 0, 0), xR (57, 0, 0), xR (58, 0, 0), xR (59, 0, 0), xR (60, 0, 0), xR (61, 0, 0), xI (S.1 (50, 0, 0) 11), xI (S.1 (50, 0, 0) 12), xI (S.1 (50, 0, 0) 13), xR (62, 0, 0), xR (63, 0, 0), xR (64, 0, 0), xR (65, 0, 0), xR (66, 0, 0), xR (67, 0, 0), xR (68, 0, 0), xR (69, 0, 0), xR (80, 0, 0), xR (70, 0, 0), xI v, xI (S.1 (50, 0, 0) 25), xR (71, 0, 0), xR (72, 0, 0), xR (73, 0, 0), xR (74, 0, 0), xR (75, 0, 0)])) := hp_putI (dm50 S) rfl
theorem pu50_25 (S : XS) (v : Int) : hp (putI S (50, 0, 0) 25 v) = xUp (hp S) (50, 0, 0) (.inl (9, [xR (51, 0, 0), xR (52, 0, 0), xR (53, 0, 0), xR (54, 0, 0), xR (55, 0, 0), xR (56, 0, 0), xR (57, 0, 0), xR (58, 0, 0), xR (59, 0, 0), xR (60, 0, 0), xR (61, 0, 0), xI (S.1 (50, 0, 0) 11), xI (S.1 (50, 0, 0) 12), xI (S.1 (50, 0, 0) 13), xR (62, 0, 0), xR (63, 0, 0), xR (64, 0, 0), xR (65, 0, 0), xR (66, 0, 0), xR (67, 0, 0), xR (68, 0, 0), xR (69, 0, 0), xR (80, 0, 0), xR (70, 0, 0), xI (S.1 (50, 0, 0) 24), xI v, xR (71, 0, 0), xR (72, 0, 0), xR (73, 0, 0), xR (74, 0, 0), xR (75, 0, 0)])) := hp_putI (dm50 S) rfl
theorem dm51 (S : XS) : xdm S.2.2.2 (51, 0, 0) := ⟨rfl, rfl⟩
theorem hp51 (S : XS) : hp S (51, 0, 0) = some (.inr (3, 240, .inl (S.1 (51, 0, 0)))) := hp_of (dm51 S)
theorem pa51 (S : XS) (i v : Int) : hp (putI S (51, 0, 0) i v) = xUp (hp S) (51, 0, 0) (.inr (3, 240, .inl (xUpd (S.1 (51, 0, 0)) i v))) := hp_putI (dm51 S) rfl
theorem dm52 (S : XS) : xdm S.2.2.2 (52, 0, 0) := ⟨rfl, rfl⟩
theorem hp52 (S : XS) : hp S (52, 0, 0) = some (.inr (0, 240, .inl (S.1 (52, 0, 0)))) := hp_of (dm52 S)
theorem pa52 (S : XS) (i v : Int) : hp (putI S (52, 0, 0) i v) = xUp (hp S) (52, 0, 0) (.inr (0, 240, .inl (xUpd (S.1 (52, 0, 0)) i v))) := hp_putI (dm52 S) rfl
theorem dm53 (S : XS) : xdm S.2.2.2 (53, 0, 0) := ⟨rfl, rfl⟩
theorem hp53 (S : XS) : hp S (53, 0, 0) = some (.inr (0, 240, .inl (S.1 (53, 0, 0)))) := hp_of (dm53 S)
theorem pa53 (S : XS) (i v : Int) : hp (putI S (53, 0, 0) i v) = xUp (hp S) (53, 0, 0) (.inr (0, 240, .inl (xUpd (S.1 (53, 0, 0)) i v))) := hp_putI (dm53 S) rfl
theorem dm54 (S : XS) : xdm S.2.2.2 (54, 0, 0) := ⟨rfl, rfl⟩
theorem hp54 (S : XS) : hp S (54, 0, 0) = some (.inr (0, 240, .inl (S.1 (54, 0, 0)))) := hp_of (dm54 S)
theorem pa54 (S : XS) (i v : Int) : hp (putI S (54, 0, 0) i v) = xUp (hp S) (54, 0, 0) (.inr (0, 240, .inl (xUpd (S.1 (54, 0, 0)) i v))) := hp_putI (dm54 S) rfl
theorem dm55 (S : XS) : xdm S.2.2.2 (55, 0, 0) := ⟨rfl, rfl⟩
theorem hp55 (S : XS) : hp S (55, 0, 0) = some (.inr (0, 240, .inl (S.1 (55, 0, 0)))) := hp_of (dm55 S)
theorem pa55 (S : XS) (i v : Int) : hp (putI S (55, 0, 0) i v) = xUp (hp S) (55, 0, 0) (.inr (0, 240, .inl (xUpd (S.1 (55, 0, 0)) i v))) := hp_putI (dm55 S) rfl
theorem dm56 (S : XS) : xdm S.2.2.2 (56, 0, 0) := ⟨rfl, rfl⟩
theorem hp56 (S : XS) : hp S (56, 0, 0) = some (.inr (2, 240, .inl (S.1 (56, 0, 0)))) := hp_of (dm56 S)
theorem pa56 (S : XS) (i v : Int) : hp (putI S (56, 0, 0) i v) = xUp (hp S) (56, 0, 0) (.inr (2, 240, .inl (xUpd (S.1 (56, 0, 0)) i v))) := hp_putI (dm56 S) rfl
theorem dm57 (S : XS) : xdm S.2.2.2 (57, 0, 0) := ⟨rfl, rfl⟩
theorem hp57 (S : XS) : hp S (57, 0, 0) = some (.inr (2, 6, .inl (S.1 (57, 0, 0)))) := hp_of (dm57 S)
theorem pa57 (S : XS) (i v : Int) : hp (putI S (57, 0, 0) i v) = xUp (hp S) (57, 0, 0) (.inr (2, 6, .inl (xUpd (S.1 (57, 0, 0)) i v))) := hp_putI (dm57 S) rfl
theorem dm58 (S : XS) : xdm S.2.2.2 (58, 0, 0) := ⟨rfl, rfl⟩
theorem hp58 (S : XS) : hp S (58, 0, 0) = some (.inr (0, 4, .inl (S.1 (58, 0, 0)))) := hp_of (dm58 S)
theorem pa58 (S : XS) (i v : Int) : hp (putI S (58, 0, 0) i v) = xUp (hp S) (58, 0, 0) (.inr (0, 4, .inl (xUpd (S.1 (58, 0, 0)) i v))) := hp_putI (dm58 S) rfl
theorem dm59 (S : XS) : xdm S.2.2.2 (59, 0, 0) := ⟨rfl, rfl⟩
theorem hp59 (S : XS) : hp S (59, 0, 0) = some (.inr (0, 4, .inl (S.1 (59, 0, 0)))) := hp_of (dm59 S)
theorem pa59 (S : XS) (i v : Int) : hp (putI S (59, 0, 0) i v) = xUp (hp S) (59, 0, 0) (.inr (0, 4, .inl (xUpd (S.1 (59, 0, 0)) i v))) := hp_putI (dm59 S) rfl
theorem dm60 (S : XS) : xdm S.2.2.2 (60, 0, 0) := ⟨rfl, rfl⟩
theorem hp60 (S : XS) : hp S (60, 0, 0) = some (.inr (0, 4, .inl (S.1 (60, 0, 0)))) := hp_of (dm60 S)
theorem pa60 (S : XS) (i v : Int) : hp (putI S (60, 0, 0) i v) = xUp (hp S) (60, 0, 0) (.inr (0, 4, .inl (xUpd (S.1 (60, 0, 0)) i v))) := hp_putI (dm60 S) rfl
theorem dm61 (S : XS) : xdm S.2.2.2 (61, 0, 0) := ⟨rfl, rfl⟩
theorem hp61 (S : XS) : hp S (61, 0, 0) = some (.inr (0, 4, .inl (S.1 (61, 0, 0)))) := hp_of (dm61 S)
theorem pa61 (S : XS) (i v : Int) : hp (putI S (61, 0, 0) i v) = xUp (hp S) (61, 0, 0) (.inr (0, 4, .inl (xUpd (S.1 (61, 0, 0)) i v))) := hp_putI (dm61 S) rfl
theorem dm62 (S : XS) : xdm S.2.2.2 (62, 0, 0) := ⟨rfl, rfl⟩
theorem hp62 (S : XS) : hp S (62, 0, 0) = some (.inr (0, 30, .inl (S.1 (62, 0, 0)))) := hp_of (dm62 S)
theorem pa62 (S : XS) (i v : Int) : hp (putI S (62, 0, 0) i v) = xUp (hp S) (62, 0, 0) (.inr (0, 30, .inl (xUpd (S.1 (62, 0, 0)) i v))) := hp_putI (dm62 S) rfl
theorem dm63 (S : XS) : xdm S.2.2.2 (63, 0, 0) := ⟨rfl, rfl⟩
theorem hp63 (S : XS) : hp S (63, 0, 0) = some (.inr (0, 90, .inl (S.1 (63, 0, 0)))) := hp_of (dm63 S)
theorem pa63 (S : XS) (i v : Int) : hp (putI S (63, 0, 0) i v) = xUp (hp S) (63, 0, 0) (.inr (0, 90, .inl (xUpd (S.1 (63, 0, 0)) i v))) := hp_putI (dm63 S) rfl
theorem dm64 (S : XS) : xdm S.2.2.2 (64, 0, 0) := ⟨rfl, rfl⟩
theorem hp64 (S : XS) : hp S (64, 0, 0) = some (.inr (0, 10, .inl (S.1 (64, 0, 0)))) := hp_of (dm64 S)
theorem pa64 (S : XS) (i v : Int) : hp (putI S (64, 0, 0) i v) = xUp (hp S) (64, 0, 0) (.inr (0, 10, .inl (xUpd (S.1 (64, 0, 0)) i v))) := hp_putI (dm64 S) rfl
theorem dm65 (S : XS) : xdm S.2.2.2 (65, 0, 0) := ⟨rfl, rfl⟩
theorem hp65 (S : XS) : hp S (65, 0, 0) = some (.inr (2, 30, .inl (S.1 (65, 0, 0)))) := hp_of (dm65 S)
theorem pa65 (S : XS) (i v : Int) : hp (putI S (65, 0, 0) i v) = xUp (hp S) (65, 0, 0) (.inr (2, 30, .inl (xUpd (S.1 (65, 0, 0)) i v))) := hp_putI (dm65 S) rfl
theorem dm66 (S : XS) : xdm S.2.2.2 (66, 0, 0) := ⟨rfl, rfl⟩
theorem hp66 (S : XS) : hp S (66, 0, 0) = some (.inr (2, 10, .inl (S.1 (66, 0, 0)))) := hp_of (dm66 S)
theorem pa66 (S : XS) (i v : Int) : hp (putI S (66, 0, 0) i v) = xUp (hp S) (66, 0, 0) (.inr (2, 10, .inl (xUpd (S.1 (66, 0, 0)) i v))) := hp_putI (dm66 S) rfl
theorem dm67 (S : XS) : xdm S.2.2.2 (67, 0, 0) := ⟨rfl, rfl⟩
theorem hp67 (S : XS) : hp S (67, 0, 0) = some (.inr (0, 25, .inl (S.1 (67, 0, 0)))) := hp_of (dm67 S)
theorem pa67 (S : XS) (i v : Int) : hp (putI S (67, 0, 0) i v) = xUp (hp S) (67, 0, 0) (.inr (0, 25, .inl (xUpd (S.1 (67, 0, 0)) i v))) := hp_putI (dm67 S) rfl
theorem dm68 (S : XS) : xdm S.2.2.2 (68, 0, 0) := ⟨rfl, rfl⟩
theorem hp68 (S : XS) : hp S (68, 0, 0) = some (.inr (0, 5, .inl (S.1 (68, 0, 0)))) := hp_of (dm68 S)
theorem pa68 (S : XS) (i v : Int) : hp (putI S (68, 0, 0) i v) = xUp (hp S) (68, 0, 0) (.inr (0, 5, .inl (xUpd (S.1 (68, 0, 0)) i v))) := hp_putI (dm68 S) rfl
theorem dm69 (S : XS) : xdm S.2.2.2 (69, 0, 0) := ⟨rfl, rfl⟩
theorem hp69 (S : XS) : hp S (69, 0, 0) = some (.inr (0, 5, .inl (S.1 (69, 0, 0)))) := hp_of (dm69 S)
theorem pa69 (S : XS) (i v : Int) : hp (putI S (69, 0, 0) i v) = xUp (hp S) (69, 0, 0) (.inr (0, 5, .inl (xUpd (S.1 (69, 0, 0)) i v))) := hp_putI (dm69 S) rfl
theorem dm70 (S : XS) : xdm S.2.2.2 (70, 0, 0) := ⟨rfl, rfl⟩
theorem hp70 (S : XS) : hp S (70, 0, 0) = some (.inr (2, 320, .inl (S.1 (70, 0, 0)))) := hp_of (dm70 S)
theorem pa70 (S : XS) (i v : Int) : hp (putI S (70, 0, 0) i v) = xUp (hp S) (70, 0, 0) (.inr (2, 320, .inl (xUpd (S.1 (70, 0, 0)) i v))) := hp_putI (dm70 S) rfl
theorem dm71 (S : XS) : xdm S.2.2.2 (71, 0, 0) := ⟨rfl, rfl⟩
theorem hp71 (S : XS) : hp S (71, 0, 0) = some (.inr (2, 10, .inl (S.1 (71, 0, 0)))) := hp_of (dm71 S)
theorem pa71 (S : XS) (i v : Int) : hp (putI S (71, 0, 0) i v) = xUp (hp S) (71, 0, 0) (.inr (2, 10, .inl (xUpd (S.1 (71, 0, 0)) i v))) := hp_putI (dm71 S) rfl
theorem dm72 (S : XS) : xdm S.2.2.2 (72, 0, 0) := ⟨rfl, rfl⟩
theorem hp72 (S : XS) : hp S (72, 0, 0) = some (.inr (0, 6, .inl (S.1 (72, 0, 0)))) := hp_of (dm72 S)
theorem pa72 (S : XS) (i v : Int) : hp (putI S (72, 0, 0) i v) = xUp (hp S) (72, 0, 0) (.inr (0, 6, .inl (xUpd (S.1 (72, 0, 0)) i v))) := hp_putI (dm72 S) rfl
theorem dm73 (S : XS) : xdm S.2.2.2 (73, 0, 0) := ⟨rfl, rfl⟩
theorem hp73 (S : XS) : hp S (73, 0, 0) = some (.inr (0, 384, .inl (S.1 (73, 0, 0)))) := hp_of (dm73 S)
theorem pa73 (S : XS) (i v : Int) : hp (putI S (73, 0, 0) i v) = xUp (hp S) (73, 0, 0) (.inr (0, 384, .inl (xUpd (S.1 (73, 0, 0)) i v))) := hp_putI (dm73 S) rfl
theorem dm74 (S : XS) : xdm S.2.2.2 (74, 0, 0) := ⟨rfl, rfl⟩
theorem hp74 (S : XS) : hp S (74, 0, 0) = some (.inr (0, 3, .inl (S.1 (74, 0, 0)))) := hp_of (dm74 S)
theorem pa74 (S : XS) (i v : Int) : hp (putI S (74, 0, 0) i v) = xUp (hp S) (74, 0, 0) (.inr (0, 3, .inl (xUpd (S.1 (74, 0, 0)) i v))) := hp_putI (dm74 S) rfl
theorem dm75 (S : XS) : xdm S.2.2.2 (75, 0, 0) := ⟨rfl, rfl⟩
theorem hp75 (S : XS) : hp S (75, 0, 0) = some (.inr (2, 384, .inl (S.1 (75, 0, 0)))) := hp_of (dm75 S)
theorem pa75 (S : XS) (i v : Int) : hp (putI S (75, 0, 0) i v) = xUp (hp S) (75, 0, 0) (.inr (2, 384, .inl (xUpd (S.1 (75, 0, 0)) i v))) := hp_putI (dm75 S) rfl
theorem dm80 (S : XS) : xdm S.2.2.2 (80, 0, 0) := ⟨rfl, rfl⟩
theorem hp80 (S : XS) : hp S (80, 0, 0) = some (.inr (11, 5, .inr (.inr (.inr (fun b => some (81, b, S.2.2.2.1 b)))))) := hp_of (dm80 S)
theorem dm90 (S : XS) : xdm S.2.2.2 (90, 0, 0) := ⟨rfl, rfl⟩
theorem hp90 (S : XS) : hp S (90, 0, 0) = some (.inr (1, 1, .inr (.inl (S.2.1 (90, 0, 0))))) := hp_of (dm90 S)
theorem pa90 (S : XS) (i : Int) (v : Int64) : hp (putJ S (90, 0, 0) i v) = xUp (hp S) (90, 0, 0) (.inr (1, 1, .inr (.inl (xUpd (S.2.1 (90, 0, 0)) i v)))) := hp_putJ (dm90 S) rfl
theorem dm91 (S : XS) : xdm S.2.2.2 (91, 0, 0) := ⟨rfl, rfl⟩
theorem hp91 (S : XS) : hp S (91, 0, 0) = some (.inr (4, 1, .inr (.inr (.inl (fun i => if i = 0 then S.2.2.1 else 0))))) := hp_of (dm91 S)
theorem dm99 (S : XS) : xdm S.2.2.2 (99, 0, 0) := ⟨rfl, rfl⟩
theorem hp99 (S : XS) : hp S (99, 0, 0) = some (.inr (0, S.2.2.2.2.2, .inl (S.1 (99, 0, 0)))) := hp_of (dm99 S)
theorem pa99 (S : XS) (i v : Int) : hp (putI S (99, 0, 0) i v) = xUp (hp S) (99, 0, 0) (.inr (0, S.2.2.2.2.2, .inl (xUpd (S.1 (99, 0, 0)) i v))) := hp_putI (dm99 S) rfl
