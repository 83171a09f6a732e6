/-! ===== worlds: the call ===== -/
set_option maxRecDepth 100000 in
theorem s_1451 (d : Nat) (X : XS) (i : Nat → Nat → Int32) (j : Nat → Nat → Int64) (a1 : Int32) (a2 : Int32) (a3 : Int32) (a4 : Int32) (a5 : Int32) (a6 : Int32) (K : Int32 → AM → Prop) (h : (PSs X i) ∧ ((¬ ((nI 0) ≤ a1 ∧ a1 ≤ ((i 2 9) - (nI 1)))) → K (kI (-1)) (mm X i j)) ∧ (((nI 0) ≤ a1 ∧ a1 ≤ ((i 2 9) - (nI 1))) → (PO X (xr X 24 (a1.toNatClampNeg))) → ((¬ ((nI 1) ≤ a2 ∧ a2 ≤ ((shlI (nI 1) (i 2 7)) - (nI 1))) → K (kI (-1)) (mm X i j)) ∧ ((nI 1) ≤ a2 ∧ a2 ≤ ((shlI (nI 1) (i 2 7)) - (nI 1)) → ((((nI 1) ≤ a5 ∧ a5 ≤ (nI 3)) ∧ ((nI 1) ≤ a6 ∧ a6 ≤ (nI 9)) → ((¬ ((nI 1) ≤ a3 ∧ a3 ≤ (nI 60)) → K (kI (-1)) (mm X i j)) ∧ ((nI 1) ≤ a3 ∧ a3 ≤ (nI 60) → (((nI 1) ≤ a4 ∧ a4 ≤ (nI 12) → WP (d + 6) 1451 (76, [(0, .ref 2), (2, .int a2), (3, .int a3), (4, .int a4), (5, .int a5), (6, .int a6), (7, .ref (xr X 24 (a1.toNatClampNeg))), (8, .int (i 3 2)), (9, .int (nI 0)), (10, .int (nI 0)), (11, .int (nI 0)), (12, .int (nI 0))], [], (mm X i j)) (qI K)) ∧ (¬ ((nI 1) ≤ a4 ∧ a4 ≤ (nI 12)) → K (kI (-1)) (mm X i j)))))) ∧ (¬ (((nI 1) ≤ a5 ∧ a5 ≤ (nI 3)) ∧ ((nI 1) ≤ a6 ∧ a6 ≤ (nI 9))) → K (kI (-1)) (mm X i j))))))) : WI (d + 6) 1451 [.ref 2, .int a1, .int a2, .int a3, .int a4, .int a5, .int a6] (mm X i j) K := te_1451 (d + 5) 2 a1 a2 a3 a4 a5 a6 (mm X i j) (qI K) ⟨rfl, (p_1469 (d + 4) X i j a1 _ ⟨h.1, (fun h2 => ⟨fun _ => ⟨_, rfl, (h.2.1 h2)⟩, fun e3 => absurd rfl e3⟩), (fun h4 h5 => ⟨fun e6 => absurd e6 (nz_k (h5)), fun _ => ⟨rfl, (te_1470 (d + 4) 2 a2 (mm X i j) _ ⟨rfl, (p_1462 (d + 4) X i j a2 (nI 1) ((shlI (nI 1) (i 2 7)) - (nI 1)) _ ⟨(bi_01 _), ⟨_, rfl, ⟨fun e7 => ⟨_, rfl, ((h.2.2 h4 h5).1 ((bi_z e7)))⟩, fun e7 => (p_1464 (d + 4) X i j a5 a6 _ ⟨fun e8 => (p_1462 (d + 5) X i j a3 (nI 1) (nI 60) _ ⟨fun e9 => ⟨_, rfl, ((((h.2.2 h4 h5).2 ((bi_n e7))).1 ((bi_n e8))).1 ((bi_z e9)))⟩, fun e9 => (p_1462 (d + 5) X i j a4 (nI 1) (nI 12) _ ⟨fun e10 => ⟨rfl, ⟨rfl, (te_1 (d + 5) 3 (mm X i j) _ ⟨rfl, ⟨_, rfl, (((((h.2.2 h4 h5).2 ((bi_n e7))).1 ((bi_n e8))).2 ((bi_n e9))).1 ((bi_n e10)))⟩⟩)⟩⟩, fun e10 => ⟨_, rfl, (((((h.2.2 h4 h5).2 ((bi_n e7))).1 ((bi_n e8))).2 ((bi_n e9))).2 ((bi_nn e10)))⟩⟩)⟩), fun e8 => ⟨_, rfl, (((h.2.2 h4 h5).2 ((bi_n e7))).2 ((bi_nn e8)))⟩⟩)⟩⟩⟩)⟩)⟩⟩)⟩)⟩
set_option maxRecDepth 100000 in
theorem s_1451_76 (d : Nat) (X : XS) (i : Nat → Nat → Int32) (j : Nat → Nat → Int64) (v2 : Int32) (v3 : Int32) (v4 : Int32) (v5 : Int32) (v6 : Int32) (v7 : Nat) (h7 : PO X v7) (v8 : Int32) (v9 : Int32) (v10 : Int32) (v11 : Int32) (v12 : Int32) (Q : Option (Option Value) → AM → Prop) (h : ((v4 ≤ v12 → Q (some (some (.int v9))) (mm X (s2 (s2 (s2 (s2 i 3 2 v8) 40 1 (nI 0)) 40 1 (nI 1)) 40 1 (nI 2)) (s2 (s2 j 41 0 (v10.toInt64)) 41 1 (v11.toInt64)))) ∧ (¬ (v4 ≤ v12) → (∃ (i14 : Nat → Nat → Int32), EvV (d + 5) 1487 [.ref 2, .int v3] (mm X i j) (mm X i14 j) ∧ (∃ (i15 : Nat → Nat → Int32), EvV (d + 5) 1476 [.ref 2, .ref 13, .int v2, .int v5, .int v6] (mm X i14 j) (mm X i15 j) ∧ (∃ (x16 : Int32), EvI (d + 5) 776 [.ref 31, .ref v7] (mm X i15 j) x16 (mm X i15 j) ∧ (∃ (x18 : Int32), ∃ (i17 : Nat → Nat → Int32), EvI (d + 5) 781 [.ref 31, .ref v7, .int v2] (mm X i15 j) x18 (mm X i17 j) ∧ (((x16 - x18) ≤ 0 → WP (d + 6) 1451 (76, [(0, .ref 2), (2, .int v2), (3, .int v3), (4, .int v4), (5, .int v5), (6, .int v6), (7, .ref v7), (8, .int v8), (9, .int (v9 + (nI 0))), (10, .int (v10 + (x16 - x18))), (11, .int (mxI v11 (x16 - x18))), (12, .int (v12 + (nI 1)))], [], (mm X i17 j)) Q) ∧ (¬ ((x16 - x18) ≤ 0) → WP (d + 6) 1451 (76, [(0, .ref 2), (2, .int v2), (3, .int v3), (4, .int v4), (5, .int v5), (6, .int v6), (7, .ref v7), (8, .int v8), (9, .int (v9 + (nI 1))), (10, .int (v10 + (x16 - x18))), (11, .int (mxI v11 (x16 - x18))), (12, .int (v12 + (nI 1)))], [], (mm X i17 j)) Q))))))))) : WP (d + 6) 1451 (76, [(0, .ref 2), (2, .int v2), (3, .int v3), (4, .int v4), (5, .int v5), (6, .int v6), (7, .ref v7), (8, .int v8), (9, .int v9), (10, .int v10), (11, .int v11), (12, .int v12)], [], mm X i j) Q := tc_1451_76 (d + 5) 2 v2 v3 v4 v5 v6 v7 v8 v9 v10 v11 v12 (mm X i j) Q ⟨fun e11 => ⟨rfl, ⟨rfl, (te_2 (d + 5) 3 v8 (mm X i j) _ ⟨rfl, ⟨rfl, ⟨rfl, ⟨rfl, (te_641 (d + 5) 40 (mm X (s2 i 3 2 v8) j) _ ⟨rfl, ⟨rfl, ⟨rfl, ⟨rfl, (te_642 (d + 5) 40 (v10.toInt64) (mm X (s2 (s2 i 3 2 v8) 40 1 (nI 0)) j) _ ⟨rfl, ⟨fun e12 => absurd e12 (show ¬ ((nI 20) ≤ (nI 0)) by decide), fun _ => ⟨rfl, ⟨rfl, ⟨⟨rfl, (vpk 0 20 rfl)⟩, ⟨rfl, ⟨rfl, ⟨rfl, ⟨rfl, ⟨rfl, (te_642 (d + 5) 40 (v11.toInt64) (mm X (s2 (s2 (s2 i 3 2 v8) 40 1 (nI 0)) 40 1 (nI 1)) (s2 j 41 0 (v10.toInt64))) _ ⟨rfl, ⟨fun e13 => absurd e13 (show ¬ ((nI 20) ≤ (nI 1)) by decide), fun _ => ⟨rfl, ⟨rfl, ⟨⟨rfl, (vpk 1 20 rfl)⟩, ⟨rfl, ⟨rfl, ⟨rfl, (h.1 (e11))⟩⟩⟩⟩⟩⟩⟩⟩)⟩⟩⟩⟩⟩⟩⟩⟩⟩⟩)⟩⟩⟩⟩)⟩⟩⟩⟩)⟩⟩, fun e11 => ⟨rfl, (Exists.elim (h.2 (e11)) fun i14 h27 => EvV.use h27.1 ⟨rfl, ⟨rfl, (Exists.elim h27.2 fun i15 h25 => EvV.use h25.1 ⟨rfl, ⟨rfl, (Exists.elim h25.2 fun x16 h23 => EvI.use h23.1 ⟨rfl, ⟨rfl, (Exists.elim h23.2 fun x18 h20 => Exists.elim h20 fun i17 h21 => EvI.use h21.1 ⟨fun e19 => (h21.2.1 (e19)), fun e19 => (h21.2.2 (e19))⟩)⟩⟩)⟩⟩)⟩⟩)⟩⟩
set_option maxRecDepth 100000 in
theorem s_1633 (d : Nat) (X : XS) (i : Nat → Nat → Int32) (j : Nat → Nat → Int64) (a1 : Int32) (a2 : Int32) (a3 : Int32) (a4 : Int32) (a5 : Int32) (a6 : Int32) (K : Int32 → AM → Prop) (h : ((¬ ((nI 0) ≤ a1 ∧ a1 ≤ ((i 42 18) - (nI 1))) → K (kI (-1)) (mm X (s2 i 42 36 (nI 0)) j)) ∧ ((nI 0) ≤ a1 ∧ a1 ≤ ((i 42 18) - (nI 1)) → ((¬ ((nI 1) ≤ a2 ∧ a2 ≤ ((shlI (nI 1) (i 42 14)) - (nI 1))) → K (kI (-1)) (mm X (s2 i 42 36 (nI 0)) j)) ∧ ((nI 1) ≤ a2 ∧ a2 ≤ ((shlI (nI 1) (i 42 14)) - (nI 1)) → ((¬ ((nI 1) ≤ a3 ∧ a3 ≤ (nI 60)) → K (kI (-1)) (mm X (s2 i 42 36 (nI 0)) j)) ∧ ((nI 1) ≤ a3 ∧ a3 ≤ (nI 60) → ((¬ ((nI 1) ≤ a4 ∧ a4 ≤ (nI 12)) → K (kI (-1)) (mm X (s2 i 42 36 (nI 0)) j)) ∧ ((nI 1) ≤ a4 ∧ a4 ≤ (nI 12) → ((((nI 1) ≤ a5 ∧ a5 ≤ (nI 3)) ∧ ((nI 1) ≤ a6 ∧ a6 ≤ (nI 9)) → WP (d + 262) 1633 (69, [(0, .ref 42), (1, .int a1), (2, .int a2), (3, .int a3), (4, .int a4), (5, .int a5), (6, .int a6), (7, .int (i 42 0)), (8, .int (i 42 6)), (9, .int (nI 0))], [], (mm X (s2 i 42 36 (nI 0)) j)) (qI K)) ∧ (¬ (((nI 1) ≤ a5 ∧ a5 ≤ (nI 3)) ∧ ((nI 1) ≤ a6 ∧ a6 ≤ (nI 9))) → K (kI (-1)) (mm X (s2 i 42 36 (nI 0)) j)))))))))))) : WI (d + 262) 1633 [.ref 42, .int a1, .int a2, .int a3, .int a4, .int a5, .int a6] (mm X i j) K := te_1633 (d + 261) 42 a1 a2 a3 a4 a5 a6 (mm X i j) (qI K) ⟨rfl, (tc_1633_5 (d + 261) 42 a1 a2 a3 a4 a5 a6 (mm X (s2 i 42 36 (nI 0)) j) _ ⟨rfl, (te_1547 (d + 260) 42 a1 (mm X (s2 i 42 36 (nI 0)) j) _ ⟨rfl, (p_1538 (d + 260) X (s2 i 42 36 (nI 0)) j a1 (nI 0) ((i 42 18) - (nI 1)) _ ⟨(bi_01 _), ⟨_, rfl, ⟨fun e1 => ⟨_, rfl, (h.1 ((bi_z e1)))⟩, fun e1 => ⟨rfl, (te_1609 (d + 260) 42 a2 (mm X (s2 i 42 36 (nI 0)) j) _ ⟨rfl, (p_1538 (d + 260) X (s2 i 42 36 (nI 0)) j a2 (nI 1) ((shlI (nI 1) (i 42 14)) - (nI 1)) _ ⟨(bi_01 _), ⟨_, rfl, ⟨fun e2 => ⟨_, rfl, ((h.2 ((bi_n e1))).1 ((bi_z e2)))⟩, fun e2 => (p_1538 (d + 261) X (s2 i 42 36 (nI 0)) j a3 (nI 1) (nI 60) _ ⟨fun e3 => ⟨_, rfl, (((h.2 ((bi_n e1))).2 ((bi_n e2))).1 ((bi_z e3)))⟩, fun e3 => (p_1538 (d + 261) X (s2 i 42 36 (nI 0)) j a4 (nI 1) (nI 12) _ ⟨fun e4 => ⟨_, rfl, ((((h.2 ((bi_n e1))).2 ((bi_n e2))).2 ((bi_n e3))).1 ((bi_z e4)))⟩, fun e4 => (p_1588 (d + 260) X (s2 i 42 36 (nI 0)) j a5 a6 _ ⟨fun e5 => ⟨rfl, ⟨rfl, (((((h.2 ((bi_n e1))).2 ((bi_n e2))).2 ((bi_n e3))).2 ((bi_n e4))).1 ((bi_n e5)))⟩⟩, fun e5 => ⟨_, rfl, (((((h.2 ((bi_n e1))).2 ((bi_n e2))).2 ((bi_n e3))).2 ((bi_n e4))).2 ((bi_nn e5)))⟩⟩)⟩)⟩)⟩⟩⟩)⟩)⟩⟩⟩⟩)⟩)⟩)⟩
set_option maxRecDepth 100000 in
theorem s_1633_69 (d : Nat) (X : XS) (i : Nat → Nat → Int32) (j : Nat → Nat → Int64) (v1 : Int32) (v2 : Int32) (v3 : Int32) (v4 : Int32) (v5 : Int32) (v6 : Int32) (v7 : Int32) (v8 : Int32) (v9 : Int32) (Q : Option (Option Value) → AM → Prop) (h : (((nI 60) ≤ v9 → WP (d + 262) 1633 (142, [(0, .ref 42), (1, .int v1), (2, .int v2), (3, .int v3), (4, .int v4), (5, .int v5), (6, .int v6), (7, .int v7), (8, .int v8), (9, .int (nI 0)), (10, .long (Int64.ofNat 0)), (12, .int (nI 0)), (13, .int (nI 0))], [], (mm X i j)) Q) ∧ (¬ ((nI 60) ≤ v9) → (vp_in v9 240) ∧ (vp_in v9 180) ∧ (vp_in ((nI 60) + v9) 180) ∧ (vp_in ((nI 120) + v9) 180) ∧ WP (d + 262) 1633 (69, [(0, .ref 42), (1, .int v1), (2, .int v2), (3, .int v3), (4, .int v4), (5, .int v5), (6, .int v6), (7, .int v7), (8, .int v8), (9, .int (v9 + (nI 1)))], [], (mm X (s2 (s2 (s2 i 76 ((v9).toNatClampNeg) (i 43 ((v9).toNatClampNeg))) 76 (((nI 60) + v9).toNatClampNeg) (i 44 ((v9).toNatClampNeg))) 76 (((nI 120) + v9).toNatClampNeg) (i 45 ((v9).toNatClampNeg))) j)) Q))) : WP (d + 262) 1633 (69, [(0, .ref 42), (1, .int v1), (2, .int v2), (3, .int v3), (4, .int v4), (5, .int v5), (6, .int v6), (7, .int v7), (8, .int v8), (9, .int v9)], [], mm X i j) Q := tc_1633_69 (d + 261) 42 v1 v2 v3 v4 v5 v6 v7 v8 v9 (mm X i j) Q ⟨fun e6 => (h.1 (e6)), fun e6 => ⟨rfl, ⟨rfl, ⟨⟨rfl, (h.2 (e6)).1⟩, ⟨⟨rfl, (h.2 (e6)).2.1⟩, (tc_1633_90 (d + 261) 42 v1 v2 v3 v4 v5 v6 v7 v8 v9 (mm X (s2 i 76 ((v9).toNatClampNeg) (i 43 ((v9).toNatClampNeg))) j) _ ⟨rfl, ⟨rfl, ⟨⟨rfl, (h.2 (e6)).1⟩, ⟨⟨rfl, (h.2 (e6)).2.2.1⟩, (tc_1633_107 (d + 261) 42 v1 v2 v3 v4 v5 v6 v7 v8 v9 (mm X (s2 (s2 i 76 ((v9).toNatClampNeg) (i 43 ((v9).toNatClampNeg))) 76 (((nI 60) + v9).toNatClampNeg) (i 44 ((v9).toNatClampNeg))) j) _ ⟨rfl, ⟨rfl, ⟨⟨rfl, (h.2 (e6)).1⟩, ⟨⟨rfl, (h.2 (e6)).2.2.2.1⟩, (tc_1633_124 (d + 261) 42 v1 v2 v3 v4 v5 v6 v7 v8 v9 (mm X (s2 (s2 (s2 i 76 ((v9).toNatClampNeg) (i 43 ((v9).toNatClampNeg))) 76 (((nI 60) + v9).toNatClampNeg) (i 44 ((v9).toNatClampNeg))) 76 (((nI 120) + v9).toNatClampNeg) (i 45 ((v9).toNatClampNeg))) j) _ (h.2 (e6)).2.2.2.2)⟩⟩⟩⟩)⟩⟩⟩⟩)⟩⟩⟩⟩⟩
set_option maxRecDepth 100000 in
theorem s_1633_142 (d : Nat) (X : XS) (i : Nat → Nat → Int32) (j : Nat → Nat → Int64) (v1 : Int32) (v2 : Int32) (v3 : Int32) (v4 : Int32) (v5 : Int32) (v6 : Int32) (v7 : Int32) (v8 : Int32) (v9 : Int32) (v10 : Int64) (v12 : Int32) (v13 : Int32) (Q : Option (Option Value) → AM → Prop) (h : ((v4 ≤ v13 → WP (d + 262) 1633 (241, [(0, .ref 42), (7, .int v7), (8, .int v8), (9, .int v9), (10, .long v10), (12, .int v12), (13, .int (nI 0))], [], (mm X i j)) Q) ∧ (¬ (v4 ≤ v13) → WP (d + 262) 1633 (157, [(0, .ref 42), (1, .int v1), (2, .int v2), (3, .int v3), (4, .int v4), (5, .int v5), (6, .int v6), (7, .int v7), (8, .int v8), (9, .int v9), (10, .long v10), (12, .int v12), (13, .int v13), (14, .int (nI 0))], [], (mm X (s2 i 42 0 (nI 0)) j)) Q))) : WP (d + 262) 1633 (142, [(0, .ref 42), (1, .int v1), (2, .int v2), (3, .int v3), (4, .int v4), (5, .int v5), (6, .int v6), (7, .int v7), (8, .int v8), (9, .int v9), (10, .long v10), (12, .int v12), (13, .int v13)], [], mm X i j) Q := tc_1633_142 (d + 261) 42 v1 v2 v3 v4 v5 v6 v7 v8 v9 v10 v12 v13 (mm X i j) Q ⟨fun e7 => (h.1 (e7)), fun e7 => ⟨rfl, (tc_1633_154 (d + 261) 42 v1 v2 v3 v4 v5 v6 v7 v8 v9 v10 v12 v13 (mm X (s2 i 42 0 (nI 0)) j) _ (h.2 (e7)))⟩⟩
set_option maxRecDepth 100000 in
theorem s_1633_241 (d : Nat) (X : XS) (i : Nat → Nat → Int32) (j : Nat → Nat → Int64) (v7 : Int32) (v8 : Int32) (v9 : Int32) (v10 : Int64) (v12 : Int32) (v13 : Int32) (Q : Option (Option Value) → AM → Prop) (h : (((nI 60) ≤ v13 → Q (some (some (.int v9))) (mm X (s2 (s2 (s2 (s2 (s2 i 42 0 v7) 42 6 v8) 42 35 (nI 0)) 42 35 (nI 1)) 42 35 (nI 2)) (s2 (s2 j 70 0 v10) 70 1 (v12.toInt64)))) ∧ (¬ ((nI 60) ≤ v13) → (vp_in v13 180) ∧ (vp_in v13 240) ∧ (vp_in ((nI 60) + v13) 180) ∧ (vp_in ((nI 120) + v13) 180) ∧ WP (d + 262) 1633 (241, [(0, .ref 42), (7, .int v7), (8, .int v8), (9, .int v9), (10, .long v10), (12, .int v12), (13, .int (v13 + (nI 1)))], [], (mm X (s2 (s2 (s2 i 43 ((v13).toNatClampNeg) (i 76 ((v13).toNatClampNeg))) 44 ((v13).toNatClampNeg) (i 76 (((nI 60) + v13).toNatClampNeg))) 45 ((v13).toNatClampNeg) (i 76 (((nI 120) + v13).toNatClampNeg))) j)) Q))) : WP (d + 262) 1633 (241, [(0, .ref 42), (7, .int v7), (8, .int v8), (9, .int v9), (10, .long v10), (12, .int v12), (13, .int v13)], [], mm X i j) Q := tc_1633_241 (d + 261) 42 v7 v8 v9 v10 v12 v13 (mm X i j) Q ⟨fun e8 => ⟨rfl, (tc_1633_308 (d + 261) 42 v8 v9 v10 v12 (mm X (s2 i 42 0 v7) j) _ ⟨rfl, (tc_1633_314 (d + 261) 42 v9 v10 v12 (mm X (s2 (s2 i 42 0 v7) 42 6 v8) j) _ ⟨rfl, (tc_1633_319 (d + 261) 42 v9 v10 v12 (mm X (s2 (s2 (s2 i 42 0 v7) 42 6 v8) 42 35 (nI 0)) j) _ ⟨rfl, (te_1540 (d + 261) 42 v10 (mm X (s2 (s2 (s2 i 42 0 v7) 42 6 v8) 42 35 (nI 0)) j) _ ⟨rfl, ⟨rfl, ⟨⟨rfl, (vpk 0 32 rfl)⟩, ⟨rfl, ⟨rfl, ⟨rfl, ⟨rfl, (te_1540 (d + 261) 42 (v12.toInt64) (mm X (s2 (s2 (s2 (s2 i 42 0 v7) 42 6 v8) 42 35 (nI 0)) 42 35 (nI 1)) (s2 j 70 0 v10)) _ ⟨rfl, ⟨rfl, ⟨⟨rfl, (vpk 1 32 rfl)⟩, ⟨rfl, ⟨rfl, ⟨rfl, (h.1 (e8))⟩⟩⟩⟩⟩⟩)⟩⟩⟩⟩⟩⟩⟩)⟩)⟩)⟩)⟩, fun e8 => ⟨rfl, ⟨rfl, ⟨⟨rfl, (h.2 (e8)).1⟩, ⟨⟨rfl, (h.2 (e8)).2.1⟩, (tc_1633_262 (d + 261) 42 v7 v8 v9 v10 v12 v13 (mm X (s2 i 43 ((v13).toNatClampNeg) (i 76 ((v13).toNatClampNeg))) j) _ ⟨rfl, ⟨rfl, ⟨⟨rfl, (h.2 (e8)).2.2.1⟩, ⟨⟨rfl, (h.2 (e8)).2.1⟩, (tc_1633_279 (d + 261) 42 v7 v8 v9 v10 v12 v13 (mm X (s2 (s2 i 43 ((v13).toNatClampNeg) (i 76 ((v13).toNatClampNeg))) 44 ((v13).toNatClampNeg) (i 76 (((nI 60) + v13).toNatClampNeg))) j) _ ⟨rfl, ⟨rfl, ⟨⟨rfl, (h.2 (e8)).2.2.2.1⟩, ⟨⟨rfl, (h.2 (e8)).2.1⟩, (tc_1633_296 (d + 261) 42 v7 v8 v9 v10 v12 v13 (mm X (s2 (s2 (s2 i 43 ((v13).toNatClampNeg) (i 76 ((v13).toNatClampNeg))) 44 ((v13).toNatClampNeg) (i 76 (((nI 60) + v13).toNatClampNeg))) 45 ((v13).toNatClampNeg) (i 76 (((nI 120) + v13).toNatClampNeg))) j) _ (h.2 (e8)).2.2.2.2)⟩⟩⟩⟩)⟩⟩⟩⟩)⟩⟩⟩⟩⟩
set_option maxRecDepth 100000 in
theorem s_1633_157 (d : Nat) (X : XS) (i : Nat → Nat → Int32) (j : Nat → Nat → Int64) (v1 : Int32) (v2 : Int32) (v3 : Int32) (v4 : Int32) (v5 : Int32) (v6 : Int32) (v7 : Int32) (v8 : Int32) (v9 : Int32) (v10 : Int64) (v12 : Int32) (v13 : Int32) (v14 : Int32) (Q : Option (Option Value) → AM → Prop) (h : ((v3 ≤ v14 → (∃ (i10 : Nat → Nat → Int32), EvV (d + 261) 1589 [.ref 42, .int v2, .int v5, .int v6] (mm X i j) (mm X i10 j) ∧ (∃ (x12 : Int32), ∃ (i11 : Nat → Nat → Int32), EvI (d + 261) 1608 [.ref 42, .int v1, .int v2] (mm X i10 j) x12 (mm X i11 j) ∧ ((x12 ≤ 0 → ((¬ (v13 = 0) → WP (d + 262) 1633 (142, [(0, .ref 42), (1, .int v1), (2, .int v2), (3, .int v3), (4, .int v4), (5, .int v5), (6, .int v6), (7, .int v7), (8, .int v8), (9, .int (v9 + (nI 0))), (10, .long (v10 + (x12.toInt64))), (12, .int (mxI v12 x12)), (13, .int (v13 + (nI 1)))], [], (mm X i11 j)) Q) ∧ (v13 = 0 → WP (d + 262) 1633 (142, [(0, .ref 42), (1, .int v1), (2, .int v2), (3, .int v3), (4, .int v4), (5, .int v5), (6, .int v6), (7, .int v7), (8, .int v8), (9, .int (v9 + (nI 0))), (10, .long (v10 + (x12.toInt64))), (12, .int x12), (13, .int (v13 + (nI 1)))], [], (mm X i11 j)) Q))) ∧ (¬ (x12 ≤ 0) → ((¬ (v13 = 0) → WP (d + 262) 1633 (142, [(0, .ref 42), (1, .int v1), (2, .int v2), (3, .int v3), (4, .int v4), (5, .int v5), (6, .int v6), (7, .int v7), (8, .int v8), (9, .int (v9 + (nI 1))), (10, .long (v10 + (x12.toInt64))), (12, .int (mxI v12 x12)), (13, .int (v13 + (nI 1)))], [], (mm X i11 j)) Q) ∧ (v13 = 0 → WP (d + 262) 1633 (142, [(0, .ref 42), (1, .int v1), (2, .int v2), (3, .int v3), (4, .int v4), (5, .int v5), (6, .int v6), (7, .int v7), (8, .int v8), (9, .int (v9 + (nI 1))), (10, .long (v10 + (x12.toInt64))), (12, .int x12), (13, .int (v13 + (nI 1)))], [], (mm X i11 j)) Q))))))) ∧ (¬ (v3 ≤ v14) → (∃ (i21 : Nat → Nat → Int32), EvV (d + 261) 1552 [.ref 42] (mm X i j) (mm X i21 j) ∧ WP (d + 262) 1633 (157, [(0, .ref 42), (1, .int v1), (2, .int v2), (3, .int v3), (4, .int v4), (5, .int v5), (6, .int v6), (7, .int v7), (8, .int v8), (9, .int v9), (10, .long v10), (12, .int v12), (13, .int v13), (14, .int (v14 + (nI 1)))], [], (mm X i21 j)) Q)))) : WP (d + 262) 1633 (157, [(0, .ref 42), (1, .int v1), (2, .int v2), (3, .int v3), (4, .int v4), (5, .int v5), (6, .int v6), (7, .int v7), (8, .int v8), (9, .int v9), (10, .long v10), (12, .int v12), (13, .int v13), (14, .int v14)], [], mm X i j) Q := tc_1633_157 (d + 261) 42 v1 v2 v3 v4 v5 v6 v7 v8 v9 v10 v12 v13 v14 (mm X i j) Q ⟨fun e9 => ⟨rfl, (Exists.elim (h.1 (e9)) fun i10 h19 => EvV.use h19.1 ⟨rfl, (Exists.elim h19.2 fun x12 h16 => Exists.elim h16 fun i11 h17 => EvI.use h17.1 (tc_1633_190 (d + 261) 42 v1 v2 v3 v4 v5 v6 v7 v8 v9 v10 v12 v13 x12 (mm X i11 j) _ ⟨fun e13 => ⟨fun e14 => (tc_1633_232 (d + 261) 42 v1 v2 v3 v4 v5 v6 v7 v8 (v9 + (nI 0)) (v10 + (x12.toInt64)) (mxI v12 x12) v13 (mm X i11 j) _ ((h17.2.1 (e13)).1 (e14))), fun e14 => (tc_1633_232 (d + 261) 42 v1 v2 v3 v4 v5 v6 v7 v8 (v9 + (nI 0)) (v10 + (x12.toInt64)) x12 v13 (mm X i11 j) _ ((h17.2.1 (e13)).2 ((Classical.byContradiction e14))))⟩, fun e13 => ⟨fun e15 => (tc_1633_232 (d + 261) 42 v1 v2 v3 v4 v5 v6 v7 v8 (v9 + (nI 1)) (v10 + (x12.toInt64)) (mxI v12 x12) v13 (mm X i11 j) _ ((h17.2.2 (e13)).1 (e15))), fun e15 => (tc_1633_232 (d + 261) 42 v1 v2 v3 v4 v5 v6 v7 v8 (v9 + (nI 1)) (v10 + (x12.toInt64)) x12 v13 (mm X i11 j) _ ((h17.2.2 (e13)).2 ((Classical.byContradiction e15))))⟩⟩))⟩)⟩, fun e9 => ⟨rfl, (Exists.elim (h.2 (e9)) fun i21 h22 => EvV.use h22.1 h22.2)⟩⟩
theorem k_42 (d : Nat) {X : XS} {i : Nat → Nat → Int32} {j : Nat → Nat → Int64} (h : Rel X i j) (a1 a2 a3 a4 a5 a6 : Int32) {Kf : AM → Prop} (hK : Nx X Kf) : WI (d + 300) 1451 [.ref 2, .int a1, .int a2, .int a3, .int a4, .int a5, .int a6] (mm X i j) (fun x1 M1 => WI (d + 300) 1633 [.ref 42, .int a1, .int a2, .int a3, .int a4, .int a5, .int a6] M1 (fun x2 M2 => x1 = x2 ∧ Kf M2)) := by
  have ht := hK.th h
  have hrel := h
  obtain ⟨hx, ⟨⟨n, h0⟩, h1, ⟨ng, h2, no, h4⟩, ⟨tn, h3⟩, ⟨np, h5⟩, h6, ns, h7⟩, h8, hz⟩ := h

  have e1 := h5.2.1
  have e2 := h5.2.2.1
  have hnp := h5.1
  have hno := h4.1
  have hn := h0.2.1.1.2
  have g2 : i 2 7 = i 42 14 := by rw [h4.2.1, h4.2.2.1]
  refine s_1451 _ X i j a1 a2 a3 a4 a5 a6 _ ⟨h5.ps, ?_, ?_⟩
  · rw [e1]; exact fun z => s_1633 _ X i j _ _ _ _ _ _ _ (bq_t (by rw [e2]; exact z) ⟨rfl, ht⟩)
  rw [e1]
  intro z hO
  have z2 : nI 0 ≤ a1 ∧ a1 ≤ i 42 18 - nI 1 := by rw [e2]; exact z
  obtain ⟨p, hp, rfl⟩ := idx_of (by omega) z
  rw [tc_nI (by omega)] at hO ⊢
  obtain ⟨-, hPT, ⟨q0, q1, q2, q3, q4⟩, ⟨c, l, s, st, hc, hl, hs, hst, b0, b1, b2, b3⟩, b4⟩ := h5.2.2.2 p hp
  refine bq_c (fun y => s_1633 _ X i j _ _ _ _ _ _ _ (bq_f z2 (bq_t (by rw [← g2]; exact y) ⟨rfl, ht⟩))) (fun y => ?_)
  have y2 : nI 1 ≤ a2 ∧ a2 ≤ shlI (nI 1) (i 42 14) - nI 1 := by rw [← g2]; exact y
  refine br_c (fun v => bq_c (fun x => s_1633 _ X i j _ _ _ _ _ _ _ (bq_f z2 (bq_f y2 (bq_t x ⟨rfl, ht⟩)))) (fun x => br_c (fun u => ?_) (fun u => s_1633 _ X i j _ _ _ _ _ _ _ (bq_f z2 (bq_f y2 (bq_f x (bq_t u ⟨rfl, ht⟩))))))) (fun v => s_1633 _ X i j _ _ _ _ _ _ _ (bq_f z2 (bq_f y2 (bq_c (fun _ => ⟨rfl, ht⟩) (fun _ => bq_c (fun _ => ⟨rfl, ht⟩) (fun _ => br_f v ⟨rfl, ht⟩))))))
  obtain ⟨q, hq1, hq, rfl⟩ := ev_rng (by decide) v.2
  obtain ⟨m, hm1, hm, rfl⟩ := ev_rng (m := 60) (by decide) x
  obtain ⟨N, hN1, hN, rfl⟩ := ev_rng (m := 12) (by decide) u
  have hPn := xtNe hPT
  -- what both make
  obtain ⟨W, hW⟩ : ∃ W : Nat → Nat, ∀ q, q < 16 → i 46 q = nI (W q) ∧ W q < 10 := by
    refine ⟨fun q => (i 46 q).toNatClampNeg, fun q hq => ?_⟩
    obtain ⟨-, m, hm, e⟩ := h1.2.1 q hq
    dsimp only
    rw [e, tc_nI (by omega)]; exact ⟨rfl, hm⟩
  have hW4 : ∀ q, q < 16 → i 4 q = nI (W q) ∧ W q < 10 := fun q hq => by rw [(h1.2.1 q hq).1]; exact hW q hq
  obtain ⟨R, hR⟩ : ∃ R : Nat → Int32, R = wR W (i 47) m (i 3 2) := ⟨_, rfl⟩
  have R0e : R 0 = i 3 2 := by rw [hR]; rfl
  obtain ⟨f, hf⟩ : ∃ f : Nat → Nat → MS, f = fun e => wF W (i 47) (R e) := ⟨_, rfl⟩
  have fe : ∀ e, f e = wF W (i 47) (R e) := fun e => by rw [hf]
  have Rs : ∀ e, R (e + 1) = (f e m).2.2.1 := fun e => by rw [fe, hR]; rfl
  obtain ⟨WW, hWW⟩ : ∃ WW : Nat → Nat → Int32, WW = fun e => wdW (i 43) m (f e) := ⟨_, rfl⟩
  obtain ⟨AA, hAA⟩ : ∃ AA : Nat → Nat → Int32, AA = fun e => wdA (i 44) m (f e) := ⟨_, rfl⟩
  obtain ⟨KK, hKK⟩ : ∃ KK : Nat → Nat → Int32, KK = fun e => wdK (i 45) m (f e) := ⟨_, rfl⟩
  obtain ⟨so, hso⟩ : ∃ so : Nat → Nat → Int32, so = fun e t => stF X i (WW e) (AA e) (KK e) a2 t no := ⟨_, rfl⟩
  obtain ⟨ca, hca⟩ : ∃ ca : Nat → Nat → Prop, ca = fun e t => cmP m (WW e) a5 t q := ⟨_, rfl⟩
  obtain ⟨kn, hkn⟩ : ∃ kn, kn = m - q := ⟨_, rfl⟩
  have hB : ∀ e, SB kn (so e) := fun e => by rw [hso]; exact stF_B hno _ _ _ a2 kn
  obtain ⟨sv, hsv⟩ : ∃ sv : Nat → Nat, ∀ e, sv e ≤ 240000 ∧ blC (i 57 p) (i 58 p) (i 59 p) (ca e) kn - byS (i 57 p) (i 58 p) (i 59 p) (so e) (ca e) a2 kn kn = nI (sv e) := by
    have : ∀ e, ∃ v, v ≤ 240000 ∧ blC (i 57 p) (i 58 p) (i 59 p) (ca e) kn - byS (i 57 p) (i 58 p) (i 59 p) (so e) (ca e) a2 kn kn = nI v := fun e => by
      rw [b0, b1, b2]
      exact sav (by omega) hl hs (by omega) (hB e) a2
    exact Classical.axiomOfChoice this
  have hsum : ∀ e, e ≤ 12 → nsm sv e ≤ 240000 * 12 := fun e he => by
    have := nsm_le (f := sv) (c := 240000) e fun t _ => (hsv t).1
    have : 240000 * e ≤ 240000 * 12 := Nat.mul_le_mul_left _ he
    omega
  have hmx : ∀ e, mxN sv e ≤ 240000 := mxN_le fun t => (hsv t).1
  have t42 : ∀ b, b = 42 ∨ b = 43 ∨ b = 44 ∨ b = 45 ∨ b = 46 ∨ b = 47 → xt X b = 0 := fun b hb => by rcases hb with rfl | rfl | rfl | rfl | rfl | rfl <;> rfl
  -- the class's worlds
  refine lup N (fun e (i1 : Nat → Nat → Int32) => i1 3 2 = R e ∧ (∀ b, (xt X b < 10 ∨ 50 ≤ xt X b ∨ xt X b = 40) → b ≠ 3 → i1 b = i b) ∧ RZ i1) (fun e i1 => (76, [(0, .ref 2), (2, .int a2), (3, .int (nI m)), (4, .int (nI N)), (5, .int a5), (6, .int (nI q)), (7, .ref (xr X 24 p)), (8, .int (i 3 2)), (9, .int (nI (ct (fun e => 0 < sv e) e))), (10, .int (nI (nsm sv e))), (11, .int (nI (mxN sv e))), (12, .int (nI e))], [], mm X i1 j)) ?_ ?_ 0 i (Nat.zero_le _) ⟨R0e.symm, fun _ _ _ => rfl, hz⟩
  rotate_left
  · rintro e i1 he ⟨hr, hf1, z1⟩ go
    try dsimp only
    refine s_1451_76 _ X i1 j _ _ _ _ _ _ hO _ _ _ _ _ _ (br_f (nI_ge he (by omega)) ?_)
    have e4 : i1 4 = i 4 := hf1 4 (Or.inl (show 0 < 10 by decide)) (by decide)
    have e5 : i1 5 = i 5 := hf1 5 (Or.inl (show 0 < 10 by decide)) (by decide)
    obtain ⟨i2, hE2, r2, hD2, f2⟩ := c_1487 0 X i1 j (W := W) (fun q hq => by rw [e4]; exact hW4 q hq) (sp := i 47) (fun q hq => by rw [e5]; exact h1.2.2.1 q hq) (m := m) (by omega) (i 43) (i 44) (i 45)
    rw [hr, ← fe] at r2 hD2
    have cW : wdW (i 43) m (f e) = WW e := by rw [hWW]
    have cA : wdA (i 44) m (f e) = AA e := by rw [hAA]
    have cK : wdK (i 45) m (f e) = KK e := by rw [hKK]
    rw [cW, cA, cK] at hD2
    have s13 : xt X 13 = 41 ∧ xt X 14 = 42 ∧ xt X 15 = 43 ∧ xt X 16 = 44 := ⟨rfl, rfl, rfl, rfl⟩
    have hf2 : ∀ b, (xt X b < 10 ∨ 50 ≤ xt X b ∨ xt X b = 40) → b ≠ 3 → i2 b = i b := fun b hb h3 => by
      rw [f2 b h3 (fun e => by subst e; omega) (fun e => by subst e; omega) (fun e => by subst e; omega) (fun e => by subst e; omega)]
      exact hf1 b hb h3
    have k2 : KW X i i2 := ⟨fun b hb h3 _ _ _ _ => hf2 b (by omega) h3, fun k _ _ _ => by rw [hf2 42 (Or.inl (show 0 < 10 by decide)) (by decide)]⟩
    refine ⟨i2, hE2.up (by omega), ?_⟩
    obtain ⟨i3, hE3, f3, -, hS3⟩ := c_1476 0 X i2 j (h2.kw k2) (h4.kw k2) 13 (DO13 X) (DT13 X) (ho13 X) hD2 a2 a5 hq
    have eso : (fun t => stF X i2 (WW e) (AA e) (KK e) a2 t no) = so e := by
      rw [hso]; funext t
      exact stF_kw h4 k2 _ _ _ a2 t no (Nat.le_refl _)
    have eca : (fun t => cmP m (WW e) a5 t q) = ca e := by rw [hca]
    rw [eso, eca, ← hkn] at hS3
    refine ⟨i3, hE3.up (by omega), ?_⟩
    have s31 : xt X 31 = 45 ∧ xt X 32 = 45 ∧ xt X 33 = 45 ∧ xt X 34 = 45 ∧ xt X 35 = 45 := ⟨rfl, rfl, rfl, rfl, rfl⟩
    have hf3 : ∀ b, (xt X b < 10 ∨ 50 ≤ xt X b ∨ xt X b = 40) → b ≠ 3 → i3 b = i b := fun b hb h3 => by
      rw [f3 b (by omega) (fun e => by subst e; omega) (fun e => by subst e; omega) (fun e => by subst e; omega)]
      exact hf2 b hb h3
    have z3 : RZ i3 := RZ_of z1 (by rw [f3 34 (by omega) (by decide) (by decide) (by decide), f2 34 (by decide) (by decide) (by decide) (by decide) (by decide)]) (by rw [f3 35 (by omega) (by decide) (by decide) (by decide), f2 35 (by decide) (by decide) (by decide) (by decide) (by decide)])
    have iP : i3 (xr X 24 p) = i (xr X 24 p) := hf3 _ (by omega) (by omega)
    have hE4 := c_776 0 X i3 j _ hO hS3
    obtain ⟨i5, hE5, f5, -, -, z5⟩ := c_781 0 X i3 j _ hO (by omega) hS3 (hB e) z3 a2
    rw [iP, q0, q1, q2] at hE4 hE5
    refine ⟨_, hE4.up (by omega), _, i5, hE5.up (by omega), ?_⟩
    have r3 : i5 3 2 = R (e + 1) := by
      rw [f5 3 (by decide) (by decide) (by decide), f3 3 (fun z => absurd (show 10 ≤ 0 from z.1) (by decide)) (by decide) (by decide) (by decide), r2, Rs]
    have hf5 : ∀ b, (xt X b < 10 ∨ 50 ≤ xt X b ∨ xt X b = 40) → b ≠ 3 → i5 b = i b := fun b hb h3 => by
      rw [f5 b (fun e => by subst e; omega) (fun e => by subst e; omega) (fun e => by subst e; omega)]
      exact hf3 b hb h3
    obtain ⟨sb, se⟩ := hsv e
    have h12 := hsum e (by omega)
    have g := go i5 ⟨r3, hf5, z5⟩
    rw [se, nI_add (nsm sv e) (sv e), mx_nI (by have := hmx e; omega) (by omega), nI_add e 1]
    refine br_c (fun w => ?_) (fun w => ?_)
    · have w0 : ¬ 0 < sv e := fun h => nI_nle h (by omega) w
      rw [ct_f (p := fun e => 0 < sv e) w0] at g
      rw [show nI (ct (fun e => 0 < sv e) e) + nI 0 = nI (ct (fun e => 0 < sv e) e) from nI_add _ 0]
      exact g
    · have w0 : 0 < sv e := Nat.pos_of_ne_zero fun h => w (by rw [h]; exact Int32.le_refl _)
      rw [ct_t (p := fun e => 0 < sv e) w0] at g
      rw [nI_add]
      exact g
  rintro i1 ⟨hr, hf1, z1⟩
  try dsimp only
  refine s_1451_76 _ X i1 j _ _ _ _ _ _ hO _ _ _ _ _ _ (br_t (Int32.le_refl _) (qI_of ?_))
  obtain ⟨iE, hiE⟩ : ∃ iE, iE = s2 (s2 (s2 (s2 i1 3 2 (i 3 2)) 40 1 (nI 0)) 40 1 (nI 1)) 40 1 (nI 2) := ⟨_, rfl⟩
  obtain ⟨jE, hjE⟩ : ∃ jE, jE = s2 (s2 j 41 0 (nI (nsm sv N)).toInt64) 41 1 (nI (mxN sv N)).toInt64 := ⟨_, rfl⟩
  rw [← hiE, ← hjE]
  have fE : ∀ b, (xt X b < 10 ∨ 50 ≤ xt X b ∨ xt X b = 40) → b ≠ 3 → iE b = i b := fun b hb h3 => by
    have h40 : b ≠ 40 := fun e => by subst e; have t : xt X 40 = 48 := rfl; omega
    rw [hiE, s2_ne h40, s2_ne h40, s2_ne h40, s2_ne h3]; exact hf1 b hb h3
  have E3 : iE 3 2 = i 3 2 := by rw [hiE, s2_ne (by decide), s2_ne (by decide), s2_ne (by decide), s2_self]
  have E40 : iE 40 1 = nI 2 := by rw [hiE, s2_self]
  have ZE : RZ iE := RZ_of z1 (by rw [hiE, s2_ne (by decide), s2_ne (by decide), s2_ne (by decide), s2_ne (by decide)]) (by rw [hiE, s2_ne (by decide), s2_ne (by decide), s2_ne (by decide), s2_ne (by decide)])
  have g42 : iE 42 = i 42 := fE 42 (Or.inl (show 0 < 10 by decide)) (by decide)
  refine s_1633 _ X iE jE _ _ _ _ _ _ _ (bq_f (by rw [g42]; exact z2) (bq_f (by rw [g42]; exact y2) (bq_f x (bq_f u (br_t v ?_)))))
  rw [g42]
  obtain ⟨iB, hiB⟩ : ∃ iB, iB = s2 iE 42 36 (nI 0) := ⟨_, rfl⟩
  rw [← hiB]
  have fB : ∀ b, b ≠ 42 → iB b = iE b := fun b hb => by rw [hiB, s2_ne hb]
  have gB : ∀ k, k ≠ 36 → iB 42 k = i 42 k := fun k hk => by rw [hiB, s2_ne2 hk, g42]
  have B43 : iB 43 = i 43 ∧ iB 44 = i 44 ∧ iB 45 = i 45 := by
    refine ⟨?_, ?_, ?_⟩
    · rw [fB 43 (by decide), fE 43 (Or.inl (show 0 < 10 by decide)) (by decide)]
    · rw [fB 44 (by decide), fE 44 (Or.inl (show 0 < 10 by decide)) (by decide)]
    · rw [fB 45 (by decide), fE 45 (Or.inl (show 0 < 10 by decide)) (by decide)]
  -- the days are set aside
  refine lup 60 (fun e (i2 : Nat → Nat → Int32) => (∀ b, b ≠ 76 → i2 b = iB b) ∧ ∀ t, t < e → i2 76 t = i 43 t ∧ i2 76 (60 + t) = i 44 t ∧ i2 76 (120 + t) = i 45 t) (fun e i2 => (69, [(0, .ref 42), (1, .int (nI p)), (2, .int a2), (3, .int (nI m)), (4, .int (nI N)), (5, .int a5), (6, .int (nI q)), (7, .int (i 42 0)), (8, .int (i 42 6)), (9, .int (nI e))], [], mm X i2 jE)) ?_ ?_ 0 iB (Nat.zero_le _) ⟨fun _ _ => rfl, fun t ht => absurd ht (by omega)⟩
  rotate_left
  · rintro e i2 he ⟨hf2, hr2⟩ go
    try dsimp only
    refine s_1633_69 _ X i2 jE _ _ _ _ _ _ _ _ _ _ (br_f (nI_ge he (by decide)) ?_)
    rw [nI_add, nI_add, nI_add, tc_nI (by omega), tc_nI (by omega), tc_nI (by omega), hf2 43 (by decide), hf2 44 (by decide), hf2 45 (by decide), B43.1, B43.2.1, B43.2.2]
    refine ⟨vp_in_nI (by omega) (by decide), vp_in_nI (by omega) (by decide), vp_in_nI (by omega) (by decide), vp_in_nI (by omega) (by decide), go _ ⟨fun b hb => ?_, fun t ht => ?_⟩⟩
    · rw [s2_ne hb, s2_ne hb, s2_ne hb]; exact hf2 b hb
    · rw [s2_same, s2_same, s2_same, s2_same, s2_same, s2_same, s2_same, s2_same, s2_same]
      by_cases q : t = e
      · subst q
        rw [if_neg (by omega), if_neg (by omega), if_pos rfl, if_neg (by omega), if_pos rfl, if_pos rfl]; exact ⟨rfl, rfl, rfl⟩
      · have := hr2 t (by omega)
        rw [if_neg (by omega), if_neg (by omega), if_neg (by omega), if_neg (by omega), if_neg (by omega), if_neg (by omega), if_neg (by omega), if_neg (by omega), if_neg (by omega)]; exact this
  rintro i2 ⟨hf2, hr2⟩
  try dsimp only
  refine s_1633_69 _ X i2 jE _ _ _ _ _ _ _ _ _ _ (br_t (Int32.le_refl _) ?_)
  -- the reference's worlds
  refine lup N (fun e (i5 : Nat → Nat → Int32) => (∀ b, xt X b ≠ 40 → b ≠ 42 → b ≠ 43 → b ≠ 44 → b ≠ 45 → b ≠ 76 → i5 b = iB b) ∧ (∀ t, t < 60 → i5 76 t = i 43 t ∧ i5 76 (60 + t) = i 44 t ∧ i5 76 (120 + t) = i 45 t) ∧ (∀ k, k < 35 → k ≠ 0 → k ≠ 6 → i5 42 k = i 42 k) ∧ (∀ t, m ≤ t → i5 43 t = i 43 t ∧ i5 44 t = i 44 t ∧ i5 45 t = i 45 t) ∧ i5 42 6 = R e)
    (fun e i5 => (142, [(0, .ref 42), (1, .int (nI p)), (2, .int a2), (3, .int (nI m)), (4, .int (nI N)), (5, .int a5), (6, .int (nI q)), (7, .int (i 42 0)), (8, .int (i 42 6)), (9, .int (nI (ct (fun e => 0 < sv e) e))), (10, .long (lN (nsm sv e))), (12, .int (nI (mxN sv e))), (13, .int (nI e))], [], mm X i5 jE)) ?_ ?_ 0 i2 (Nat.zero_le _) ⟨fun b _ _ _ _ _ h76 => hf2 b h76, hr2, fun k _ _ _ => ?_, fun t _ => ?_, ?_⟩
  · -- the days come back
    rintro i5 ⟨hf5, hr5, hk5, ho5, hR5⟩
    try dsimp only
    refine s_1633_142 _ X i5 jE _ _ _ _ _ _ _ _ _ _ _ _ _ (br_t (Int32.le_refl _) ?_)
    refine lup 60 (fun e (i8 : Nat → Nat → Int32) => (∀ b, b ≠ 43 → b ≠ 44 → b ≠ 45 → i8 b = i5 b) ∧ (∀ t, t < e ∨ 60 ≤ t → i8 43 t = i 43 t ∧ i8 44 t = i 44 t ∧ i8 45 t = i 45 t)) (fun e i8 => (241, [(0, .ref 42), (7, .int (i 42 0)), (8, .int (i 42 6)), (9, .int (nI (ct (fun e => 0 < sv e) N))), (10, .long (lN (nsm sv N))), (12, .int (nI (mxN sv N))), (13, .int (nI e))], [], mm X i8 jE)) ?_ ?_ 0 i5 (Nat.zero_le _) ⟨fun _ _ _ _ => rfl, fun t ht => ho5 t (by omega)⟩
    · rintro i8 ⟨hf8, hr8⟩
      try dsimp only
      refine s_1633_241 _ X i8 jE _ _ _ _ _ _ _ (br_t (Int32.le_refl _) (qI_of ⟨rfl, hK.k ?_⟩))
      have e43 : i8 43 = i 43 := funext fun t => (hr8 t (by omega)).1
      have e44 : i8 44 = i 44 := funext fun t => (hr8 t (by omega)).2.1
      have e45 : i8 45 = i 45 := funext fun t => (hr8 t (by omega)).2.2
      have f8 : ∀ b, xt X b ≠ 40 → b ≠ 42 → b ≠ 43 → b ≠ 44 → b ≠ 45 → b ≠ 76 → i8 b = iE b := fun b h1 h2 h3 h4 h5 h6 => by
        rw [hf8 b h3 h4 h5, hf5 b h1 h2 h3 h4 h5 h6, fB b h2]
      obtain ⟨i9, hi9⟩ : ∃ i9, i9 = s2 (s2 (s2 (s2 (s2 i8 42 0 (i 42 0)) 42 6 (i 42 6)) 42 35 (nI 0)) 42 35 (nI 1)) 42 35 (nI 2) := ⟨_, rfl⟩
      rw [← hi9]
      have f9 : ∀ b, b ≠ 42 → i9 b = i8 b := fun b hb => by rw [hi9, s2_ne hb, s2_ne hb, s2_ne hb, s2_ne hb, s2_ne hb]
      have t76 : xt X 76 = 49 ∧ xt X 34 = 45 ∧ xt X 35 = 45 ∧ xt X 40 = 48 ∧ xt X 3 = 0 := ⟨rfl, rfl, rfl, rfl, rfl⟩
      refine hrel.wld (fun b hb h3 h42 => ?_) ?_ (fun k hk => ?_) ?_ (r8_of 2 (by decide) ?_ (by rw [hi9, s2_self]) (fun x hx => ?_))
      · rw [f9 b h42]
        by_cases q43 : b = 43
        · rw [q43]; exact e43
        by_cases q44 : b = 44
        · rw [q44]; exact e44
        by_cases q45 : b = 45
        · rw [q45]; exact e45
        rw [f8 b (by omega) h42 q43 q44 q45 (fun e => by subst e; omega)]
        exact fE b (by omega) h3
      · rw [f9 3 (by decide), f8 3 (by omega) (by decide) (by decide) (by decide) (by decide) (by decide)]; exact E3
      · rw [hi9, s2_ne2 (by omega), s2_ne2 (by omega), s2_ne2 (by omega)]
        by_cases q6 : k = 6
        · subst q6; rw [s2_self]
        rw [s2_ne2 q6]
        by_cases q0 : k = 0
        · subst q0; rw [s2_self]
        rw [s2_ne2 q0, hf8 42 (by decide) (by decide) (by decide)]
        exact hk5 k hk q0 q6
      · exact RZ_of ZE (by rw [f9 34 (by decide), f8 34 (by omega) (by decide) (by decide) (by decide) (by decide) (by decide)]) (by rw [f9 35 (by decide), f8 35 (by omega) (by decide) (by decide) (by decide) (by decide) (by decide)])
      · rw [f9 40 (by decide), f8 40 (by omega) (by decide) (by decide) (by decide) (by decide) (by decide)]; exact E40
      · rw [hjE]
        have := hsum N hN
        match x, hx with
        | 0, _ => simp only [s2_ap]; simp; exact nI_l (by omega)
        | 1, _ => simp [s2_ap]
    · rintro e i8 he ⟨hf8, hr8⟩ go
      try dsimp only
      refine s_1633_241 _ X i8 jE _ _ _ _ _ _ _ (br_f (nI_ge he (by decide)) ?_)
      obtain ⟨r1, r2, r3⟩ := hr5 e he
      have h76 : i8 76 = i5 76 := hf8 76 (by decide) (by decide) (by decide)
      rw [nI_add, nI_add, nI_add, tc_nI (by omega), tc_nI (by omega), tc_nI (by omega), h76, r1, r2, r3]
      refine ⟨vp_in_nI (by omega) (by decide), vp_in_nI (by omega) (by decide), vp_in_nI (by omega) (by decide), vp_in_nI (by omega) (by decide), go _ ⟨fun b c1 c2 c3 => ?_, fun t ht => ?_⟩⟩
      · rw [s2_ne c3, s2_ne c2, s2_ne c1]; exact hf8 b c1 c2 c3
      · by_cases q : t = e
        · subst q; simp [s2_ap]
        · have := hr8 t (by omega)
          simpa [s2_ap, q] using this
  · rintro e i5 he ⟨hf5, hr5, hk5, ho5, hR5⟩ go
    try dsimp only
    refine s_1633_142 _ X i5 jE _ _ _ _ _ _ _ _ _ _ _ _ _ (br_f (nI_ge he (by omega)) ?_)
    have i5f : ∀ b, b = 46 ∨ b = 47 → i5 b = i b := fun b hb => by
      have := t42 b (by omega)
      rw [hf5 b (by omega) (by omega) (by omega) (by omega) (by omega) (by omega), fB b (by omega), fE b (by omega) (by omega)]
    refine lup m (fun t (i6 : Nat → Nat → Int32) => i6 42 6 = (f e t).2.2.1 ∧ DR i6 t (WW e) (AA e) (KK e) ∧ (∀ b, b ≠ 42 → b ≠ 43 → b ≠ 44 → b ≠ 45 → i6 b = i5 b) ∧ (∀ k, k ≠ 0 → k ≠ 6 → i6 42 k = i5 42 k) ∧ ∀ u, m ≤ u → i6 43 u = i 43 u ∧ i6 44 u = i 44 u ∧ i6 45 u = i 45 u)
      (fun t i6 => (157, [(0, .ref 42), (1, .int (nI p)), (2, .int a2), (3, .int (nI m)), (4, .int (nI N)), (5, .int a5), (6, .int (nI q)), (7, .int (i 42 0)), (8, .int (i 42 6)), (9, .int (nI (ct (fun e => 0 < sv e) e))), (10, .long (lN (nsm sv e))), (12, .int (nI (mxN sv e))), (13, .int (nI e)), (14, .int (nI t))], [], mm X i6 jE)) ?_ ?_ 0 (s2 i5 42 0 (nI 0)) (Nat.zero_le _) ⟨?_, ⟨⟨s2_self _ _ _ _, by omega⟩, fun t ht => absurd ht (by omega)⟩, fun b h42 _ _ _ => s2_ne h42, fun k k0 _ => s2_ne2 k0, fun u hu => ?_⟩
    · rintro i6 ⟨hr6, hd6, hf6, hk6, ho6⟩
      try dsimp only
      have e43 : i6 43 = WW e := funext fun t => by
        by_cases q : t < m
        · exact (hd6.2 t q).1
        · rw [hWW]; exact (ho6 t (by omega)).1.trans (wd_o (w := i 43) (a := i 44) (k := i 45) (f := f e) (show m ≤ t by omega)).1.symm
      have e44 : i6 44 = AA e := funext fun t => by
        by_cases q : t < m
        · exact (hd6.2 t q).2.1
        · rw [hAA]; exact (ho6 t (by omega)).2.1.trans (wd_o (w := i 43) (a := i 44) (k := i 45) (f := f e) (show m ≤ t by omega)).2.1.symm
      have e45 : i6 45 = KK e := funext fun t => by
        by_cases q : t < m
        · exact (hd6.2 t q).2.2
        · rw [hKK]; exact (ho6 t (by omega)).2.2.trans (wd_o (w := i 43) (a := i 44) (k := i 45) (f := f e) (show m ≤ t by omega)).2.2.symm
      have t76 : xt X 76 = 49 := rfl
      have k6 : KW X i i6 := by
        refine ⟨fun b hb h3 h42 h43 h44 h45 => ?_, fun k hk h0 h6 => ?_⟩
        · rw [hf6 b h42 h43 h44 h45, hf5 b (by omega) h42 h43 h44 h45 (fun e => by subst e; omega), fB b h42]
          exact fE b (by omega) h3
        · rw [hk6 k h0 h6]; exact hk5 k hk h0 h6
      obtain ⟨i7, hE7, f7, -, p46, -, -, p72, p73⟩ := c_1589 0 X i6 jE (h2.kw k6) (h4.kw k6) (show m ≤ 240 by omega) hd6.1.1 a2 a5 hq
      have eso : ∀ t, stF X i6 (i6 43) (i6 44) (i6 45) a2 t no = so e t := fun t => by
        rw [hso, e43, e44, e45]
        exact stF_kw h4 k6 _ _ _ a2 t no (Nat.le_refl _)
      have p72' : ∀ t, t < kn → i7 72 t = so e t := fun t ht => (p72 t (by omega)).trans (eso t)
      have p73' : ∀ t, t < kn → i7 73 t = bi (ca e t) := fun t ht => by
        rw [p73 t (by omega), hca, e43]
      rw [← hkn] at p46
      have i7f : ∀ b, b = 57 ∨ b = 58 ∨ b = 59 → i7 b = i b := fun b hb => by
        have t0 : xt X b = 0 := by rcases hb with rfl | rfl | rfl <;> rfl
        rw [f7.1 b (by omega) (by omega)]
        exact k6.1 b (by omega) (by omega) (by omega) (by omega) (by omega) (by omega)
      have c8 := c_1608 0 X i7 jE (p := p) (by omega) (by omega) p46 p72' p73' a2
      obtain ⟨sb, se⟩ := hsv e
      rw [i7f 57 (by omega), i7f 58 (by omega), i7f 59 (by omega), se] at c8
      obtain ⟨i9, hi9⟩ : ∃ i9, i9 = s2 i7 42 48 (nI (ct (fst1 (so e) a2) kn)) := ⟨_, rfl⟩
      rw [← hi9] at c8
      refine s_1633_157 _ X i6 jE _ _ _ _ _ _ _ _ _ _ _ _ _ _ (br_t (Int32.le_refl _) ⟨i7, hE7.up (by omega), _, i9, c8.up (by omega), ?_⟩)
      have hm9 := hmx e
      have h12 := hsum e (by omega)
      have g := go i9 ⟨fun b h1 h2 h3 h4 h5 h6 => ?_, fun t ht => ?_, fun k hk h0 h6 => ?_, fun t ht => ?_, ?_⟩
      · have mx : (¬ nI e = 0 → mxI (nI (mxN sv e)) (nI (sv e)) = nI (mxN sv (e + 1))) ∧ (nI e = 0 → nI (sv e) = nI (mxN sv (e + 1))) := by
          refine ⟨fun _ => by rw [mx_nI (by omega) (by omega)]; rfl, fun h => ?_⟩
          have : e = 0 := (nIz (by omega)).mp h
          subst this
          show nI (sv 0) = nI (max 0 (sv 0))
          rw [Nat.zero_max]
        have hl : lN (nsm sv e) + (nI (sv e)).toInt64 = lN (nsm sv (e + 1)) := by rw [nI_l (by omega), lN_add]; rfl
        rw [hl, nI_add e 1]
        refine br_c (fun w => ?_) (fun w => ?_)
        · have w0 : ¬ 0 < sv e := fun h => nI_nle h (by omega) w
          rw [ct_f (p := fun e => 0 < sv e) w0] at g
          rw [show nI (ct (fun e => 0 < sv e) e) + nI 0 = nI (ct (fun e => 0 < sv e) e) from nI_add _ 0]
          exact bq_c (fun h => by rw [mx.1 h]; exact g) (fun h => by rw [mx.2 h]; exact g)
        · have w0 : 0 < sv e := Nat.pos_of_ne_zero fun h => w (by rw [h]; exact Int32.le_refl _)
          rw [ct_t (p := fun e => 0 < sv e) w0] at g
          rw [nI_add]
          exact bq_c (fun h => by rw [mx.1 h]; exact g) (fun h => by rw [mx.2 h]; exact g)
      · rw [hi9, s2_ne h2, f7.1 b h1 h2, hf6 b h2 h3 h4 h5]; exact hf5 b h1 h2 h3 h4 h5 h6
      · rw [hi9, s2_ne (by decide), f7.1 76 (by omega) (by decide), hf6 76 (by decide) (by decide) (by decide) (by decide)]; exact hr5 t ht
      · rw [hi9, s2_ne2 (by omega), f7.2 k (by omega), hk6 k h0 h6]; exact hk5 k hk h0 h6
      · have t43 : xt X 43 = 0 ∧ xt X 44 = 0 ∧ xt X 45 = 0 := ⟨rfl, rfl, rfl⟩
        rw [hi9, s2_ne (by decide), s2_ne (by decide), s2_ne (by decide), f7.1 43 (by omega) (by decide), f7.1 44 (by omega) (by decide), f7.1 45 (by omega) (by decide)]; exact ho6 t ht
      · rw [hi9, s2_ne2 (by decide), f7.2 6 (by decide), hr6, Rs]
    · rintro t i6 ht6 ⟨hr6, hd6, hf6, hk6, ho6⟩ go2
      try dsimp only
      refine s_1633_157 _ X i6 jE _ _ _ _ _ _ _ _ _ _ _ _ _ _ (br_f (nI_ge ht6 (by omega)) ?_)
      obtain ⟨b1', b2', b3'⟩ := wd_i (w := i 43) (a := i 44) (k := i 45) (f := f e) ht6
      have e46 : i6 46 = i 46 := by rw [hf6 46 (by decide) (by decide) (by decide) (by decide)]; exact i5f 46 (by omega)
      have e47 : i6 47 = i 47 := by rw [hf6 47 (by decide) (by decide) (by decide) (by decide)]; exact i5f 47 (by omega)
      have hD : DW W (f e t).1 (f e t).2.2.1 (f e (t + 1)).1 (dwf W (f e t).1 (f e t).2.2.1).2 := by rw [fe]; exact wF_D _ _ _ _
      have fS : f e (t + 1) = mkst W (i 47) (f e t) := by rw [fe]; rfl
      have hl4 : (f e t).1 < 4 := by rw [fe]; exact wF_lt _ _ _ _
      have z0 : t = 0 → (f e t).1 = 0 ∧ (f e t).2.1 = nI 500 := fun h => by rw [fe]; exact wF_0 _ _ _ h
      have z1 : 0 < t → WW e (t - 1) = nI (f e t).1 ∧ AA e (t - 1) = (f e t).2.1 := fun h => by rw [hWW, hAA]; dsimp only; rw [fe]; exact wF_l (m := m) (i 43) (i 44) h (by omega)
      have w1 : WW e t = nI (f e (t + 1)).1 ∧ AA e t = (f e (t + 1)).2.1 ∧ KK e t = (f e (t + 1)).2.2.2 := by rw [hWW, hAA, hKK]; exact ⟨b1', b2', b3'⟩
      obtain ⟨i7, hE, s1, s2', s3, s4, s5⟩ := c_1552 0 X i6 jE (W := W) (fun q hq => by rw [e46]; exact hW q hq) (show t < 240 by omega) hd6 hl4 (fun z => (z0 z).1) (fun z => (z1 z).1) (a0 := (f e t).2.1) (fun z => (z0 z).2) (fun z => (z1 z).2) (v := (f e (t + 1)).1) (by rw [hr6]; exact hD) w1.1 (by rw [w1.2.1, e47, fS]; rfl) (by rw [w1.2.2, fS]; rfl)
      rw [nI_add]
      refine ⟨i7, hE.up (by omega), go2 i7 ⟨?_, s2', fun b c1 c2 c3 c4 => (s3 b c1 c2 c3 c4).trans (hf6 b c1 c2 c3 c4), fun k k0 k6 => (s4 k k0 k6).trans (hk6 k k0 k6), fun u hu => ?_⟩⟩
      · rw [s1, fS]; rfl
      · obtain ⟨v1, v2, v3⟩ := s5 u (by omega)
        rw [v1, v2, v3]; exact ho6 u hu
    · rw [s2_ne2 (by decide), hR5, fe]; rfl
    · rw [s2_ne (by decide), s2_ne (by decide), s2_ne (by decide)]; exact ho5 u hu
  · rw [hf2 42 (by decide)]; exact gB k (by omega)
  · rw [hf2 43 (by decide), hf2 44 (by decide), hf2 45 (by decide), B43.1, B43.2.1, B43.2.2]; exact ⟨rfl, rfl, rfl⟩
  · rw [hf2 42 (by decide), gB 6 (by decide), ← h1.1]; exact R0e.symm
