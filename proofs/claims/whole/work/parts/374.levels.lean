/-! ===== sums, comparisons, both, either ===== -/
theorem jn43 (l r : Int32) : jnI (nI 43) l r = l + r := by unfold jnI; rw [if_neg (by decide), if_neg (by decide), if_pos (by decide)]
theorem jn45 (l r : Int32) : jnI (nI 45) l r = l - r := by unfold jnI; rw [if_neg (by decide), if_neg (by decide), if_neg (by decide), if_pos (by decide)]
theorem jn60 (l r : Int32) : jnI (nI 60) l r = bi (l < r) := by unfold jnI; rw [if_neg (by decide), if_neg (by decide), if_neg (by decide), if_neg (by decide), if_pos (by decide)]
theorem jn61 (l r : Int32) : jnI (nI 61) l r = bi (l = r) := by unfold jnI; rw [if_neg (by decide), if_neg (by decide), if_neg (by decide), if_neg (by decide), if_neg (by decide), if_pos (by decide)]
theorem jn62 (l r : Int32) : jnI (nI 62) l r = bi (r < l) := by unfold jnI; rw [if_neg (by decide), if_neg (by decide), if_neg (by decide), if_neg (by decide), if_neg (by decide), if_neg (by decide), if_pos (by decide)]
theorem jn38 (l r : Int32) : jnI (nI 38) l r = bi (¬ l = 0 ∧ ¬ r = 0) := by unfold jnI; rw [if_neg (by decide), if_pos (by decide)]
theorem jn124 (l r : Int32) : jnI (nI 124) l r = bi (¬ l = 0 ∨ ¬ r = 0) := by unfold jnI; rw [if_neg (by decide), if_neg (by decide), if_neg (by decide), if_neg (by decide), if_neg (by decide), if_neg (by decide), if_neg (by decide), if_pos (by decide)]
set_option maxRecDepth 100000 in
theorem s_1581 (d : Nat) (X : XS) (i : Nat → Nat → Int32) (j : Nat → Nat → Int64) (a1 : Int32) (K : Int32 → AM → Prop) (h : (∃ (x2 : Int32), ∃ (i1 : Nat → Nat → Int32), EvI (d + 2) 1582 [.ref 42, .int a1] (mm X i j) x2 (mm X i1 j) ∧ WP (d + 3) 1581 (6, [(0, .ref 42), (1, .int a1), (2, .int x2)], [], (mm X i1 j)) (qI K))) : WI (d + 3) 1581 [.ref 42, .int a1] (mm X i j) K := te_1581 (d + 2) 42 a1 (mm X i j) (qI K) ⟨rfl, (Exists.elim h fun x2 h3 => Exists.elim h3 fun i1 h4 => EvI.use h4.1 h4.2)⟩
set_option maxRecDepth 100000 in
theorem s_1581_6 (d : Nat) (X : XS) (i : Nat → Nat → Int32) (j : Nat → Nat → Int64) (v1 : Int32) (v2 : Int32) (Q : Option (Option Value) → AM → Prop) (h : ((¬ ((i 42 41) = (kI (-1))) → Q (some (some (.int v2))) (mm X i j)) ∧ ((i 42 41) = (kI (-1)) → (hvO (i 42 38) (i 42 39) (i 42 40)) ∧ (((hvI (i 42 38) (i 42 39) (i 42 40) (i 54)) = (nI 43) → (∃ (x12 : Int32), ∃ (i11 : Nat → Nat → Int32), EvI (d + 2) 1582 [.ref 42, .int v1] (mm X (s2 i 42 40 ((i 42 40) + (nI 1))) j) x12 (mm X i11 j) ∧ WP (d + 3) 1581 (6, [(0, .ref 42), (1, .int v1), (2, .int (v2 + x12))], [], (mm X i11 j)) Q)) ∧ (¬ ((hvI (i 42 38) (i 42 39) (i 42 40) (i 54)) = (nI 43)) → ((¬ ((hvI (i 42 38) (i 42 39) (i 42 40) (i 54)) = (nI 45)) → Q (some (some (.int v2))) (mm X i j)) ∧ ((hvI (i 42 38) (i 42 39) (i 42 40) (i 54)) = (nI 45) → (∃ (x20 : Int32), ∃ (i19 : Nat → Nat → Int32), EvI (d + 2) 1582 [.ref 42, .int v1] (mm X (s2 i 42 40 ((i 42 40) + (nI 1))) j) x20 (mm X i19 j) ∧ WP (d + 3) 1581 (6, [(0, .ref 42), (1, .int v1), (2, .int (v2 - x20))], [], (mm X i19 j)) Q)))))))) : WP (d + 3) 1581 (6, [(0, .ref 42), (1, .int v1), (2, .int v2)], [], mm X i j) Q := tc_1581_6 (d + 2) 42 v1 v2 (mm X i j) Q ⟨rfl, (te_1576 (d + 2) 42 (mm X i j) _ ⟨rfl, ⟨fun e6 => ⟨k0_01, ⟨_, rfl, ⟨fun _ => (h.1 (e6)), fun e7 => absurd (show (nI 0) = 0 by decide) e7⟩⟩⟩, fun e6 => ⟨k1_01, ⟨_, rfl, ⟨fun e8 => absurd e8 (show ¬ ((nI 1) = 0) by decide), fun _ => ⟨rfl, (p_1574 (d + 2) X i j  _ ⟨(h.2 ((Classical.byContradiction e6))).1, ⟨fun e9 => ⟨rfl, (p_1574 (d + 2) X i j  _ ⟨(h.2 ((Classical.byContradiction e6))).1, ⟨fun e10 => absurd e10 (fun z => z (e9)), fun _ => (tc_1581_46 (d + 2) 42 v1 v2 (nI 1) (mm X i j) _ ⟨rfl, ⟨rfl, ⟨rfl, (Exists.elim ((h.2 ((Classical.byContradiction e6))).2.1 (e9)) fun x12 h14 => Exists.elim h14 fun i11 h15 => EvI.use h15.1 ⟨fun e13 => absurd e13 (show ¬ ((nI 1) = 0) by decide), fun _ => (tc_1581_79 (d + 2) 42 v1 (v2 + x12) (mm X i11 j) _ h15.2)⟩)⟩⟩⟩)⟩⟩)⟩, fun e9 => ⟨rfl, (p_1574 (d + 2) X i j  _ ⟨(h.2 ((Classical.byContradiction e6))).1, ⟨fun e17 => (((h.2 ((Classical.byContradiction e6))).2.2 (e9)).1 (e17)), fun e17 => ⟨rfl, (p_1574 (d + 2) X i j  _ ⟨(h.2 ((Classical.byContradiction e6))).1, ⟨fun _ => (tc_1581_46 (d + 2) 42 v1 v2 (nI 0) (mm X i j) _ ⟨rfl, ⟨rfl, ⟨rfl, (Exists.elim (((h.2 ((Classical.byContradiction e6))).2.2 (e9)).2 ((Classical.byContradiction e17))) fun x20 h22 => Exists.elim h22 fun i19 h23 => EvI.use h23.1 ⟨fun _ => (tc_1581_79 (d + 2) 42 v1 (v2 - x20) (mm X i19 j) _ h23.2), fun e21 => absurd (show (nI 0) = 0 by decide) e21⟩)⟩⟩⟩), fun e18 => absurd ((e9)) e18⟩⟩)⟩⟩⟩)⟩⟩⟩)⟩⟩⟩⟩⟩⟩)⟩
set_option maxRecDepth 100000 in
theorem s_1580 (d : Nat) (X : XS) (i : Nat → Nat → Int32) (j : Nat → Nat → Int64) (a1 : Int32) (K : Int32 → AM → Prop) (h : (∃ (x2 : Int32), ∃ (i1 : Nat → Nat → Int32), EvI (d + 2) 1581 [.ref 42, .int a1] (mm X i j) x2 (mm X i1 j) ∧ (hvO (i1 42 38) (i1 42 39) (i1 42 40)) ∧ ((¬ ((i1 42 41) = (kI (-1))) → K x2 (mm X i1 j)) ∧ ((i1 42 41) = (kI (-1)) → (((hvI (i1 42 38) (i1 42 39) (i1 42 40) (i1 54)) = (nI 60) → (∃ (x8 : Int32), ∃ (i7 : Nat → Nat → Int32), EvI (d + 2) 1581 [.ref 42, .int a1] (mm X (s2 i1 42 40 ((i1 42 40) + (nI 1))) j) x8 (mm X i7 j) ∧ ((x8 ≤ x2 → K (nI 0) (mm X i7 j)) ∧ (¬ (x8 ≤ x2) → K (nI 1) (mm X i7 j))))) ∧ (¬ ((hvI (i1 42 38) (i1 42 39) (i1 42 40) (i1 54)) = (nI 60)) → (((hvI (i1 42 38) (i1 42 39) (i1 42 40) (i1 54)) = (nI 62) → (∃ (x16 : Int32), ∃ (i15 : Nat → Nat → Int32), EvI (d + 2) 1581 [.ref 42, .int a1] (mm X (s2 i1 42 40 ((i1 42 40) + (nI 1))) j) x16 (mm X i15 j) ∧ ((x2 ≤ x16 → K (nI 0) (mm X i15 j)) ∧ (¬ (x2 ≤ x16) → K (nI 1) (mm X i15 j))))) ∧ (¬ ((hvI (i1 42 38) (i1 42 39) (i1 42 40) (i1 54)) = (nI 62)) → (((hvI (i1 42 38) (i1 42 39) (i1 42 40) (i1 54)) = (nI 61) → (∃ (x25 : Int32), ∃ (i24 : Nat → Nat → Int32), EvI (d + 2) 1581 [.ref 42, .int a1] (mm X (s2 i1 42 40 ((i1 42 40) + (nI 1))) j) x25 (mm X i24 j) ∧ ((¬ (x2 = x25) → K (nI 0) (mm X i24 j)) ∧ (x2 = x25 → K (nI 1) (mm X i24 j))))) ∧ (¬ ((hvI (i1 42 38) (i1 42 39) (i1 42 40) (i1 54)) = (nI 61)) → K x2 (mm X i1 j))))))))))) : WI (d + 3) 1580 [.ref 42, .int a1] (mm X i j) K := te_1580 (d + 2) 42 a1 (mm X i j) (qI K) ⟨rfl, (Exists.elim h fun x2 h32 => Exists.elim h32 fun i1 h33 => EvI.use h33.1 ⟨rfl, (p_1574 (d + 2) X i1 j  _ ⟨h33.2.1, ⟨rfl, (te_1576 (d + 2) 42 (mm X i1 j) _ ⟨rfl, ⟨fun e3 => ⟨k0_01, ⟨_, rfl, ⟨fun _ => ⟨_, rfl, (h33.2.2.1 (e3))⟩, fun e4 => absurd (show (nI 0) = 0 by decide) e4⟩⟩⟩, fun e3 => ⟨k1_01, ⟨_, rfl, ⟨fun e5 => absurd e5 (show ¬ ((nI 1) = 0) by decide), fun _ => ⟨fun e6 => (tc_1580_38 (d + 2) 42 a1 x2 (hvI (i1 42 38) (i1 42 39) (i1 42 40) (i1 54)) (mm X i1 j) _ ⟨rfl, ⟨rfl, ⟨rfl, (Exists.elim ((h33.2.2.2 ((Classical.byContradiction e3))).1 (e6)) fun x8 h11 => Exists.elim h11 fun i7 h12 => EvI.use h12.1 ⟨fun e9 => absurd e9 (fun z => z (e6)), fun _ => ⟨fun e10 => ⟨_, rfl, (h12.2.1 (e10))⟩, fun e10 => (tc_1580_91 (d + 2)  (mm X i7 j) _ ⟨_, rfl, (h12.2.2 (e10))⟩)⟩⟩)⟩⟩⟩), fun e6 => ⟨fun e14 => (tc_1580_38 (d + 2) 42 a1 x2 (hvI (i1 42 38) (i1 42 39) (i1 42 40) (i1 54)) (mm X i1 j) _ ⟨rfl, ⟨rfl, ⟨rfl, (Exists.elim (((h33.2.2.2 ((Classical.byContradiction e3))).2 (e6)).1 (e14)) fun x16 h20 => Exists.elim h20 fun i15 h21 => EvI.use h21.1 ⟨fun _ => ⟨fun e18 => absurd e18 (fun z => z (e14)), fun _ => ⟨fun e19 => ⟨_, rfl, (h21.2.1 (e19))⟩, fun e19 => (tc_1580_91 (d + 2)  (mm X i15 j) _ ⟨_, rfl, (h21.2.2 (e19))⟩)⟩⟩, fun e17 => absurd ((e6)) e17⟩)⟩⟩⟩), fun e14 => ⟨fun e23 => (tc_1580_38 (d + 2) 42 a1 x2 (hvI (i1 42 38) (i1 42 39) (i1 42 40) (i1 54)) (mm X i1 j) _ ⟨rfl, ⟨rfl, ⟨rfl, (Exists.elim ((((h33.2.2.2 ((Classical.byContradiction e3))).2 (e6)).2 (e14)).1 (e23)) fun x25 h29 => Exists.elim h29 fun i24 h30 => EvI.use h30.1 ⟨fun _ => ⟨fun _ => ⟨fun e28 => ⟨_, rfl, (h30.2.1 (e28))⟩, fun e28 => (tc_1580_91 (d + 2)  (mm X i24 j) _ ⟨_, rfl, (h30.2.2 ((Classical.byContradiction e28)))⟩)⟩, fun e27 => absurd ((e14)) e27⟩, fun e26 => absurd ((e6)) e26⟩)⟩⟩⟩), fun e23 => ⟨_, rfl, ((((h33.2.2.2 ((Classical.byContradiction e3))).2 (e6)).2 (e14)).2 (e23))⟩⟩⟩⟩⟩⟩⟩⟩⟩)⟩⟩)⟩)⟩
set_option maxRecDepth 100000 in
theorem s_1579 (d : Nat) (X : XS) (i : Nat → Nat → Int32) (j : Nat → Nat → Int64) (a1 : Int32) (K : Int32 → AM → Prop) (h : (∃ (x2 : Int32), ∃ (i1 : Nat → Nat → Int32), EvI (d + 2) 1580 [.ref 42, .int a1] (mm X i j) x2 (mm X i1 j) ∧ WP (d + 3) 1579 (6, [(0, .ref 42), (1, .int a1), (2, .int x2)], [], (mm X i1 j)) (qI K))) : WI (d + 3) 1579 [.ref 42, .int a1] (mm X i j) K := te_1579 (d + 2) 42 a1 (mm X i j) (qI K) ⟨rfl, (Exists.elim h fun x2 h3 => Exists.elim h3 fun i1 h4 => EvI.use h4.1 h4.2)⟩
set_option maxRecDepth 100000 in
theorem s_1579_6 (d : Nat) (X : XS) (i : Nat → Nat → Int32) (j : Nat → Nat → Int64) (v1 : Int32) (v2 : Int32) (Q : Option (Option Value) → AM → Prop) (h : ((¬ ((i 42 41) = (kI (-1))) → Q (some (some (.int v2))) (mm X i j)) ∧ ((i 42 41) = (kI (-1)) → (hvO (i 42 38) (i 42 39) (i 42 40)) ∧ (((hvI (i 42 38) (i 42 39) (i 42 40) (i 54)) = (nI 38) → (∃ (x12 : Int32), ∃ (i11 : Nat → Nat → Int32), EvI (d + 2) 1580 [.ref 42, .int v1] (mm X (s2 i 42 40 ((i 42 40) + (nI 1))) j) x12 (mm X i11 j) ∧ ((v2 = 0 → WP (d + 3) 1579 (6, [(0, .ref 42), (1, .int v1), (2, .int (nI 0))], [], (mm X i11 j)) Q) ∧ (¬ (v2 = 0) → ((x12 = 0 → WP (d + 3) 1579 (6, [(0, .ref 42), (1, .int v1), (2, .int (nI 0))], [], (mm X i11 j)) Q) ∧ (¬ (x12 = 0) → WP (d + 3) 1579 (6, [(0, .ref 42), (1, .int v1), (2, .int (nI 1))], [], (mm X i11 j)) Q)))))) ∧ (¬ ((hvI (i 42 38) (i 42 39) (i 42 40) (i 54)) = (nI 38)) → Q (some (some (.int v2))) (mm X i j)))))) : WP (d + 3) 1579 (6, [(0, .ref 42), (1, .int v1), (2, .int v2)], [], mm X i j) Q := tc_1579_6 (d + 2) 42 v1 v2 (mm X i j) Q ⟨rfl, (te_1576 (d + 2) 42 (mm X i j) _ ⟨rfl, ⟨fun e6 => ⟨k0_01, ⟨_, rfl, ⟨fun _ => (h.1 (e6)), fun e7 => absurd (show (nI 0) = 0 by decide) e7⟩⟩⟩, fun e6 => ⟨k1_01, ⟨_, rfl, ⟨fun e8 => absurd e8 (show ¬ ((nI 1) = 0) by decide), fun _ => ⟨rfl, (te_1575 (d + 1) 42 (nI 38) (mm X i j) _ ⟨rfl, (p_1574 (d + 1) X i j  _ ⟨(h.2 ((Classical.byContradiction e6))).1, ⟨fun e9 => ⟨rfl, ⟨rfl, ⟨k1_01, ⟨_, rfl, ⟨fun e10 => absurd e10 (show ¬ ((nI 1) = 0) by decide), fun _ => ⟨rfl, (Exists.elim ((h.2 ((Classical.byContradiction e6))).2.1 (e9)) fun x12 h15 => Exists.elim h15 fun i11 h16 => EvI.use h16.1 ⟨fun e13 => (tc_1579_42 (d + 2) 42 v1 (nI 0) (mm X i11 j) _ (h16.2.1 (e13))), fun e13 => ⟨fun e14 => (tc_1579_42 (d + 2) 42 v1 (nI 0) (mm X i11 j) _ ((h16.2.2 (e13)).1 (e14))), fun e14 => (tc_1579_42 (d + 2) 42 v1 (nI 1) (mm X i11 j) _ ((h16.2.2 (e13)).2 (e14)))⟩⟩)⟩⟩⟩⟩⟩⟩, fun e9 => ⟨k0_01, ⟨_, rfl, ⟨fun _ => ((h.2 ((Classical.byContradiction e6))).2.2 (e9)), fun e18 => absurd (show (nI 0) = 0 by decide) e18⟩⟩⟩⟩⟩)⟩)⟩⟩⟩⟩⟩⟩)⟩
set_option maxRecDepth 100000 in
theorem s_1578 (d : Nat) (X : XS) (i : Nat → Nat → Int32) (j : Nat → Nat → Int64) (a1 : Int32) (K : Int32 → AM → Prop) (h : (∃ (x2 : Int32), ∃ (i1 : Nat → Nat → Int32), EvI (d + 2) 1579 [.ref 42, .int a1] (mm X i j) x2 (mm X i1 j) ∧ WP (d + 3) 1578 (6, [(0, .ref 42), (1, .int a1), (2, .int x2)], [], (mm X i1 j)) (qI K))) : WI (d + 3) 1578 [.ref 42, .int a1] (mm X i j) K := te_1578 (d + 2) 42 a1 (mm X i j) (qI K) ⟨rfl, (Exists.elim h fun x2 h3 => Exists.elim h3 fun i1 h4 => EvI.use h4.1 h4.2)⟩
set_option maxRecDepth 100000 in
theorem s_1578_6 (d : Nat) (X : XS) (i : Nat → Nat → Int32) (j : Nat → Nat → Int64) (v1 : Int32) (v2 : Int32) (Q : Option (Option Value) → AM → Prop) (h : ((¬ ((i 42 41) = (kI (-1))) → Q (some (some (.int v2))) (mm X i j)) ∧ ((i 42 41) = (kI (-1)) → (hvO (i 42 38) (i 42 39) (i 42 40)) ∧ (((hvI (i 42 38) (i 42 39) (i 42 40) (i 54)) = (nI 124) → (∃ (x12 : Int32), ∃ (i11 : Nat → Nat → Int32), EvI (d + 2) 1579 [.ref 42, .int v1] (mm X (s2 i 42 40 ((i 42 40) + (nI 1))) j) x12 (mm X i11 j) ∧ ((¬ (v2 = 0) → WP (d + 3) 1578 (6, [(0, .ref 42), (1, .int v1), (2, .int (nI 1))], [], (mm X i11 j)) Q) ∧ (v2 = 0 → ((x12 = 0 → WP (d + 3) 1578 (6, [(0, .ref 42), (1, .int v1), (2, .int (nI 0))], [], (mm X i11 j)) Q) ∧ (¬ (x12 = 0) → WP (d + 3) 1578 (6, [(0, .ref 42), (1, .int v1), (2, .int (nI 1))], [], (mm X i11 j)) Q)))))) ∧ (¬ ((hvI (i 42 38) (i 42 39) (i 42 40) (i 54)) = (nI 124)) → Q (some (some (.int v2))) (mm X i j)))))) : WP (d + 3) 1578 (6, [(0, .ref 42), (1, .int v1), (2, .int v2)], [], mm X i j) Q := tc_1578_6 (d + 2) 42 v1 v2 (mm X i j) Q ⟨rfl, (te_1576 (d + 2) 42 (mm X i j) _ ⟨rfl, ⟨fun e6 => ⟨k0_01, ⟨_, rfl, ⟨fun _ => (h.1 (e6)), fun e7 => absurd (show (nI 0) = 0 by decide) e7⟩⟩⟩, fun e6 => ⟨k1_01, ⟨_, rfl, ⟨fun e8 => absurd e8 (show ¬ ((nI 1) = 0) by decide), fun _ => ⟨rfl, (te_1575 (d + 1) 42 (nI 124) (mm X i j) _ ⟨rfl, (p_1574 (d + 1) X i j  _ ⟨(h.2 ((Classical.byContradiction e6))).1, ⟨fun e9 => ⟨rfl, ⟨rfl, ⟨k1_01, ⟨_, rfl, ⟨fun e10 => absurd e10 (show ¬ ((nI 1) = 0) by decide), fun _ => ⟨rfl, (Exists.elim ((h.2 ((Classical.byContradiction e6))).2.1 (e9)) fun x12 h15 => Exists.elim h15 fun i11 h16 => EvI.use h16.1 ⟨fun e13 => (tc_1578_42 (d + 2) 42 v1 (nI 1) (mm X i11 j) _ (h16.2.1 (e13))), fun e13 => ⟨fun e14 => (tc_1578_42 (d + 2) 42 v1 (nI 0) (mm X i11 j) _ ((h16.2.2 ((Classical.byContradiction e13))).1 (e14))), fun e14 => (tc_1578_42 (d + 2) 42 v1 (nI 1) (mm X i11 j) _ ((h16.2.2 ((Classical.byContradiction e13))).2 (e14)))⟩⟩)⟩⟩⟩⟩⟩⟩, fun e9 => ⟨k0_01, ⟨_, rfl, ⟨fun _ => ((h.2 ((Classical.byContradiction e6))).2.2 (e9)), fun e18 => absurd (show (nI 0) = 0 by decide) e18⟩⟩⟩⟩⟩)⟩)⟩⟩⟩⟩⟩⟩)⟩
section levels
variable {X : XS} {i0 : Nat → Nat → Int32} {j : Nat → Nat → Int64} {th : Int32 → Int32} {t : Nat → Nat} {s n N p : Nat}
theorem pt_sum (hT : TXT i0 s n t) (hNe : N = min n 40) (h5 : PT X i0 j th t n N 1582 5 (5 * (40 - p) + 3) p) (ih : ∀ p', p < p' → p' ≤ N → PT X i0 j th t n N 1582 5 (5 * (40 - p') + 3) p') : PT X i0 j th t n N 1581 4 (5 * (40 - p) + 4) p := by
  intro cd0 wt0 m0 br dg0 st0 i hsc hw hev hbr hm hst
  have h256 : ∀ q, q < N → t q < 256 := fun q hq => (hT.2.2.2.2 q (by omega)).1
  have hw4 := hw (by decide)
  obtain ⟨x, i1, hE, hR⟩ := h5 cd0 wt0 m0 br dg0 st0 i hsc (fun _ => by omega) hev hbr (fun _ => by first | exact hm (by decide) | omega) hst
  refine EvI.exx (s_1581 (5 * (40 - p) + 1) X i j (nI br) _ ⟨x, i1, hE, ?_⟩)
  have bad : ∀ (y : Int32) i' p' w, p' ≤ N → StP i0 i' p' (nI w) → PBAD t n N w → WP (5 * (40 - p) + 1 + 3) 1581 (6, [(0, .ref 42), (1, .int (nI br)), (2, .int y)], [], mm X i' j) (qI fun x M2 => ∃ i', M2 = mm X i' j ∧ PRES th t n N i0 4 st0 wt0 m0 br p x i') := fun y i' p' w h1 h2 h3 => s_1581_6 _ X i' j _ _ _ (bq_t (by rw [h2.2.2.2]; have := h3.1; exact nIm1 (by omega)) (qI_of ⟨i', rfl, Or.inr ⟨p', w, h1, h2, h3⟩⟩))
  have loop : ∀ (u : Nat × Int32 × (Nat → Nat → Int32)), (p < u.1 ∧ u.1 ≤ N ∧ StP i0 u.2.2 u.1 (kI (-1)) ∧ PK th t N 4 5 st0 wt0 m0 br u.1 u.2.1) → WP (5 * (40 - p) + 1 + 3) 1581 (6, [(0, .ref 42), (1, .int (nI br)), (2, .int u.2.1)], [], mm X u.2.2 j) (qI fun x M2 => ∃ i', M2 = mm X i' j ∧ PRES th t n N i0 4 st0 wt0 m0 br p x i') := by
    refine lwh (fun (u : Nat × Int32 × (Nat → Nat → Int32)) => p < u.1 ∧ u.1 ≤ N ∧ StP i0 u.2.2 u.1 (kI (-1)) ∧ PK th t N 4 5 st0 wt0 m0 br u.1 u.2.1) (fun u => N - u.1) (fun u => (6, [(0, .ref 42), (1, .int (nI br)), (2, .int u.2.1)], [], mm X u.2.2 j)) ?_
    rintro ⟨p', y, i2⟩ ⟨a1, a2, a3, a4⟩ go
    dsimp only at a1 a2 a3 a4 go ⊢
    have hv := hv_of hT a3 (by omega)
    rw [← hNe] at hv
    refine s_1581_6 _ X i2 j _ _ _ (bq_f a3.2.2.2 ⟨hv.1, ?_⟩)
    rw [hv.2]
    have link : ∀ b, (b = 43 ∨ b = 45) → p' < N → t p' = b → ∃ (x2 : Int32) (i3 : Nat → Nat → Int32), EvI (5 * (40 - p) + 1 + 2) 1582 [.ref 42, .int (nI br)] (mm X (s2 i2 42 40 (i2 42 40 + nI 1)) j) x2 (mm X i3 j) ∧ WP (5 * (40 - p) + 1 + 3) 1581 (6, [(0, .ref 42), (1, .int (nI br)), (2, .int (jnI (nI b) y x2))], [], mm X i3 j) (qI fun x M2 => ∃ i', M2 = mm X i' j ∧ PRES th t n N i0 4 st0 wt0 m0 br p x i') := by
      intro b hb pN e
      obtain ⟨cd1, pre, m1, dg1, g1, g2, g3, g4, g5, g6, g7⟩ := a4
      have s4 : stN b = 4 ∧ b < 256 := by rcases hb with rfl | rfl <;> exact ⟨rfl, by decide⟩
      obtain ⟨x2, i3, hE2, hR2⟩ := ih (p' + 1) (by omega) (by omega) (cd1 ++ up1 pre) (b :: wt0) (fun q => if q = br ∧ stN b ≤ 3 then decide (stN b = 3) else m1 q) br dg1 (y :: st0) _ (scn_s g1 (by rw [e]; exact tk_link (by omega) (fun h => by omega) (fun y hy => by rw [s4.1]; exact g2 y hy) (by omega))) (fun _ => by show stN b < _; omega) g3 hbr (fun _ => by omega) a3.adv
      refine ⟨x2, i3, hE2.up (by omega), ?_⟩
      rcases hR2 with ⟨p2, c1, c2, c3, c4⟩ | ⟨p2, w, c1, c2, c3⟩
      · refine go (p2, jnI (nI b) y x2, i3) ⟨by show p < p2; omega, c2, c3, ?_⟩ (by show N - p2 < N - p'; omega)
        exact c4.join (L := 4) s4.2 (by omega) (by omega) (by decide) (fun q hq => by rw [if_neg (by omega)]; exact g4 q hq) (fun z => by first | omega | (rw [if_neg (by omega)]; exact g5 (by omega)))
      · exact bad _ _ _ _ c1 c2 c3
    refine br_c (fun z => ?_) (fun z43 => bq_c (fun z45 => qI_of ⟨i2, rfl, Or.inl ⟨p', a1, a2, a3, a4.add ?_⟩⟩) (fun z => ?_))
    · obtain ⟨pN, hb⟩ := (hb_eq (h256 p') (by decide)).mp z
      obtain ⟨x2, i3, e1, e2⟩ := link 43 (Or.inl rfl) pN hb
      rw [jn43] at e2
      exact ⟨x2, i3, e1, e2⟩
    · have h : ∀ b, (b = 43 ∨ b = 45) → p' < N → t p' ≠ b := by
        rintro b (rfl | rfl) pN e
        · exact z43 ((hb_eq (h256 p') (by decide)).mpr ⟨pN, e⟩)
        · exact z45 ((hb_eq (h256 p') (by decide)).mpr ⟨pN, e⟩)
      exact fun pN mb _ => ⟨fun _ => ⟨h 43 (Or.inl rfl) pN, h 45 (Or.inr rfl) pN⟩, fun z => absurd z (by decide), fun z => absurd z (by decide), fun z => absurd z (by decide)⟩
    · obtain ⟨pN, hb⟩ := (hb_eq (h256 p') (by decide)).mp z
      obtain ⟨x2, i3, e1, e2⟩ := link 45 (Or.inr rfl) pN hb
      rw [jn45] at e2
      exact ⟨x2, i3, e1, e2⟩
  rcases hR with ⟨p', a1, a2, a3, a4⟩ | ⟨p', w, b1, b2, b3⟩
  · exact loop (p', x, i1) ⟨a1, a2, a3, a4.low (by decide)⟩
  · exact bad _ _ _ _ b1 b2 b3
theorem pt_held (hT : TXT i0 s n t) (hNe : N = min n 40) (h5 : PT X i0 j th t n N 1581 4 (5 * (40 - p) + 4) p) (ih : ∀ p', p < p' → p' ≤ N → PT X i0 j th t n N 1581 4 (5 * (40 - p') + 4) p') : PT X i0 j th t n N 1580 3 (5 * (40 - p) + 5) p := by
  intro cd0 wt0 m0 br dg0 st0 i hsc hw hev hbr hm hst
  have h256 : ∀ q, q < N → t q < 256 := fun q hq => (hT.2.2.2.2 q (by omega)).1
  have hw3 := hw (by decide)
  have hm0 := hm (by decide)
  obtain ⟨x, i1, hE, hR⟩ := h5 cd0 wt0 m0 br dg0 st0 i hsc (fun _ => by omega) hev hbr (fun z => absurd z (by decide)) hst
  refine EvI.exx (s_1580 (5 * (40 - p) + 2) X i j (nI br) _ ⟨x, i1, hE, ?_⟩)
  rcases hR with ⟨p', a1, a2, a3, a4⟩ | ⟨p', w, b1, b2, b3⟩
  · have hv := hv_of hT a3 (by omega)
    rw [← hNe] at hv
    refine ⟨hv.1, bq_f a3.2.2.2 ?_⟩
    rw [hv.2]
    have link : ∀ b, (b = 60 ∨ b = 61 ∨ b = 62) → p' < N → t p' = b → ∃ (x2 : Int32) (i3 : Nat → Nat → Int32), EvI (5 * (40 - p) + 2 + 2) 1581 [.ref 42, .int (nI br)] (mm X (s2 i1 42 40 (i1 42 40 + nI 1)) j) x2 (mm X i3 j) ∧ PRES th t n N i0 3 st0 wt0 m0 br p (jnI (nI b) x x2) i3 := by
      intro b hb pN e
      obtain ⟨cd1, pre, m1, dg1, g1, g2, g3, g4, g5, g6, g7⟩ := a4
      have s4 : stN b = 3 ∧ b < 256 := by rcases hb with rfl | rfl | rfl <;> exact ⟨rfl, by decide⟩
      obtain ⟨m', hm'⟩ : ∃ m' : Nat → Bool, m' = (fun q => if q = br ∧ stN b ≤ 3 then decide (stN b = 3) else m1 q) := ⟨_, rfl⟩
      have mbr : m' br = true := by rw [hm']; show (if br = br ∧ stN b ≤ 3 then decide (stN b = 3) else m1 br) = true; rw [if_pos ⟨rfl, by omega⟩, s4.1]; rfl
      obtain ⟨x2, i3, hE2, hR2⟩ := ih (p' + 1) (by omega) (by omega) (cd1 ++ up1 pre) (b :: wt0) m' br dg1 (x :: st0) _ (scn_s g1 (by rw [e, hm']; exact tk_link (by omega) (fun _ => by rw [g5 (by decide)]; exact hm0) (fun y hy => by rw [s4.1]; exact Nat.le_trans (by decide) (g2 y hy)) (by omega))) (fun _ => by show stN b < _; omega) g3 hbr (fun z => absurd z (by decide)) a3.adv
      refine ⟨x2, i3, hE2.up (by omega), ?_⟩
      rcases hR2 with ⟨p2, c1, c2, c3, c4⟩ | ⟨p2, w, c1, c2, c3⟩
      · have c5 : PK th t N 4 3 (x :: st0) (b :: wt0) m' br p2 x2 := by
          obtain ⟨c, pr, m2, dg, k1, k2, k3, k4, k5, k6, k7⟩ := c4
          exact ⟨c, pr, m2, dg, k1, k2, k3, k4, k5, k6, fun z => ⟨fun _ => (k7 z).1 (by decide), fun _ _ => by rw [k5 (by decide)]; exact mbr, fun q => absurd q (by decide), fun q => absurd q (by decide)⟩⟩
        exact Or.inl ⟨p2, by omega, c2, c3, c5.join (L := 3) s4.2 (by omega) (by omega) (by decide) (fun q hq => by rw [hm']; show (if q = br ∧ stN b ≤ 3 then decide (stN b = 3) else m1 q) = _; rw [if_neg (by omega)]; exact g4 q hq) (fun z => absurd z (by decide))⟩
      · exact Or.inr ⟨p2, w, c1, c2, c3⟩
    refine br_c (fun z => ?_) (fun z60 => br_c (fun z => ?_) (fun z62 => br_c (fun z => ?_) (fun z61 => ⟨i1, rfl, Or.inl ⟨p', a1, a2, a3, (a4.low (by decide)).add ?_⟩⟩)))
    · obtain ⟨pN, hb⟩ := (hb_eq (h256 p') (by decide)).mp z
      obtain ⟨x2, i3, e1, e2⟩ := link 60 (Or.inl rfl) pN hb
      rw [jn60] at e2
      refine ⟨x2, i3, e1, br_c (fun q => ⟨i3, rfl, ?_⟩) (fun q => ⟨i3, rfl, ?_⟩)⟩
      · rw [bi_f (Int32.not_lt.mpr q)] at e2; exact e2
      · rw [bi_t (Int32.not_le.mp q)] at e2; exact e2
    · obtain ⟨pN, hb⟩ := (hb_eq (h256 p') (by decide)).mp z
      obtain ⟨x2, i3, e1, e2⟩ := link 62 (Or.inr (Or.inr rfl)) pN hb
      rw [jn62] at e2
      refine ⟨x2, i3, e1, br_c (fun q => ⟨i3, rfl, ?_⟩) (fun q => ⟨i3, rfl, ?_⟩)⟩
      · rw [bi_f (Int32.not_lt.mpr q)] at e2; exact e2
      · rw [bi_t (Int32.not_le.mp q)] at e2; exact e2
    · obtain ⟨pN, hb⟩ := (hb_eq (h256 p') (by decide)).mp z
      obtain ⟨x2, i3, e1, e2⟩ := link 61 (Or.inr (Or.inl rfl)) pN hb
      rw [jn61] at e2
      refine ⟨x2, i3, e1, bq_c (fun q => ⟨i3, rfl, ?_⟩) (fun q => ⟨i3, rfl, ?_⟩)⟩
      · rw [bi_f q] at e2; exact e2
      · rw [bi_t q] at e2; exact e2
    · intro pN mb q
      refine ⟨fun _ => q.1 (by decide), fun _ h => ?_, fun z => absurd z (by decide), fun z => absurd z (by decide)⟩
      rcases h with e | e | e
      · exact absurd ((hb_eq (h256 p') (by decide)).mpr ⟨pN, e⟩) z60
      · exact absurd ((hb_eq (h256 p') (by decide)).mpr ⟨pN, e⟩) z61
      · exact absurd ((hb_eq (h256 p') (by decide)).mpr ⟨pN, e⟩) z62
  · exact ⟨(hv_of hT b2 (by omega)).1, bq_t (by rw [b2.2.2.2]; have := b3.1; exact nIm1 (by omega)) ⟨i1, rfl, Or.inr ⟨p', w, b1, b2, b3⟩⟩⟩
theorem pt_both (hT : TXT i0 s n t) (hNe : N = min n 40) (h5 : PT X i0 j th t n N 1580 3 (5 * (40 - p) + 5) p) (ih : ∀ p', p < p' → p' ≤ N → PT X i0 j th t n N 1580 3 (5 * (40 - p') + 5) p') : PT X i0 j th t n N 1579 2 (5 * (40 - p) + 6) p := by
  intro cd0 wt0 m0 br dg0 st0 i hsc hw hev hbr hm hst
  have h256 : ∀ q, q < N → t q < 256 := fun q hq => (hT.2.2.2.2 q (by omega)).1
  have hw4 := hw (by decide)
  obtain ⟨x, i1, hE, hR⟩ := h5 cd0 wt0 m0 br dg0 st0 i hsc (fun _ => by omega) hev hbr (fun _ => by first | exact hm (by decide) | omega) hst
  refine EvI.exx (s_1579 (5 * (40 - p) + 3) X i j (nI br) _ ⟨x, i1, hE, ?_⟩)
  have bad : ∀ (y : Int32) i' p' w, p' ≤ N → StP i0 i' p' (nI w) → PBAD t n N w → WP (5 * (40 - p) + 3 + 3) 1579 (6, [(0, .ref 42), (1, .int (nI br)), (2, .int y)], [], mm X i' j) (qI fun x M2 => ∃ i', M2 = mm X i' j ∧ PRES th t n N i0 2 st0 wt0 m0 br p x i') := fun y i' p' w h1 h2 h3 => s_1579_6 _ X i' j _ _ _ (bq_t (by rw [h2.2.2.2]; have := h3.1; exact nIm1 (by omega)) (qI_of ⟨i', rfl, Or.inr ⟨p', w, h1, h2, h3⟩⟩))
  have loop : ∀ (u : Nat × Int32 × (Nat → Nat → Int32)), (p < u.1 ∧ u.1 ≤ N ∧ StP i0 u.2.2 u.1 (kI (-1)) ∧ PK th t N 2 3 st0 wt0 m0 br u.1 u.2.1) → WP (5 * (40 - p) + 3 + 3) 1579 (6, [(0, .ref 42), (1, .int (nI br)), (2, .int u.2.1)], [], mm X u.2.2 j) (qI fun x M2 => ∃ i', M2 = mm X i' j ∧ PRES th t n N i0 2 st0 wt0 m0 br p x i') := by
    refine lwh (fun (u : Nat × Int32 × (Nat → Nat → Int32)) => p < u.1 ∧ u.1 ≤ N ∧ StP i0 u.2.2 u.1 (kI (-1)) ∧ PK th t N 2 3 st0 wt0 m0 br u.1 u.2.1) (fun u => N - u.1) (fun u => (6, [(0, .ref 42), (1, .int (nI br)), (2, .int u.2.1)], [], mm X u.2.2 j)) ?_
    rintro ⟨p', y, i2⟩ ⟨a1, a2, a3, a4⟩ go
    dsimp only at a1 a2 a3 a4 go ⊢
    have hv := hv_of hT a3 (by omega)
    rw [← hNe] at hv
    refine s_1579_6 _ X i2 j _ _ _ (bq_f a3.2.2.2 ⟨hv.1, ?_⟩)
    rw [hv.2]
    have link : ∀ b, (b = 38) → p' < N → t p' = b → ∃ (x2 : Int32) (i3 : Nat → Nat → Int32), EvI (5 * (40 - p) + 3 + 2) 1580 [.ref 42, .int (nI br)] (mm X (s2 i2 42 40 (i2 42 40 + nI 1)) j) x2 (mm X i3 j) ∧ WP (5 * (40 - p) + 3 + 3) 1579 (6, [(0, .ref 42), (1, .int (nI br)), (2, .int (jnI (nI b) y x2))], [], mm X i3 j) (qI fun x M2 => ∃ i', M2 = mm X i' j ∧ PRES th t n N i0 2 st0 wt0 m0 br p x i') := by
      intro b hb pN e
      obtain ⟨cd1, pre, m1, dg1, g1, g2, g3, g4, g5, g6, g7⟩ := a4
      have s4 : stN b = 2 ∧ b < 256 := by rcases hb with rfl <;> exact ⟨rfl, by decide⟩
      obtain ⟨x2, i3, hE2, hR2⟩ := ih (p' + 1) (by omega) (by omega) (cd1 ++ up1 pre) (b :: wt0) (fun q => if q = br ∧ stN b ≤ 3 then decide (stN b = 3) else m1 q) br dg1 (y :: st0) _ (scn_s g1 (by rw [e]; exact tk_link (by omega) (fun h => by omega) (fun y hy => by rw [s4.1]; exact g2 y hy) (by omega))) (fun _ => by show stN b < _; omega) g3 hbr (fun _ => by show (if br = br ∧ stN b ≤ 3 then decide (stN b = 3) else m1 br) = false; rw [if_pos ⟨rfl, by omega⟩, s4.1]; rfl) a3.adv
      refine ⟨x2, i3, hE2.up (by omega), ?_⟩
      rcases hR2 with ⟨p2, c1, c2, c3, c4⟩ | ⟨p2, w, c1, c2, c3⟩
      · refine go (p2, jnI (nI b) y x2, i3) ⟨by show p < p2; omega, c2, c3, ?_⟩ (by show N - p2 < N - p'; omega)
        exact c4.join (L := 2) s4.2 (by omega) (by omega) (by decide) (fun q hq => by rw [if_neg (by omega)]; exact g4 q hq) (fun z => by first | omega | (rw [if_neg (by omega)]; exact g5 (by omega)))
      · exact bad _ _ _ _ c1 c2 c3
    refine br_c (fun z => ?_) (fun z38 => qI_of ⟨i2, rfl, Or.inl ⟨p', a1, a2, a3, a4.add ?_⟩⟩)
    · obtain ⟨pN, hb⟩ := (hb_eq (h256 p') (by decide)).mp z
      obtain ⟨x2, i3, e1, e2⟩ := link 38 rfl pN hb
      rw [jn38] at e2
      refine ⟨x2, i3, e1, br_c (fun q => ?_) (fun q => br_c (fun q2 => ?_) (fun q2 => ?_))⟩
      · rw [bi_f (fun h => h.1 q)] at e2; exact e2
      · rw [bi_f (fun h => h.2 q2)] at e2; exact e2
      · rw [bi_t ⟨q, q2⟩] at e2; exact e2
    · have h : ∀ b, b = 38 → p' < N → t p' ≠ b := by
        rintro b rfl pN e
        exact z38 ((hb_eq (h256 p') (by decide)).mpr ⟨pN, e⟩)
      exact fun pN mb q => ⟨fun _ => q.1 (by decide), fun _ => q.2.1 (by decide), fun _ => h 38 rfl pN, fun z => absurd z (by decide)⟩
  rcases hR with ⟨p', a1, a2, a3, a4⟩ | ⟨p', w, b1, b2, b3⟩
  · exact loop (p', x, i1) ⟨a1, a2, a3, a4.low (by decide)⟩
  · exact bad _ _ _ _ b1 b2 b3
theorem pt_either (hT : TXT i0 s n t) (hNe : N = min n 40) (h5 : PT X i0 j th t n N 1579 2 (5 * (40 - p) + 6) p) (ih : ∀ p', p < p' → p' ≤ N → PT X i0 j th t n N 1579 2 (5 * (40 - p') + 6) p') : PT X i0 j th t n N 1578 1 (5 * (40 - p) + 7) p := by
  intro cd0 wt0 m0 br dg0 st0 i hsc hw hev hbr hm hst
  have h256 : ∀ q, q < N → t q < 256 := fun q hq => (hT.2.2.2.2 q (by omega)).1
  have hw4 := hw (by decide)
  obtain ⟨x, i1, hE, hR⟩ := h5 cd0 wt0 m0 br dg0 st0 i hsc (fun _ => by omega) hev hbr (fun _ => by first | exact hm (by decide) | omega) hst
  refine EvI.exx (s_1578 (5 * (40 - p) + 4) X i j (nI br) _ ⟨x, i1, hE, ?_⟩)
  have bad : ∀ (y : Int32) i' p' w, p' ≤ N → StP i0 i' p' (nI w) → PBAD t n N w → WP (5 * (40 - p) + 4 + 3) 1578 (6, [(0, .ref 42), (1, .int (nI br)), (2, .int y)], [], mm X i' j) (qI fun x M2 => ∃ i', M2 = mm X i' j ∧ PRES th t n N i0 1 st0 wt0 m0 br p x i') := fun y i' p' w h1 h2 h3 => s_1578_6 _ X i' j _ _ _ (bq_t (by rw [h2.2.2.2]; have := h3.1; exact nIm1 (by omega)) (qI_of ⟨i', rfl, Or.inr ⟨p', w, h1, h2, h3⟩⟩))
  have loop : ∀ (u : Nat × Int32 × (Nat → Nat → Int32)), (p < u.1 ∧ u.1 ≤ N ∧ StP i0 u.2.2 u.1 (kI (-1)) ∧ PK th t N 1 2 st0 wt0 m0 br u.1 u.2.1) → WP (5 * (40 - p) + 4 + 3) 1578 (6, [(0, .ref 42), (1, .int (nI br)), (2, .int u.2.1)], [], mm X u.2.2 j) (qI fun x M2 => ∃ i', M2 = mm X i' j ∧ PRES th t n N i0 1 st0 wt0 m0 br p x i') := by
    refine lwh (fun (u : Nat × Int32 × (Nat → Nat → Int32)) => p < u.1 ∧ u.1 ≤ N ∧ StP i0 u.2.2 u.1 (kI (-1)) ∧ PK th t N 1 2 st0 wt0 m0 br u.1 u.2.1) (fun u => N - u.1) (fun u => (6, [(0, .ref 42), (1, .int (nI br)), (2, .int u.2.1)], [], mm X u.2.2 j)) ?_
    rintro ⟨p', y, i2⟩ ⟨a1, a2, a3, a4⟩ go
    dsimp only at a1 a2 a3 a4 go ⊢
    have hv := hv_of hT a3 (by omega)
    rw [← hNe] at hv
    refine s_1578_6 _ X i2 j _ _ _ (bq_f a3.2.2.2 ⟨hv.1, ?_⟩)
    rw [hv.2]
    have link : ∀ b, (b = 124) → p' < N → t p' = b → ∃ (x2 : Int32) (i3 : Nat → Nat → Int32), EvI (5 * (40 - p) + 4 + 2) 1579 [.ref 42, .int (nI br)] (mm X (s2 i2 42 40 (i2 42 40 + nI 1)) j) x2 (mm X i3 j) ∧ WP (5 * (40 - p) + 4 + 3) 1578 (6, [(0, .ref 42), (1, .int (nI br)), (2, .int (jnI (nI b) y x2))], [], mm X i3 j) (qI fun x M2 => ∃ i', M2 = mm X i' j ∧ PRES th t n N i0 1 st0 wt0 m0 br p x i') := by
      intro b hb pN e
      obtain ⟨cd1, pre, m1, dg1, g1, g2, g3, g4, g5, g6, g7⟩ := a4
      have s4 : stN b = 1 ∧ b < 256 := by rcases hb with rfl <;> exact ⟨rfl, by decide⟩
      obtain ⟨x2, i3, hE2, hR2⟩ := ih (p' + 1) (by omega) (by omega) (cd1 ++ up1 pre) (b :: wt0) (fun q => if q = br ∧ stN b ≤ 3 then decide (stN b = 3) else m1 q) br dg1 (y :: st0) _ (scn_s g1 (by rw [e]; exact tk_link (by omega) (fun h => by omega) (fun y hy => by rw [s4.1]; exact g2 y hy) (by omega))) (fun _ => by show stN b < _; omega) g3 hbr (fun _ => by show (if br = br ∧ stN b ≤ 3 then decide (stN b = 3) else m1 br) = false; rw [if_pos ⟨rfl, by omega⟩, s4.1]; rfl) a3.adv
      refine ⟨x2, i3, hE2.up (by omega), ?_⟩
      rcases hR2 with ⟨p2, c1, c2, c3, c4⟩ | ⟨p2, w, c1, c2, c3⟩
      · refine go (p2, jnI (nI b) y x2, i3) ⟨by show p < p2; omega, c2, c3, ?_⟩ (by show N - p2 < N - p'; omega)
        exact c4.join (L := 1) s4.2 (by omega) (by omega) (by decide) (fun q hq => by rw [if_neg (by omega)]; exact g4 q hq) (fun z => by first | omega | (rw [if_neg (by omega)]; exact g5 (by omega)))
      · exact bad _ _ _ _ c1 c2 c3
    refine br_c (fun z => ?_) (fun z124 => qI_of ⟨i2, rfl, Or.inl ⟨p', a1, a2, a3, a4.add ?_⟩⟩)
    · obtain ⟨pN, hb⟩ := (hb_eq (h256 p') (by decide)).mp z
      obtain ⟨x2, i3, e1, e2⟩ := link 124 rfl pN hb
      rw [jn124] at e2
      refine ⟨x2, i3, e1, bq_c (fun q => ?_) (fun q => br_c (fun q2 => ?_) (fun q2 => ?_))⟩
      · rw [bi_t (Or.inl q)] at e2; exact e2
      · rw [bi_f (fun h => h.elim (fun h => h q) (fun h => h q2))] at e2; exact e2
      · rw [bi_t (Or.inr q2)] at e2; exact e2
    · have h : ∀ b, b = 124 → p' < N → t p' ≠ b := by
        rintro b rfl pN e
        exact z124 ((hb_eq (h256 p') (by decide)).mpr ⟨pN, e⟩)
      exact fun pN mb q => ⟨fun _ => q.1 (by decide), fun _ => q.2.1 (by decide), fun _ => q.2.2.1 (by decide), fun _ => h 124 rfl pN⟩
  rcases hR with ⟨p', a1, a2, a3, a4⟩ | ⟨p', w, b1, b2, b3⟩
  · exact loop (p', x, i1) ⟨a1, a2, a3, a4.low (by decide)⟩
  · exact bad _ _ _ _ b1 b2 b3
theorem pt_all (hT : TXT i0 s n t) (hNe : N = min n 40) (hN : ∀ v, v < 1000 → th (nI v) = nI v) (hL : LETS X i0 j th) : ∀ r p, N - p = r → p ≤ N → PT X i0 j th t n N 1582 5 (5 * (40 - p) + 3) p ∧ PT X i0 j th t n N 1581 4 (5 * (40 - p) + 4) p ∧ PT X i0 j th t n N 1580 3 (5 * (40 - p) + 5) p ∧ PT X i0 j th t n N 1579 2 (5 * (40 - p) + 6) p ∧ PT X i0 j th t n N 1578 1 (5 * (40 - p) + 7) p := by
  intro r
  induction r using Nat.strongRecOn with
  | _ r IH =>
    intro p hr hp
    have ih : ∀ p', p < p' → p' ≤ N → _ := fun p' h1 h2 => IH (N - p') (by omega) p' rfl h2
    have t5 := pt_thing (X := X) (j := j) (p := p) hT hNe hN hL hp (fun h => (ih (p + 1) (by omega) (by omega)).1) (fun h => (ih (p + 1) (by omega) (by omega)).2.2.2.2)
    have t4 := pt_sum hT hNe t5 (fun p' h1 h2 => (ih p' h1 h2).1)
    have t3 := pt_held hT hNe t4 (fun p' h1 h2 => (ih p' h1 h2).2.1)
    have t2 := pt_both hT hNe t3 (fun p' h1 h2 => (ih p' h1 h2).2.2.1)
    have t1 := pt_either hT hNe t2 (fun p' h1 h2 => (ih p' h1 h2).2.2.2.1)
    exact ⟨t5, t4, t3, t2, t1⟩
end levels
