/-! ===== table, says, holds ===== -/
theorem ev_rng {x : Int32} {m : Nat} (hm : m < 2 ^ 31) (h : nI 1 ≤ x ∧ x ≤ nI m) : ∃ g, 1 ≤ g ∧ g ≤ m ∧ x = nI g := by
  obtain ⟨h1, h2⟩ := h
  obtain ⟨g, hg, rfl⟩ := of_rng hm ⟨Int32.le_trans (by decide) h1, h2⟩
  rw [nI_leI (by decide) (by omega)] at h1
  exact ⟨g, h1, hg, rfl⟩
/-- four numbers told: the class's row -/
theorem r8_of {i2 : Nat → Nat → Int32} {j2 : Nat → Nat → Int64} (n : Nat) (hn : n ≤ 20) (h1 : i2 40 1 = nI n) (h2 : i2 42 35 = nI n) (h3 : ∀ q, q < n → j2 41 q = j2 70 q) : R8 i2 j2 := ⟨n, hn, h1, h2, h3⟩
theorem FrC_36 {X : XS} {i i' : Nat → Nat → Int32} (h : ∀ b, b ≠ 36 → i' b = i b) : FrC X i i' := fun b hb => h b (fun e => by subst e; have t : xt X 36 = 46 := rfl; omega)
theorem FrC_40 {X : XS} {i i' : Nat → Nat → Int32} (h : ∀ b, b ≠ 40 → i' b = i b) : FrC X i i' := fun b hb => h b (fun e => by subst e; have t : xt X 40 = 48 := rfl; omega)
theorem FrR_th {X : XS} {i : Nat → Nat → Int32} (v : Int32) : FrR X i (s2 i 42 36 v) := ⟨fun b _ h42 => s2_ne h42, fun k hk => s2_ne2 (by omega)⟩
theorem FrR_74 {X : XS} {i i' : Nat → Nat → Int32} (h : ∀ b, b ≠ 74 → i' b = i b) : FrR X i i' := ⟨fun b hb _ => h b (fun e => by subst e; exact hb rfl), fun k _ => by rw [h 42 (by decide)]⟩
theorem FrR_42 {X : XS} {i i' : Nat → Nat → Int32} (h : ∀ b, b ≠ 42 → i' b = i b) (h2 : ∀ k, k < 35 → i' 42 k = i 42 k) : FrR X i i' := ⟨fun b _ h42 => h b h42, h2⟩
set_option maxRecDepth 100000 in
theorem s_1427 (d : Nat) (X : XS) (i : Nat → Nat → Int32) (j : Nat → Nat → Int64) (a1 : Int32) (a2 : Int32) (a3 : Int32) (K : Int32 → AM → Prop) (h : (SGs X i) ∧ ((¬ ((nI 0) ≤ a1 ∧ a1 ≤ ((i 2 7) - (nI 1)))) → K (kI (-1)) (mm X i j)) ∧ (((nI 0) ≤ a1 ∧ a1 ≤ ((i 2 7) - (nI 1))) → (OO X (xr X 23 (a1.toNatClampNeg))) → ((¬ (((nI 1) ≤ a2 ∧ a2 ≤ (nI 3)) ∧ ((nI 1) ≤ a3 ∧ a3 ≤ (nI 9))) → K (kI (-1)) (mm X i j)) ∧ (((nI 1) ≤ a2 ∧ a2 ≤ (nI 3)) ∧ ((nI 1) ≤ a3 ∧ a3 ≤ (nI 9)) → (∃ (i11 : Nat → Nat → Int32), EvV (d + 4) 1476 [.ref 2, .ref 9, .int (shlI (nI 1) a1), .int a2, .int a3] (mm X i j) (mm X i11 j) ∧ (∃ (i12 : Nat → Nat → Int32), EvV (d + 4) 1479 [.ref 2, .int (nI 0), .int (i11 31 2)] (mm X i11 j) (mm X i12 j) ∧ K (i12 36 0) (mm X (s2 (s2 (s2 (s2 (s2 i12 40 1 (nI 0)) 40 1 (nI 1)) 40 1 (nI 2)) 40 1 (nI 3)) 40 1 (nI 4)) (s2 (s2 (s2 (s2 j 41 0 ((i12 36 0).toInt64)) 41 1 ((i12 36 1).toInt64)) 41 2 ((i12 36 2).toInt64)) 41 3 ((i12 36 3).toInt64))))))))) : WI (d + 6) 1427 [.ref 2, .int a1, .int a2, .int a3] (mm X i j) K := te_1427 (d + 5) 2 a1 a2 a3 (mm X i j) (qI K) ⟨rfl, (te_1471 (d + 4) 2 a1 a2 a3 (mm X i j) _ ⟨rfl, (p_1468 (d + 3) X i j a1 _ ⟨h.1, (fun h2 => ⟨fun _ => ⟨k0_01, ⟨_, rfl, ⟨fun e4 => absurd e4 (show ¬ (¬ (nI 0) = 0) by decide), fun _ => ⟨_, rfl, (h.2.1 h2)⟩⟩⟩⟩, fun e3 => absurd rfl e3⟩), (fun h5 h6 => ⟨fun e7 => absurd e7 (nz_k (h6.1)), fun _ => (p_1464 (d + 3) X i j a2 a3 _ ⟨fun e8 => ⟨k0_01, ⟨_, rfl, ⟨fun e9 => absurd e9 (show ¬ (¬ (nI 0) = 0) by decide), fun _ => ⟨_, rfl, ((h.2.2 h5 h6).1 ((bi_z e8)))⟩⟩⟩⟩, fun e8 => ⟨k1_01, ⟨_, rfl, ⟨fun _ => ⟨rfl, (te_1478 (d + 4) 2 a1 a2 a3 (mm X i j) _ ⟨rfl, ⟨rfl, (Exists.elim ((h.2.2 h5 h6).2 ((bi_n e8))) fun i11 h19 => EvV.use h19.1 ⟨rfl, ⟨rfl, (te_771 (d + 4) 31 (mm X i11 j) _ ⟨rfl, ⟨_, rfl, ⟨rfl, (Exists.elim h19.2 fun i12 h17 => EvV.use h17.1 ⟨rfl, ⟨rfl, ⟨rfl, (te_641 (d + 5) 40 (mm X i12 j) _ ⟨rfl, ⟨rfl, ⟨rfl, (te_1481 (d + 4) 2 (mm X (s2 i12 40 1 (nI 0)) j) _ ⟨rfl, ⟨rfl, ⟨rfl, (te_899 (d + 4) 36 (mm X (s2 i12 40 1 (nI 0)) j) _ ⟨rfl, ⟨_, rfl, ⟨rfl, (te_642 (d + 4) 40 ((i12 36 0).toInt64) (mm X (s2 i12 40 1 (nI 0)) j) _ ⟨rfl, ⟨fun e13 => absurd e13 (show ¬ ((nI 20) ≤ (nI 0)) by decide), fun _ => ⟨rfl, ⟨rfl, ⟨⟨rfl, (vpk 0 20 rfl)⟩, ⟨rfl, ⟨rfl, ⟨rfl, ⟨rfl, ⟨rfl, ⟨rfl, (te_900 (d + 4) 36 (mm X (s2 (s2 i12 40 1 (nI 0)) 40 1 (nI 1)) (s2 j 41 0 ((i12 36 0).toInt64))) _ ⟨rfl, ⟨_, rfl, ⟨rfl, (te_642 (d + 4) 40 ((i12 36 1).toInt64) (mm X (s2 (s2 i12 40 1 (nI 0)) 40 1 (nI 1)) (s2 j 41 0 ((i12 36 0).toInt64))) _ ⟨rfl, ⟨fun e14 => absurd e14 (show ¬ ((nI 20) ≤ (nI 1)) by decide), fun _ => ⟨rfl, ⟨rfl, ⟨⟨rfl, (vpk 1 20 rfl)⟩, ⟨rfl, ⟨rfl, ⟨rfl, ⟨rfl, ⟨rfl, ⟨rfl, (te_901 (d + 4) 36 (mm X (s2 (s2 (s2 i12 40 1 (nI 0)) 40 1 (nI 1)) 40 1 (nI 2)) (s2 (s2 j 41 0 ((i12 36 0).toInt64)) 41 1 ((i12 36 1).toInt64))) _ ⟨rfl, ⟨_, rfl, ⟨rfl, (te_642 (d + 4) 40 ((i12 36 2).toInt64) (mm X (s2 (s2 (s2 i12 40 1 (nI 0)) 40 1 (nI 1)) 40 1 (nI 2)) (s2 (s2 j 41 0 ((i12 36 0).toInt64)) 41 1 ((i12 36 1).toInt64))) _ ⟨rfl, ⟨fun e15 => absurd e15 (show ¬ ((nI 20) ≤ (nI 2)) by decide), fun _ => ⟨rfl, ⟨rfl, ⟨⟨rfl, (vpk 2 20 rfl)⟩, ⟨rfl, ⟨rfl, ⟨rfl, ⟨rfl, ⟨rfl, ⟨rfl, (te_902 (d + 4) 36 (mm X (s2 (s2 (s2 (s2 i12 40 1 (nI 0)) 40 1 (nI 1)) 40 1 (nI 2)) 40 1 (nI 3)) (s2 (s2 (s2 j 41 0 ((i12 36 0).toInt64)) 41 1 ((i12 36 1).toInt64)) 41 2 ((i12 36 2).toInt64))) _ ⟨rfl, ⟨_, rfl, ⟨rfl, (te_642 (d + 4) 40 ((i12 36 3).toInt64) (mm X (s2 (s2 (s2 (s2 i12 40 1 (nI 0)) 40 1 (nI 1)) 40 1 (nI 2)) 40 1 (nI 3)) (s2 (s2 (s2 j 41 0 ((i12 36 0).toInt64)) 41 1 ((i12 36 1).toInt64)) 41 2 ((i12 36 2).toInt64))) _ ⟨rfl, ⟨fun e16 => absurd e16 (show ¬ ((nI 20) ≤ (nI 3)) by decide), fun _ => ⟨rfl, ⟨rfl, ⟨⟨rfl, (vpk 3 20 rfl)⟩, ⟨rfl, ⟨rfl, ⟨rfl, ⟨rfl, ⟨rfl, ⟨rfl, (te_899 (d + 5) 36 (mm X (s2 (s2 (s2 (s2 (s2 i12 40 1 (nI 0)) 40 1 (nI 1)) 40 1 (nI 2)) 40 1 (nI 3)) 40 1 (nI 4)) (s2 (s2 (s2 (s2 j 41 0 ((i12 36 0).toInt64)) 41 1 ((i12 36 1).toInt64)) 41 2 ((i12 36 2).toInt64)) 41 3 ((i12 36 3).toInt64))) _ ⟨rfl, ⟨_, rfl, ⟨_, rfl, h17.2⟩⟩⟩)⟩⟩⟩⟩⟩⟩⟩⟩⟩⟩⟩)⟩⟩⟩)⟩⟩⟩⟩⟩⟩⟩⟩⟩⟩⟩)⟩⟩⟩)⟩⟩⟩⟩⟩⟩⟩⟩⟩⟩⟩)⟩⟩⟩)⟩⟩⟩⟩⟩⟩⟩⟩⟩⟩⟩)⟩⟩⟩)⟩⟩⟩)⟩⟩⟩)⟩⟩⟩)⟩⟩⟩)⟩⟩)⟩⟩)⟩, fun e10 => absurd (show ¬ (nI 1) = 0 by decide) e10⟩⟩⟩⟩)⟩)⟩)⟩)⟩
set_option maxRecDepth 100000 in
theorem s_1591 (d : Nat) (X : XS) (i : Nat → Nat → Int32) (j : Nat → Nat → Int64) (a1 : Int32) (a2 : Int32) (a3 : Int32) (K : Int32 → AM → Prop) (h : ((¬ ((nI 0) ≤ a1 ∧ a1 ≤ ((i 42 14) - (nI 1))) → K (kI (-1)) (mm X (s2 i 42 36 (nI 0)) j)) ∧ ((nI 0) ≤ a1 ∧ a1 ≤ ((i 42 14) - (nI 1)) → ((((nI 1) ≤ a2 ∧ a2 ≤ (nI 3)) ∧ ((nI 1) ≤ a3 ∧ a3 ≤ (nI 9)) → (∃ (i3 : Nat → Nat → Int32), EvV (d + 261) 1589 [.ref 42, .int (shlI (nI 1) a1), .int a2, .int a3] (mm X (s2 i 42 36 (nI 0)) j) (mm X i3 j) ∧ WP (d + 262) 1591 (35, [(0, .ref 42), (1, .int a1), (4, .int (nI 0))], [], (mm X i3 j)) (qI K))) ∧ (¬ (((nI 1) ≤ a2 ∧ a2 ≤ (nI 3)) ∧ ((nI 1) ≤ a3 ∧ a3 ≤ (nI 9))) → K (kI (-1)) (mm X (s2 i 42 36 (nI 0)) j)))))) : WI (d + 262) 1591 [.ref 42, .int a1, .int a2, .int a3] (mm X i j) K := te_1591 (d + 261) 42 a1 a2 a3 (mm X i j) (qI K) ⟨rfl, ⟨rfl, (te_1546 (d + 260) 42 a1 (mm X (s2 i 42 36 (nI 0)) j) _ ⟨rfl, (p_1538 (d + 260) X (s2 i 42 36 (nI 0)) j a1 (nI 0) ((i 42 14) - (nI 1)) _ ⟨(bi_01 _), ⟨_, rfl, ⟨fun e1 => ⟨_, rfl, (h.1 ((bi_z e1)))⟩, fun e1 => (p_1588 (d + 260) X (s2 i 42 36 (nI 0)) j a2 a3 _ ⟨fun e2 => ⟨rfl, (Exists.elim ((h.2 ((bi_n e1))).1 ((bi_n e2))) fun i3 h4 => EvV.use h4.1 h4.2)⟩, fun e2 => ⟨_, rfl, ((h.2 ((bi_n e1))).2 ((bi_nn e2)))⟩⟩)⟩⟩⟩)⟩)⟩⟩
set_option maxRecDepth 100000 in
theorem s_1591_35 (d : Nat) (X : XS) (i : Nat → Nat → Int32) (j : Nat → Nat → Int64) (v1 : Int32) (v4 : Int32) (Q : Option (Option Value) → AM → Prop) (h : (((nI 4) ≤ v4 → WP (d + 262) 1591 (58, [(0, .ref 42), (1, .int v1), (4, .int (nI 0))], [], (mm X i j)) Q) ∧ (¬ ((nI 4) ≤ v4) → (vp_in v4 4) ∧ WP (d + 262) 1591 (35, [(0, .ref 42), (1, .int v1), (4, .int (v4 + (nI 1)))], [], (mm X (s2 i 74 ((v4).toNatClampNeg) (nI 0)) j)) Q))) : WP (d + 262) 1591 (35, [(0, .ref 42), (1, .int v1), (4, .int v4)], [], mm X i j) Q := tc_1591_35 (d + 261) 42 v1 v4 (mm X i j) Q ⟨fun e6 => (h.1 (e6)), fun e6 => ⟨rfl, ⟨⟨rfl, (h.2 (e6)).1⟩, (h.2 (e6)).2⟩⟩⟩
set_option maxRecDepth 100000 in
theorem s_1591_58 (d : Nat) (X : XS) (i : Nat → Nat → Int32) (j : Nat → Nat → Int64) (v1 : Int32) (v4 : Int32) (Q : Option (Option Value) → AM → Prop) (h : (((i 42 46) ≤ v4 → WP (d + 262) 1591 (121, [(0, .ref 42), (4, .int (nI 0))], [], (mm X (s2 i 42 35 (nI 0)) j)) Q) ∧ (¬ ((i 42 46) ≤ v4) → (vp_in v4 240) ∧ ((¬ (((shrI (i 72 ((v4).toNatClampNeg)) v1) &&& (nI 1)) = (nI 1)) → (((i 73 ((v4).toNatClampNeg)) = 0 → WP (d + 262) 1591 (58, [(0, .ref 42), (1, .int v1), (4, .int (v4 + (nI 1)))], [], (mm X (s2 i 74 3 ((i 74 3) + (nI 1))) j)) Q) ∧ (¬ ((i 73 ((v4).toNatClampNeg)) = 0) → WP (d + 262) 1591 (58, [(0, .ref 42), (1, .int v1), (4, .int (v4 + (nI 1)))], [], (mm X (s2 i 74 2 ((i 74 2) + (nI 1))) j)) Q))) ∧ (((shrI (i 72 ((v4).toNatClampNeg)) v1) &&& (nI 1)) = (nI 1) → (((i 73 ((v4).toNatClampNeg)) = 0 → WP (d + 262) 1591 (58, [(0, .ref 42), (1, .int v1), (4, .int (v4 + (nI 1)))], [], (mm X (s2 i 74 1 ((i 74 1) + (nI 1))) j)) Q) ∧ (¬ ((i 73 ((v4).toNatClampNeg)) = 0) → WP (d + 262) 1591 (58, [(0, .ref 42), (1, .int v1), (4, .int (v4 + (nI 1)))], [], (mm X (s2 i 74 0 ((i 74 0) + (nI 1))) j)) Q))))))) : WP (d + 262) 1591 (58, [(0, .ref 42), (1, .int v1), (4, .int v4)], [], mm X i j) Q := tc_1591_58 (d + 261) 42 v1 v4 (mm X i j) Q ⟨rfl, ⟨fun e7 => ⟨rfl, (h.1 (e7))⟩, fun e7 => ⟨rfl, ⟨rfl, (te_1590 (d + 261) 42 v1 v4 (mm X i j) _ ⟨rfl, ⟨⟨rfl, (h.2 (e7)).1⟩, ⟨fun e8 => ⟨k0_01, ⟨_, rfl, ⟨fun _ => ⟨rfl, ⟨⟨(Or.inl rfl), (h.2 (e7)).1⟩, ⟨fun e10 => ⟨⟨rfl, (vpk 3 4 rfl)⟩, ⟨⟨rfl, (vpk 3 4 rfl)⟩, (tc_1591_107 (d + 261) 42 v1 v4 (mm X (s2 i 74 3 ((i 74 3) + (nI 1))) j) _ (((h.2 (e7)).2.1 (e8)).1 (e10)))⟩⟩, fun e10 => ⟨⟨rfl, (vpk 2 4 rfl)⟩, ⟨⟨rfl, (vpk 2 4 rfl)⟩, (tc_1591_107 (d + 261) 42 v1 v4 (mm X (s2 i 74 2 ((i 74 2) + (nI 1))) j) _ (((h.2 (e7)).2.1 (e8)).2 (e10)))⟩⟩⟩⟩⟩, fun e9 => absurd (show (nI 0) = 0 by decide) e9⟩⟩⟩, fun e8 => ⟨k1_01, ⟨_, rfl, ⟨fun e11 => absurd e11 (show ¬ ((nI 1) = 0) by decide), fun _ => ⟨rfl, ⟨⟨(Or.inl rfl), (h.2 (e7)).1⟩, ⟨fun e12 => ⟨⟨rfl, (vpk 1 4 rfl)⟩, ⟨⟨rfl, (vpk 1 4 rfl)⟩, (tc_1591_107 (d + 261) 42 v1 v4 (mm X (s2 i 74 1 ((i 74 1) + (nI 1))) j) _ (((h.2 (e7)).2.2 ((Classical.byContradiction e8))).1 (e12)))⟩⟩, fun e12 => ⟨⟨rfl, (vpk 0 4 rfl)⟩, ⟨⟨rfl, (vpk 0 4 rfl)⟩, (tc_1591_107 (d + 261) 42 v1 v4 (mm X (s2 i 74 0 ((i 74 0) + (nI 1))) j) _ (((h.2 (e7)).2.2 ((Classical.byContradiction e8))).2 (e12)))⟩⟩⟩⟩⟩⟩⟩⟩⟩⟩⟩)⟩⟩⟩⟩
set_option maxRecDepth 100000 in
theorem s_1591_121 (d : Nat) (X : XS) (i : Nat → Nat → Int32) (j : Nat → Nat → Int64) (v4 : Int32) (Q : Option (Option Value) → AM → Prop) (h : (((nI 4) ≤ v4 → Q (some (some (.int (i 74 0)))) (mm X i j)) ∧ (¬ ((nI 4) ≤ v4) → (vp_in v4 4) ∧ (vp_in (i 42 35) 32) ∧ WP (d + 262) 1591 (121, [(0, .ref 42), (4, .int (v4 + (nI 1)))], [], (mm X (s2 i 42 35 ((i 42 35) + (nI 1))) (s2 j 70 ((i 42 35).toNatClampNeg) ((i 74 ((v4).toNatClampNeg)).toInt64)))) Q))) : WP (d + 262) 1591 (121, [(0, .ref 42), (4, .int v4)], [], mm X i j) Q := tc_1591_121 (d + 261) 42 v4 (mm X i j) Q ⟨fun e13 => ⟨rfl, ⟨⟨rfl, (vpk 0 4 rfl)⟩, (h.1 (e13))⟩⟩, fun e13 => ⟨rfl, ⟨⟨rfl, (h.2 (e13)).1⟩, ⟨rfl, (te_1540 (d + 261) 42 ((i 74 ((v4).toNatClampNeg)).toInt64) (mm X i j) _ ⟨rfl, ⟨rfl, ⟨⟨rfl, (h.2 (e13)).2.1⟩, ⟨rfl, ⟨rfl, ⟨rfl, (h.2 (e13)).2.2⟩⟩⟩⟩⟩⟩)⟩⟩⟩⟩
/-- the reference's table -/
theorem c_1591 (d : Nat) (X : XS) (i : Nat → Nat → Int32) (j : Nat → Nat → Int64) {s kn : Nat} {A B : Nat → Prop} (hk : kn ≤ 240) (h46 : i 42 46 = nI kn) (hA : ∀ t, t < kn → (shrI (i 72 t) (nI s) &&& nI 1 = nI 1 ↔ A t)) (hB : ∀ t, t < kn → i 73 t = bi (B t)) (K : Int32 → AM → Prop)
    (hK : ∀ i' j', FrR X i i' → i' 42 35 = nI 4 → (∀ b, b ≠ 70 → j' b = j b) → j' 70 0 = (nI (cr (fun t => A t ∧ B t) 0 kn)).toInt64 → j' 70 1 = (nI (cr (fun t => A t ∧ ¬ B t) 0 kn)).toInt64 → j' 70 2 = (nI (cr (fun t => ¬ A t ∧ B t) 0 kn)).toInt64 → j' 70 3 = (nI (cr (fun t => ¬ A t ∧ ¬ B t) 0 kn)).toInt64 → K (nI (cr (fun t => A t ∧ B t) 0 kn)) (mm X i' j')) :
    WP (d + 262) 1591 (35, [(0, .ref 42), (1, .int (nI s)), (4, .int (nI 0))], [], mm X i j) (qI K) := by
  refine lup 4 (fun e (i1 : Nat → Nat → Int32) => (∀ b, b ≠ 74 → i1 b = i b) ∧ (∀ q, q < e → i1 74 q = nI 0)) (fun e i1 => (35, [(0, .ref 42), (1, .int (nI s)), (4, .int (nI e))], [], mm X i1 j)) ?_ ?_ 0 i (Nat.zero_le _) ⟨fun _ _ => rfl, fun q h => absurd h (by omega)⟩
  · rintro i1 ⟨hf, h0⟩
    refine s_1591_35 d X i1 j _ _ _ (br_t (Int32.le_refl _) ?_)
    refine lup kn (fun e (i1 : Nat → Nat → Int32) => (∀ b, b ≠ 74 → i1 b = i b) ∧ i1 74 0 = nI (cr (fun t => A t ∧ B t) 0 e) ∧ i1 74 1 = nI (cr (fun t => A t ∧ ¬ B t) 0 e) ∧ i1 74 2 = nI (cr (fun t => ¬ A t ∧ B t) 0 e) ∧ i1 74 3 = nI (cr (fun t => ¬ A t ∧ ¬ B t) 0 e)) (fun e i1 => (58, [(0, .ref 42), (1, .int (nI s)), (4, .int (nI e))], [], mm X i1 j)) ?_ ?_ 0 i1 (Nat.zero_le _) ⟨hf, h0 0 (by decide), h0 1 (by decide), h0 2 (by decide), h0 3 (by decide)⟩
    · rintro i2 ⟨hf, c0, c1, c2, c3⟩
      refine s_1591_58 d X i2 j _ _ _ (br_t (by rw [hf 42 (by decide), h46]; exact Int32.le_refl _) ?_)
      have cells : ∀ q, (s2 i2 42 35 (nI 0)) 74 q = i2 74 q := fun q => by rw [s2_ne (show 74 ≠ 42 by decide)]
      refine lup 4 (fun e (z : (Nat → Nat → Int32) × (Nat → Nat → Int64)) => (∀ b, b ≠ 42 → z.1 b = i2 b) ∧ (∀ k, k ≠ 35 → z.1 42 k = i2 42 k) ∧ z.1 42 35 = nI e ∧ (∀ b, b ≠ 70 → z.2 b = j b) ∧ ∀ q, q < e → z.2 70 q = (i2 74 q).toInt64) (fun e z => (121, [(0, .ref 42), (4, .int (nI e))], [], mm X z.1 z.2)) ?_ ?_ 0 (s2 i2 42 35 (nI 0), j) (Nat.zero_le _) ⟨fun b hb => s2_ne hb, fun k hk => by dsimp only; rw [s2_ne2 hk], by dsimp only; rw [s2_self], fun _ _ => rfl, fun q h => absurd h (by omega)⟩
      · rintro ⟨i3, j3⟩ ⟨f1, f2, f3, f4, f5⟩
        dsimp only at f1 f2 f3 f4 f5 ⊢
        refine s_1591_121 d X i3 j3 _ _ (br_t (Int32.le_refl _) (qI_of ?_))
        rw [f1 74 (by decide), c0]
        refine hK i3 j3 ⟨fun b hb h42 => by rw [f1 b h42]; exact hf b (fun e => by subst e; exact hb rfl), fun k hk => by rw [f2 k (by omega), hf 42 (by decide)]⟩ f3 f4 ?_ ?_ ?_ ?_
        · rw [f5 0 (by decide), c0]
        · rw [f5 1 (by decide), c1]
        · rw [f5 2 (by decide), c2]
        · rw [f5 3 (by decide), c3]
      · rintro e ⟨i3, j3⟩ he ⟨f1, f2, f3, f4, f5⟩ go
        dsimp only at f1 f2 f3 f4 f5 ⊢
        refine s_1591_121 d X i3 j3 _ _ (br_f (nI_ge he (by decide)) ?_)
        rw [f3, tc_nI (by omega), nI_add, f1 74 (by decide)]
        refine ⟨vp_in_nI he (by decide), vp_in_nI (by omega) (by decide), go (s2 i3 42 35 (nI (e + 1)), s2 j3 70 e (i2 74 e).toInt64) ⟨fun b hb => ?_, fun k hk => ?_, by dsimp only; rw [s2_self], fun b hb => ?_, fun q hq => ?_⟩⟩
        · dsimp only; rw [s2_ne hb]; exact f1 b hb
        · dsimp only; rw [s2_ne2 hk]; exact f2 k hk
        · dsimp only; rw [s2_ne hb]; exact f4 b hb
        · dsimp only
          by_cases h : q = e
          · subst h; exact s2_self _ _ _ _
          · rw [s2_ne2 h]; exact f5 q (by omega)
    · rintro e i2 he ⟨hf, c0, c1, c2, c3⟩ go
      refine s_1591_58 d X i2 j _ _ _ (br_f (by rw [hf 42 (by decide), h46]; exact nI_ge he (by omega)) ⟨vp_in_nI (by omega) (by decide), ?_⟩)
      rw [tc_nI (by omega), hf 72 (by decide), hf 73 (by decide), hB _ he, bi_eq0, c0, c1, c2, c3, propext (hA e he), nI_add e]
      have b0 := fun p : Nat → Prop => cr_bi p 0 e
      have z0 : ∀ x, 0 + x = x := Nat.zero_add
      have st : ∀ i3 : Nat → Nat → Int32, (∀ b, b ≠ 74 → i3 b = i2 b) → i3 74 0 = nI (cr (fun t => A t ∧ B t) 0 e) + bi (A e ∧ B e) → i3 74 1 = nI (cr (fun t => A t ∧ ¬ B t) 0 e) + bi (A e ∧ ¬ B e) → i3 74 2 = nI (cr (fun t => ¬ A t ∧ B t) 0 e) + bi (¬ A e ∧ B e) → i3 74 3 = nI (cr (fun t => ¬ A t ∧ ¬ B t) 0 e) + bi (¬ A e ∧ ¬ B e) → WP (d + 262) 1591 (58, [(0, .ref 42), (1, .int (nI s)), (4, .int (nI (e + 1)))], [], mm X i3 j) (qI K) := by
        intro i3 g0 g1 g2 g3 g4
        have q1 := b0 (fun t => A t ∧ B t)
        have q2 := b0 (fun t => A t ∧ ¬ B t)
        have q3 := b0 (fun t => ¬ A t ∧ B t)
        have q4 := b0 (fun t => ¬ A t ∧ ¬ B t)
        rw [z0] at q1 q2 q3 q4
        exact go i3 ⟨fun b hb => (g0 b hb).trans (hf b hb), g1.trans q1, g2.trans q2, g3.trans q3, g4.trans q4⟩
      have p0 : ∀ x : Int32, x + 0 = x := fun x => by grind
      refine bq_c (fun z => br_c (fun y => st _ (fun b hb => s2_ne hb) ?_ ?_ ?_ ?_) (fun y => st _ (fun b hb => s2_ne hb) ?_ ?_ ?_ ?_)) (fun z => br_c (fun y => st _ (fun b hb => s2_ne hb) ?_ ?_ ?_ ?_) (fun y => st _ (fun b hb => s2_ne hb) ?_ ?_ ?_ ?_))
      · rw [s2_ne2 (by decide), c0, bi_f (fun w => z w.1), p0]
      · rw [s2_ne2 (by decide), c1, bi_f (fun w => z w.1), p0]
      · rw [s2_ne2 (by decide), c2, bi_f (fun w => y w.2), p0]
      · rw [s2_self, bi_t ⟨z, y⟩]; rfl
      · rw [s2_ne2 (by decide), c0, bi_f (fun w => z w.1), p0]
      · rw [s2_ne2 (by decide), c1, bi_f (fun w => z w.1), p0]
      · rw [s2_self, bi_t ⟨z, Classical.byContradiction y⟩]; rfl
      · rw [s2_ne2 (by decide), c3, bi_f (fun w => y w.2), p0]
      · rw [s2_ne2 (by decide), c0, bi_f (fun w => y w.2), p0]
      · rw [s2_self, bi_t ⟨z, y⟩]; rfl
      · rw [s2_ne2 (by decide), c2, bi_f (fun w => w.1 z), p0]
      · rw [s2_ne2 (by decide), c3, bi_f (fun w => w.1 z), p0]
      · rw [s2_self, bi_t ⟨z, Classical.byContradiction y⟩]; rfl
      · rw [s2_ne2 (by decide), c1, bi_f (fun w => y w.2), p0]
      · rw [s2_ne2 (by decide), c2, bi_f (fun w => w.1 z), p0]
      · rw [s2_ne2 (by decide), c3, bi_f (fun w => w.1 z), p0]
  · rintro e i1 he ⟨hf, h0⟩ go
    refine s_1591_35 d X i1 j _ _ _ (br_f (nI_ge he (by decide)) ⟨vp_in_nI he (by decide), ?_⟩)
    rw [tc_nI (by omega), nI_add]
    refine go _ ⟨fun b hb => by rw [s2_ne hb]; exact hf b hb, fun q hq => ?_⟩
    by_cases h : q = e
    · subst h; exact s2_self _ _ _ _
    · rw [s2_ne2 h]; exact h0 q (by omega)
theorem k_18 (d : Nat) {X : XS} {i : Nat → Nat → Int32} {j : Nat → Nat → Int64} (h : Rel X i j) (a1 a2 a3 : Int32) {Kf : AM → Prop} (hK : Nx X Kf) : WI (d + 300) 1427 [.ref 2, .int a1, .int a2, .int a3] (mm X i j) (fun x1 M1 => WI (d + 300) 1591 [.ref 42, .int a1, .int a2, .int a3] M1 (fun x2 M2 => x1 = x2 ∧ Kf M2)) := by
  have ht := hK.th h
  have hrel := h
  obtain ⟨hx, ⟨⟨n, h0⟩, h1, ⟨ng, h2, no, h4⟩, ⟨tn, h3⟩, ⟨np, h5⟩, h6, ns, h7⟩, h8, hz⟩ := h
  have e1 := h4.2.1
  have e2 := h4.2.2.1
  have hno := h4.1
  have hn := h0.2.1.1.2
  refine s_1427 _ X i j a1 a2 a3 _ ⟨h4.sg, ?_, ?_⟩
  · rw [e1]
    exact fun z => s_1591 _ X i j _ _ _ _ (bq_t (by rw [e2]; exact z) ⟨rfl, ht⟩)
  · rw [e1]
    intro z hO
    refine ⟨fun v => s_1591 _ X i j _ _ _ _ (bq_f (by rw [e2]; exact z) ⟨fun w => absurd w v, fun _ => ⟨rfl, ht⟩⟩), fun v => ?_⟩
    have z2 : nI 0 ≤ a1 ∧ a1 ≤ i 42 14 - nI 1 := by rw [e2]; exact z
    obtain ⟨s, hs, rfl⟩ := idx_of (by omega) z
    obtain ⟨q, hq1, hq, rfl⟩ := ev_rng (by decide) v.2
    obtain ⟨i1, hE1, f1, z1, r40, hL, hS⟩ := lov 0 X i j h0 h2 h4 hz (shlI (nI 1) (nI s)) a2 hq
    refine ⟨i1, hE1.up (by omega), ?_⟩
    rw [hS.1]
    obtain ⟨i2, hE2, f2, hT⟩ := c_1479 0 X i1 j hS (Nat.zero_le _) (Nat.le_refl _)
    refine ⟨i2, hE2.up (by omega), ?_⟩
    rw [Nat.sub_zero] at hT
    obtain ⟨t0, t1, t2, t3⟩ := hT
    have eA : (fun t => ¬ soF X i no (shlI (nI 1) (nI s)) t = 0) = svP X i s := by
      funext t; exact propext (soF_c hno hs t)
    rw [t0, t1, t2, t3]
    simp only [congrFun eA]
    -- the class's memory
    obtain ⟨i3, hi3⟩ : ∃ i3, i3 = s2 (s2 (s2 (s2 (s2 i2 40 1 (nI 0)) 40 1 (nI 1)) 40 1 (nI 2)) 40 1 (nI 3)) 40 1 (nI 4) := ⟨_, rfl⟩
    rw [← hi3]
    have f3 : ∀ b, b ≠ 40 → i3 b = i2 b := fun b hb => by rw [hi3, s2_ne hb, s2_ne hb, s2_ne hb, s2_ne hb, s2_ne hb]
    have g40 : i3 40 1 = nI 4 := by rw [hi3, s2_self]
    have F : FrC X i i3 := (f1.tr (FrC_36 f2)).tr (FrC_40 f3)
    have Z3 : RZ i3 := by
      unfold RZ
      rw [f3 34 (by decide), f3 35 (by decide), f2 34 (by decide), f2 35 (by decide)]; exact z1
    refine s_1591 _ X i3 _ _ _ _ _ (bq_f (by rw [F 42 (Or.inl (show 0 < 10 by decide))]; exact z2) (br_t v ?_))
    have FT : Kp X i (s2 i3 42 36 (nI 0)) := F.kp.tr (FrR_th (X := X) (nI 0)).kp
    obtain ⟨i4, hE4, f4, -, p46, -, -, p72, p73⟩ := prpv 0 X i (s2 i3 42 36 (nI 0)) (s2 (s2 (s2 (s2 j 41 0 (nI (cr (fun t => svP X i s t ∧ caF i n a2 q t) 0 (n - q))).toInt64) 41 1 (nI (cr (fun t => svP X i s t ∧ ¬ caF i n a2 q t) 0 (n - q))).toInt64) 41 2 (nI (cr (fun t => ¬ svP X i s t ∧ caF i n a2 q t) 0 (n - q))).toInt64) 41 3 (nI (cr (fun t => ¬ svP X i s t ∧ ¬ caF i n a2 q t) 0 (n - q))).toInt64) h0 h2 h4 FT (shlI (nI 1) (nI s)) a2 hq
    refine ⟨i4, hE4.up (by omega), ?_⟩
    refine c_1591 (d + 38) X i4 _ (s := s) (kn := n - q) (A := svP X i s) (B := caF i n a2 q) (by omega) p46 (fun t ht => by rw [p72 t (by omega)]; exact soF_r hno hs t) p73 _ ?_
    intro i5 j5 f5 r35 fj c0 c1 c2 c3
    refine ⟨rfl, hK.k (fin_row hrel F Z3 (((FrR_th (nI 0)).tr f4.fr).tr f5) (r8_of 4 (by decide) ?_ r35 ?_))⟩
    · rw [f5.1 40 (show ¬ (48 : Nat) = 40 by decide) (by decide), f4.1 40 (show ¬ (48 : Nat) = 40 by decide) (by decide), s2_ne (show 40 ≠ 42 by decide)]; exact g40
    · intro q hq
      rw [fj 41 (by decide)]
      match q, hq with
      | 0, _ => rw [c0]; simp [s2_ap]
      | 1, _ => rw [c1]; simp [s2_ap]
      | 2, _ => rw [c2]; simp [s2_ap]
      | 3, _ => rw [c3]; simp [s2_ap]
