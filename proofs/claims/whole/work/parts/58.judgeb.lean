/-! ===== judge ===== -/
def nsm (f : Nat → Nat) : Nat → Nat
  | 0 => 0
  | n + 1 => nsm f n + f n
theorem nsm_le {f : Nat → Nat} {c : Nat} : ∀ n, (∀ t, t < n → f t ≤ c) → nsm f n ≤ c * n
  | 0, _ => Nat.le_refl _
  | n + 1, h => by
    have h1 := nsm_le n (fun t ht => h t (by omega))
    have h2 := h n (by omega)
    rw [nsm, Nat.mul_succ]; omega
def vN (i : Nat → Nat → Int32) (t : Nat) : Nat := (i 62 t).toInt.toNat
noncomputable def penN (i : Nat → Nat → Int32) (ca : Nat → Prop) (a2 : Int32) (t : Nat) : Nat := @ite _ (tdP i t) (Classical.propDecidable _) (@ite _ (ca t) (Classical.propDecidable _) (sqN a2 (100 - vN i t)) (sqN a2 (vN i t))) 0
section pens
variable {i : Nat → Nat → Int32} {ca : Nat → Prop} {a2 : Int32} {t : Nat}
theorem pen_n (h : ¬ tdP i t) : penN i ca a2 t = 0 := by unfold penN; rw [if_neg h]
theorem pen_y (h : tdP i t) (h2 : ca t) : penN i ca a2 t = sqN a2 (100 - vN i t) := by unfold penN; rw [if_pos h, if_pos h2]
theorem pen_o (h : tdP i t) (h2 : ¬ ca t) : penN i ca a2 t = sqN a2 (vN i t) := by unfold penN; rw [if_pos h, if_neg h2]
theorem R6.vn (h : R6 i) (ht : t < 240) (hd : tdP i t) : vN i t ≤ 100 ∧ i 62 t = nI (vN i t) := by
  rcases (h.2.2 t ht).2 with e | ⟨m, hm, e⟩
  · exact absurd e hd
  · have : vN i t = m := by unfold vN; rw [e, nI_toInt (by omega)]; rfl
    rw [this]; exact ⟨by omega, e⟩
theorem R6.pn (h : R6 i) (ht : t < 240) : penN i ca a2 t ≤ 10000 := by
  by_cases hd : tdP i t
  · have := (h.vn ht hd).1
    by_cases hc : ca t
    · rw [pen_y hd hc]; exact sqN_le (by omega)
    · rw [pen_o hd hc]; exact sqN_le (by omega)
  · rw [pen_n hd]; omega
end pens
set_option maxRecDepth 100000 in
theorem s_1453 (d : Nat) (X : XS) (i : Nat → Nat → Int32) (j : Nat → Nat → Int64) (a1 : Int32) (a2 : Int32) (K : Int32 → AM → Prop) (h : ((¬ (((nI 1) ≤ a1 ∧ a1 ≤ (nI 3)) ∧ ((nI 1) ≤ (nI 1) ∧ (nI 1) ≤ (nI 9))) → K (kI (-1)) (mm X i j)) ∧ (((nI 1) ≤ a1 ∧ a1 ≤ (nI 3)) ∧ ((nI 1) ≤ (nI 1) ∧ (nI 1) ≤ (nI 9)) → (((nI 0) ≤ a2 ∧ a2 ≤ (nI 1) → WP (d + 3) 1453 (40, [(0, .ref 2), (1, .int a1), (2, .int a2), (3, .int (nI 0)), (4, .int (nI 0)), (5, .int (nI 0)), (6, .int (mxI (nI 0) ((i 9 3) - (nI 1)))), (7, .int (nI 0))], [], (mm X i j)) (qI K)) ∧ (¬ ((nI 0) ≤ a2 ∧ a2 ≤ (nI 1)) → K (kI (-1)) (mm X i j)))))) : WI (d + 3) 1453 [.ref 2, .int a1, .int a2] (mm X i j) K := te_1453 (d + 2) 2 a1 a2 (mm X i j) (qI K) (p_1464 (d + 1) X i j a1 (nI 1) _ ⟨fun e1 => ⟨_, rfl, (h.1 ((bi_z e1)))⟩, fun e1 => (p_1462 (d + 2) X i j a2 (nI 0) (nI 1) _ ⟨fun e2 => ⟨rfl, ⟨rfl, (te_136 (d + 2) 9 (nI 1) (mm X i j) _ ⟨rfl, ⟨_, rfl, ((h.2 ((bi_n e1))).1 ((bi_n e2)))⟩⟩)⟩⟩, fun e2 => ⟨_, rfl, ((h.2 ((bi_n e1))).2 ((bi_nn e2)))⟩⟩)⟩)
set_option maxRecDepth 100000 in
theorem s_1453_40 (d : Nat) (X : XS) (i : Nat → Nat → Int32) (j : Nat → Nat → Int64) (v1 : Int32) (v2 : Int32) (v3 : Int32) (v4 : Int32) (v5 : Int32) (v6 : Int32) (v7 : Int32) (Q : Option (Option Value) → AM → Prop) (h : ((v6 ≤ v7 → ((¬ ((v4 + v5) = 0) → (∃ (x5 : Int32), EvI (d + 2) 1490 [.int v4, .int v5, .int v2] (mm X i j) x5 (mm X i j) ∧ ((¬ (v2 = 0) → Q (some (some (.int (nI 0)))) (mm X (s2 (s2 (s2 (s2 i 40 1 (nI 0)) 40 1 (nI 1)) 40 1 (nI 2)) 40 1 (nI 3)) (s2 (s2 (s2 j 41 0 (v3.toInt64)) 41 1 (((v4 * (abI (x5 - (nI 100)))) + (v5 * (abI (x5 - (nI 0))))).toInt64)) 41 2 (x5.toInt64)))) ∧ (v2 = 0 → Q (some (some (.int (nI 0)))) (mm X (s2 (s2 (s2 (s2 i 40 1 (nI 0)) 40 1 (nI 1)) 40 1 (nI 2)) 40 1 (nI 3)) (s2 (s2 (s2 j 41 0 (v3.toInt64)) 41 1 (((v4 * ((abI (x5 - (nI 100))) * (abI (x5 - (nI 100))))) + (v5 * ((abI (x5 - (nI 0))) * (abI (x5 - (nI 0)))))).toInt64)) 41 2 (x5.toInt64))))))) ∧ ((v4 + v5) = 0 → Q (some (some (.int (kI (-2))))) (mm X i j)))) ∧ (¬ (v6 ≤ v7) → ((v7 < 0 → WP (d + 3) 1453 (40, [(0, .ref 2), (1, .int v1), (2, .int v2), (3, .int v3), (4, .int v4), (5, .int v5), (6, .int v6), (7, .int (v7 + (nI 1)))], [], (mm X i j)) Q) ∧ (¬ (v7 < 0) → (((nI 240) ≤ v7 → WP (d + 3) 1453 (40, [(0, .ref 2), (1, .int v1), (2, .int v2), (3, .int v3), (4, .int v4), (5, .int v5), (6, .int v6), (7, .int (v7 + (nI 1)))], [], (mm X i j)) Q) ∧ (¬ ((nI 240) ≤ v7) → (vp_in v7 240) ∧ ((¬ ((i 28 ((v7).toNatClampNeg)) = (kI (-1))) → (∃ (P21 : Prop), EvI (d + 2) 137 [.ref 9, .int v7, .int v1, .int (nI 1)] (mm X i j) (bi P21) (mm X i j) ∧ ((¬ (P21) → ((¬ (v2 = 0) → WP (d + 3) 1453 (40, [(0, .ref 2), (1, .int v1), (2, .int v2), (3, .int (v3 + (abI ((i 28 ((v7).toNatClampNeg)) - (nI 0))))), (4, .int (v4 + (nI 0))), (5, .int (v5 + (nI 1))), (6, .int v6), (7, .int (v7 + (nI 1)))], [], (mm X i j)) Q) ∧ (v2 = 0 → WP (d + 3) 1453 (40, [(0, .ref 2), (1, .int v1), (2, .int v2), (3, .int (v3 + ((abI ((i 28 ((v7).toNatClampNeg)) - (nI 0))) * (abI ((i 28 ((v7).toNatClampNeg)) - (nI 0)))))), (4, .int (v4 + (nI 0))), (5, .int (v5 + (nI 1))), (6, .int v6), (7, .int (v7 + (nI 1)))], [], (mm X i j)) Q))) ∧ (P21 → ((¬ (v2 = 0) → WP (d + 3) 1453 (40, [(0, .ref 2), (1, .int v1), (2, .int v2), (3, .int (v3 + (abI ((i 28 ((v7).toNatClampNeg)) - (nI 100))))), (4, .int (v4 + (nI 1))), (5, .int (v5 + (nI 0))), (6, .int v6), (7, .int (v7 + (nI 1)))], [], (mm X i j)) Q) ∧ (v2 = 0 → WP (d + 3) 1453 (40, [(0, .ref 2), (1, .int v1), (2, .int v2), (3, .int (v3 + ((abI ((i 28 ((v7).toNatClampNeg)) - (nI 100))) * (abI ((i 28 ((v7).toNatClampNeg)) - (nI 100)))))), (4, .int (v4 + (nI 1))), (5, .int (v5 + (nI 0))), (6, .int v6), (7, .int (v7 + (nI 1)))], [], (mm X i j)) Q)))))) ∧ ((i 28 ((v7).toNatClampNeg)) = (kI (-1)) → WP (d + 3) 1453 (40, [(0, .ref 2), (1, .int v1), (2, .int v2), (3, .int v3), (4, .int v4), (5, .int v5), (6, .int v6), (7, .int (v7 + (nI 1)))], [], (mm X i j)) Q))))))))) : WP (d + 3) 1453 (40, [(0, .ref 2), (1, .int v1), (2, .int v2), (3, .int v3), (4, .int v4), (5, .int v5), (6, .int v6), (7, .int v7)], [], mm X i j) Q := tc_1453_40 (d + 2) 2 v1 v2 v3 v4 v5 v6 v7 (mm X i j) Q ⟨fun e3 => ⟨fun e4 => (Exists.elim ((h.1 (e3)).1 (e4)) fun x5 h14 => EvI.use h14.1 ⟨rfl, ⟨rfl, (te_641 (d + 2) 40 (mm X i j) _ ⟨rfl, ⟨rfl, ⟨rfl, ⟨rfl, (te_642 (d + 2) 40 (v3.toInt64) (mm X (s2 i 40 1 (nI 0)) j) _ ⟨rfl, ⟨fun e6 => absurd e6 (show ¬ ((nI 20) ≤ (nI 0)) by decide), fun _ => ⟨rfl, ⟨rfl, ⟨⟨rfl, (vpk 0 20 rfl)⟩, ⟨rfl, ⟨rfl, ⟨rfl, ⟨rfl, (te_1489 (d + 1) v4 v5 x5 v2 (mm X (s2 (s2 i 40 1 (nI 0)) 40 1 (nI 1)) (s2 j 41 0 (v3.toInt64))) _ (te_1488 (d + 1) x5 (nI 100) v2 (mm X (s2 (s2 i 40 1 (nI 0)) 40 1 (nI 1)) (s2 j 41 0 (v3.toInt64))) _ ⟨fun e7 => ⟨_, rfl, (te_1488 (d + 1) x5 (nI 0) v2 (mm X (s2 (s2 i 40 1 (nI 0)) 40 1 (nI 1)) (s2 j 41 0 (v3.toInt64))) _ ⟨fun _ => ⟨_, rfl, ⟨_, rfl, ⟨rfl, (te_642 (d + 2) 40 (((v4 * (abI (x5 - (nI 100)))) + (v5 * (abI (x5 - (nI 0))))).toInt64) (mm X (s2 (s2 i 40 1 (nI 0)) 40 1 (nI 1)) (s2 j 41 0 (v3.toInt64))) _ ⟨rfl, ⟨fun e9 => absurd e9 (show ¬ ((nI 20) ≤ (nI 1)) by decide), fun _ => ⟨rfl, ⟨rfl, ⟨⟨rfl, (vpk 1 20 rfl)⟩, ⟨rfl, ⟨rfl, ⟨rfl, ⟨rfl, ⟨rfl, (te_642 (d + 2) 40 (x5.toInt64) (mm X (s2 (s2 (s2 i 40 1 (nI 0)) 40 1 (nI 1)) 40 1 (nI 2)) (s2 (s2 j 41 0 (v3.toInt64)) 41 1 (((v4 * (abI (x5 - (nI 100)))) + (v5 * (abI (x5 - (nI 0))))).toInt64))) _ ⟨rfl, ⟨fun e10 => absurd e10 (show ¬ ((nI 20) ≤ (nI 2)) by decide), fun _ => ⟨rfl, ⟨rfl, ⟨⟨rfl, (vpk 2 20 rfl)⟩, ⟨rfl, ⟨rfl, ⟨rfl, (h14.2.1 (e7))⟩⟩⟩⟩⟩⟩⟩⟩)⟩⟩⟩⟩⟩⟩⟩⟩⟩⟩)⟩⟩⟩, fun e8 => absurd ((e7)) e8⟩)⟩, fun e7 => ⟨_, rfl, (te_1488 (d + 1) x5 (nI 0) v2 (mm X (s2 (s2 i 40 1 (nI 0)) 40 1 (nI 1)) (s2 j 41 0 (v3.toInt64))) _ ⟨fun e11 => absurd e11 (fun z => z ((Classical.byContradiction e7))), fun _ => ⟨_, rfl, ⟨_, rfl, ⟨rfl, (te_642 (d + 2) 40 (((v4 * ((abI (x5 - (nI 100))) * (abI (x5 - (nI 100))))) + (v5 * ((abI (x5 - (nI 0))) * (abI (x5 - (nI 0)))))).toInt64) (mm X (s2 (s2 i 40 1 (nI 0)) 40 1 (nI 1)) (s2 j 41 0 (v3.toInt64))) _ ⟨rfl, ⟨fun e12 => absurd e12 (show ¬ ((nI 20) ≤ (nI 1)) by decide), fun _ => ⟨rfl, ⟨rfl, ⟨⟨rfl, (vpk 1 20 rfl)⟩, ⟨rfl, ⟨rfl, ⟨rfl, ⟨rfl, ⟨rfl, (te_642 (d + 2) 40 (x5.toInt64) (mm X (s2 (s2 (s2 i 40 1 (nI 0)) 40 1 (nI 1)) 40 1 (nI 2)) (s2 (s2 j 41 0 (v3.toInt64)) 41 1 (((v4 * ((abI (x5 - (nI 100))) * (abI (x5 - (nI 100))))) + (v5 * ((abI (x5 - (nI 0))) * (abI (x5 - (nI 0)))))).toInt64))) _ ⟨rfl, ⟨fun e13 => absurd e13 (show ¬ ((nI 20) ≤ (nI 2)) by decide), fun _ => ⟨rfl, ⟨rfl, ⟨⟨rfl, (vpk 2 20 rfl)⟩, ⟨rfl, ⟨rfl, ⟨rfl, (h14.2.2 ((Classical.byContradiction e7)))⟩⟩⟩⟩⟩⟩⟩⟩)⟩⟩⟩⟩⟩⟩⟩⟩⟩⟩)⟩⟩⟩⟩)⟩⟩))⟩⟩⟩⟩⟩⟩⟩⟩⟩)⟩⟩⟩⟩)⟩⟩), fun e4 => ((h.1 (e3)).2 ((Classical.byContradiction e4)))⟩, fun e3 => ⟨rfl, ⟨rfl, (te_1154 (d + 2) 27 v7 (mm X i j) _ ⟨fun e16 => ⟨_, rfl, ⟨fun e17 => absurd e17 (show ¬ (¬ (kI (-1)) = (kI (-1))) by decide), fun _ => (tc_1453_130 (d + 2) 2 v1 v2 v3 v4 v5 v6 v7 (mm X i j) _ ((h.2 (e3)).1 (e16)))⟩⟩, fun e16 => ⟨fun e18 => ⟨_, rfl, ⟨fun e19 => absurd e19 (show ¬ (¬ (kI (-1)) = (kI (-1))) by decide), fun _ => (tc_1453_130 (d + 2) 2 v1 v2 v3 v4 v5 v6 v7 (mm X i j) _ (((h.2 (e3)).2 (e16)).1 (e18)))⟩⟩, fun e18 => ⟨rfl, ⟨⟨rfl, (((h.2 (e3)).2 (e16)).2 (e18)).1⟩, ⟨_, rfl, ⟨fun e20 => ⟨rfl, ⟨rfl, (Exists.elim ((((h.2 (e3)).2 (e16)).2 (e18)).2.1 (e20)) fun P21 h29 => EvI.use h29.1 ⟨fun e22 => ⟨fun _ => (tc_1453_110 (d + 2) 2 v1 v2 v3 (v4 + (nI 0)) (v5 + (nI 1)) v6 v7 (i 28 ((v7).toNatClampNeg)) (bi P21) (mm X i j) _ ⟨fun _ => (te_1488 (d + 2) (i 28 ((v7).toNatClampNeg)) (nI 0) v2 (mm X i j) _ ⟨fun e25 => ⟨_, rfl, (tc_1453_130 (d + 2) 2 v1 v2 (v3 + (abI ((i 28 ((v7).toNatClampNeg)) - (nI 0)))) (v4 + (nI 0)) (v5 + (nI 1)) v6 v7 (mm X i j) _ ((h29.2.1 ((bi_z e22))).1 (e25)))⟩, fun e25 => ⟨_, rfl, (tc_1453_130 (d + 2) 2 v1 v2 (v3 + ((abI ((i 28 ((v7).toNatClampNeg)) - (nI 0))) * (abI ((i 28 ((v7).toNatClampNeg)) - (nI 0))))) (v4 + (nI 0)) (v5 + (nI 1)) v6 v7 (mm X i j) _ ((h29.2.1 ((bi_z e22))).2 ((Classical.byContradiction e25))))⟩⟩), fun e24 => absurd (bi_f ((bi_z e22))) e24⟩), fun e23 => absurd (bi_f ((bi_z e22))) e23⟩, fun e22 => ⟨fun e26 => absurd e26 (fun z => bi_z z ((bi_n e22))), fun _ => (tc_1453_110 (d + 2) 2 v1 v2 v3 (v4 + (nI 1)) (v5 + (nI 0)) v6 v7 (i 28 ((v7).toNatClampNeg)) (bi P21) (mm X i j) _ ⟨fun e27 => absurd e27 (fun z => bi_z z ((bi_n e22))), fun _ => (te_1488 (d + 2) (i 28 ((v7).toNatClampNeg)) (nI 100) v2 (mm X i j) _ ⟨fun e28 => ⟨_, rfl, (tc_1453_130 (d + 2) 2 v1 v2 (v3 + (abI ((i 28 ((v7).toNatClampNeg)) - (nI 100)))) (v4 + (nI 1)) (v5 + (nI 0)) v6 v7 (mm X i j) _ ((h29.2.2 ((bi_n e22))).1 (e28)))⟩, fun e28 => ⟨_, rfl, (tc_1453_130 (d + 2) 2 v1 v2 (v3 + ((abI ((i 28 ((v7).toNatClampNeg)) - (nI 100))) * (abI ((i 28 ((v7).toNatClampNeg)) - (nI 100))))) (v4 + (nI 1)) (v5 + (nI 0)) v6 v7 (mm X i j) _ ((h29.2.2 ((bi_n e22))).2 ((Classical.byContradiction e28))))⟩⟩)⟩)⟩⟩)⟩⟩, fun e20 => (tc_1453_130 (d + 2) 2 v1 v2 v3 v4 v5 v6 v7 (mm X i j) _ ((((h.2 (e3)).2 (e16)).2 (e18)).2.2 ((Classical.byContradiction e20))))⟩⟩⟩⟩⟩⟩)⟩⟩⟩
set_option maxRecDepth 100000 in
theorem s_1636 (d : Nat) (X : XS) (i : Nat → Nat → Int32) (j : Nat → Nat → Int64) (a1 : Int32) (a2 : Int32) (K : Int32 → AM → Prop) (h : ((¬ (((nI 1) ≤ a1 ∧ a1 ≤ (nI 3)) ∧ ((nI 1) ≤ (nI 1) ∧ (nI 1) ≤ (nI 9))) → K (kI (-1)) (mm X (s2 i 42 36 (nI 0)) j)) ∧ (((nI 1) ≤ a1 ∧ a1 ≤ (nI 3)) ∧ ((nI 1) ≤ (nI 1) ∧ (nI 1) ≤ (nI 9)) → (((nI 0) ≤ a2 ∧ a2 ≤ (nI 1) → (∃ (i3 : Nat → Nat → Int32), EvV (d + 261) 1589 [.ref 42, .int (nI 0), .int a1, .int (nI 1)] (mm X (s2 i 42 36 (nI 0)) j) (mm X i3 j) ∧ WP (d + 262) 1636 (42, [(0, .ref 42), (2, .int a2), (3, .long (Int64.ofNat 0)), (5, .int (nI 0)), (6, .int (nI 0)), (7, .int (nI 0))], [], (mm X i3 j)) (qI K))) ∧ (¬ ((nI 0) ≤ a2 ∧ a2 ≤ (nI 1)) → K (kI (-1)) (mm X (s2 i 42 36 (nI 0)) j)))))) : WI (d + 262) 1636 [.ref 42, .int a1, .int a2] (mm X i j) K := te_1636 (d + 261) 42 a1 a2 (mm X i j) (qI K) ⟨rfl, (p_1588 (d + 260) X (s2 i 42 36 (nI 0)) j a1 (nI 1) _ ⟨fun e1 => ⟨_, rfl, (h.1 ((bi_z e1)))⟩, fun e1 => (p_1538 (d + 261) X (s2 i 42 36 (nI 0)) j a2 (nI 0) (nI 1) _ ⟨fun e2 => ⟨rfl, (Exists.elim ((h.2 ((bi_n e1))).1 ((bi_n e2))) fun i3 h4 => EvV.use h4.1 h4.2)⟩, fun e2 => ⟨_, rfl, ((h.2 ((bi_n e1))).2 ((bi_nn e2)))⟩⟩)⟩)⟩
set_option maxRecDepth 100000 in
theorem s_1636_42 (d : Nat) (X : XS) (i : Nat → Nat → Int32) (j : Nat → Nat → Int64) (v2 : Int32) (v3 : Int64) (v5 : Int32) (v6 : Int32) (v7 : Int32) (Q : Option (Option Value) → AM → Prop) (h : (((i 42 46) ≤ v7 → ((¬ (v5 = 0) → WP (d + 262) 1636 (142, [(0, .ref 42), (2, .int v2), (3, .long v3), (5, .int v5), (6, .int v6), (7, .long (Int64.ofNat 0)), (9, .int (kI (-1))), (10, .int (nI 0))], [], (mm X i j)) Q) ∧ (v5 = 0 → Q (some (some (.int (kI (-2))))) (mm X i j)))) ∧ (¬ ((i 42 46) ≤ v7) → (vp_in v7 240) ∧ ((¬ ((i 62 ((v7).toNatClampNeg)) = (kI (-1))) → (((i 73 ((v7).toNatClampNeg)) = 0 → ((¬ (v2 = 0) → WP (d + 262) 1636 (42, [(0, .ref 42), (2, .int v2), (3, .long (v3 + ((abI ((nI 0) - (i 62 ((v7).toNatClampNeg)))).toInt64))), (5, .int (v5 + (nI 1))), (6, .int (v6 + (nI 0))), (7, .int (v7 + (nI 1)))], [], (mm X i j)) Q) ∧ (v2 = 0 → WP (d + 262) 1636 (42, [(0, .ref 42), (2, .int v2), (3, .long (v3 + ((((nI 0) - (i 62 ((v7).toNatClampNeg))).toInt64) * (((nI 0) - (i 62 ((v7).toNatClampNeg))).toInt64)))), (5, .int (v5 + (nI 1))), (6, .int (v6 + (nI 0))), (7, .int (v7 + (nI 1)))], [], (mm X i j)) Q))) ∧ (¬ ((i 73 ((v7).toNatClampNeg)) = 0) → ((¬ (v2 = 0) → WP (d + 262) 1636 (42, [(0, .ref 42), (2, .int v2), (3, .long (v3 + ((abI ((nI 100) - (i 62 ((v7).toNatClampNeg)))).toInt64))), (5, .int (v5 + (nI 1))), (6, .int (v6 + (nI 1))), (7, .int (v7 + (nI 1)))], [], (mm X i j)) Q) ∧ (v2 = 0 → WP (d + 262) 1636 (42, [(0, .ref 42), (2, .int v2), (3, .long (v3 + ((((nI 100) - (i 62 ((v7).toNatClampNeg))).toInt64) * (((nI 100) - (i 62 ((v7).toNatClampNeg))).toInt64)))), (5, .int (v5 + (nI 1))), (6, .int (v6 + (nI 1))), (7, .int (v7 + (nI 1)))], [], (mm X i j)) Q))))) ∧ ((i 62 ((v7).toNatClampNeg)) = (kI (-1)) → WP (d + 262) 1636 (42, [(0, .ref 42), (2, .int v2), (3, .long v3), (5, .int v5), (6, .int v6), (7, .int (v7 + (nI 1)))], [], (mm X i j)) Q))))) : WP (d + 262) 1636 (42, [(0, .ref 42), (2, .int v2), (3, .long v3), (5, .int v5), (6, .int v6), (7, .int v7)], [], mm X i j) Q := tc_1636_42 (d + 261) 42 v2 v3 v5 v6 v7 (mm X i j) Q ⟨rfl, ⟨fun e6 => ⟨fun e7 => ((h.1 (e6)).1 (e7)), fun e7 => ((h.1 (e6)).2 ((Classical.byContradiction e7)))⟩, fun e6 => ⟨rfl, ⟨⟨rfl, (h.2 (e6)).1⟩, ⟨fun e8 => ⟨rfl, ⟨⟨(Or.inl rfl), (h.2 (e6)).1⟩, ⟨fun e9 => ⟨rfl, ⟨⟨(Or.inl rfl), (h.2 (e6)).1⟩, ⟨fun _ => ⟨rfl, ⟨⟨rfl, (h.2 (e6)).1⟩, (te_1635 (d + 261) ((nI 0) - (i 62 ((v7).toNatClampNeg))) v2 (mm X i j) _ ⟨fun e11 => ⟨_, rfl, (tc_1636_119 (d + 261) 42 v2 (v3 + ((abI ((nI 0) - (i 62 ((v7).toNatClampNeg)))).toInt64)) (v5 + (nI 1)) (v6 + (nI 0)) v7 (mm X i j) _ ((((h.2 (e6)).2.1 (e8)).1 (e9)).1 (e11)))⟩, fun e11 => ⟨_, rfl, (tc_1636_119 (d + 261) 42 v2 (v3 + ((((nI 0) - (i 62 ((v7).toNatClampNeg))).toInt64) * (((nI 0) - (i 62 ((v7).toNatClampNeg))).toInt64))) (v5 + (nI 1)) (v6 + (nI 0)) v7 (mm X i j) _ ((((h.2 (e6)).2.1 (e8)).1 (e9)).2 ((Classical.byContradiction e11))))⟩⟩)⟩⟩, fun e10 => absurd ((e9)) e10⟩⟩⟩, fun e9 => ⟨rfl, ⟨⟨(Or.inl rfl), (h.2 (e6)).1⟩, ⟨fun e12 => absurd e12 ((e9)), fun _ => ⟨rfl, ⟨⟨rfl, (h.2 (e6)).1⟩, (te_1635 (d + 261) ((nI 100) - (i 62 ((v7).toNatClampNeg))) v2 (mm X i j) _ ⟨fun e13 => ⟨_, rfl, (tc_1636_119 (d + 261) 42 v2 (v3 + ((abI ((nI 100) - (i 62 ((v7).toNatClampNeg)))).toInt64)) (v5 + (nI 1)) (v6 + (nI 1)) v7 (mm X i j) _ ((((h.2 (e6)).2.1 (e8)).2 (e9)).1 (e13)))⟩, fun e13 => ⟨_, rfl, (tc_1636_119 (d + 261) 42 v2 (v3 + ((((nI 100) - (i 62 ((v7).toNatClampNeg))).toInt64) * (((nI 100) - (i 62 ((v7).toNatClampNeg))).toInt64))) (v5 + (nI 1)) (v6 + (nI 1)) v7 (mm X i j) _ ((((h.2 (e6)).2.1 (e8)).2 (e9)).2 ((Classical.byContradiction e13))))⟩⟩)⟩⟩⟩⟩⟩⟩⟩⟩, fun e8 => (tc_1636_119 (d + 261) 42 v2 v3 v5 v6 v7 (mm X i j) _ ((h.2 (e6)).2.2 ((Classical.byContradiction e8))))⟩⟩⟩⟩⟩
set_option maxRecDepth 100000 in
theorem s_1636_142 (d : Nat) (X : XS) (i : Nat → Nat → Int32) (j : Nat → Nat → Int64) (v2 : Int32) (v3 : Int64) (v5 : Int32) (v6 : Int32) (v7 : Int64) (v9 : Int32) (v10 : Int32) (Q : Option (Option Value) → AM → Prop) (h : (((nI 100) < v10 → Q (some (some (.int (nI 0)))) (mm X (s2 (s2 (s2 (s2 i 42 35 (nI 0)) 42 35 (nI 1)) 42 35 (nI 2)) 42 35 (nI 3)) (s2 (s2 (s2 j 70 0 v3) 70 1 v7) 70 2 (v9.toInt64)))) ∧ (¬ ((nI 100) < v10) → ((¬ (v2 = 0) → ((v9 = (kI (-1)) → WP (d + 262) 1636 (142, [(0, .ref 42), (2, .int v2), (3, .long v3), (5, .int v5), (6, .int v6), (7, .long (((v6.toInt64) * ((abI ((nI 100) - v10)).toInt64)) + (((v5 - v6).toInt64) * ((abI v10).toInt64)))), (9, .int v10), (10, .int (v10 + (nI 1)))], [], (mm X i j)) Q) ∧ (¬ (v9 = (kI (-1))) → (((((v6.toInt64) * ((abI ((nI 100) - v10)).toInt64)) + (((v5 - v6).toInt64) * ((abI v10).toInt64))) < v7 → WP (d + 262) 1636 (142, [(0, .ref 42), (2, .int v2), (3, .long v3), (5, .int v5), (6, .int v6), (7, .long (((v6.toInt64) * ((abI ((nI 100) - v10)).toInt64)) + (((v5 - v6).toInt64) * ((abI v10).toInt64)))), (9, .int v10), (10, .int (v10 + (nI 1)))], [], (mm X i j)) Q) ∧ (¬ ((((v6.toInt64) * ((abI ((nI 100) - v10)).toInt64)) + (((v5 - v6).toInt64) * ((abI v10).toInt64))) < v7) → WP (d + 262) 1636 (142, [(0, .ref 42), (2, .int v2), (3, .long v3), (5, .int v5), (6, .int v6), (7, .long v7), (9, .int v9), (10, .int (v10 + (nI 1)))], [], (mm X i j)) Q))))) ∧ (v2 = 0 → ((v9 = (kI (-1)) → WP (d + 262) 1636 (142, [(0, .ref 42), (2, .int v2), (3, .long v3), (5, .int v5), (6, .int v6), (7, .long (((v6.toInt64) * ((((nI 100) - v10).toInt64) * (((nI 100) - v10).toInt64))) + (((v5 - v6).toInt64) * ((v10.toInt64) * (v10.toInt64))))), (9, .int v10), (10, .int (v10 + (nI 1)))], [], (mm X i j)) Q) ∧ (¬ (v9 = (kI (-1))) → (((((v6.toInt64) * ((((nI 100) - v10).toInt64) * (((nI 100) - v10).toInt64))) + (((v5 - v6).toInt64) * ((v10.toInt64) * (v10.toInt64)))) < v7 → WP (d + 262) 1636 (142, [(0, .ref 42), (2, .int v2), (3, .long v3), (5, .int v5), (6, .int v6), (7, .long (((v6.toInt64) * ((((nI 100) - v10).toInt64) * (((nI 100) - v10).toInt64))) + (((v5 - v6).toInt64) * ((v10.toInt64) * (v10.toInt64))))), (9, .int v10), (10, .int (v10 + (nI 1)))], [], (mm X i j)) Q) ∧ (¬ ((((v6.toInt64) * ((((nI 100) - v10).toInt64) * (((nI 100) - v10).toInt64))) + (((v5 - v6).toInt64) * ((v10.toInt64) * (v10.toInt64)))) < v7) → WP (d + 262) 1636 (142, [(0, .ref 42), (2, .int v2), (3, .long v3), (5, .int v5), (6, .int v6), (7, .long v7), (9, .int v9), (10, .int (v10 + (nI 1)))], [], (mm X i j)) Q))))))))) : WP (d + 262) 1636 (142, [(0, .ref 42), (2, .int v2), (3, .long v3), (5, .int v5), (6, .int v6), (7, .long v7), (9, .int v9), (10, .int v10)], [], mm X i j) Q := tc_1636_142 (d + 261) 42 v2 v3 v5 v6 v7 v9 v10 (mm X i j) Q ⟨fun e14 => ⟨rfl, ⟨rfl, (te_1540 (d + 261) 42 v3 (mm X (s2 i 42 35 (nI 0)) j) _ ⟨rfl, ⟨rfl, ⟨⟨rfl, (vpk 0 32 rfl)⟩, ⟨rfl, ⟨rfl, ⟨rfl, ⟨rfl, (te_1540 (d + 261) 42 v7 (mm X (s2 (s2 i 42 35 (nI 0)) 42 35 (nI 1)) (s2 j 70 0 v3)) _ ⟨rfl, ⟨rfl, ⟨⟨rfl, (vpk 1 32 rfl)⟩, ⟨rfl, ⟨rfl, ⟨rfl, ⟨rfl, (te_1540 (d + 261) 42 (v9.toInt64) (mm X (s2 (s2 (s2 i 42 35 (nI 0)) 42 35 (nI 1)) 42 35 (nI 2)) (s2 (s2 j 70 0 v3) 70 1 v7)) _ ⟨rfl, ⟨rfl, ⟨⟨rfl, (vpk 2 32 rfl)⟩, ⟨rfl, ⟨rfl, ⟨rfl, (h.1 (e14))⟩⟩⟩⟩⟩⟩)⟩⟩⟩⟩⟩⟩⟩)⟩⟩⟩⟩⟩⟩⟩)⟩⟩, fun e14 => (te_1635 (d + 261) ((nI 100) - v10) v2 (mm X i j) _ ⟨fun e15 => ⟨_, rfl, (te_1635 (d + 261) v10 v2 (mm X i j) _ ⟨fun _ => ⟨_, rfl, ⟨fun e17 => (tc_1636_203 (d + 261) 42 v2 v3 v5 v6 (((v6.toInt64) * ((abI ((nI 100) - v10)).toInt64)) + (((v5 - v6).toInt64) * ((abI v10).toInt64))) v10 v10 (mm X i j) _ (((h.2 (e14)).1 (e15)).1 (e17))), fun e17 => ⟨fun e18 => (tc_1636_203 (d + 261) 42 v2 v3 v5 v6 (((v6.toInt64) * ((abI ((nI 100) - v10)).toInt64)) + (((v5 - v6).toInt64) * ((abI v10).toInt64))) v10 v10 (mm X i j) _ ((((h.2 (e14)).1 (e15)).2 (e17)).1 ((lc_lt.1 e18)))), fun e18 => (tc_1636_203 (d + 261) 42 v2 v3 v5 v6 v7 v9 v10 (mm X i j) _ ((((h.2 (e14)).1 (e15)).2 (e17)).2 ((fun z => e18 (lc_lt.2 z)))))⟩⟩⟩, fun e16 => absurd ((e15)) e16⟩)⟩, fun e15 => ⟨_, rfl, (te_1635 (d + 261) v10 v2 (mm X i j) _ ⟨fun e19 => absurd e19 (fun z => z ((Classical.byContradiction e15))), fun _ => ⟨_, rfl, ⟨fun e20 => (tc_1636_203 (d + 261) 42 v2 v3 v5 v6 (((v6.toInt64) * ((((nI 100) - v10).toInt64) * (((nI 100) - v10).toInt64))) + (((v5 - v6).toInt64) * ((v10.toInt64) * (v10.toInt64)))) v10 v10 (mm X i j) _ (((h.2 (e14)).2 ((Classical.byContradiction e15))).1 (e20))), fun e20 => ⟨fun e21 => (tc_1636_203 (d + 261) 42 v2 v3 v5 v6 (((v6.toInt64) * ((((nI 100) - v10).toInt64) * (((nI 100) - v10).toInt64))) + (((v5 - v6).toInt64) * ((v10.toInt64) * (v10.toInt64)))) v10 v10 (mm X i j) _ ((((h.2 (e14)).2 ((Classical.byContradiction e15))).2 (e20)).1 ((lc_lt.1 e21)))), fun e21 => (tc_1636_203 (d + 261) 42 v2 v3 v5 v6 v7 v9 v10 (mm X i j) _ ((((h.2 (e14)).2 ((Classical.byContradiction e15))).2 (e20)).2 ((fun z => e21 (lc_lt.2 z)))))⟩⟩⟩⟩)⟩⟩)⟩
theorem k_44 (d : Nat) {X : XS} {i : Nat → Nat → Int32} {j : Nat → Nat → Int64} (h : Rel X i j) (a1 a2 : Int32) {Kf : AM → Prop} (hK : Nx X Kf) : WI (d + 300) 1453 [.ref 2, .int a1, .int a2] (mm X i j) (fun x1 M1 => WI (d + 300) 1636 [.ref 42, .int a1, .int a2] M1 (fun x2 M2 => x1 = x2 ∧ Kf M2)) := by
  have ht := hK.th h
  have hrel := h
  obtain ⟨hx, ⟨⟨n, h0⟩, h1, ⟨ng, h2, no, h4⟩, ⟨tn, h3⟩, ⟨np, h5⟩, h6, ns, h7⟩, h8, hz⟩ := h

  have hn := h0.2.1.1.2
  have r62 : ∀ t, t < 240 → i 28 t = i 62 t := fun t ht => (h6.2.2 t ht).1
  refine s_1453 _ X i j _ _ _ (bq_c (fun y => s_1636 _ X i j _ _ _ (bq_t y ⟨rfl, ht⟩)) (fun y => br_c (fun v => ?_) (fun v => s_1636 _ X i j _ _ _ (bq_f y (br_f v ⟨rfl, ht⟩)))))
  rw [h0.2.1.1.1, mx_sub (q := 1) (by omega) (by decide)]
  obtain ⟨ca, hca⟩ : ∃ ca, ca = caF i n a1 1 := ⟨_, rfl⟩
  obtain ⟨C, hC⟩ : ∃ C, C = fun t => ct (fun t => tdP i t ∧ ca t) t := ⟨_, rfl⟩
  obtain ⟨D, hD⟩ : ∃ D, D = fun t => ct (fun t => tdP i t ∧ ¬ ca t) t := ⟨_, rfl⟩
  obtain ⟨S, hS⟩ : ∃ S, S = nsm (penN i ca a2) := ⟨_, rfl⟩
  have C0 : C 0 = 0 := by rw [hC]; rfl
  have D0 : D 0 = 0 := by rw [hD]; rfl
  have S0 : S 0 = 0 := by rw [hS]; rfl
  have Cl : ∀ t, C t ≤ t := fun t => by rw [hC]; exact ct_le _ _
  have Dl : ∀ t, D t ≤ t := fun t => by rw [hD]; exact ct_le _ _
  have Sl : ∀ t, t ≤ 240 → S t ≤ 2400000 := fun t ht => by
    have := nsm_le (f := penN i ca a2) (c := 10000) t (fun u hu => h6.pn (by omega))
    rw [hS]; omega
  have st0 : ∀ t, ¬ tdP i t → C (t + 1) = C t ∧ D (t + 1) = D t ∧ S (t + 1) = S t := fun t h => by
    subst hC; subst hD; subst hS
    refine ⟨ct_f (p := fun t => tdP i t ∧ ca t) (fun q => h q.1), ct_f (p := fun t => tdP i t ∧ ¬ ca t) (fun q => h q.1), ?_⟩
    rw [nsm, pen_n h]; rfl
  have st1 : ∀ t, tdP i t → ca t → C (t + 1) = C t + 1 ∧ D (t + 1) = D t ∧ S (t + 1) = S t + sqN a2 (100 - vN i t) := fun t h h2 => by
    subst hC; subst hD; subst hS
    exact ⟨ct_t (p := fun t => tdP i t ∧ ca t) ⟨h, h2⟩, ct_f (p := fun t => tdP i t ∧ ¬ ca t) (fun q => q.2 h2), by rw [nsm, pen_y h h2]⟩
  have st2 : ∀ t, tdP i t → ¬ ca t → C (t + 1) = C t ∧ D (t + 1) = D t + 1 ∧ S (t + 1) = S t + sqN a2 (vN i t) := fun t h h2 => by
    subst hC; subst hD; subst hS
    exact ⟨ct_f (p := fun t => tdP i t ∧ ca t) (fun q => h2 q.2), ct_t (p := fun t => tdP i t ∧ ¬ ca t) ⟨h, h2⟩, by rw [nsm, pen_o h h2]⟩
  have ref : ∀ i3 j3, (∀ b, b ≠ 40 → i3 b = i b) → ∃ i4, EvV (d + 299) 1589 [.ref 42, .int (nI 0), .int a1, .int (nI 1)] (mm X (s2 i3 42 36 (nI 0)) j3) (mm X i4 j3) ∧ FrC X i i3 ∧ RZ i3 ∧ FrP X (s2 i3 42 36 (nI 0)) i4 ∧ ∀ P, ((¬ C (n - 1) + D (n - 1) = 0 → WP (d + 300) 1636 (142, [(0, .ref 42), (2, .int a2), (3, .long (lN (S (n - 1)))), (5, .int (nI (C (n - 1) + D (n - 1)))), (6, .int (nI (C (n - 1)))), (7, .long (Int64.ofNat 0)), (9, .int (kI (-1))), (10, .int (nI 0))], [], mm X i4 j3) P) ∧ (C (n - 1) + D (n - 1) = 0 → P (some (some (.int (kI (-2))))) (mm X i4 j3))) → WP (d + 300) 1636 (42, [(0, .ref 42), (2, .int a2), (3, .long (Int64.ofNat 0)), (5, .int (nI 0)), (6, .int (nI 0)), (7, .int (nI 0))], [], mm X i4 j3) P := by
    intro i3 j3 f3
    have F : FrC X i i3 := FrC_40 f3
    have Z : RZ i3 := RZ_of hz (f3 34 (by decide)) (f3 35 (by decide))
    obtain ⟨i4, hE4, f4, -, p46, -, -, -, p73⟩ := prpv 0 X i (s2 i3 42 36 (nI 0)) j3 h0 h2 h4 (F.kp.tr (FrR_th (X := X) (nI 0)).kp) (nI 0) a1 (q := 1) (by decide)
    rw [← hca] at p73
    refine ⟨i4, hE4.up (by omega), F, Z, f4, fun P hP => ?_⟩
    have k4 : Kp X i i4 := F.kp.tr ((FrR_th (nI 0)).tr f4.fr).kp
    have e62 : i4 62 = i 62 := xt_c k4 62 0 rfl rfl (by decide)
    refine lup (n - 1) (fun t (z : Int64 × Int32 × Int32) => z.1 = lN (S t) ∧ z.2.1 = nI (C t + D t) ∧ z.2.2 = nI (C t)) (fun t z => (42, [(0, .ref 42), (2, .int a2), (3, .long z.1), (5, .int z.2.1), (6, .int z.2.2), (7, .int (nI t))], [], mm X i4 j3)) ?_ ?_ 0 (Int64.ofNat 0, nI 0, nI 0) (Nat.zero_le _) ⟨by rw [S0]; rfl, by rw [C0, D0], by rw [C0]⟩
    · rintro ⟨q1, q2, q3⟩ ⟨e1, e2, e3⟩
      dsimp only at e1 e2 e3 ⊢
      subst e1; subst e2; subst e3
      have cl := Cl (n - 1)
      have dl := Dl (n - 1)
      refine s_1636_42 _ X i4 _ _ _ _ _ _ _ (br_t (by rw [p46]; exact Int32.le_refl _) ?_)
      rw [nIz (by omega)]
      exact hP
    · rintro t ⟨q1, q2, q3⟩ htn ⟨e1, e2, e3⟩ go
      dsimp only at e1 e2 e3 ⊢
      subst e1; subst e2; subst e3
      refine s_1636_42 _ X i4 _ _ _ _ _ _ _ (br_f (by rw [p46]; exact nI_ge htn (by omega)) ⟨vp_in_nI (by omega) (by decide), ?_⟩)
      rw [tc_nI (by omega), e62, p73 t htn, bi_eq0]
      refine bq_c (fun k1 => ?_) (fun k1 => ?_)
      · obtain ⟨v1, v2⟩ := h6.vn (t := t) (by omega) k1
        rw [v2]
        refine br_c (fun k2 => ?_) (fun k2 => ?_)
        · obtain ⟨s1, s2', s3⟩ := st2 t k1 k2
          refine bq_c (fun k3 => ?_) (fun k3 => ?_)
          · rw [abE _ (by omega), nI_l (by omega), lN_add]
            simp only [nI_add, Nat.add_zero]
            refine go (lN (S t + vN i t), nI (C t + D t + 1), nI (C t)) ⟨?_, ?_, ?_⟩
            · rw [s3, sqI1 k3]
            · rw [s1, s2', Nat.add_assoc]
            · rw [s1]
          · rw [lF _ (by omega), lN_add]
            simp only [nI_add, Nat.add_zero]
            refine go (lN (S t + vN i t * vN i t), nI (C t + D t + 1), nI (C t)) ⟨?_, ?_, ?_⟩
            · rw [s3, sqI0 k3]
            · rw [s1, s2', Nat.add_assoc]
            · rw [s1]
        · obtain ⟨s1, s2', s3⟩ := st1 t k1 (Classical.byContradiction k2)
          refine bq_c (fun k3 => ?_) (fun k3 => ?_)
          · rw [abC _ (by omega), nI_l (by omega), lN_add]
            simp only [nI_add]
            refine go (lN (S t + (100 - vN i t)), nI (C t + D t + 1), nI (C t + 1)) ⟨?_, ?_, ?_⟩
            · rw [s3, sqI1 k3]
            · rw [s1, s2', show C t + 1 + D t = C t + D t + 1 by omega]
            · rw [s1]
          · rw [pk_sub (a := 100) (by omega), nI_l (by omega), lN_mul, lN_add]
            simp only [nI_add]
            refine go (lN (S t + (100 - vN i t) * (100 - vN i t)), nI (C t + D t + 1), nI (C t + 1)) ⟨?_, ?_, ?_⟩
            · rw [s3, sqI0 k3]
            · rw [s1, s2', show C t + 1 + D t = C t + D t + 1 by omega]
            · rw [s1]
      · obtain ⟨s1, s2', s3⟩ := st0 t (fun q => q k1)
        rw [nI_add]
        exact go (lN (S t), nI (C t + D t), nI (C t)) ⟨by rw [s3], by rw [s1, s2'], by rw [s1]⟩
  refine lup (n - 1) (fun t (z : Int32 × Int32 × Int32) => z.1 = nI (S t) ∧ z.2.1 = nI (C t) ∧ z.2.2 = nI (D t)) (fun t z => (40, [(0, .ref 2), (1, .int a1), (2, .int a2), (3, .int z.1), (4, .int z.2.1), (5, .int z.2.2), (6, .int (nI (n - 1))), (7, .int (nI t))], [], mm X i j)) ?_ ?_ 0 (nI 0, nI 0, nI 0) (Nat.zero_le _) ⟨by rw [S0], by rw [C0], by rw [D0]⟩
  · rintro ⟨q1, q2, q3⟩ ⟨e1, e2, e3⟩
    dsimp only at e1 e2 e3 ⊢
    subst e1; subst e2; subst e3
    have cl := Cl (n - 1)
    have dl := Dl (n - 1)
    have sl := Sl (n - 1) (by omega)
    refine s_1453_40 _ X i j _ _ _ _ _ _ _ _ (br_t (Int32.le_refl _) ?_)
    rw [nI_add, nIz (by omega)]
    refine bq_c (fun w => ?_) (fun w => ?_)
    · have c1 := c_1490 0 X i j (k := C (n - 1)) (m := D (n - 1)) (by omega) (by omega) a2
      obtain ⟨f, hf⟩ : ∃ f, f = lsN a2 (C (n - 1)) (D (n - 1)) := ⟨_, rfl⟩
      rw [← hf] at c1
      refine ⟨_, c1.up (by omega), ?_⟩
      have hB1 := bs_le f 100
      have lf : ∀ r, r ≤ 100 → f r ≤ 4800000 := fun r hr => by rw [hf]; exact lsN_le (by omega) (by omega) hr
      have lb' := lf _ hB1
      have main : ∀ x : Int32, x = nI (f (bs f 100)) → WI (d + 300) 1636 [.ref 42, .int a1, .int a2] (mm X (s2 (s2 (s2 (s2 i 40 1 (nI 0)) 40 1 (nI 1)) 40 1 (nI 2)) 40 1 (nI 3)) (s2 (s2 (s2 j 41 0 (nI (S (n - 1))).toInt64) 41 1 x.toInt64) 41 2 (nI (bs f 100)).toInt64)) (fun x2 M2 => nI 0 = x2 ∧ Kf M2) := by
        intro x hx
        subst hx
        rw [nI_l (by omega), nI_l (by omega), nI_l (by omega)]
        obtain ⟨i3, hi3⟩ : ∃ i3, i3 = s2 (s2 (s2 (s2 i 40 1 (nI 0)) 40 1 (nI 1)) 40 1 (nI 2)) 40 1 (nI 3) := ⟨_, rfl⟩
        rw [← hi3]
        obtain ⟨j3, hj3⟩ : ∃ j3, j3 = s2 (s2 (s2 j 41 0 (lN (S (n - 1)))) 41 1 (lN (f (bs f 100)))) 41 2 (lN (bs f 100)) := ⟨_, rfl⟩
        rw [← hj3]
        have f3 : ∀ b, b ≠ 40 → i3 b = i b := fun b hb => by rw [hi3, s2_ne hb, s2_ne hb, s2_ne hb, s2_ne hb]
        obtain ⟨i4, hE4, F, Z, f4, hP⟩ := ref i3 j3 f3
        refine s_1636 _ X i3 _ _ _ _ (bq_f y (br_t v ⟨i4, hE4, hP _ (bq_t w ?_)⟩))
        refine lup 101 (fun e (z : Int64 × Int32) => (e = 0 → z = (Int64.ofNat 0, kI (-1))) ∧ (0 < e → z = (lN (f (bs f (e - 1))), nI (bs f (e - 1))))) (fun e z => (142, [(0, .ref 42), (2, .int a2), (3, .long (lN (S (n - 1)))), (5, .int (nI (C (n - 1) + D (n - 1)))), (6, .int (nI (C (n - 1)))), (7, .long z.1), (9, .int z.2), (10, .int (nI e))], [], mm X i4 j3)) ?_ ?_ 0 (Int64.ofNat 0, kI (-1)) (Nat.zero_le _) ⟨fun _ => rfl, fun h => absurd h (by omega)⟩
        · rintro ⟨q1, q2⟩ ⟨-, hq⟩
          have := hq (by decide)
          cases this
          refine s_1636_142 _ X i4 _ _ _ _ _ _ _ _ _ (br_t (by decide) (qI_of ⟨rfl, ?_⟩))
          refine hK.k (fin_row hrel F Z (((FrR_th (nI 0)).tr f4.fr).tr (FrR_42 (fun b hb => by rw [s2_ne hb, s2_ne hb, s2_ne hb, s2_ne hb]) (fun k hk => by rw [s2_ne2 (by omega), s2_ne2 (by omega), s2_ne2 (by omega), s2_ne2 (by omega)]))) (r8_of 3 (by decide) ?_ (s2_self _ _ _ _) ?_))
          · rw [s2_ne (show 40 ≠ 42 by decide), s2_ne (show 40 ≠ 42 by decide), s2_ne (show 40 ≠ 42 by decide), s2_ne (show 40 ≠ 42 by decide), f4.1 40 (show ¬ (48 : Nat) = 40 by decide) (by decide), s2_ne (show 40 ≠ 42 by decide), hi3, s2_self]
          · intro t ht
            rw [hj3]
            have eL := nI_l (n := bs f 100) (by omega)
            match t, ht with
            | 0, _ => simp [s2_ap]
            | 1, _ => simp [s2_ap]
            | 2, _ => simp [s2_ap, eL]
        · rintro e ⟨q1, q2⟩ he ⟨h0', h1'⟩ go
          dsimp only at h0' h1' ⊢
          refine s_1636_142 _ X i4 _ _ _ _ _ _ _ _ _ (br_f (fun y => by rw [nI_ltI (by omega) (by omega)] at y; omega) ?_)
          rw [nI_add]
          have hkC : (nI (C (n - 1))).toInt64 = lN (C (n - 1)) := nI_l (by omega)
          have hkD : (nI (C (n - 1) + D (n - 1)) - nI (C (n - 1))).toInt64 = lN (D (n - 1)) := by
            rw [pk_sub (by omega), nI_l (by omega)]; congr 1; omega
          have step : ∀ V : Int64, V = lN (f e) → ((q2 = kI (-1) → WP (d + 300) 1636 (142, [(0, .ref 42), (2, .int a2), (3, .long (lN (S (n - 1)))), (5, .int (nI (C (n - 1) + D (n - 1)))), (6, .int (nI (C (n - 1)))), (7, .long V), (9, .int (nI e)), (10, .int (nI (e + 1)))], [], mm X i4 j3) (qI fun x2 M2 => nI 0 = x2 ∧ Kf M2)) ∧ (¬ q2 = kI (-1) → ((V < q1 → WP (d + 300) 1636 (142, [(0, .ref 42), (2, .int a2), (3, .long (lN (S (n - 1)))), (5, .int (nI (C (n - 1) + D (n - 1)))), (6, .int (nI (C (n - 1)))), (7, .long V), (9, .int (nI e)), (10, .int (nI (e + 1)))], [], mm X i4 j3) (qI fun x2 M2 => nI 0 = x2 ∧ Kf M2)) ∧ (¬ V < q1 → WP (d + 300) 1636 (142, [(0, .ref 42), (2, .int a2), (3, .long (lN (S (n - 1)))), (5, .int (nI (C (n - 1) + D (n - 1)))), (6, .int (nI (C (n - 1)))), (7, .long q1), (9, .int q2), (10, .int (nI (e + 1)))], [], mm X i4 j3) (qI fun x2 M2 => nI 0 = x2 ∧ Kf M2))))) := by
            rintro V rfl
            rcases Nat.eq_zero_or_pos e with e0 | e0
            · subst e0
              have := h0' rfl
              cases this
              exact br_t rfl (go (lN (f 0), nI 0) ⟨fun h => absurd h (by omega), fun _ => rfl⟩)
            · have := h1' e0
              cases this
              obtain ⟨e', rfl⟩ : ∃ e', e = e' + 1 := ⟨e - 1, by omega⟩
              rw [Nat.add_sub_cancel]
              have hb := bs_le f e'
              have l1 := lf (bs f e') (by omega)
              have l2 := lf (e' + 1) (by omega)
              refine br_f (fun y => ?_) ?_
              · have y := congrArg Int32.toInt y
                rw [nI_toInt (by omega)] at y
                have : (kI (-1)).toInt = -1 := by decide
                omega
              · rw [lN_lt (by omega) (by omega)]
                refine br_c (fun y => go (lN (f (e' + 1)), nI (e' + 1)) ⟨fun h => absurd h (by omega), fun _ => ?_⟩) (fun y => go (lN (f (bs f e')), nI (bs f e')) ⟨fun h => absurd h (by omega), fun _ => ?_⟩)
                · rw [Nat.add_sub_cancel, bs_n (by omega)]
                · rw [Nat.add_sub_cancel, bs_y (by omega)]
          refine bq_c (fun k3 => step _ ?_) (fun k3 => step _ ?_)
          · rw [hf]; exact sB1 (by omega) hkC hkD k3
          · rw [hf]; exact sB0 (by omega) hkC hkD k3
      refine bq_c (fun k3 => qI_of (main _ ?_)) (fun k3 => qI_of (main _ ?_))
      · rw [sA1 (by omega) k3, hf]
      · rw [sA0 (by omega) k3, hf]
    · refine qI_of ?_
      obtain ⟨i4, hE4, F, Z, f4, hP⟩ := ref i j (fun _ _ => rfl)
      refine s_1636 _ X i _ _ _ _ (bq_f y (br_t v ⟨i4, hE4, hP _ (bq_f w (qI_of ⟨rfl, hK.k (fin_row hrel F Z ((FrR_th (nI 0)).tr f4.fr) ?_)⟩))⟩))
      obtain ⟨L, l0, l1, l2, l3⟩ := h8
      refine ⟨L, l0, ?_, ?_, l3⟩
      · rw [f4.1 40 (show ¬ (48 : Nat) = 40 by decide) (by decide), s2_ne (show 40 ≠ 42 by decide)]; exact l1
      · rw [f4.2 35 (by decide), s2_ne2 (show 35 ≠ 36 by decide)]; exact l2
  · rintro t ⟨q1, q2, q3⟩ htn ⟨e1, e2, e3⟩ go
    dsimp only at e1 e2 e3 ⊢
    subst e1; subst e2; subst e3
    refine s_1453_40 _ X i j _ _ _ _ _ _ _ _ (br_f (nI_ge htn (by omega)) (br_f (nI_pos (by omega)) (br_f (nI_ge (by omega) (by decide)) ⟨vp_in_nI (by omega) (by decide), ?_⟩)))
    rw [tc_nI (by omega), r62 t (by omega)]
    refine bq_c (fun k1 => ?_) (fun k1 => ?_)
    · obtain ⟨v1, v2⟩ := h6.vn (t := t) (by omega) k1
      rw [v2]
      refine ⟨_, (c_137 0 X i j 9 (DO9 X) h0.2.1 t 1 a1 (by omega)).up (by omega), ?_⟩
      rw [show cmP n (i 43) a1 t 1 = ca t by rw [hca]; rfl]
      refine bq_c (fun k2 => ?_) (fun k2 => ?_)
      · obtain ⟨s1, s2', s3⟩ := st2 t k1 k2
        rw [abB _ (by omega)]
        simp only [nI_add, Nat.add_zero, pk_mul]
        refine bq_c (fun k3 => go (nI (S t + vN i t), nI (C t), nI (D t + 1)) ⟨?_, ?_, ?_⟩) (fun k3 => go (nI (S t + vN i t * vN i t), nI (C t), nI (D t + 1)) ⟨?_, ?_, ?_⟩)
        · rw [s3, sqI1 k3]
        · rw [s1]
        · rw [s2']
        · rw [s3, sqI0 k3]
        · rw [s1]
        · rw [s2']
      · obtain ⟨s1, s2', s3⟩ := st1 t k1 k2
        rw [abA _ (by omega)]
        simp only [nI_add, Nat.add_zero, pk_mul]
        refine bq_c (fun k3 => go (nI (S t + (100 - vN i t)), nI (C t + 1), nI (D t)) ⟨?_, ?_, ?_⟩) (fun k3 => go (nI (S t + (100 - vN i t) * (100 - vN i t)), nI (C t + 1), nI (D t)) ⟨?_, ?_, ?_⟩)
        · rw [s3, sqI1 k3]
        · rw [s1]
        · rw [s2']
        · rw [s3, sqI0 k3]
        · rw [s1]
        · rw [s2']
    · obtain ⟨s1, s2', s3⟩ := st0 t (fun q => q k1)
      rw [nI_add]
      exact go (nI (S t), nI (C t), nI (D t)) ⟨by rw [s3], by rw [s1], by rw [s2']⟩
