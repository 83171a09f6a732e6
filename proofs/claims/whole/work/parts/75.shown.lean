/-! ===== shown ===== -/
set_option maxRecDepth 100000 in
theorem s_1419 (d : Nat) (X : XS) (i : Nat → Nat → Int32) (j : Nat → Nat → Int64) (a1 : Int32) (a2 : Int32) (a3 : Int32) (K : Int32 → AM → Prop) (E : AM → Prop) (h : (GLs X i) ∧ ((¬ ((nI 0) ≤ a1 ∧ a1 ≤ ((i 2 4) - (nI 1)))) → E (nw (mm X i j) 30 0 6)) ∧ (((nI 0) ≤ a1 ∧ a1 ≤ ((i 2 4) - (nI 1))) → (GO X (xr X 17 (a1.toNatClampNeg))) → ((a2 < 0 → E (nw (mm X i j) 30 0 6)) ∧ (¬ (a2 < 0) → (((i 9 3) ≤ a2 → E (nw (mm X i j) 30 0 6)) ∧ (¬ ((i 9 3) ≤ a2) → (((nI 0) ≤ a3 ∧ a3 ≤ (nI 3) → (∃ (i13 : Nat → Nat → Int32), EvV (d + 2) 261 [.ref (xr X 17 (a1.toNatClampNeg)), .ref 9] (mm X i j) (mm X i13 j) ∧ ((¬ (a3 = 0) → ((¬ (a3 = (nI 1)) → ((¬ (a3 = (nI 2)) → (∃ (x17 : Int32), EvI (d + 2) 265 [.ref (xr X 17 (a1.toNatClampNeg)), .int a2, .int (nI 0)] (mm X i13 j) x17 (mm X i13 j) ∧ K x17 (mm X i13 j))) ∧ (a3 = (nI 2) → (((nI 240) ≤ a2 → K (nI 0) (mm X i13 j)) ∧ (¬ ((nI 240) ≤ a2) → (vp_in a2 240) ∧ K (i13 (xr X (xr X 17 (a1.toNatClampNeg)) 7) ((a2).toNatClampNeg)) (mm X i13 j)))))) ∧ (a3 = (nI 1) → (((nI 240) ≤ a2 → K (nI 0) (mm X i13 j)) ∧ (¬ ((nI 240) ≤ a2) → (vp_in a2 240) ∧ K (i13 (xr X (xr X 17 (a1.toNatClampNeg)) 6) ((a2).toNatClampNeg)) (mm X i13 j)))))) ∧ (a3 = 0 → ((i13 9 3) ≤ (nI 240)) ∧ K (((dyv (i13 9 3) (i13 11) a2) + (i13 (xr X 17 (a1.toNatClampNeg)) 1)) - (i13 (xr X 17 (a1.toNatClampNeg)) 0)) (mm X i13 j))))) ∧ (¬ ((nI 0) ≤ a3 ∧ a3 ≤ (nI 3)) → E (nw (mm X i j) 30 0 6))))))))) : WX (d + 3) 1419 [.ref 2, .int a1, .int a2, .int a3] (mm X i j) K E := te_1419 (d + 2) 2 a1 a2 a3 (mm X i j) (qX K E) ⟨rfl, (p_1467 (d + 1) X i j a1 _ ⟨h.1, (fun h2 => ⟨fun _ => (tc_1419_32 (d + 2)  (mm X i j) _ (Or.inr ⟨rfl, (h.2.1 h2)⟩)), fun e3 => absurd rfl e3⟩), (fun h4 h5 => ⟨fun e6 => absurd e6 (nz_k (h5.1)), fun _ => ⟨rfl, ⟨rfl, (te_130 (d + 2) 9 a2 (mm X i j) _ ⟨fun e7 => ⟨k0_01, ⟨_, rfl, ⟨fun _ => (tc_1419_32 (d + 2)  (mm X i j) _ (Or.inr ⟨rfl, ((h.2.2 h4 h5).1 (e7))⟩)), fun e8 => absurd (show (nI 0) = 0 by decide) e8⟩⟩⟩, fun e7 => ⟨rfl, ⟨fun e9 => ⟨k0_01, ⟨_, rfl, ⟨fun _ => (tc_1419_32 (d + 2)  (mm X i j) _ (Or.inr ⟨rfl, (((h.2.2 h4 h5).2 (e7)).1 (e9))⟩)), fun e10 => absurd (show (nI 0) = 0 by decide) e10⟩⟩⟩, fun e9 => ⟨k1_01, ⟨_, rfl, ⟨fun e11 => absurd e11 (show ¬ ((nI 1) = 0) by decide), fun _ => (p_1462 (d + 2) X i j a3 (nI 0) (nI 3) _ ⟨fun e12 => ⟨rfl, ⟨h5.1, (Exists.elim ((((h.2.2 h4 h5).2 (e7)).2 (e9)).1 ((bi_n e12))) fun i13 h24 => EvV.use h24.1 ⟨fun e14 => ⟨fun e15 => ⟨fun e16 => ⟨h5.1, (Exists.elim (((h24.2.1 (e14)).1 (e15)).1 (e16)) fun x17 h18 => EvI.use h18.1 (Or.inl ⟨_, rfl, h18.2⟩))⟩, fun e16 => ⟨h5.1, (te_263 (d + 2) (xr X 17 (a1.toNatClampNeg)) a2 (mm X i13 j) _ ⟨fun e20 => absurd e20 ((e7)), fun _ => ⟨fun e21 => ⟨_, rfl, (Or.inl ⟨_, rfl, ((((h24.2.1 (e14)).1 (e15)).2 ((Classical.byContradiction e16))).1 (e21))⟩)⟩, fun e21 => ⟨h5.1, ⟨⟨h5.2.2.2.1, (vin_of h5.2.2.2.2 ((((h24.2.1 (e14)).1 (e15)).2 ((Classical.byContradiction e16))).2 (e21)).1)⟩, ⟨_, rfl, (Or.inl ⟨_, rfl, ((((h24.2.1 (e14)).1 (e15)).2 ((Classical.byContradiction e16))).2 (e21)).2⟩)⟩⟩⟩⟩⟩)⟩⟩, fun e15 => ⟨h5.1, (te_262 (d + 2) (xr X 17 (a1.toNatClampNeg)) a2 (mm X i13 j) _ ⟨fun e22 => absurd e22 ((e7)), fun _ => ⟨fun e23 => ⟨_, rfl, (Or.inl ⟨_, rfl, (((h24.2.1 (e14)).2 ((Classical.byContradiction e15))).1 (e23))⟩)⟩, fun e23 => ⟨h5.1, ⟨⟨h5.2.2.1.1, (vin_of h5.2.2.1.2 (((h24.2.1 (e14)).2 ((Classical.byContradiction e15))).2 (e23)).1)⟩, ⟨_, rfl, (Or.inl ⟨_, rfl, (((h24.2.1 (e14)).2 ((Classical.byContradiction e15))).2 (e23)).2⟩)⟩⟩⟩⟩⟩)⟩⟩, fun e14 => ⟨rfl, ⟨h5.1, (te_260 (d + 1) (xr X 17 (a1.toNatClampNeg)) 9 a2 (mm X i13 j) _ ⟨rfl, (p_134 (d + 1) X i13 j 9 (DO9 X) a2 _ ⟨(h24.2.2 ((Classical.byContradiction e14))).1, ⟨h5.1, ⟨h5.1, ⟨_, rfl, (Or.inl ⟨_, rfl, (h24.2.2 ((Classical.byContradiction e14))).2⟩)⟩⟩⟩⟩)⟩)⟩⟩⟩)⟩⟩, fun e12 => (tc_1419_32 (d + 2)  (mm X i j) _ (Or.inr ⟨rfl, ((((h.2.2 h4 h5).2 (e7)).2 (e9)).2 ((bi_nn e12)))⟩))⟩)⟩⟩⟩⟩⟩⟩)⟩⟩⟩)⟩)⟩
set_option maxRecDepth 100000 in
theorem s_1566 (d : Nat) (X : XS) (i : Nat → Nat → Int32) (j : Nat → Nat → Int64) (a1 : Int32) (a2 : Int32) (a3 : Int32) (K : Int32 → AM → Prop) (h : ((¬ ((nI 0) ≤ a1 ∧ a1 ≤ ((i 42 7) - (nI 1))) → K (nI 0) (mm X (s2 (s2 i 42 36 (nI 0)) 42 36 (nI 1)) j)) ∧ ((nI 0) ≤ a1 ∧ a1 ≤ ((i 42 7) - (nI 1)) → ((¬ ((nI 0) ≤ a2 ∧ a2 ≤ ((i 42 0) - (nI 1))) → K (nI 0) (mm X (s2 (s2 i 42 36 (nI 0)) 42 36 (nI 1)) j)) ∧ ((nI 0) ≤ a2 ∧ a2 ≤ ((i 42 0) - (nI 1)) → (((nI 0) ≤ a3 ∧ a3 ≤ (nI 3) → ((a3.toInt = 0 → (vp_in a2 240) ∧ (vp_in a1 4) ∧ K (((i 44 ((a2).toNatClampNeg)) - (i 48 ((a1).toNatClampNeg))) + (i 49 ((a1).toNatClampNeg))) (mm X (s2 i 42 36 (nI 0)) j)) ∧ (¬ (a3.toInt = 0) → ((a3.toInt = 1 → (∃ (x6 : Int32), EvI (d + 2) 1562 [.ref 42, .int a1, .int a2] (mm X (s2 i 42 36 (nI 0)) j) x6 (mm X (s2 i 42 36 (nI 0)) j) ∧ K x6 (mm X (s2 i 42 36 (nI 0)) j))) ∧ (¬ (a3.toInt = 1) → ((a3.toInt = 2 → (vp_in a1 4) ∧ (((i 51 ((a1).toNatClampNeg)) = 0 → (∃ (x11 : Int32), EvI (d + 1) 1562 [.ref 42, .int a1, .int a2] (mm X (s2 i 42 36 (nI 0)) j) x11 (mm X (s2 i 42 36 (nI 0)) j) ∧ K x11 (mm X (s2 i 42 36 (nI 0)) j))) ∧ (¬ ((i 51 ((a1).toNatClampNeg)) = 0) → (vp_in a2 240) ∧ K (((i 44 ((a2).toNatClampNeg)) - (i 48 ((a1).toNatClampNeg))) + (i 49 ((a1).toNatClampNeg))) (mm X (s2 i 42 36 (nI 0)) j)))) ∧ (¬ (a3.toInt = 2) → (vp_in a1 4) ∧ (((i 51 ((a1).toNatClampNeg)) = 0 → (∃ (x15 : Int32), EvI (d + 1) 1562 [.ref 42, .int a1, .int a2] (mm X (s2 i 42 36 (nI 0)) j) x15 (mm X (s2 i 42 36 (nI 0)) j) ∧ (∃ (x16 : Int32), EvI (d + 2) 1564 [.ref 42, .int a1, .int x15, .int (nI 0)] (mm X (s2 i 42 36 (nI 0)) j) x16 (mm X (s2 i 42 36 (nI 0)) j) ∧ K x16 (mm X (s2 i 42 36 (nI 0)) j)))) ∧ (¬ ((i 51 ((a1).toNatClampNeg)) = 0) → (vp_in a2 240) ∧ (∃ (x21 : Int32), EvI (d + 2) 1564 [.ref 42, .int a1, .int (((i 44 ((a2).toNatClampNeg)) - (i 48 ((a1).toNatClampNeg))) + (i 49 ((a1).toNatClampNeg))), .int (nI 0)] (mm X (s2 i 42 36 (nI 0)) j) x21 (mm X (s2 i 42 36 (nI 0)) j) ∧ K x21 (mm X (s2 i 42 36 (nI 0)) j))))))))))) ∧ (¬ ((nI 0) ≤ a3 ∧ a3 ≤ (nI 3)) → K (nI 0) (mm X (s2 (s2 i 42 36 (nI 0)) 42 36 (nI 1)) j)))))))) : WI (d + 3) 1566 [.ref 42, .int a1, .int a2, .int a3] (mm X i j) K := te_1566 (d + 2) 42 a1 a2 a3 (mm X i j) (qI K) ⟨rfl, ⟨rfl, (te_1545 (d + 1) 42 a1 (mm X (s2 i 42 36 (nI 0)) j) _ ⟨rfl, (p_1538 (d + 1) X (s2 i 42 36 (nI 0)) j a1 (nI 0) ((i 42 7) - (nI 1)) _ ⟨(bi_01 _), ⟨_, rfl, ⟨fun e1 => (tc_1566_30 (d + 2) 42 (mm X (s2 i 42 36 (nI 0)) j) _ ⟨rfl, (te_1539 (d + 2) 42 (mm X (s2 i 42 36 (nI 0)) j) _ ⟨rfl, ⟨_, rfl, ⟨_, rfl, (h.1 ((bi_z e1)))⟩⟩⟩)⟩), fun e1 => ⟨rfl, (te_1543 (d + 1) 42 a2 (mm X (s2 i 42 36 (nI 0)) j) _ ⟨rfl, (p_1538 (d + 1) X (s2 i 42 36 (nI 0)) j a2 (nI 0) ((i 42 0) - (nI 1)) _ ⟨(bi_01 _), ⟨_, rfl, ⟨fun e2 => (tc_1566_30 (d + 2) 42 (mm X (s2 i 42 36 (nI 0)) j) _ ⟨rfl, (te_1539 (d + 2) 42 (mm X (s2 i 42 36 (nI 0)) j) _ ⟨rfl, ⟨_, rfl, ⟨_, rfl, ((h.2 ((bi_n e1))).1 ((bi_z e2)))⟩⟩⟩)⟩), fun e2 => (p_1538 (d + 2) X (s2 i 42 36 (nI 0)) j a3 (nI 0) (nI 3) _ ⟨fun e3 => ⟨fun e4 => ⟨rfl, (te_1561 (d + 2) 42 a1 a2 (mm X (s2 i 42 36 (nI 0)) j) _ ⟨rfl, ⟨⟨rfl, ((((h.2 ((bi_n e1))).2 ((bi_n e2))).1 ((bi_n e3))).1 e4).1⟩, ⟨rfl, ⟨⟨rfl, ((((h.2 ((bi_n e1))).2 ((bi_n e2))).1 ((bi_n e3))).1 e4).2.1⟩, ⟨rfl, ⟨⟨rfl, ((((h.2 ((bi_n e1))).2 ((bi_n e2))).1 ((bi_n e3))).1 e4).2.1⟩, ⟨_, rfl, ⟨_, rfl, ((((h.2 ((bi_n e1))).2 ((bi_n e2))).1 ((bi_n e3))).1 e4).2.2⟩⟩⟩⟩⟩⟩⟩⟩)⟩, fun e4 => ⟨fun e5 => ⟨rfl, (Exists.elim (((((h.2 ((bi_n e1))).2 ((bi_n e2))).1 ((bi_n e3))).2 e4).1 e5) fun x6 h7 => EvI.use h7.1 ⟨_, rfl, h7.2⟩)⟩, fun e5 => ⟨fun e9 => ⟨rfl, (te_1563 (d + 1) 42 a1 a2 (mm X (s2 i 42 36 (nI 0)) j) _ ⟨rfl, ⟨⟨(Or.inl rfl), ((((((h.2 ((bi_n e1))).2 ((bi_n e2))).1 ((bi_n e3))).2 e4).2 e5).1 e9).1⟩, ⟨fun e10 => ⟨rfl, (Exists.elim (((((((h.2 ((bi_n e1))).2 ((bi_n e2))).1 ((bi_n e3))).2 e4).2 e5).1 e9).2.1 (e10)) fun x11 h12 => EvI.use h12.1 ⟨_, rfl, ⟨_, rfl, h12.2⟩⟩)⟩, fun e10 => ⟨rfl, (te_1561 (d + 1) 42 a1 a2 (mm X (s2 i 42 36 (nI 0)) j) _ ⟨rfl, ⟨⟨rfl, (((((((h.2 ((bi_n e1))).2 ((bi_n e2))).1 ((bi_n e3))).2 e4).2 e5).1 e9).2.2 (e10)).1⟩, ⟨rfl, ⟨⟨rfl, ((((((h.2 ((bi_n e1))).2 ((bi_n e2))).1 ((bi_n e3))).2 e4).2 e5).1 e9).1⟩, ⟨rfl, ⟨⟨rfl, ((((((h.2 ((bi_n e1))).2 ((bi_n e2))).1 ((bi_n e3))).2 e4).2 e5).1 e9).1⟩, ⟨_, rfl, ⟨_, rfl, ⟨_, rfl, (((((((h.2 ((bi_n e1))).2 ((bi_n e2))).1 ((bi_n e3))).2 e4).2 e5).1 e9).2.2 (e10)).2⟩⟩⟩⟩⟩⟩⟩⟩⟩)⟩⟩⟩⟩)⟩, fun e9 => ⟨rfl, (te_1563 (d + 1) 42 a1 a2 (mm X (s2 i 42 36 (nI 0)) j) _ ⟨rfl, ⟨⟨(Or.inl rfl), ((((((h.2 ((bi_n e1))).2 ((bi_n e2))).1 ((bi_n e3))).2 e4).2 e5).2 e9).1⟩, ⟨fun e14 => ⟨rfl, (Exists.elim (((((((h.2 ((bi_n e1))).2 ((bi_n e2))).1 ((bi_n e3))).2 e4).2 e5).2 e9).2.1 (e14)) fun x15 h19 => EvI.use h19.1 ⟨_, rfl, ⟨rfl, (Exists.elim h19.2 fun x16 h17 => EvI.use h17.1 ⟨_, rfl, h17.2⟩)⟩⟩)⟩, fun e14 => ⟨rfl, (te_1561 (d + 1) 42 a1 a2 (mm X (s2 i 42 36 (nI 0)) j) _ ⟨rfl, ⟨⟨rfl, (((((((h.2 ((bi_n e1))).2 ((bi_n e2))).1 ((bi_n e3))).2 e4).2 e5).2 e9).2.2 (e14)).1⟩, ⟨rfl, ⟨⟨rfl, ((((((h.2 ((bi_n e1))).2 ((bi_n e2))).1 ((bi_n e3))).2 e4).2 e5).2 e9).1⟩, ⟨rfl, ⟨⟨rfl, ((((((h.2 ((bi_n e1))).2 ((bi_n e2))).1 ((bi_n e3))).2 e4).2 e5).2 e9).1⟩, ⟨_, rfl, ⟨_, rfl, ⟨rfl, (Exists.elim (((((((h.2 ((bi_n e1))).2 ((bi_n e2))).1 ((bi_n e3))).2 e4).2 e5).2 e9).2.2 (e14)).2 fun x21 h22 => EvI.use h22.1 ⟨_, rfl, h22.2⟩)⟩⟩⟩⟩⟩⟩⟩⟩⟩)⟩⟩⟩⟩)⟩⟩⟩⟩, fun e3 => (tc_1566_30 (d + 2) 42 (mm X (s2 i 42 36 (nI 0)) j) _ ⟨rfl, (te_1539 (d + 2) 42 (mm X (s2 i 42 36 (nI 0)) j) _ ⟨rfl, ⟨_, rfl, ⟨_, rfl, (((h.2 ((bi_n e1))).2 ((bi_n e2))).2 ((bi_nn e3)))⟩⟩⟩)⟩)⟩)⟩⟩⟩)⟩)⟩⟩⟩⟩)⟩)⟩⟩
theorem k_10 (d : Nat) {X : XS} {i : Nat → Nat → Int32} {j : Nat → Nat → Int64} (h : Rel X i j) (a1 a2 a3 : Int32) {Kf : AM → Prop} (hK : Nx X Kf) : WI (d + 301) 1665 [.ref 2, .int a1, .int a2, .int a3, .ref 77] (mm X i j) (fun k M1 => WI (d + 300) 1566 [.ref 42, .int a1, .int a2, .int a3] M1 (fun b M2 => TO Kf k b.toInt64 M2)) := by
  have hrel := h
  obtain ⟨hx, ⟨⟨n, h0⟩, h1, ⟨ng, h2, no, h4⟩, ⟨tn, h3⟩, ⟨np, h5⟩, h6, ns, h7⟩, h8, hz⟩ := h
  have e1 := h2.2.1
  have e2 := h2.2.2.1
  have hng := h2.1
  have hn := h0.2.1.1.2
  have n42 : 42 ≠ xn X + 2 := by have := hx.1; omega
  refine te_1665 (d + 300) 2 a1 a2 a3 77 (mm X i j) _ ⟨rfl, ?_⟩
  have bad : (¬ (nI 0 ≤ a1 ∧ a1 ≤ nI ng - nI 1) ∨ ((nI 0 ≤ a1 ∧ a1 ≤ nI ng - nI 1) ∧ (¬ (nI 0 ≤ a2 ∧ a2 ≤ nI n - nI 1) ∨ ((nI 0 ≤ a2 ∧ a2 ≤ nI n - nI 1) ∧ ¬ (nI 0 ≤ a3 ∧ a3 ≤ nI 3))))) → WP (d + 301) 1665 (17, [(0, .ref 2), (1, .int a1), (2, .int a2), (3, .int a3), (4, .ref 77)], [], nw (mm X i j) 30 0 6) (fun r M2 => ∃ x : Int32, r = some (some (.int x)) ∧ WI (d + 300) 1566 [.ref 42, .int a1, .int a2, .int a3] M2 (fun b M2 => TO Kf x b.toInt64 M2)) := by
    intro w
    refine tc_1665_17 (d + 300) _ _ _ _ _ _ _ ⟨kI 1, rfl, ?_⟩
    rw [nw_mm hx.1 0]
    rcases w with w | ⟨w1, w2 | ⟨w2, w3⟩⟩
    · exact s_1566 _ _ _ _ _ _ _ _ (bq_t (by rw [zN_ne n42, e2]; exact w) (TO.bad hrel hK _))
    · exact s_1566 _ _ _ _ _ _ _ _ (bq_f (by rw [zN_ne n42, e2]; exact w1) (bq_t (by rw [zN_ne n42, h0.1]; exact w2) (TO.bad hrel hK _)))
    · exact s_1566 _ _ _ _ _ _ _ _ (bq_f (by rw [zN_ne n42, e2]; exact w1) (bq_f (by rw [zN_ne n42, h0.1]; exact w2) (br_f w3 (TO.bad hrel hK _))))
  have hr := rng_iff (n := n) (by omega) a2
  refine s_1419 _ X i j _ _ _ _ _ ⟨h2.gl, ?_, ?_⟩
  · rw [e1]; exact fun w => bad (Or.inl w)
  rw [e1]
  intro z hO
  refine br_c (fun y => bad (Or.inr ⟨z, Or.inl fun u => (hr.mp u).1 y⟩)) (fun y => ?_)
  rw [h0.2.1.1.1]
  refine br_c (fun y2 => bad (Or.inr ⟨z, Or.inl fun u => (hr.mp u).2 y2⟩)) (fun y2 => ?_)
  have v := hr.mpr ⟨y, y2⟩
  refine br_c (fun x => ?_) (fun x => bad (Or.inr ⟨z, Or.inr ⟨v, x⟩⟩))
  obtain ⟨g, hg, rfl⟩ := idx_of (by omega) z
  obtain ⟨t, ht, rfl⟩ := idx_of (by omega) v
  rw [tc_nI (by omega)] at hO
  rw [tc_nI (n := g) (by omega)]
  obtain ⟨-, hT, ⟨p0, p1, p2, p3⟩, -, -⟩ := h2.2.2.2 g hg
  have hPn : 77 < xr X 17 g := xt_big (X := X) (by have := hT.2.1; omega)
  obtain ⟨i1, hE1, f0, hV⟩ := c_261 0 X i j _ g hO hT 9 (DO9 X) (DT9 X) h0.2.1
  obtain ⟨v7, v6⟩ := hV t ht
  rw [p0, p1, p2, p3] at v7 v6
  have F : FrC X i i1 := fun b hb => f0 b (by omega) (by omega)
  have t34 : xt X 34 = 45 ∧ xt X 35 = 45 ∧ xt X 40 = 48 := ⟨rfl, rfl, rfl⟩
  have Z : RZ i1 := RZ_of hz (f0 34 (by omega) (by omega)) (f0 35 (by omega) (by omega))
  have r40 : i1 40 = i 40 := f0 40 (by omega) (by omega)
  have g42 : i1 42 = i 42 := F 42 (Or.inl (show 0 < 10 by decide))
  have k3 : Kp X i (s2 i1 42 36 (nI 0)) := F.kp.tr (FrR_th (X := X) (nI 0)).kp
  have fin : ∀ (x : Int32) (v : Int64), x.toInt64 = v → TO Kf (kI 0) x.toInt64 (mm X (s2 i1 42 36 (nI 0)) (s2 j 77 0 v)) := fun x v e => ⟨_, _, _, rfl, by rw [s2_self]; rfl, fun _ => by rw [s2_self, e], hK.k (fin_row (hrel.ou (nI 0).toInt64) F Z (FrR_th (nI 0)) (by
    obtain ⟨L, l0, l1, l2, l3⟩ := h8
    refine ⟨L, l0, ?_, ?_, fun q hq => ?_⟩
    · rw [s2_ne (show 40 ≠ 42 by decide), r40]; exact l1
    · rw [s2_ne2 (show 35 ≠ 36 by decide), g42]; exact l2
    · rw [s2_ne (show 41 ≠ 77 by decide), s2_ne (show 70 ≠ 77 by decide)]; exact l3 q hq))⟩
  have q44 : (s2 i1 42 36 (nI 0)) 44 = i 44 := xt_c k3 44 0 rfl rfl (by decide)
  have q48 : (s2 i1 42 36 (nI 0)) 48 = i 48 := xt_c k3 48 0 rfl rfl (by decide)
  have q49 : (s2 i1 42 36 (nI 0)) 49 = i 49 := xt_c k3 49 0 rfl rfl (by decide)
  have q51 : (s2 i1 42 36 (nI 0)) 51 = i 51 := xt_c k3 51 0 rfl rfl (by decide)
  have u44 : i1 44 = i 44 := xt_c F.kp 44 0 rfl rfl (by decide)
  have u48 : i1 48 = i 48 := xt_c F.kp 48 0 rfl rfl (by decide)
  have u49 : i1 49 = i 49 := xt_c F.kp 49 0 rfl rfl (by decide)
  have u51 : i1 51 = i 51 := xt_c F.kp 51 0 rfl rfl (by decide)
  have z3 : nI 0 ≤ nI g ∧ nI g ≤ i1 42 7 - nI 1 := by rw [g42, e2]; exact z
  have v3 : nI 0 ≤ nI t ∧ nI t ≤ i1 42 0 - nI 1 := by rw [g42, h0.1]; exact v
  have hin4 : vp_in (nI g) 4 := vp_in_nI (by omega) (by decide)
  have hin : vp_in (nI t) 240 := vp_in_nI (by omega) (by decide)
  have hE6 : ∀ j, EvI 1 1562 [.ref 42, .int (nI g), .int (nI t)] (mm X (s2 i1 42 36 (nI 0)) j) (hdR i (i 44) g t) (mm X (s2 i1 42 36 (nI 0)) j) := fun j => by
    have := c_1562 0 X (s2 i1 42 36 (nI 0)) j (g := g) (t := t) (by omega) (by omega)
    rw [q44, hdR_kp k3] at this
    exact this
  have tr : i 44 t - i 48 g + i 49 g = trv (i 44) (i 48 g) (i 49 g) t := by unfold trv; grind
  have d44 : i 11 t = i 44 t := (h0.2.1.2 t ht).2.1
  refine ⟨i1, hE1.up (by omega), ?_⟩
  obtain ⟨m, hm, rfl⟩ := of_rng (by decide) x
  have wrap : ∀ x, (WI (d + 300) 1566 [.ref 42, .int (nI g), .int (nI t), .int (nI m)] (mm X i1 (s2 j 77 0 x.toInt64)) (fun b M2 => TO Kf (kI 0) b.toInt64 M2)) → WP (d + 301) 1665 (10, [(0, .ref 2), (1, .int (nI g)), (2, .int (nI t)), (3, .int (nI m)), (4, .ref 77)], [.int x, .int (kI 0), .ref 77], mm X i1 j) (fun r M2 => ∃ x : Int32, r = some (some (.int x)) ∧ WI (d + 300) 1566 [.ref 42, .int (nI g), .int (nI t), .int (nI m)] M2 (fun b M2 => TO Kf x b.toInt64 M2)) := fun x hw => by
    refine tc_1665_10 (d + 300) _ _ _ _ _ _ _ _ _ _ ⟨kd77 _ _ _, kI 0, rfl, ?_⟩
    rw [sl77]; exact hw
  match m, hm with
  | 0, _ =>
    refine bq_f rfl ⟨?_, wrap _ ?_⟩
    · rw [F 9 (Or.inl (show 0 < 10 by decide)), h0.2.1.1.1]; exact nI_le hn (by decide)
    · rw [F 9 (Or.inl (show 0 < 10 by decide)), F 11 (Or.inl (show 0 < 10 by decide)), dyv_nI (n := n) h0.2.1.1.1 (by omega) (by omega), wv_in ht, d44, F _ (Or.inr (Or.inl (by have := hT.2.1; omega))), p0, p1]
      refine s_1566 _ _ _ _ _ _ _ _ (bq_f z3 (bq_f v3 (br_t x (br_t (by decide) ⟨hin, hin4, ?_⟩))))
      rw [tc_nI (by omega), tc_nI (by omega), u44, u48, u49, tr]
      exact fin _ _ rfl
  | 1, _ =>
    refine bq_t (by decide) (bq_f rfl (br_f (nI_ge (by omega) (by decide)) ⟨hin, wrap _ ?_⟩))
    rw [tc_nI (by omega), v6]
    exact s_1566 _ _ _ _ _ _ _ _ (bq_f z3 (bq_f v3 (br_t x (br_f (by decide) (br_t (by decide) ⟨_, (hE6 _).up (by omega), fin _ _ rfl⟩)))))
  | 2, _ =>
    refine bq_t (by decide) (bq_t (by decide) (bq_f rfl (br_f (nI_ge (by omega) (by decide)) ⟨hin, wrap _ ?_⟩)))
    rw [tc_nI (by omega), v7]
    refine s_1566 _ _ _ _ _ _ _ _ (bq_f z3 (bq_f v3 (br_t x (br_f (by decide) (br_f (by decide) (br_t (by decide) ⟨hin4, ?_⟩))))))
    rw [tc_nI (by omega), tc_nI (by omega), u44, u48, u49, u51, tr]
    refine br_c (fun u => ⟨_, (hE6 _).up (by omega), ?_⟩) (fun u => ⟨hin, ?_⟩)
    · rw [rdv_0 u]; exact fin _ _ rfl
    · rw [rdv_1 u]; exact fin _ _ rfl
  | 3, _ =>
    have c5 := c_265w 0 X i1 j (h2.kp F.kp) hg t (by omega) (nI 0)
    rw [v7, wdR_kp F.kp] at c5
    refine bq_t (by decide) (bq_t (by decide) (bq_t (by decide) ⟨_, c5.up (by omega), wrap _ ?_⟩))
    refine s_1566 _ _ _ _ _ _ _ _ (bq_f z3 (bq_f v3 (br_t x (br_f (by decide) (br_f (by decide) (br_f (by decide) ⟨hin4, ?_⟩))))))
    rw [tc_nI (by omega), tc_nI (by omega), u44, u48, u49, u51, tr]
    have c6 := fun j v => c_1564w 0 X (s2 i1 42 36 (nI 0)) j (h2.kp k3) hg v (nI 0)
    simp only [wdR_kp k3] at c6
    refine br_c (fun u => ⟨_, (hE6 _).up (by omega), _, (c6 _ _).up (by omega), ?_⟩) (fun u => ⟨hin, _, (c6 _ _).up (by omega), ?_⟩)
    · rw [rdv_0 u]; exact fin _ _ rfl
    · rw [rdv_1 u]; exact fin _ _ rfl
