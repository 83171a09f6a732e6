/-! ===== truly ===== -/
set_option maxRecDepth 100000 in
theorem s_1438 (d : Nat) (X : XS) (i : Nat → Nat → Int32) (j : Nat → Nat → Int64) (a1 : Int32) (a2 : Int32) (a3 : Int32) (a4 : Int32) (K : Int32 → AM → Prop) (E : AM → Prop) (h : (PSs X i) ∧ ((¬ ((nI 0) ≤ a1 ∧ a1 ≤ ((i 2 9) - (nI 1)))) → E (nw (mm X i j) 30 0 6)) ∧ (((nI 0) ≤ a1 ∧ a1 ≤ ((i 2 9) - (nI 1))) → (PO X (xr X 24 (a1.toNatClampNeg))) → ((¬ ((nI 1) ≤ a2 ∧ a2 ≤ ((shlI (nI 1) (i 2 7)) - (nI 1))) → E (nw (mm X i j) 30 0 6)) ∧ ((nI 1) ≤ a2 ∧ a2 ≤ ((shlI (nI 1) (i 2 7)) - (nI 1)) → ((((nI 1) ≤ a3 ∧ a3 ≤ (nI 3)) ∧ ((nI 1) ≤ a4 ∧ a4 ≤ (nI 9)) → (∃ (i9 : Nat → Nat → Int32), EvV (d + 4) 1476 [.ref 2, .ref 9, .int a2, .int a3, .int a4] (mm X i j) (mm X i9 j) ∧ (∃ (x10 : Int32), EvI (d + 4) 777 [.ref 31, .ref (xr X 24 (a1.toNatClampNeg)), .int ((i9 31 2) / (nI 2))] (mm X i9 j) x10 (mm X i9 j) ∧ (∃ (x12 : Int32), ∃ (i11 : Nat → Nat → Int32), EvI (d + 4) 782 [.ref 31, .ref (xr X 24 (a1.toNatClampNeg)), .int a2, .int ((i9 31 2) / (nI 2))] (mm X i9 j) x12 (mm X i11 j) ∧ K (x10 - x12) (mm X (s2 (s2 (s2 i11 40 1 (nI 0)) 40 1 (nI 1)) 40 1 (nI 2)) (s2 (s2 j 41 0 (x10.toInt64)) 41 1 (x12.toInt64))))))) ∧ (¬ (((nI 1) ≤ a3 ∧ a3 ≤ (nI 3)) ∧ ((nI 1) ≤ a4 ∧ a4 ≤ (nI 9))) → E (nw (mm X i j) 30 0 6))))))) : WX (d + 5) 1438 [.ref 2, .int a1, .int a2, .int a3, .int a4] (mm X i j) K E := te_1438 (d + 4) 2 a1 a2 a3 a4 (mm X i j) (qX K E) ⟨rfl, (p_1469 (d + 3) X i j a1 _ ⟨h.1, (fun h2 => ⟨fun _ => (tc_1438_29 (d + 4)  (mm X i j) _ (Or.inr ⟨rfl, (h.2.1 h2)⟩)), fun e3 => absurd rfl e3⟩), (fun h4 h5 => ⟨fun e6 => absurd e6 (nz_k (h5)), fun _ => ⟨rfl, (te_1470 (d + 3) 2 a2 (mm X i j) _ ⟨rfl, (p_1462 (d + 3) X i j a2 (nI 1) ((shlI (nI 1) (i 2 7)) - (nI 1)) _ ⟨(bi_01 _), ⟨_, rfl, ⟨fun e7 => (tc_1438_29 (d + 4)  (mm X i j) _ (Or.inr ⟨rfl, ((h.2.2 h4 h5).1 ((bi_z e7)))⟩)), fun e7 => (p_1464 (d + 3) X i j a3 a4 _ ⟨fun e8 => ⟨rfl, ⟨rfl, (Exists.elim (((h.2.2 h4 h5).2 ((bi_n e7))).1 ((bi_n e8))) fun i9 h20 => EvV.use h20.1 ⟨rfl, ⟨rfl, (te_771 (d + 4) 31 (mm X i9 j) _ ⟨rfl, ⟨_, rfl, ⟨(by decide), ⟨rfl, ⟨rfl, (Exists.elim h20.2 fun x10 h18 => EvI.use h18.1 ⟨rfl, ⟨rfl, (Exists.elim h18.2 fun x12 h15 => Exists.elim h15 fun i11 h16 => EvI.use h16.1 ⟨rfl, ⟨rfl, (te_641 (d + 4) 40 (mm X i11 j) _ ⟨rfl, ⟨rfl, ⟨rfl, ⟨rfl, (te_642 (d + 4) 40 (x10.toInt64) (mm X (s2 i11 40 1 (nI 0)) j) _ ⟨rfl, ⟨fun e13 => absurd e13 (show ¬ ((nI 20) ≤ (nI 0)) by decide), fun _ => ⟨rfl, ⟨rfl, ⟨⟨rfl, (vpk 0 20 rfl)⟩, ⟨rfl, ⟨rfl, ⟨rfl, ⟨rfl, ⟨rfl, (te_642 (d + 4) 40 (x12.toInt64) (mm X (s2 (s2 i11 40 1 (nI 0)) 40 1 (nI 1)) (s2 j 41 0 (x10.toInt64))) _ ⟨rfl, ⟨fun e14 => absurd e14 (show ¬ ((nI 20) ≤ (nI 1)) by decide), fun _ => ⟨rfl, ⟨rfl, ⟨⟨rfl, (vpk 1 20 rfl)⟩, ⟨rfl, ⟨rfl, ⟨rfl, (Or.inl ⟨_, rfl, h16.2⟩)⟩⟩⟩⟩⟩⟩⟩⟩)⟩⟩⟩⟩⟩⟩⟩⟩⟩⟩)⟩⟩⟩⟩)⟩⟩)⟩⟩)⟩⟩⟩⟩⟩)⟩⟩)⟩⟩, fun e8 => (tc_1438_29 (d + 4)  (mm X i j) _ (Or.inr ⟨rfl, (((h.2.2 h4 h5).2 ((bi_n e7))).2 ((bi_nn e8)))⟩))⟩)⟩⟩⟩)⟩)⟩⟩)⟩)⟩
set_option maxRecDepth 100000 in
theorem s_1612 (d : Nat) (X : XS) (i : Nat → Nat → Int32) (j : Nat → Nat → Int64) (a1 : Int32) (a2 : Int32) (a3 : Int32) (a4 : Int32) (K : Int32 → AM → Prop) (h : ((¬ ((nI 0) ≤ a1 ∧ a1 ≤ ((i 42 18) - (nI 1))) → K (nI 0) (mm X (s2 (s2 i 42 36 (nI 0)) 42 36 (nI 1)) j)) ∧ ((nI 0) ≤ a1 ∧ a1 ≤ ((i 42 18) - (nI 1)) → ((¬ ((nI 1) ≤ a2 ∧ a2 ≤ ((shlI (nI 1) (i 42 14)) - (nI 1))) → K (nI 0) (mm X (s2 (s2 i 42 36 (nI 0)) 42 36 (nI 1)) j)) ∧ ((nI 1) ≤ a2 ∧ a2 ≤ ((shlI (nI 1) (i 42 14)) - (nI 1)) → ((((nI 1) ≤ a3 ∧ a3 ≤ (nI 3)) ∧ ((nI 1) ≤ a4 ∧ a4 ≤ (nI 9)) → (∃ (i4 : Nat → Nat → Int32), EvV (d + 261) 1589 [.ref 42, .int a2, .int a3, .int a4] (mm X (s2 i 42 36 (nI 0)) j) (mm X i4 j) ∧ (∃ (x5 : Int32), EvI (d + 260) 1603 [.ref 42, .int a1, .int (nI 1), .int (nI 0), .int ((i4 42 46) / (nI 2))] (mm X i4 j) x5 (mm X i4 j) ∧ (∃ (x6 : Int32), EvI (d + 260) 1603 [.ref 42, .int a1, .int (nI 0), .int (nI 0), .int ((i4 42 46) / (nI 2))] (mm X i4 j) x6 (mm X i4 j) ∧ ((x6 ≤ x5 → (∃ (x8 : Int32), EvI (d + 261) 1603 [.ref 42, .int a1, .int (nI 0), .int ((i4 42 46) / (nI 2)), .int (i4 42 46)] (mm X i4 j) x8 (mm X i4 j) ∧ WP (d + 262) 1612 (79, [(0, .ref 42), (1, .int a1), (2, .int a2), (5, .int ((i4 42 46) / (nI 2))), (6, .int x8), (7, .int (nI 0)), (8, .int ((i4 42 46) / (nI 2)))], [], (mm X i4 j)) (qI K))) ∧ (¬ (x6 ≤ x5) → (∃ (x11 : Int32), EvI (d + 261) 1603 [.ref 42, .int a1, .int (nI 1), .int ((i4 42 46) / (nI 2)), .int (i4 42 46)] (mm X i4 j) x11 (mm X i4 j) ∧ WP (d + 262) 1612 (79, [(0, .ref 42), (1, .int a1), (2, .int a2), (5, .int ((i4 42 46) / (nI 2))), (6, .int x11), (7, .int (nI 0)), (8, .int ((i4 42 46) / (nI 2)))], [], (mm X i4 j)) (qI K)))))))) ∧ (¬ (((nI 1) ≤ a3 ∧ a3 ≤ (nI 3)) ∧ ((nI 1) ≤ a4 ∧ a4 ≤ (nI 9))) → K (nI 0) (mm X (s2 (s2 i 42 36 (nI 0)) 42 36 (nI 1)) j)))))))) : WI (d + 262) 1612 [.ref 42, .int a1, .int a2, .int a3, .int a4] (mm X i j) K := te_1612 (d + 261) 42 a1 a2 a3 a4 (mm X i j) (qI K) ⟨rfl, ⟨rfl, (te_1547 (d + 260) 42 a1 (mm X (s2 i 42 36 (nI 0)) j) _ ⟨rfl, (p_1538 (d + 260) X (s2 i 42 36 (nI 0)) j a1 (nI 0) ((i 42 18) - (nI 1)) _ ⟨(bi_01 _), ⟨_, rfl, ⟨fun e1 => (tc_1612_30 (d + 261) 42 (mm X (s2 i 42 36 (nI 0)) j) _ ⟨rfl, (te_1539 (d + 261) 42 (mm X (s2 i 42 36 (nI 0)) j) _ ⟨rfl, ⟨_, rfl, ⟨_, rfl, (h.1 ((bi_z e1)))⟩⟩⟩)⟩), fun e1 => ⟨rfl, (te_1609 (d + 260) 42 a2 (mm X (s2 i 42 36 (nI 0)) j) _ ⟨rfl, (p_1538 (d + 260) X (s2 i 42 36 (nI 0)) j a2 (nI 1) ((shlI (nI 1) (i 42 14)) - (nI 1)) _ ⟨(bi_01 _), ⟨_, rfl, ⟨fun e2 => (tc_1612_30 (d + 261) 42 (mm X (s2 i 42 36 (nI 0)) j) _ ⟨rfl, (te_1539 (d + 261) 42 (mm X (s2 i 42 36 (nI 0)) j) _ ⟨rfl, ⟨_, rfl, ⟨_, rfl, ((h.2 ((bi_n e1))).1 ((bi_z e2)))⟩⟩⟩)⟩), fun e2 => (p_1588 (d + 260) X (s2 i 42 36 (nI 0)) j a3 a4 _ ⟨fun e3 => ⟨rfl, (Exists.elim (((h.2 ((bi_n e1))).2 ((bi_n e2))).1 ((bi_n e3))) fun i4 h18 => EvV.use h18.1 ⟨rfl, ⟨(by decide), ⟨rfl, (te_1604 (d + 260) 42 a1 (nI 0) ((i4 42 46) / (nI 2)) (mm X i4 j) _ ⟨rfl, (Exists.elim h18.2 fun x5 h16 => EvI.use h16.1 ⟨rfl, (Exists.elim h16.2 fun x6 h14 => EvI.use h14.1 ⟨fun e7 => ⟨k0_01, ⟨_, rfl, ⟨rfl, ⟨rfl, (Exists.elim (h14.2.1 (e7)) fun x8 h9 => EvI.use h9.1 h9.2)⟩⟩⟩⟩, fun e7 => ⟨k1_01, ⟨_, rfl, ⟨rfl, ⟨rfl, (Exists.elim (h14.2.2 (e7)) fun x11 h12 => EvI.use h12.1 h12.2)⟩⟩⟩⟩⟩)⟩)⟩)⟩⟩⟩)⟩, fun e3 => (tc_1612_30 (d + 261) 42 (mm X (s2 i 42 36 (nI 0)) j) _ ⟨rfl, (te_1539 (d + 261) 42 (mm X (s2 i 42 36 (nI 0)) j) _ ⟨rfl, ⟨_, rfl, ⟨_, rfl, (((h.2 ((bi_n e1))).2 ((bi_n e2))).2 ((bi_nn e3)))⟩⟩⟩)⟩)⟩)⟩⟩⟩)⟩)⟩⟩⟩⟩)⟩)⟩⟩
set_option maxRecDepth 100000 in
theorem s_1612_79 (d : Nat) (X : XS) (i : Nat → Nat → Int32) (j : Nat → Nat → Int64) (v1 : Int32) (v2 : Int32) (v5 : Int32) (v6 : Int32) (v7 : Int32) (v8 : Int32) (Q : Option (Option Value) → AM → Prop) (h : (((i 42 46) ≤ v8 → Q (some (some (.int (v6 - v7)))) (mm X (s2 (s2 (s2 i 42 35 (nI 0)) 42 35 (nI 1)) 42 35 (nI 2)) (s2 (s2 j 70 0 (v6.toInt64)) 70 1 (v7.toInt64)))) ∧ (¬ ((i 42 46) ≤ v8) → (vp_in v8 240) ∧ (∃ (P21 : Prop), EvI (d + 261) 1606 [.ref 42, .int v1, .int v2, .int ((i 72 ((v8).toNatClampNeg)) &&& v2), .int v5] (mm X i j) (bi P21) (mm X i j) ∧ (vp_in v1 6) ∧ WP (d + 262) 1612 (79, [(0, .ref 42), (1, .int v1), (2, .int v2), (5, .int v5), (6, .int v6), (7, .int (v7 + (rcI (bi P21) (i 73 ((v8).toNatClampNeg)) (i 57 (v1.toNatClampNeg)) (i 58 (v1.toNatClampNeg)) (i 59 (v1.toNatClampNeg))))), (8, .int (v8 + (nI 1)))], [], (mm X i j)) Q)))) : WP (d + 262) 1612 (79, [(0, .ref 42), (1, .int v1), (2, .int v2), (5, .int v5), (6, .int v6), (7, .int v7), (8, .int v8)], [], mm X i j) Q := tc_1612_79 (d + 261) 42 v1 v2 v5 v6 v7 v8 (mm X i j) Q ⟨rfl, ⟨fun e20 => ⟨rfl, ⟨rfl, (te_1540 (d + 261) 42 (v6.toInt64) (mm X (s2 i 42 35 (nI 0)) j) _ ⟨rfl, ⟨rfl, ⟨⟨rfl, (vpk 0 32 rfl)⟩, ⟨rfl, ⟨rfl, ⟨rfl, ⟨rfl, (te_1540 (d + 261) 42 (v7.toInt64) (mm X (s2 (s2 i 42 35 (nI 0)) 42 35 (nI 1)) (s2 j 70 0 (v6.toInt64))) _ ⟨rfl, ⟨rfl, ⟨⟨rfl, (vpk 1 32 rfl)⟩, ⟨rfl, ⟨rfl, ⟨rfl, (h.1 (e20))⟩⟩⟩⟩⟩⟩)⟩⟩⟩⟩⟩⟩⟩)⟩⟩, fun e20 => ⟨rfl, ⟨⟨rfl, (h.2 (e20)).1⟩, ⟨rfl, (Exists.elim (h.2 (e20)).2 fun P21 h22 => EvI.use h22.1 ⟨rfl, ⟨⟨(Or.inl rfl), (h.2 (e20)).1⟩, ⟨rfl, (p_1602 (d + 261) X i j v1 (bi P21) (i 73 ((v8).toNatClampNeg)) _ ⟨h22.2.1, h22.2.2⟩)⟩⟩⟩)⟩⟩⟩⟩⟩
theorem k_29 (d : Nat) {X : XS} {i : Nat → Nat → Int32} {j : Nat → Nat → Int64} (h : Rel X i j) (a1 a2 a3 a4 : Int32) {Kf : AM → Prop} (hK : Nx X Kf) : WI (d + 301) 1667 [.ref 2, .int a1, .int a2, .int a3, .int a4, .ref 77] (mm X i j) (fun k M1 => WI (d + 300) 1612 [.ref 42, .int a1, .int a2, .int a3, .int a4] M1 (fun b M2 => TO Kf k b.toInt64 M2)) := by
  have hrel := h
  obtain ⟨hx, ⟨⟨n, h0⟩, h1, ⟨ng, h2, no, h4⟩, ⟨tn, h3⟩, ⟨np, h5⟩, h6, ns, h7⟩, h8, hz⟩ := h
  have e1 := h5.2.1
  have e2 := h5.2.2.1
  have hnp := h5.1
  have hn := h0.2.1.1.2
  have g2 : i 2 7 = i 42 14 := by rw [h4.2.1, h4.2.2.1]
  have n42 : 42 ≠ xn X + 2 := by have := hx.1; omega
  refine te_1667 (d + 300) 2 a1 a2 a3 a4 77 (mm X i j) _ ⟨rfl, ?_⟩
  have bad : (¬ (nI 0 ≤ a1 ∧ a1 ≤ nI np - nI 1) ∨ ((nI 0 ≤ a1 ∧ a1 ≤ nI np - nI 1) ∧ (¬ (nI 1 ≤ a2 ∧ a2 ≤ shlI (nI 1) (i 42 14) - nI 1) ∨ ((nI 1 ≤ a2 ∧ a2 ≤ shlI (nI 1) (i 42 14) - nI 1) ∧ ¬ ((nI 1 ≤ a3 ∧ a3 ≤ nI 3) ∧ (nI 1 ≤ a4 ∧ a4 ≤ nI 9)))))) → WP (d + 301) 1667 (19, [(0, .ref 2), (1, .int a1), (2, .int a2), (3, .int a3), (4, .int a4), (5, .ref 77)], [], nw (mm X i j) 30 0 6) (fun r M2 => ∃ x : Int32, r = some (some (.int x)) ∧ WI (d + 300) 1612 [.ref 42, .int a1, .int a2, .int a3, .int a4] M2 (fun b M2 => TO Kf x b.toInt64 M2)) := by
    intro w
    refine tc_1667_19 (d + 300) _ _ _ _ _ _ _ _ ⟨kI 1, rfl, ?_⟩
    rw [nw_mm hx.1 0]
    rcases w with w | ⟨w1, w2 | ⟨w2, w3⟩⟩
    · exact s_1612 _ _ _ _ _ _ _ _ _ (bq_t (by rw [zN_ne n42, e2]; exact w) (TO.bad hrel hK _))
    · exact s_1612 _ _ _ _ _ _ _ _ _ (bq_f (by rw [zN_ne n42, e2]; exact w1) (bq_t (by rw [zN_ne n42]; exact w2) (TO.bad hrel hK _)))
    · exact s_1612 _ _ _ _ _ _ _ _ _ (bq_f (by rw [zN_ne n42, e2]; exact w1) (bq_f (by rw [zN_ne n42]; exact w2) (br_f w3 (TO.bad hrel hK _))))
  refine s_1438 _ X i j _ _ _ _ _ _ ⟨h5.ps, ?_, ?_⟩
  · rw [e1]; exact fun w => bad (Or.inl w)
  rw [e1]
  intro z hO
  have z2 : nI 0 ≤ a1 ∧ a1 ≤ i 42 18 - nI 1 := by rw [e2]; exact z
  rw [g2]
  refine bq_c (fun y => bad (Or.inr ⟨z, Or.inl y⟩)) (fun y => br_c (fun v => ?_) (fun v => bad (Or.inr ⟨z, Or.inr ⟨y, v⟩⟩)))
  obtain ⟨p, hp, rfl⟩ := idx_of (by omega) z
  rw [tc_nI (by omega)] at hO ⊢
  obtain ⟨-, hPT, ⟨q0, q1, q2, q3, q4⟩, -, b4⟩ := h5.2.2.2 p hp
  obtain ⟨q, hq1, hq, rfl⟩ := ev_rng (by decide) v.2
  obtain ⟨i1, hE1, f1, z1, r40, hL, hS⟩ := lov 0 X i j h0 h2 h4 hz a2 a3 hq
  refine ⟨i1, hE1.up (by omega), ?_⟩
  have hPn := xtNe hPT
  have hB : SB (n - q) (soF X i no a2) := soF_B h4.1 a2
  obtain ⟨ca, hca⟩ : ∃ ca, ca = caF i n a3 q := ⟨_, rfl⟩
  obtain ⟨so, hso⟩ : ∃ so, so = soF X i no a2 := ⟨_, rfl⟩
  obtain ⟨kn, hkn⟩ : ∃ kn, kn = n - q := ⟨_, rfl⟩
  obtain ⟨m, hm⟩ : ∃ m, m = kn / 2 := ⟨_, rfl⟩
  have hmk : m ≤ kn := by omega
  rw [← hca, ← hso, ← hkn] at hS
  rw [← hso, ← hkn] at hB
  have e2' : nI kn / nI 2 = nI m := by rw [pk_div (by omega) (by decide) (by decide), hm]
  rw [hS.1, e2']
  have c7 := c_777 0 X i1 j _ hO hS hmk
  rw [kpP f1.kp hPT, q0, q1, q2] at c7
  obtain ⟨i2, c8, g34, z3⟩ := c_782 0 X i1 j _ hO (by omega) hS hB z1 hmk a2
  rw [kpP f1.kp hPT, q0, q1, q2] at c8
  refine ⟨_, c7.up (by omega), _, i2, c8.up (by omega), ?_⟩
  obtain ⟨BL, hBL⟩ : ∃ BL, BL = coI (saP (i 57 p) (i 58 p) (i 59 p) (nI m) (nI (ct ca m))) (i 57 p) (i 58 p) (i 59 p) (nI (kn - m)) (nI (ct ca kn) - nI (ct ca m)) := ⟨_, rfl⟩
  obtain ⟨LR, hLR⟩ : ∃ LR, LR = lrn (i 57 p) (i 58 p) (i 59 p) so ca a2 m kn := ⟨_, rfl⟩
  rw [← hBL, ← hLR]
  refine tc_1667_12 (d + 300) _ _ _ _ _ _ _ _ _ _ _ ⟨kd77 _ _ _, kI 0, rfl, ?_⟩
  rw [sl77]
  obtain ⟨i3, hi3⟩ : ∃ i3, i3 = s2 (s2 (s2 i2 40 1 (nI 0)) 40 1 (nI 1)) 40 1 (nI 2) := ⟨_, rfl⟩
  rw [← hi3]
  have f3 : ∀ b, b ≠ 40 → i3 b = i2 b := fun b hb => by rw [hi3, s2_ne hb, s2_ne hb, s2_ne hb]
  obtain ⟨j3, hj3⟩ : ∃ j3, j3 = s2 (s2 (s2 j 41 0 BL.toInt64) 41 1 LR.toInt64) 77 0 (BL - LR).toInt64 := ⟨_, rfl⟩
  rw [← hj3]
  have F2 : FrC X i i2 := f1.tr (FrC_sv (fun b _ h2 h3 => g34 b h2 h3))
  have F : FrC X i i3 := F2.tr (FrC_40 f3)
  have Z : RZ i3 := RZ_of z3 (f3 34 (by decide)) (f3 35 (by decide))
  have g42 : i3 42 = i 42 := F 42 (Or.inl (show 0 < 10 by decide))
  refine s_1612 _ X i3 j3 _ _ _ _ _ (bq_f (by rw [g42]; exact z2) (bq_f (by rw [g42]; exact y) (br_t v ?_)))
  obtain ⟨i4, hE4, f4, -, p46, -, -, p72, p73⟩ := prpv 0 X i (s2 i3 42 36 (nI 0)) j3 h0 h2 h4 (F.kp.tr (FrR_th (X := X) (nI 0)).kp) a2 a3 hq
  rw [← hca, ← hkn] at p73
  rw [← hso] at p72
  rw [← hkn] at p46
  refine ⟨i4, hE4.up (by omega), ?_⟩
  have k4 : Kp X i i4 := F.kp.tr ((FrR_th (nI 0)).tr f4.fr).kp
  obtain ⟨w57, w58, w59, -, -⟩ := p57 k4
  have c1 := cb_1603 0 X i4 j3 (p := p) (kn := m) (ca := ca) (by omega) bT (by omega) (fun t ht => p73 t (by omega))
  have c2 := cb_1603 0 X i4 j3 (p := p) (kn := m) (ca := ca) (by omega) bF (by omega) (fun t ht => p73 t (by omega))
  have c3 := c_1603 0 X i4 j3 (p := p) (u := m) (v := kn) (ca := ca) (P := True) (by omega) bT hmk (by omega) p73
  have c4 := c_1603 0 X i4 j3 (p := p) (u := m) (v := kn) (ca := ca) (P := False) (by omega) bF hmk (by omega) p73
  rw [w57, w58, w59] at c1 c2 c3 c4
  rw [p46, e2']
  refine ⟨_, c1.up (by omega), _, c2.up (by omega), ?_⟩
  rw [saN]
  have last : WP (d + 300) 1612 (79, [(0, .ref 42), (1, .int (nI p)), (2, .int a2), (5, .int (nI m)), (6, .int BL), (7, .int (nI 0)), (8, .int (nI m))], [], mm X i4 j3) (qI fun b M2 => TO Kf (kI 0) b.toInt64 M2) := by
    refine lup kn (fun t (z : Int32) => m ≤ t ∧ z = lrn (i 57 p) (i 58 p) (i 59 p) so ca a2 m t) (fun t z => (79, [(0, .ref 42), (1, .int (nI p)), (2, .int a2), (5, .int (nI m)), (6, .int BL), (7, .int z), (8, .int (nI t))], [], mm X i4 j3)) ?_ ?_ m (nI 0) hmk ⟨Nat.le_refl _, by unfold lrn; rw [Nat.sub_self]; rfl⟩
    · rintro z ⟨-, rfl⟩
      rw [← hLR]
      refine s_1612_79 _ X i4 j3 _ _ _ _ _ _ _ (br_t (by rw [p46]; exact Int32.le_refl _) (qI_of ⟨_, _, _, rfl, ?_, fun _ => ?_, hK.k (fin_row (hrel.ou (nI 0).toInt64) F Z (((FrR_th (nI 0)).tr f4.fr).tr (FrR_42 (fun b hb => by rw [s2_ne hb, s2_ne hb, s2_ne hb]) (fun k hk => by rw [s2_ne2 (by omega), s2_ne2 (by omega), s2_ne2 (by omega)]))) (r8_of 2 (by decide) ?_ (s2_self _ _ _ _) ?_))⟩))
      · rw [s2_ne2 (by decide), s2_ne2 (by decide), s2_ne2 (by decide), f4.2 36 (by decide), s2_self]; rfl
      · rw [s2_ne (show 77 ≠ 70 by decide), s2_ne (show 77 ≠ 70 by decide), hj3, s2_self]
      · rw [s2_ne (show 40 ≠ 42 by decide), s2_ne (show 40 ≠ 42 by decide), s2_ne (show 40 ≠ 42 by decide), f4.1 40 (show ¬ (48 : Nat) = 40 by decide) (by decide), s2_ne (show 40 ≠ 42 by decide), hi3, s2_self]
      · intro t ht
        rw [hj3]
        match t, ht with
        | 0, _ => simp [s2_ap]
        | 1, _ => simp [s2_ap]
    · rintro t z ht ⟨hmt, rfl⟩ go
      have c6 := c_1606 0 X i4 j3 (p := p) (n := m) (so := so) (ca := ca) (by omega) (by omega) (fun t ht => p72 t (by omega)) (fun t ht => p73 t (by omega)) a2 (so t &&& a2)
      rw [w57, w58, w59] at c6
      refine s_1612_79 _ X i4 j3 _ _ _ _ _ _ _ (br_f (by rw [p46]; exact nI_ge ht (by omega)) ⟨vp_in_nI (by omega) (by decide), ?_⟩)
      rw [tc_nI (by omega), p72 t (by omega), p73 t ht, tc_nI (by omega), w57, w58, w59, nI_add]
      exact ⟨_, c6.up (by omega), vp_in_nI (by omega) (by decide), go _ ⟨by omega, (lrn_s hmt).symm⟩⟩
  by_cases hb : saP (i 57 p) (i 58 p) (i 59 p) (nI m) (nI (ct ca m))
  · rw [coP hb] at hBL
    rw [hBL] at last
    exact br_f (fun u => u hb) ⟨_, c3.up (by omega), last⟩
  · rw [coN hb] at hBL
    rw [hBL] at last
    exact br_t hb ⟨_, c4.up (by omega), last⟩
