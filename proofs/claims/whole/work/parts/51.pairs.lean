/-! ===== two glasses: differ, right ===== -/
noncomputable def WD (i : Nat → Nat → Int32) (n g : Nat) (sh : Int32) (t : Nat) : Int32 := wdR i g sh (rdR i (i 44) g t)
theorem gov (d : Nat) (X : XS) (i : Nat → Nat → Int32) (j : Nat → Nat → Int64) {n ng : Nat} (h0 : R0 X i n) (h2 : R2 X i ng) (hz : RZ i) :
    ∃ i1, EvV (d + 3) 1473 [.ref 2, .ref 9] (mm X i j) (mm X i1 j) ∧ FrC X i i1 ∧ RZ i1 ∧ i1 40 = i 40 ∧ LK X i1 ng n (i 44) ∧ i1 9 = i 9 := by
  obtain ⟨i1, hE, hf, hL⟩ := c_1473 d X i j h2 9 (DO9 X) (DT9 X) h0.2.1
  refine ⟨i1, hE, fun b hb => hf b (by omega), RZ_of hz (hf 34 (fun z => absurd (show 45 < 30 from z.2) (by decide))) (hf 35 (fun z => absurd (show 45 < 30 from z.2) (by decide))), hf 40 (fun z => absurd (show 48 < 30 from z.2) (by decide)), hL, hf 9 (fun z => absurd (show 10 ≤ 0 from z.1) (by decide))⟩
theorem cwdv {X : XS} {i i1 : Nat → Nat → Int32} (j : Nat → Nat → Int64) {n ng g t : Nat} (hn : n ≤ 240) (h2 : R2 X i ng) (k : Kp X i i1) (hL : LK X i1 ng n (i 44)) (hg : g < ng) (ht : t < n) (sh : Int32) : EvI 0 265 [.ref (xr X 17 g), .int (nI t), .int sh] (mm X i1 j) (WD i n g sh t) (mm X i1 j) := by
  have := c_265w 0 X i1 j (h2.kp k) hg t (by omega) sh
  rw [(hL g hg t ht).1, rdR_kp k, wdR_kp k] at this
  exact this
theorem rov (d : Nat) (X : XS) (i i1 : Nat → Nat → Int32) (j : Nat → Nat → Int64) {n ng : Nat} (h0 : R0 X i n) (h2 : R2 X i ng) (k : Kp X i i1) :
    ∃ i2, EvV (d + 1) 1565 [.ref 42] (mm X i1 j) (mm X i2 j) ∧ (∀ b, b ≠ 71 → i2 b = i1 b) ∧ (∀ g, g < ng → ∀ t, t < n → i2 71 (240 * g + t) = rdR i (i 44) g t) := by
  obtain ⟨i2, hE, hf, hS⟩ := c_1565 d X i1 j h2.1 (by rw [k.2 7 (by decide)]; exact h2.2.2.1) h0.2.1.1.2 (by rw [k.2 0 (by decide)]; exact h0.1)
  refine ⟨i2, hE, hf, fun g hg t ht => ?_⟩
  rw [hS g hg t ht, (kp43 k).2.1, rdR_kp k]
theorem FrR_71 {X : XS} {i i' : Nat → Nat → Int32} (h : ∀ b, b ≠ 71 → i' b = i b) : FrR X i i' := ⟨fun b hb _ => h b (fun e => by subst e; exact hb rfl), fun k _ => by rw [h 42 (by decide)]⟩
theorem rwd {X : XS} {i i2 : Nat → Nat → Int32} (j : Nat → Nat → Int64) {n ng g t : Nat} (h2 : R2 X i ng) (k : Kp X i i2) (hg : g < ng) (h71 : i2 71 (240 * g + t) = rdR i (i 44) g t) (sh : Int32) : EvI 0 1564 [.ref 42, .int (nI g), .int (i2 71 (240 * g + t)), .int sh] (mm X i2 j) (WD i n g sh t) (mm X i2 j) := by
  have := c_1564w 0 X i2 j (h2.kp k) hg (i2 71 (240 * g + t)) sh
  rw [h71, wdR_kp k] at this
  rw [h71]
  exact this
set_option maxRecDepth 100000 in
theorem s_1420 (d : Nat) (X : XS) (i : Nat → Nat → Int32) (j : Nat → Nat → Int64) (a1 : Int32) (a2 : Int32) (K : Int32 → AM → Prop) (h : (GLs X i) ∧ ((¬ ((nI 0) ≤ a1 ∧ a1 ≤ ((i 2 4) - (nI 1)))) → ((¬ ((nI 0) ≤ a2 ∧ a2 ≤ ((i 2 4) - (nI 1)))) → K (kI (-1)) (mm X i j)) ∧ (((nI 0) ≤ a2 ∧ a2 ≤ ((i 2 4) - (nI 1))) → (GO X (xr X 17 (a2.toNatClampNeg))) → K (kI (-1)) (mm X i j))) ∧ (((nI 0) ≤ a1 ∧ a1 ≤ ((i 2 4) - (nI 1))) → (GO X (xr X 17 (a1.toNatClampNeg))) → ((¬ ((nI 0) ≤ a2 ∧ a2 ≤ ((i 2 4) - (nI 1)))) → K (kI (-1)) (mm X i j)) ∧ (((nI 0) ≤ a2 ∧ a2 ≤ ((i 2 4) - (nI 1))) → (GO X (xr X 17 (a2.toNatClampNeg))) → (∃ (i19 : Nat → Nat → Int32), EvV (d + 3) 1473 [.ref 2, .ref 9] (mm X i j) (mm X i19 j) ∧ WP (d + 4) 1420 (45, [(0, .ref 2), (3, .ref (xr X 17 (a1.toNatClampNeg))), (4, .ref (xr X 17 (a2.toNatClampNeg))), (5, .int (nI 0)), (6, .int (nI 0))], [], (mm X (s2 i19 40 1 (nI 0)) j)) (qI K))))) : WI (d + 4) 1420 [.ref 2, .int a1, .int a2] (mm X i j) K := te_1420 (d + 3) 2 a1 a2 (mm X i j) (qI K) ⟨rfl, (p_1467 (d + 2) X i j a1 _ ⟨h.1, (fun h2 => ⟨rfl, (p_1467 (d + 2) X i j a2 _ ⟨h.1, (fun h4 => ⟨fun _ => ⟨_, rfl, ((h.2.1 h2).1 h4)⟩, fun e5 => absurd rfl e5⟩), (fun h6 h7 => ⟨fun _ => ⟨_, rfl, ((h.2.1 h2).2 h6 h7)⟩, fun e8 => absurd rfl e8⟩)⟩)⟩), (fun h9 h10 => ⟨rfl, (p_1467 (d + 2) X i j a2 _ ⟨h.1, (fun h12 => ⟨fun e13 => absurd e13 (nz_k (h10.1)), fun _ => ⟨fun e14 => absurd rfl e14, fun _ => ⟨_, rfl, ((h.2.2 h9 h10).1 h12)⟩⟩⟩), (fun h15 h16 => ⟨fun e17 => absurd e17 (nz_k (h10.1)), fun _ => ⟨fun _ => ⟨rfl, ⟨rfl, (Exists.elim ((h.2.2 h9 h10).2 h15 h16) fun i19 h20 => EvV.use h20.1 ⟨rfl, ⟨rfl, (te_641 (d + 3) 40 (mm X i19 j) _ ⟨rfl, ⟨rfl, h20.2⟩⟩)⟩⟩)⟩⟩, fun e18 => absurd (nz_k (h16.1)) e18⟩⟩)⟩)⟩)⟩)⟩
set_option maxRecDepth 100000 in
theorem s_1420_45 (d : Nat) (X : XS) (i : Nat → Nat → Int32) (j : Nat → Nat → Int64) (v3 : Nat) (h3 : GO X v3) (v4 : Nat) (h4 : GO X v4) (v5 : Int32) (v6 : Int32) (Q : Option (Option Value) → AM → Prop) (h : (((i 9 3) ≤ v6 → Q (some (some (.int v5))) (mm X i j)) ∧ (¬ ((i 9 3) ≤ v6) → (∃ (x23 : Int32), EvI (d + 3) 265 [.ref v3, .int v6, .int (nI 0)] (mm X i j) x23 (mm X i j) ∧ (∃ (x24 : Int32), EvI (d + 3) 265 [.ref v4, .int v6, .int (nI 0)] (mm X i j) x24 (mm X i j) ∧ ((x23 = x24 → WP (d + 4) 1420 (45, [(0, .ref 2), (3, .ref v3), (4, .ref v4), (5, .int v5), (6, .int (v6 + (nI 1)))], [], (mm X i j)) Q) ∧ (¬ (x23 = x24) → (((nI 20) ≤ (i 40 1) → WP (d + 4) 1420 (45, [(0, .ref 2), (3, .ref v3), (4, .ref v4), (5, .int (v5 + (nI 1))), (6, .int (v6 + (nI 1)))], [], (mm X i j)) Q) ∧ (¬ ((nI 20) ≤ (i 40 1)) → (vp_in (i 40 1) 20) ∧ WP (d + 4) 1420 (45, [(0, .ref 2), (3, .ref v3), (4, .ref v4), (5, .int (v5 + (nI 1))), (6, .int (v6 + (nI 1)))], [], (mm X (s2 i 40 1 ((i 40 1) + (nI 1))) (s2 j 41 ((i 40 1).toNatClampNeg) (v6.toInt64)))) Q))))))))) : WP (d + 4) 1420 (45, [(0, .ref 2), (3, .ref v3), (4, .ref v4), (5, .int v5), (6, .int v6)], [], mm X i j) Q := tc_1420_45 (d + 3) 2 v3 v4 v5 v6 (mm X i j) Q ⟨rfl, ⟨rfl, (te_129 (d + 3) 9 (mm X i j) _ ⟨rfl, ⟨_, rfl, ⟨fun e22 => (h.1 (e22)), fun e22 => ⟨h3.1, (Exists.elim (h.2 (e22)) fun x23 h29 => EvI.use h29.1 ⟨h4.1, (Exists.elim h29.2 fun x24 h27 => EvI.use h27.1 ⟨fun e25 => (h27.2.1 (e25)), fun e25 => ⟨rfl, ⟨rfl, (te_642 (d + 3) 40 (v6.toInt64) (mm X i j) _ ⟨rfl, ⟨fun e26 => ⟨rfl, ((h27.2.2 (e25)).1 (e26))⟩, fun e26 => ⟨rfl, ⟨rfl, ⟨⟨rfl, ((h27.2.2 (e25)).2 (e26)).1⟩, ⟨rfl, ⟨rfl, ⟨rfl, ((h27.2.2 (e25)).2 (e26)).2⟩⟩⟩⟩⟩⟩⟩⟩)⟩⟩⟩)⟩)⟩⟩⟩⟩)⟩⟩
set_option maxRecDepth 100000 in
theorem s_1568 (d : Nat) (X : XS) (i : Nat → Nat → Int32) (j : Nat → Nat → Int64) (a1 : Int32) (a2 : Int32) (K : Int32 → AM → Prop) (h : ((¬ ((nI 0) ≤ a1 ∧ a1 ≤ ((i 42 7) - (nI 1))) → K (kI (-1)) (mm X (s2 i 42 36 (nI 0)) j)) ∧ ((nI 0) ≤ a1 ∧ a1 ≤ ((i 42 7) - (nI 1)) → (((nI 0) ≤ a2 ∧ a2 ≤ ((i 42 7) - (nI 1)) → (∃ (i3 : Nat → Nat → Int32), EvV (d + 1) 1565 [.ref 42] (mm X (s2 i 42 36 (nI 0)) j) (mm X i3 j) ∧ WP (d + 2) 1568 (37, [(0, .ref 42), (1, .int a1), (2, .int a2), (3, .int (nI 0)), (4, .int (nI 0))], [], (mm X (s2 i3 42 35 (nI 0)) j)) (qI K))) ∧ (¬ ((nI 0) ≤ a2 ∧ a2 ≤ ((i 42 7) - (nI 1))) → K (kI (-1)) (mm X (s2 i 42 36 (nI 0)) j)))))) : WI (d + 2) 1568 [.ref 42, .int a1, .int a2] (mm X i j) K := te_1568 (d + 1) 42 a1 a2 (mm X i j) (qI K) ⟨rfl, ⟨rfl, (te_1545 d 42 a1 (mm X (s2 i 42 36 (nI 0)) j) _ ⟨rfl, (p_1538 d X (s2 i 42 36 (nI 0)) j a1 (nI 0) ((i 42 7) - (nI 1)) _ ⟨(bi_01 _), ⟨_, rfl, ⟨fun e1 => ⟨_, rfl, (h.1 ((bi_z e1)))⟩, fun e1 => ⟨rfl, (te_1545 d 42 a2 (mm X (s2 i 42 36 (nI 0)) j) _ ⟨rfl, (p_1538 d X (s2 i 42 36 (nI 0)) j a2 (nI 0) ((i 42 7) - (nI 1)) _ ⟨(bi_01 _), ⟨_, rfl, ⟨fun e2 => ⟨rfl, (Exists.elim ((h.2 ((bi_n e1))).1 ((bi_n e2))) fun i3 h4 => EvV.use h4.1 ⟨rfl, h4.2⟩)⟩, fun e2 => ⟨_, rfl, ((h.2 ((bi_n e1))).2 ((bi_nn e2)))⟩⟩⟩⟩)⟩)⟩⟩⟩⟩)⟩)⟩⟩
set_option maxRecDepth 100000 in
theorem s_1568_37 (d : Nat) (X : XS) (i : Nat → Nat → Int32) (j : Nat → Nat → Int64) (v1 : Int32) (v2 : Int32) (v3 : Int32) (v4 : Int32) (Q : Option (Option Value) → AM → Prop) (h : (((i 42 0) ≤ v4 → Q (some (some (.int v3))) (mm X i j)) ∧ (¬ ((i 42 0) ≤ v4) → (vp_in (((nI 240) * v1) + v4) 960) ∧ (∃ (x7 : Int32), EvI d 1564 [.ref 42, .int v1, .int (i 71 ((((nI 240) * v1) + v4).toNatClampNeg)), .int (nI 0)] (mm X i j) x7 (mm X i j) ∧ (vp_in (((nI 240) * v2) + v4) 960) ∧ (∃ (x8 : Int32), EvI d 1564 [.ref 42, .int v2, .int (i 71 ((((nI 240) * v2) + v4).toNatClampNeg)), .int (nI 0)] (mm X i j) x8 (mm X i j) ∧ ((¬ (x7 = x8) → (((nI 20) ≤ v3 → WP (d + 2) 1568 (37, [(0, .ref 42), (1, .int v1), (2, .int v2), (3, .int (v3 + (nI 1))), (4, .int (v4 + (nI 1)))], [], (mm X i j)) Q) ∧ (¬ ((nI 20) ≤ v3) → (vp_in (i 42 35) 32) ∧ WP (d + 2) 1568 (37, [(0, .ref 42), (1, .int v1), (2, .int v2), (3, .int (v3 + (nI 1))), (4, .int (v4 + (nI 1)))], [], (mm X (s2 i 42 35 ((i 42 35) + (nI 1))) (s2 j 70 ((i 42 35).toNatClampNeg) (v4.toInt64)))) Q))) ∧ (x7 = x8 → WP (d + 2) 1568 (37, [(0, .ref 42), (1, .int v1), (2, .int v2), (3, .int v3), (4, .int (v4 + (nI 1)))], [], (mm X i j)) Q))))))) : WP (d + 2) 1568 (37, [(0, .ref 42), (1, .int v1), (2, .int v2), (3, .int v3), (4, .int v4)], [], mm X i j) Q := tc_1568_37 (d + 1) 42 v1 v2 v3 v4 (mm X i j) Q ⟨rfl, ⟨fun e6 => (h.1 (e6)), fun e6 => ⟨rfl, (te_1567 d 42 v1 v4 (mm X i j) _ ⟨rfl, ⟨⟨rfl, (h.2 (e6)).1⟩, ⟨rfl, (Exists.elim (h.2 (e6)).2 fun x7 h13 => EvI.use h13.1 ⟨_, rfl, ⟨rfl, (te_1567 d 42 v2 v4 (mm X i j) _ ⟨rfl, ⟨⟨rfl, h13.2.1⟩, ⟨rfl, (Exists.elim h13.2.2 fun x8 h11 => EvI.use h11.1 ⟨_, rfl, ⟨fun e9 => ⟨fun e10 => (tc_1568_82 (d + 1) 42 v1 v2 (v3 + (nI 1)) v4 (mm X i j) _ ((h11.2.1 (e9)).1 (e10))), fun e10 => ⟨rfl, (te_1540 (d + 1) 42 (v4.toInt64) (mm X i j) _ ⟨rfl, ⟨rfl, ⟨⟨rfl, ((h11.2.1 (e9)).2 (e10)).1⟩, ⟨rfl, ⟨rfl, ⟨rfl, (tc_1568_82 (d + 1) 42 v1 v2 (v3 + (nI 1)) v4 (mm X (s2 i 42 35 ((i 42 35) + (nI 1))) (s2 j 70 ((i 42 35).toNatClampNeg) (v4.toInt64))) _ ((h11.2.1 (e9)).2 (e10)).2)⟩⟩⟩⟩⟩⟩)⟩⟩, fun e9 => (tc_1568_82 (d + 1) 42 v1 v2 v3 v4 (mm X i j) _ (h11.2.2 ((Classical.byContradiction e9))))⟩⟩)⟩⟩⟩)⟩⟩)⟩⟩⟩)⟩⟩⟩
theorem k_11 (d : Nat) {X : XS} {i : Nat → Nat → Int32} {j : Nat → Nat → Int64} (h : Rel X i j) (a1 a2 : Int32) {Kf : AM → Prop} (hK : Nx X Kf) : WI (d + 300) 1420 [.ref 2, .int a1, .int a2] (mm X i j) (fun x1 M1 => WI (d + 300) 1568 [.ref 42, .int a1, .int a2] M1 (fun x2 M2 => x1 = x2 ∧ Kf M2)) := by
  have ht := hK.th h
  have hrel := h
  obtain ⟨hx, ⟨⟨n, h0⟩, h1, ⟨ng, h2, no, h4⟩, ⟨tn, h3⟩, ⟨np, h5⟩, h6, ns, h7⟩, h8, hz⟩ := h
  have e1 := h2.2.1
  have e2 := h2.2.2.1
  have hng := h2.1
  have hn := h0.2.1.1.2
  refine s_1420 _ X i j a1 a2 _ ⟨h2.gl, ?_, ?_⟩
  · rw [e1]
    intro z
    have r : WI (d + 300) 1568 [.ref 42, .int a1, .int a2] (mm X i j) (fun x2 M2 => kI (-1) = x2 ∧ Kf M2) := s_1568 _ X i j _ _ _ (bq_t (by rw [e2]; exact z) ⟨rfl, ht⟩)
    exact ⟨fun _ => r, fun _ _ => r⟩
  rw [e1]
  intro z hO
  have z2 : nI 0 ≤ a1 ∧ a1 ≤ i 42 7 - nI 1 := by rw [e2]; exact z
  refine ⟨fun w => s_1568 _ X i j _ _ _ (bq_f z2 ⟨fun u => absurd (by rw [e2] at u; exact u) w, fun _ => ⟨rfl, ht⟩⟩), fun w hO2 => ?_⟩
  have w2 : nI 0 ≤ a2 ∧ a2 ≤ i 42 7 - nI 1 := by rw [e2]; exact w
  obtain ⟨ga, hga, rfl⟩ := idx_of (by omega) z
  obtain ⟨gb, hgb, rfl⟩ := idx_of (by omega) w
  rw [tc_nI (by omega)] at hO hO2 ⊢
  rw [tc_nI (by omega)]
  obtain ⟨i1, hE1, f1, z1, r40, hL, g9⟩ := gov 0 X i j h0 h2 hz
  refine ⟨i1, hE1.up (by omega), ?_⟩
  have k1 := f1.kp
  have g42 : i1 42 = i 42 := f1 42 (Or.inl (show 0 < 10 by decide))

  obtain ⟨P, hP⟩ : ∃ P : Nat → Prop, P = fun t => ¬ WD i n ga (nI 0) t = WD i n gb (nI 0) t := ⟨_, rfl⟩
  refine lup n (fun t (z : Int32 × (Nat → Nat → Int32) × (Nat → Nat → Int64)) => z.1 = nI (LM P t).length ∧ (∀ b, b ≠ 40 → z.2.1 b = i1 b) ∧ (∀ b, b ≠ 41 → z.2.2 b = j b) ∧ RWc z.2.1 z.2.2 (LM P t)) (fun t z => (45, [(0, .ref 2), (3, .ref (xr X 17 ga)), (4, .ref (xr X 17 gb)), (5, .int z.1), (6, .int (nI t))], [], mm X z.2.1 z.2.2)) ?_ ?_ 0 (nI 0, s2 i1 40 1 (nI 0), j) (Nat.zero_le _) ⟨rfl, fun b hb => s2_ne hb, fun _ _ => rfl, RWc0 (i := s2 i1 40 1 (nI 0)) (j := j) (s2_self _ _ _ _)⟩
  · rintro ⟨x, i2, j2⟩ ⟨hx2, f2, fj2, hR⟩
    dsimp only at hx2 f2 fj2 hR ⊢
    refine s_1420_45 _ X i2 j2 _ hO _ hO2 _ _ _ (br_t (by rw [f2 9 (by decide), g9, h0.2.1.1.1]; exact Int32.le_refl _) (qI_of ?_))
    have F2 : FrC X i i2 := f1.tr (FrC_40 f2)
    have Z2 : RZ i2 := RZ_of z1 (f2 34 (by decide)) (f2 35 (by decide))
    have g422 : i2 42 = i 42 := F2 42 (Or.inl (show 0 < 10 by decide))
    refine s_1568 _ X i2 _ _ _ _ (bq_f (by rw [g422]; exact z2) (br_t (by rw [g422]; exact w2) ?_))
    obtain ⟨i4, hE4, f4, h71⟩ := rov 0 X i (s2 i2 42 36 (nI 0)) j2 h0 h2 (F2.kp.tr (FrR_th (X := X) (nI 0)).kp)
    refine ⟨i4, hE4.up (by omega), ?_⟩
    have F4 : FrR X i2 i4 := (FrR_th (nI 0)).tr (FrR_71 f4)
    refine lup n (fun t (z : Int32 × (Nat → Nat → Int32) × (Nat → Nat → Int64)) => z.1 = nI (LM P t).length ∧ (∀ b, b ≠ 42 → z.2.1 b = i4 b) ∧ (∀ k, k ≠ 35 → z.2.1 42 k = i4 42 k) ∧ (∀ b, b ≠ 70 → z.2.2 b = j2 b) ∧ RWr z.2.1 z.2.2 (LM P t)) (fun t z => (37, [(0, .ref 42), (1, .int (nI ga)), (2, .int (nI gb)), (3, .int z.1), (4, .int (nI t))], [], mm X z.2.1 z.2.2)) ?_ ?_ 0 (nI 0, s2 i4 42 35 (nI 0), j2) (Nat.zero_le _) ⟨rfl, fun b hb => s2_ne hb, fun k hk => by dsimp only; rw [s2_ne2 hk], fun _ _ => rfl, RWr0 (i := s2 i4 42 35 (nI 0)) (j := j2) (s2_self _ _ _ _)⟩
    · rintro ⟨y, i5, j5⟩ ⟨hy, f5, f5k, fj5, hR5⟩
      dsimp only at hy f5 f5k fj5 hR5 ⊢
      refine s_1568_37 _ X i5 j5 _ _ _ _ _ (br_t (by rw [f5k 0 (by decide), F4.2 0 (by decide), g422, h0.1]; exact Int32.le_refl _) (qI_of ⟨hx2.trans hy.symm, hK.k (fin_row hrel F2 Z2 (F4.tr (FrR_42 f5 (fun k hk => f5k k (by omega)))) (RW8 (hR.kp ?_ (fj5 41 (by decide))) hR5))⟩))
      rw [f5 40 (by decide), F4.1 40 (show ¬ (48 : Nat) = 40 by decide) (by decide)]
    · rintro t ⟨y, i5, j5⟩ ht2 ⟨hy, f5, f5k, fj5, hR5⟩ go
      dsimp only at hy f5 f5k fj5 hR5 ⊢
      have hl := LM_le P t
      have F5 : FrR X i2 i5 := F4.tr (FrR_42 f5 (fun k hk => f5k k (by omega)))
      have k5 : Kp X i i5 := F2.kp.tr F5.kp
      have h71' : ∀ g, g < ng → i5 71 (240 * g + t) = rdR i (i 44) g t := fun g hg => by rw [f5 71 (by decide)]; exact h71 g hg t ht2
      refine s_1568_37 _ X i5 j5 _ _ _ _ _ (br_f (by rw [f5k 0 (by decide), F4.2 0 (by decide), g422, h0.1]; exact nI_ge ht2 (by omega)) ?_)
      rw [pk_mul, pk_mul, nI_add (240 * ga) t, nI_add (240 * gb) t, tc_nI (by omega), tc_nI (by omega)]
      refine ⟨vp_in_nI (by omega) (by decide), _, (rwd (n := n) j5 h2 k5 hga (h71' ga hga) (nI 0)).up (by omega), vp_in_nI (by omega) (by decide), _, (rwd (n := n) j5 h2 k5 hgb (h71' gb hgb) (nI 0)).up (by omega), ?_⟩
      rw [hy, nI_add, nI_add]
      refine bq_c (fun u => ?_) (fun u => go (nI (LM P t).length, i5, j5) ⟨by dsimp only; rw [LM_f (by rw [hP]; exact fun q => q u)], f5, f5k, fj5, by dsimp only; rw [LM_f (by rw [hP]; exact fun q => q u)]; exact hR5⟩)
      have up : P t := by rw [hP]; exact u
      refine stR (cf := fun i' j' => (37, [(0, .ref 42), (1, .int (nI ga)), (2, .int (nI gb)), (3, .int (nI ((LM P t).length + 1))), (4, .int (nI (t + 1)))], [], mm X i' j')) hR5 (by omega) fun i' j' e1 e2 e3 e4 => go (nI ((LM P t).length + 1), i', j') ⟨by dsimp only; rw [LM_t up, List.length_append]; rfl, fun b hb => (e1 b hb).trans (f5 b hb), fun k hk => (e2 k hk).trans (f5k k hk), fun b hb => (e3 b hb).trans (fj5 b hb), by dsimp only; rw [LM_t up]; exact e4⟩
  · rintro t ⟨x, i2, j2⟩ ht2 ⟨hx2, f2, fj2, hR⟩ go
    dsimp only at hx2 f2 fj2 hR ⊢
    have hl := LM_le P t
    have F2 : FrC X i i2 := f1.tr (FrC_40 f2)
    have hL2 : LK X i2 ng n (i 44) := hL.up (FrC_40 f2).kp (fun g hg => by
      have hG := (h2.2.2.2 g hg).2.1
      have hg4 := hG.1
      exact ⟨f2 _ (fun e => by have := hG.2.2.2.2; rw [e] at this; have t : xt X 40 = 48 := rfl; omega), f2 _ (fun e => by have := hG.2.2.2.1; rw [e] at this; have t : xt X 40 = 48 := rfl; omega)⟩)
    refine s_1420_45 _ X i2 j2 _ hO _ hO2 _ _ _ (br_f (by rw [f2 9 (by decide), g9, h0.2.1.1.1]; exact nI_ge ht2 (by omega)) ⟨_, (cwdv j2 hn h2 F2.kp hL2 hga ht2 (nI 0)).up (by omega), _, (cwdv j2 hn h2 F2.kp hL2 hgb ht2 (nI 0)).up (by omega), ?_⟩)
    rw [hx2, nI_add, nI_add]
    refine br_c (fun u => go (nI (LM P t).length, i2, j2) ⟨by dsimp only; rw [LM_f (by rw [hP]; exact fun q => q u)], f2, fj2, by dsimp only; rw [LM_f (by rw [hP]; exact fun q => q u)]; exact hR⟩) (fun u => ?_)
    have up : P t := by rw [hP]; exact u
    refine stC (X := X) (cf := fun i' j' => (45, [(0, .ref 2), (3, .ref (xr X 17 ga)), (4, .ref (xr X 17 gb)), (5, .int (nI ((LM P t).length + 1))), (6, .int (nI (t + 1)))], [], mm X i' j')) hR fun i' j' e1 e3 e4 => go (nI ((LM P t).length + 1), i', j') ⟨by dsimp only; rw [LM_t up, List.length_append]; rfl, fun b hb => (e1 b hb).trans (f2 b hb), fun b hb => (e3 b hb).trans (fj2 b hb), by dsimp only; rw [LM_t up]; exact e4⟩
