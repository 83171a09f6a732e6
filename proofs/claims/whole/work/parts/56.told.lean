/-! ===== line, told, hedge ===== -/
theorem sub_pos {l s : Nat} (hl : l < 2 ^ 30) (hs : s < 2 ^ 30) : 0 < nI l - nI s ↔ s < l := by
  rw [lt_i, pk_sub_toInt (by omega) (by omega)]
  have : (0 : Int32).toInt = 0 := rfl
  omega
set_option maxRecDepth 100000 in
theorem s_1434 (d : Nat) (X : XS) (i : Nat → Nat → Int32) (j : Nat → Nat → Int64) (a1 : Int32) (K : Int32 → AM → Prop) (h : (PSs X i) ∧ ((¬ ((nI 0) ≤ a1 ∧ a1 ≤ ((i 2 9) - (nI 1)))) → K (kI (-1)) (mm X i j)) ∧ (((nI 0) ≤ a1 ∧ a1 ≤ ((i 2 9) - (nI 1))) → (PO X (xr X 24 (a1.toNatClampNeg))) → ((0 < ((i (xr X 24 (a1.toNatClampNeg)) 1) - (i (xr X 24 (a1.toNatClampNeg)) 2)) → (∃ (x8 : Int64), EvL d 644 [.long (((s2 i 40 1 (nI 0)) (xr X 24 (a1.toNatClampNeg)) 0).toInt64), .long ((((s2 i 40 1 (nI 0)) (xr X 24 (a1.toNatClampNeg)) 1) - ((s2 i 40 1 (nI 0)) (xr X 24 (a1.toNatClampNeg)) 2)).toInt64)] (mm X (s2 i 40 1 (nI 0)) j) x8 (mm X (s2 i 40 1 (nI 0)) j) ∧ ((x8 = (Int64.ofNat 0) → K (nI 0) (mm X (s2 i 40 1 (nI 0)) j)) ∧ (¬ (x8 = (Int64.ofNat 0)) → (¬ x8 = 0) ∧ K (nI 0) (mm X (s2 (s2 (s2 i 40 1 (nI 0)) 40 1 (nI 1)) 40 1 (nI 2)) (s2 (s2 j 41 0 ((((s2 i 40 1 (nI 0)) (xr X 24 (a1.toNatClampNeg)) 0).toInt64) / x8)) 41 1 (((((s2 i 40 1 (nI 0)) (xr X 24 (a1.toNatClampNeg)) 1) - ((s2 i 40 1 (nI 0)) (xr X 24 (a1.toNatClampNeg)) 2)).toInt64) / x8))))))) ∧ (¬ (0 < ((i (xr X 24 (a1.toNatClampNeg)) 1) - (i (xr X 24 (a1.toNatClampNeg)) 2))) → K (kI (-2)) (mm X i j))))) : WI (d + 2) 1434 [.ref 2, .int a1] (mm X i j) K := te_1434 (d + 1) 2 a1 (mm X i j) (qI K) ⟨rfl, (p_1469 d X i j a1 _ ⟨h.1, (fun h2 => ⟨fun e3 => absurd rfl e3, fun _ => ⟨_, rfl, (h.2.1 h2)⟩⟩), (fun h4 h5 => ⟨fun _ => ⟨h5, (te_514 (d + 1) (xr X 24 (a1.toNatClampNeg)) (mm X i j) _ ⟨h5, ⟨h5, ⟨_, rfl, ⟨fun e7 => ⟨rfl, ⟨rfl, (te_641 (d + 1) 40 (mm X i j) _ ⟨rfl, ⟨rfl, ⟨rfl, ⟨h5, (te_513 (d + 1) (xr X 24 (a1.toNatClampNeg)) (mm X (s2 i 40 1 (nI 0)) j) _ ⟨h5, ⟨_, rfl, ⟨h5, (te_514 (d + 1) (xr X 24 (a1.toNatClampNeg)) (mm X (s2 i 40 1 (nI 0)) j) _ ⟨h5, ⟨h5, ⟨_, rfl, ⟨rfl, (te_643 d 40 (((s2 i 40 1 (nI 0)) (xr X 24 (a1.toNatClampNeg)) 0).toInt64) ((((s2 i 40 1 (nI 0)) (xr X 24 (a1.toNatClampNeg)) 1) - ((s2 i 40 1 (nI 0)) (xr X 24 (a1.toNatClampNeg)) 2)).toInt64) (mm X (s2 i 40 1 (nI 0)) j) _ (Exists.elim ((h.2.2 h4 h5).1 (e7)) fun x8 h12 => EvL.use h12.1 ⟨fun e9 => ⟨rfl, ⟨_, rfl, (h12.2.1 ((lc_eq.1 e9)))⟩⟩, fun e9 => ⟨(h12.2.2 ((fun z => e9 (lc_eq.2 z)))).1, ⟨rfl, (te_642 d 40 ((((s2 i 40 1 (nI 0)) (xr X 24 (a1.toNatClampNeg)) 0).toInt64) / x8) (mm X (s2 i 40 1 (nI 0)) j) _ ⟨rfl, ⟨fun e10 => absurd e10 (show ¬ ((nI 20) ≤ (nI 0)) by decide), fun _ => ⟨rfl, ⟨rfl, ⟨⟨rfl, (vpk 0 20 rfl)⟩, ⟨rfl, ⟨rfl, ⟨rfl, ⟨(h12.2.2 ((fun z => e9 (lc_eq.2 z)))).1, ⟨rfl, (te_642 d 40 (((((s2 i 40 1 (nI 0)) (xr X 24 (a1.toNatClampNeg)) 1) - ((s2 i 40 1 (nI 0)) (xr X 24 (a1.toNatClampNeg)) 2)).toInt64) / x8) (mm X (s2 (s2 i 40 1 (nI 0)) 40 1 (nI 1)) (s2 j 41 0 ((((s2 i 40 1 (nI 0)) (xr X 24 (a1.toNatClampNeg)) 0).toInt64) / x8))) _ ⟨rfl, ⟨fun e11 => absurd e11 (show ¬ ((nI 20) ≤ (nI 1)) by decide), fun _ => ⟨rfl, ⟨rfl, ⟨⟨rfl, (vpk 1 20 rfl)⟩, ⟨rfl, ⟨rfl, ⟨rfl, ⟨rfl, ⟨_, rfl, (h12.2.2 ((fun z => e9 (lc_eq.2 z)))).2⟩⟩⟩⟩⟩⟩⟩⟩⟩⟩)⟩⟩⟩⟩⟩⟩⟩⟩⟩⟩)⟩⟩⟩))⟩⟩⟩⟩)⟩⟩⟩)⟩⟩⟩⟩)⟩⟩, fun e7 => ⟨_, rfl, ((h.2.2 h4 h5).2 (e7))⟩⟩⟩⟩⟩)⟩, fun e6 => absurd (nz_k (h5)) e6⟩)⟩)⟩
set_option maxRecDepth 100000 in
theorem s_1601 (d : Nat) (X : XS) (i : Nat → Nat → Int32) (j : Nat → Nat → Int64) (a1 : Int32) (K : Int32 → AM → Prop) (h : (((nI 0) ≤ a1 ∧ a1 ≤ ((i 42 18) - (nI 1)) → (vp_in a1 6) ∧ (((i 59 ((a1).toNatClampNeg)) < (i 58 ((a1).toNatClampNeg)) → (∃ (x3 : Int64), EvL d 1541 [.long ((i 57 ((a1).toNatClampNeg)).toInt64), .long (((i 58 ((a1).toNatClampNeg)) - (i 59 ((a1).toNatClampNeg))).toInt64)] (mm X (s2 (s2 i 42 36 (nI 0)) 42 35 (nI 0)) j) x3 (mm X (s2 (s2 i 42 36 (nI 0)) 42 35 (nI 0)) j) ∧ (¬ x3 = 0) ∧ K (nI 0) (mm X (s2 (s2 (s2 (s2 i 42 36 (nI 0)) 42 35 (nI 0)) 42 35 (nI 1)) 42 35 (nI 2)) (s2 (s2 j 70 0 (((i 57 ((a1).toNatClampNeg)).toInt64) / x3)) 70 1 ((((i 58 ((a1).toNatClampNeg)) - (i 59 ((a1).toNatClampNeg))).toInt64) / x3))))) ∧ (¬ ((i 59 ((a1).toNatClampNeg)) < (i 58 ((a1).toNatClampNeg))) → K (kI (-2)) (mm X (s2 i 42 36 (nI 0)) j)))) ∧ (¬ ((nI 0) ≤ a1 ∧ a1 ≤ ((i 42 18) - (nI 1))) → K (kI (-1)) (mm X (s2 i 42 36 (nI 0)) j)))) : WI (d + 2) 1601 [.ref 42, .int a1] (mm X i j) K := te_1601 (d + 1) 42 a1 (mm X i j) (qI K) ⟨rfl, ⟨rfl, (te_1547 d 42 a1 (mm X (s2 i 42 36 (nI 0)) j) _ ⟨rfl, (p_1538 d X (s2 i 42 36 (nI 0)) j a1 (nI 0) ((i 42 18) - (nI 1)) _ ⟨(bi_01 _), ⟨_, rfl, ⟨fun e1 => ⟨rfl, ⟨⟨rfl, (h.1 ((bi_n e1))).1⟩, ⟨rfl, ⟨⟨rfl, (h.1 ((bi_n e1))).1⟩, ⟨fun e2 => ⟨rfl, ⟨rfl, ⟨⟨rfl, (h.1 ((bi_n e1))).1⟩, ⟨rfl, ⟨⟨rfl, (h.1 ((bi_n e1))).1⟩, ⟨rfl, ⟨⟨rfl, (h.1 ((bi_n e1))).1⟩, ⟨rfl, (te_1542 d 42 ((i 57 ((a1).toNatClampNeg)).toInt64) (((i 58 ((a1).toNatClampNeg)) - (i 59 ((a1).toNatClampNeg))).toInt64) (mm X (s2 (s2 i 42 36 (nI 0)) 42 35 (nI 0)) j) _ (Exists.elim ((h.1 ((bi_n e1))).2.1 (e2)) fun x3 h4 => EvL.use h4.1 ⟨h4.2.1, ⟨rfl, (te_1540 d 42 (((i 57 ((a1).toNatClampNeg)).toInt64) / x3) (mm X (s2 (s2 i 42 36 (nI 0)) 42 35 (nI 0)) j) _ ⟨rfl, ⟨rfl, ⟨⟨rfl, (vpk 0 32 rfl)⟩, ⟨rfl, ⟨rfl, ⟨rfl, ⟨h4.2.1, ⟨rfl, (te_1540 d 42 ((((i 58 ((a1).toNatClampNeg)) - (i 59 ((a1).toNatClampNeg))).toInt64) / x3) (mm X (s2 (s2 (s2 i 42 36 (nI 0)) 42 35 (nI 0)) 42 35 (nI 1)) (s2 j 70 0 (((i 57 ((a1).toNatClampNeg)).toInt64) / x3))) _ ⟨rfl, ⟨rfl, ⟨⟨rfl, (vpk 1 32 rfl)⟩, ⟨rfl, ⟨rfl, ⟨rfl, ⟨rfl, ⟨_, rfl, h4.2.2⟩⟩⟩⟩⟩⟩⟩⟩)⟩⟩⟩⟩⟩⟩⟩⟩)⟩⟩))⟩⟩⟩⟩⟩⟩⟩⟩, fun e2 => ⟨_, rfl, ((h.1 ((bi_n e1))).2.2 (e2))⟩⟩⟩⟩⟩⟩, fun e1 => ⟨_, rfl, (h.2 ((bi_nn e1)))⟩⟩⟩⟩)⟩)⟩⟩
theorem k_25 (d : Nat) {X : XS} {i : Nat → Nat → Int32} {j : Nat → Nat → Int64} (h : Rel X i j) (a1 : Int32) {Kf : AM → Prop} (hK : Nx X Kf) : WI (d + 300) 1434 [.ref 2, .int a1] (mm X i j) (fun x1 M1 => WI (d + 300) 1601 [.ref 42, .int a1] M1 (fun x2 M2 => x1 = x2 ∧ Kf M2)) := by
  have ht := hK.th h
  have hrel := h
  obtain ⟨hx, ⟨⟨n, h0⟩, h1, ⟨ng, h2, no, h4⟩, ⟨tn, h3⟩, ⟨np, h5⟩, h6, ns, h7⟩, h8, hz⟩ := h
  have e1 := h5.2.1
  have e2 := h5.2.2.1
  have hnp := h5.1
  have hn := h0.2.1.1.2
  refine s_1434 _ X i j a1 _ ⟨h5.ps, ?_, ?_⟩
  · rw [e1]
    exact fun z => s_1601 _ X i j _ _ (br_f (by rw [e2]; exact z) ⟨rfl, ht⟩)
  rw [e1]
  intro z hO
  have z2 : nI 0 ≤ a1 ∧ a1 ≤ i 42 18 - nI 1 := by rw [e2]; exact z
  obtain ⟨p, hp, rfl⟩ := idx_of (by omega) z
  rw [tc_nI (by omega)] at hO ⊢
  obtain ⟨-, hPT, ⟨q0, q1, q2, q3, q4⟩, ⟨c, l, s, st, hc, hl, hs, hst, b0, b1, b2, b3⟩, b4⟩ := h5.2.2.2 p hp

  have hPn := xtNe hPT
  have e40 : ∀ v, (s2 i 40 1 v) (xr X 24 p) = i (xr X 24 p) := fun v => s2_ne (by omega)
  rw [e40, q0, q1, q2, b0, b1, b2, sub_pos (by omega) (by omega)]
  refine br_c (fun y => ?_) (fun y => s_1601 _ X i j _ _ (br_t z2 ⟨vp_in_nI (by omega) (by decide), ?_⟩))
  · have n1 : ¬ gcL (nI c).toInt64 (nI l - nI s).toInt64 = 0 := gcL_ne (Or.inr (by rw [pk_sub (by omega)]; exact toL_ne (by omega) (by omega)))
    refine ⟨_, c_644 _ X _ _ _ _, fun y => absurd y n1, fun _ => ⟨n1, ?_⟩⟩
    obtain ⟨i3, hi3⟩ : ∃ i3, i3 = s2 (s2 (s2 i 40 1 (nI 0)) 40 1 (nI 1)) 40 1 (nI 2) := ⟨_, rfl⟩
    rw [← hi3]
    have f3 : ∀ b, b ≠ 40 → i3 b = i b := fun b hb => by rw [hi3, s2_ne hb, s2_ne hb, s2_ne hb]
    obtain ⟨j3, hj3⟩ : ∃ j3, j3 = s2 (s2 j 41 0 ((nI c).toInt64 / gcL (nI c).toInt64 (nI l - nI s).toInt64)) 41 1 ((nI l - nI s).toInt64 / gcL (nI c).toInt64 (nI l - nI s).toInt64) := ⟨_, rfl⟩
    rw [← hj3]
    have F : FrC X i i3 := FrC_40 f3
    have Z : RZ i3 := RZ_of hz (f3 34 (by decide)) (f3 35 (by decide))
    refine s_1601 _ X i3 j3 _ _ (br_t (by rw [f3 42 (by decide)]; exact z2) ⟨vp_in_nI (by omega) (by decide), ?_⟩)
    rw [tc_nI (by omega), f3 57 (by decide), f3 58 (by decide), f3 59 (by decide), b0, b1, b2, nI_ltI (by omega) (by omega)]
    refine br_t y ⟨_, c_1541 _ X _ _ _ _, n1, rfl, hK.k (fin_row hrel F Z (FrR_42 (fun b hb => by rw [s2_ne hb, s2_ne hb, s2_ne hb, s2_ne hb]) (fun k hk => by rw [s2_ne2 (by omega), s2_ne2 (by omega), s2_ne2 (by omega), s2_ne2 (by omega)])) (r8_of 2 (by decide) ?_ (s2_self _ _ _ _) ?_))⟩
    · rw [s2_ne (show 40 ≠ 42 by decide), s2_ne (show 40 ≠ 42 by decide), s2_ne (show 40 ≠ 42 by decide), s2_ne (show 40 ≠ 42 by decide), hi3, s2_self]
    · intro t ht
      rw [hj3]
      match t, ht with
      | 0, _ => simp [s2_ap]
      | 1, _ => simp [s2_ap]
  · rw [tc_nI (by omega), b1, b2, nI_ltI (by omega) (by omega)]
    exact br_f y ⟨rfl, ht⟩
/-! the tellings: class as reference -/
theorem rng01 {a : Int32} (h : nI 0 ≤ a ∧ a ≤ nI 1) : a = 0 ∨ a = 1 := by
  obtain ⟨k, hk, rfl⟩ := of_rng (by decide) h
  match k, hk with
  | 0, _ => exact Or.inl rfl
  | 1, _ => exact Or.inr rfl
/-- is anything told of day t -/
def tdP (i : Nat → Nat → Int32) (t : Nat) : Prop := ¬ i 62 t = kI (-1)
def tdV (i : Nat → Nat → Int32) (v : Int32) (t : Nat) : Prop := tdP i t ∧ i 62 t / nI 10 = v
set_option maxRecDepth 100000 in
theorem s_1455 (d : Nat) (X : XS) (i : Nat → Nat → Int32) (j : Nat → Nat → Int64) (a1 : Int32) (a2 : Int32) (K : Int32 → AM → Prop) (h : ((¬ ((nI 0) ≤ a1 ∧ a1 ≤ (nI 10)) → K (kI (-1)) (mm X i j)) ∧ ((nI 0) ≤ a1 ∧ a1 ≤ (nI 10) → ((((nI 1) ≤ a2 ∧ a2 ≤ (nI 3)) ∧ ((nI 1) ≤ (nI 1) ∧ (nI 1) ≤ (nI 9)) → WP (d + 2) 1455 (38, [(0, .ref 2), (1, .int a1), (2, .int a2), (3, .int (nI 0)), (4, .int (nI 0)), (5, .int (mxI (nI 0) ((i 9 3) - (nI 1)))), (6, .int (nI 0))], [], (mm X i j)) (qI K)) ∧ (¬ (((nI 1) ≤ a2 ∧ a2 ≤ (nI 3)) ∧ ((nI 1) ≤ (nI 1) ∧ (nI 1) ≤ (nI 9))) → K (kI (-1)) (mm X i j)))))) : WI (d + 2) 1455 [.ref 2, .int a1, .int a2] (mm X i j) K := te_1455 (d + 1) 2 a1 a2 (mm X i j) (qI K) (p_1462 (d + 1) X i j a1 (nI 0) (nI 10) _ ⟨fun e1 => ⟨_, rfl, (h.1 ((bi_z e1)))⟩, fun e1 => (p_1464 d X i j a2 (nI 1) _ ⟨fun e2 => ⟨rfl, ⟨rfl, (te_136 (d + 1) 9 (nI 1) (mm X i j) _ ⟨rfl, ⟨_, rfl, ((h.2 ((bi_n e1))).1 ((bi_n e2)))⟩⟩)⟩⟩, fun e2 => ⟨_, rfl, ((h.2 ((bi_n e1))).2 ((bi_nn e2)))⟩⟩)⟩)
set_option maxRecDepth 100000 in
theorem s_1455_38 (d : Nat) (X : XS) (i : Nat → Nat → Int32) (j : Nat → Nat → Int64) (v1 : Int32) (v2 : Int32) (v3 : Int32) (v4 : Int32) (v5 : Int32) (v6 : Int32) (Q : Option (Option Value) → AM → Prop) (h : ((v5 ≤ v6 → Q (some (some (.int v3))) (mm X (s2 (s2 i 40 1 (nI 0)) 40 1 (nI 1)) (s2 j 41 0 (v4.toInt64)))) ∧ (¬ (v5 ≤ v6) → ((v6 < 0 → WP (d + 2) 1455 (38, [(0, .ref 2), (1, .int v1), (2, .int v2), (3, .int v3), (4, .int v4), (5, .int v5), (6, .int (v6 + (nI 1)))], [], (mm X i j)) Q) ∧ (¬ (v6 < 0) → (((nI 240) ≤ v6 → WP (d + 2) 1455 (38, [(0, .ref 2), (1, .int v1), (2, .int v2), (3, .int v3), (4, .int v4), (5, .int v5), (6, .int (v6 + (nI 1)))], [], (mm X i j)) Q) ∧ (¬ ((nI 240) ≤ v6) → (vp_in v6 240) ∧ (((i 28 ((v6).toNatClampNeg)) = (kI (-1)) → WP (d + 2) 1455 (38, [(0, .ref 2), (1, .int v1), (2, .int v2), (3, .int v3), (4, .int v4), (5, .int v5), (6, .int (v6 + (nI 1)))], [], (mm X i j)) Q) ∧ (¬ ((i 28 ((v6).toNatClampNeg)) = (kI (-1))) → ((¬ (((i 28 ((v6).toNatClampNeg)) / (nI 10)) = v1) → WP (d + 2) 1455 (38, [(0, .ref 2), (1, .int v1), (2, .int v2), (3, .int v3), (4, .int v4), (5, .int v5), (6, .int (v6 + (nI 1)))], [], (mm X i j)) Q) ∧ (((i 28 ((v6).toNatClampNeg)) / (nI 10)) = v1 → (∃ (P11 : Prop), EvI (d + 1) 137 [.ref 9, .int v6, .int v2, .int (nI 1)] (mm X i j) (bi P11) (mm X i j) ∧ ((¬ (P11) → WP (d + 2) 1455 (38, [(0, .ref 2), (1, .int v1), (2, .int v2), (3, .int (v3 + (nI 1))), (4, .int (v4 + (nI 0))), (5, .int v5), (6, .int (v6 + (nI 1)))], [], (mm X i j)) Q) ∧ (P11 → WP (d + 2) 1455 (38, [(0, .ref 2), (1, .int v1), (2, .int v2), (3, .int (v3 + (nI 1))), (4, .int (v4 + (nI 1))), (5, .int v5), (6, .int (v6 + (nI 1)))], [], (mm X i j)) Q)))))))))))))) : WP (d + 2) 1455 (38, [(0, .ref 2), (1, .int v1), (2, .int v2), (3, .int v3), (4, .int v4), (5, .int v5), (6, .int v6)], [], mm X i j) Q := tc_1455_38 (d + 1) 2 v1 v2 v3 v4 v5 v6 (mm X i j) Q ⟨fun e3 => ⟨rfl, ⟨rfl, (te_641 (d + 1) 40 (mm X i j) _ ⟨rfl, ⟨rfl, ⟨rfl, ⟨rfl, (te_642 (d + 1) 40 (v4.toInt64) (mm X (s2 i 40 1 (nI 0)) j) _ ⟨rfl, ⟨fun e4 => absurd e4 (show ¬ ((nI 20) ≤ (nI 0)) by decide), fun _ => ⟨rfl, ⟨rfl, ⟨⟨rfl, (vpk 0 20 rfl)⟩, ⟨rfl, ⟨rfl, ⟨rfl, (h.1 (e3))⟩⟩⟩⟩⟩⟩⟩⟩)⟩⟩⟩⟩)⟩⟩, fun e3 => ⟨rfl, ⟨rfl, (te_1154 (d + 1) 27 v6 (mm X i j) _ ⟨fun e5 => ⟨_, rfl, ⟨fun _ => (tc_1455_98 (d + 1) 2 v1 v2 v3 v4 v5 v6 (mm X i j) _ ((h.2 (e3)).1 (e5))), fun e6 => absurd (show (kI (-1)) = (kI (-1)) by decide) e6⟩⟩, fun e5 => ⟨fun e7 => ⟨_, rfl, ⟨fun _ => (tc_1455_98 (d + 1) 2 v1 v2 v3 v4 v5 v6 (mm X i j) _ (((h.2 (e3)).2 (e5)).1 (e7))), fun e8 => absurd (show (kI (-1)) = (kI (-1)) by decide) e8⟩⟩, fun e7 => ⟨rfl, ⟨⟨rfl, (((h.2 (e3)).2 (e5)).2 (e7)).1⟩, ⟨_, rfl, ⟨fun e9 => (tc_1455_98 (d + 1) 2 v1 v2 v3 v4 v5 v6 (mm X i j) _ ((((h.2 (e3)).2 (e5)).2 (e7)).2.1 (e9))), fun e9 => ⟨(by decide), ⟨fun e10 => (tc_1455_98 (d + 1) 2 v1 v2 v3 v4 v5 v6 (mm X i j) _ (((((h.2 (e3)).2 (e5)).2 (e7)).2.2 (e9)).1 (e10))), fun e10 => ⟨rfl, ⟨rfl, (Exists.elim (((((h.2 (e3)).2 (e5)).2 (e7)).2.2 (e9)).2 ((Classical.byContradiction e10))) fun P11 h13 => EvI.use h13.1 ⟨fun e12 => (tc_1455_98 (d + 1) 2 v1 v2 (v3 + (nI 1)) (v4 + (nI 0)) v5 v6 (mm X i j) _ (h13.2.1 ((bi_z e12)))), fun e12 => (tc_1455_98 (d + 1) 2 v1 v2 (v3 + (nI 1)) (v4 + (nI 1)) v5 v6 (mm X i j) _ (h13.2.2 ((bi_n e12))))⟩)⟩⟩⟩⟩⟩⟩⟩⟩⟩⟩)⟩⟩⟩
set_option maxRecDepth 100000 in
theorem s_1639 (d : Nat) (X : XS) (i : Nat → Nat → Int32) (j : Nat → Nat → Int64) (a1 : Int32) (a2 : Int32) (K : Int32 → AM → Prop) (h : ((¬ ((nI 0) ≤ a1 ∧ a1 ≤ (nI 10)) → K (kI (-1)) (mm X (s2 i 42 36 (nI 0)) j)) ∧ ((nI 0) ≤ a1 ∧ a1 ≤ (nI 10) → ((((nI 1) ≤ a2 ∧ a2 ≤ (nI 3)) ∧ ((nI 1) ≤ (nI 1) ∧ (nI 1) ≤ (nI 9)) → (∃ (i3 : Nat → Nat → Int32), EvV (d + 261) 1589 [.ref 42, .int (nI 0), .int a2, .int (nI 1)] (mm X (s2 i 42 36 (nI 0)) j) (mm X i3 j) ∧ WP (d + 262) 1639 (40, [(0, .ref 42), (1, .int a1), (3, .int (nI 0)), (4, .int (nI 0)), (5, .int (nI 0))], [], (mm X i3 j)) (qI K))) ∧ (¬ (((nI 1) ≤ a2 ∧ a2 ≤ (nI 3)) ∧ ((nI 1) ≤ (nI 1) ∧ (nI 1) ≤ (nI 9))) → K (kI (-1)) (mm X (s2 i 42 36 (nI 0)) j)))))) : WI (d + 262) 1639 [.ref 42, .int a1, .int a2] (mm X i j) K := te_1639 (d + 261) 42 a1 a2 (mm X i j) (qI K) ⟨rfl, (p_1538 (d + 261) X (s2 i 42 36 (nI 0)) j a1 (nI 0) (nI 10) _ ⟨fun e1 => ⟨_, rfl, (h.1 ((bi_z e1)))⟩, fun e1 => (p_1588 (d + 260) X (s2 i 42 36 (nI 0)) j a2 (nI 1) _ ⟨fun e2 => ⟨rfl, (Exists.elim ((h.2 ((bi_n e1))).1 ((bi_n e2))) fun i3 h4 => EvV.use h4.1 h4.2)⟩, fun e2 => ⟨_, rfl, ((h.2 ((bi_n e1))).2 ((bi_nn e2)))⟩⟩)⟩)⟩
set_option maxRecDepth 100000 in
theorem s_1639_40 (d : Nat) (X : XS) (i : Nat → Nat → Int32) (j : Nat → Nat → Int64) (v1 : Int32) (v3 : Int32) (v4 : Int32) (v5 : Int32) (Q : Option (Option Value) → AM → Prop) (h : (((i 42 46) ≤ v5 → Q (some (some (.int v3))) (mm X (s2 (s2 i 42 35 (nI 0)) 42 35 (nI 1)) (s2 j 70 0 (v4.toInt64)))) ∧ (¬ ((i 42 46) ≤ v5) → (vp_in v5 240) ∧ (((i 62 ((v5).toNatClampNeg)) = (kI (-1)) → WP (d + 262) 1639 (40, [(0, .ref 42), (1, .int v1), (3, .int v3), (4, .int v4), (5, .int (v5 + (nI 1)))], [], (mm X i j)) Q) ∧ (¬ ((i 62 ((v5).toNatClampNeg)) = (kI (-1))) → ((((i 62 ((v5).toNatClampNeg)) / (nI 10)) = v1 → (((i 73 ((v5).toNatClampNeg)) = 0 → WP (d + 262) 1639 (40, [(0, .ref 42), (1, .int v1), (3, .int (v3 + (nI 1))), (4, .int (v4 + (nI 0))), (5, .int (v5 + (nI 1)))], [], (mm X i j)) Q) ∧ (¬ ((i 73 ((v5).toNatClampNeg)) = 0) → WP (d + 262) 1639 (40, [(0, .ref 42), (1, .int v1), (3, .int (v3 + (nI 1))), (4, .int (v4 + (nI 1))), (5, .int (v5 + (nI 1)))], [], (mm X i j)) Q))) ∧ (¬ (((i 62 ((v5).toNatClampNeg)) / (nI 10)) = v1) → WP (d + 262) 1639 (40, [(0, .ref 42), (1, .int v1), (3, .int v3), (4, .int v4), (5, .int (v5 + (nI 1)))], [], (mm X i j)) Q))))))) : WP (d + 262) 1639 (40, [(0, .ref 42), (1, .int v1), (3, .int v3), (4, .int v4), (5, .int v5)], [], mm X i j) Q := tc_1639_40 (d + 261) 42 v1 v3 v4 v5 (mm X i j) Q ⟨rfl, ⟨fun e6 => ⟨rfl, ⟨rfl, (te_1540 (d + 261) 42 (v4.toInt64) (mm X (s2 i 42 35 (nI 0)) j) _ ⟨rfl, ⟨rfl, ⟨⟨rfl, (vpk 0 32 rfl)⟩, ⟨rfl, ⟨rfl, ⟨rfl, (h.1 (e6))⟩⟩⟩⟩⟩⟩)⟩⟩, fun e6 => ⟨rfl, ⟨⟨rfl, (h.2 (e6)).1⟩, ⟨fun e7 => (tc_1639_100 (d + 261) 42 v1 v3 v4 v5 (mm X i j) _ ((h.2 (e6)).2.1 (e7))), fun e7 => ⟨rfl, ⟨⟨rfl, (h.2 (e6)).1⟩, ⟨(by decide), ⟨fun e8 => ⟨rfl, ⟨⟨(Or.inl rfl), (h.2 (e6)).1⟩, ⟨fun e9 => (tc_1639_100 (d + 261) 42 v1 (v3 + (nI 1)) (v4 + (nI 0)) v5 (mm X i j) _ ((((h.2 (e6)).2.2 (e7)).1 (e8)).1 (e9))), fun e9 => (tc_1639_100 (d + 261) 42 v1 (v3 + (nI 1)) (v4 + (nI 1)) v5 (mm X i j) _ ((((h.2 (e6)).2.2 (e7)).1 (e8)).2 (e9)))⟩⟩⟩, fun e8 => (tc_1639_100 (d + 261) 42 v1 v3 v4 v5 (mm X i j) _ (((h.2 (e6)).2.2 (e7)).2 (e8)))⟩⟩⟩⟩⟩⟩⟩⟩⟩
theorem k_46 (d : Nat) {X : XS} {i : Nat → Nat → Int32} {j : Nat → Nat → Int64} (h : Rel X i j) (a1 a2 : Int32) {Kf : AM → Prop} (hK : Nx X Kf) : WI (d + 300) 1455 [.ref 2, .int a1, .int a2] (mm X i j) (fun x1 M1 => WI (d + 300) 1639 [.ref 42, .int a1, .int a2] M1 (fun x2 M2 => x1 = x2 ∧ Kf M2)) := by
  have ht := hK.th h
  have hrel := h
  obtain ⟨hx, ⟨⟨n, h0⟩, h1, ⟨ng, h2, no, h4⟩, ⟨tn, h3⟩, ⟨np, h5⟩, h6, ns, h7⟩, h8, hz⟩ := h

  have hn := h0.2.1.1.2
  have r62 : ∀ t, t < 240 → i 28 t = i 62 t := fun t ht => (h6.2.2 t ht).1
  refine s_1455 _ X i j _ _ _ (bq_c (fun y => s_1639 _ X i j _ _ _ (bq_t y ⟨rfl, ht⟩)) (fun y => br_c (fun v => ?_) (fun v => s_1639 _ X i j _ _ _ (bq_f y (br_f v ⟨rfl, ht⟩)))))
  rw [h0.2.1.1.1, mx_sub (q := 1) (by omega) (by decide)]
  refine lup (n - 1) (fun t (z : Int32 × Int32) => z.1 = nI (ct (tdV i a1) t) ∧ z.2 = nI (ct (fun t => tdV i a1 t ∧ caF i n a2 1 t) t)) (fun t z => (38, [(0, .ref 2), (1, .int a1), (2, .int a2), (3, .int z.1), (4, .int z.2), (5, .int (nI (n - 1))), (6, .int (nI t))], [], mm X i j)) ?_ ?_ 0 (nI 0, nI 0) (Nat.zero_le _) ⟨rfl, rfl⟩
  · rintro ⟨c1, c2⟩ ⟨h1', h2'⟩
    dsimp only at h1' h2' ⊢
    refine s_1455_38 _ X i j _ _ _ _ _ _ _ (br_t (Int32.le_refl _) (qI_of ?_))
    obtain ⟨i3, hi3⟩ : ∃ i3, i3 = s2 (s2 i 40 1 (nI 0)) 40 1 (nI 1) := ⟨_, rfl⟩
    rw [← hi3]
    have f3 : ∀ b, b ≠ 40 → i3 b = i b := fun b hb => by rw [hi3, s2_ne hb, s2_ne hb]
    have F : FrC X i i3 := FrC_40 f3
    have Z : RZ i3 := RZ_of hz (f3 34 (by decide)) (f3 35 (by decide))
    refine s_1639 _ X i3 _ _ _ _ (bq_f y (br_t v ?_))
    obtain ⟨i4, hE4, f4, -, p46, -, -, -, p73⟩ := prpv 0 X i (s2 i3 42 36 (nI 0)) (s2 j 41 0 c2.toInt64) h0 h2 h4 (F.kp.tr (FrR_th (X := X) (nI 0)).kp) (nI 0) a2 (q := 1) (by decide)
    refine ⟨i4, hE4.up (by omega), ?_⟩
    have k4 : Kp X i i4 := F.kp.tr ((FrR_th (nI 0)).tr f4.fr).kp
    have e62 : i4 62 = i 62 := xt_c k4 62 0 rfl rfl (by decide)
    refine lup (n - 1) (fun t (z : Int32 × Int32) => z.1 = nI (ct (tdV i a1) t) ∧ z.2 = nI (ct (fun t => tdV i a1 t ∧ caF i n a2 1 t) t)) (fun t z => (40, [(0, .ref 42), (1, .int a1), (3, .int z.1), (4, .int z.2), (5, .int (nI t))], [], mm X i4 (s2 j 41 0 c2.toInt64))) ?_ ?_ 0 (nI 0, nI 0) (Nat.zero_le _) ⟨rfl, rfl⟩
    · rintro ⟨d1, d2⟩ ⟨h1'', h2''⟩
      dsimp only at h1'' h2'' ⊢
      refine s_1639_40 _ X i4 _ _ _ _ _ _ (br_t (by rw [p46]; exact Int32.le_refl _) (qI_of ⟨h1'.trans h1''.symm, ?_⟩))
      refine hK.k (fin_row hrel F Z (((FrR_th (nI 0)).tr f4.fr).tr (FrR_42 (fun b hb => by rw [s2_ne hb, s2_ne hb]) (fun k hk => by rw [s2_ne2 (by omega), s2_ne2 (by omega)]))) (r8_of 1 (by decide) ?_ (s2_self _ _ _ _) ?_))
      · rw [s2_ne (show 40 ≠ 42 by decide), s2_ne (show 40 ≠ 42 by decide), f4.1 40 (show ¬ (48 : Nat) = 40 by decide) (by decide), s2_ne (show 40 ≠ 42 by decide), hi3, s2_self]
      · intro t ht
        have : t = 0 := by omega
        subst this
        simp [s2_ap, h2', h2'']
    · rintro t ⟨d1, d2⟩ htn ⟨h1'', h2''⟩ go
      dsimp only at h1'' h2'' ⊢
      refine s_1639_40 _ X i4 _ _ _ _ _ _ (br_f (by rw [p46]; exact nI_ge htn (by omega)) ⟨vp_in_nI (by omega) (by decide), ?_⟩)
      rw [tc_nI (by omega), e62, p73 t htn, bi_eq0, nI_add, h1'', h2'']
      simp only [nI_add, Nat.add_zero]
      have no1 : ¬ tdV i a1 t → WP _ 1639 (40, [(0, .ref 42), (1, .int a1), (3, .int (nI (ct (tdV i a1) t))), (4, .int (nI (ct (fun t => tdV i a1 t ∧ caF i n a2 1 t) t))), (5, .int (nI (t + 1)))], [], mm X i4 (s2 j 41 0 c2.toInt64)) _ := fun hh => go (nI (ct (tdV i a1) t), nI (ct (fun t => tdV i a1 t ∧ caF i n a2 1 t) t)) ⟨by dsimp only; rw [ct_f hh], by dsimp only; rw [ct_f (p := fun t => tdV i a1 t ∧ caF i n a2 1 t) (fun q => hh q.1)]⟩
      refine br_c (fun k1 => no1 (fun q => q.1 k1)) (fun k1 => br_c (fun k2 => ?_) (fun k2 => no1 (fun q => k2 q.2)))
      refine br_c (fun k3 => go (nI (ct (tdV i a1) t + 1), nI (ct (fun t => tdV i a1 t ∧ caF i n a2 1 t) t)) ⟨?_, ?_⟩) (fun k3 => go (nI (ct (tdV i a1) t + 1), nI (ct (fun t => tdV i a1 t ∧ caF i n a2 1 t) t + 1)) ⟨?_, ?_⟩)
      · dsimp only; rw [ct_t (p := tdV i a1) ⟨k1, k2⟩]
      · dsimp only; rw [ct_f (p := fun t => tdV i a1 t ∧ caF i n a2 1 t) (fun q => k3 q.2)]
      · dsimp only; rw [ct_t (p := tdV i a1) ⟨k1, k2⟩]
      · dsimp only; rw [ct_t (p := fun t => tdV i a1 t ∧ caF i n a2 1 t) ⟨⟨k1, k2⟩, Classical.byContradiction k3⟩]
  · rintro t ⟨c1, c2⟩ htn ⟨h1', h2'⟩ go
    dsimp only at h1' h2' ⊢
    refine s_1455_38 _ X i j _ _ _ _ _ _ _ (br_f (nI_ge htn (by omega)) (br_f (nI_pos (by omega)) (br_f (nI_ge (by omega) (by decide)) ⟨vp_in_nI (by omega) (by decide), ?_⟩)))
    rw [tc_nI (by omega), r62 t (by omega), nI_add, h1', h2']
    simp only [nI_add, Nat.add_zero]
    have no1 : ¬ tdV i a1 t → WP _ 1455 (38, [(0, .ref 2), (1, .int a1), (2, .int a2), (3, .int (nI (ct (tdV i a1) t))), (4, .int (nI (ct (fun t => tdV i a1 t ∧ caF i n a2 1 t) t))), (5, .int (nI (n - 1))), (6, .int (nI (t + 1)))], [], mm X i j) _ := fun hh => go (nI (ct (tdV i a1) t), nI (ct (fun t => tdV i a1 t ∧ caF i n a2 1 t) t)) ⟨by dsimp only; rw [ct_f hh], by dsimp only; rw [ct_f (p := fun t => tdV i a1 t ∧ caF i n a2 1 t) (fun q => hh q.1)]⟩
    refine br_c (fun k1 => no1 (fun q => q.1 k1)) (fun k1 => bq_c (fun k2 => no1 (fun q => k2 q.2)) (fun k2 => ?_))
    refine ⟨_, (c_137 0 X i j 9 (DO9 X) h0.2.1 t 1 a2 (by omega)).up (by omega), ?_⟩
    refine bq_c (fun k3 => go (nI (ct (tdV i a1) t + 1), nI (ct (fun t => tdV i a1 t ∧ caF i n a2 1 t) t)) ⟨?_, ?_⟩) (fun k3 => go (nI (ct (tdV i a1) t + 1), nI (ct (fun t => tdV i a1 t ∧ caF i n a2 1 t) t + 1)) ⟨?_, ?_⟩)
    · dsimp only; rw [ct_t (p := tdV i a1) ⟨k1, k2⟩]
    · dsimp only; rw [ct_f (p := fun t => tdV i a1 t ∧ caF i n a2 1 t) (fun q => k3 q.2)]
    · dsimp only; rw [ct_t (p := tdV i a1) ⟨k1, k2⟩]
    · dsimp only; rw [ct_t (p := fun t => tdV i a1 t ∧ caF i n a2 1 t) ⟨⟨k1, k2⟩, k3⟩]
