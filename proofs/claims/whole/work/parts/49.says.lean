/-! ===== says, holds ===== -/
set_option maxRecDepth 100000 in
theorem s_1428 (d : Nat) (X : XS) (i : Nat → Nat → Int32) (j : Nat → Nat → Int64) (a1 : Int32) (a2 : Int32) (a3 : Int32) (K : Int32 → AM → Prop) (h : (SGs X i) ∧ ((¬ ((nI 0) ≤ a1 ∧ a1 ≤ ((i 2 7) - (nI 1)))) → K (kI (-1)) (mm X i j)) ∧ (((nI 0) ≤ a1 ∧ a1 ≤ ((i 2 7) - (nI 1))) → (OO X (xr X 23 (a1.toNatClampNeg))) → ((¬ (((nI 1) ≤ a2 ∧ a2 ≤ (nI 3)) ∧ ((nI 1) ≤ a3 ∧ a3 ≤ (nI 9))) → K (kI (-1)) (mm X i j)) ∧ (((nI 1) ≤ a2 ∧ a2 ≤ (nI 3)) ∧ ((nI 1) ≤ a3 ∧ a3 ≤ (nI 9)) → (∃ (i11 : Nat → Nat → Int32), EvV (d + 4) 1476 [.ref 2, .ref 9, .int (shlI (nI 1) a1), .int a2, .int a3] (mm X i j) (mm X i11 j) ∧ (∃ (i12 : Nat → Nat → Int32), EvV (d + 4) 1479 [.ref 2, .int (nI 0), .int (i11 31 2)] (mm X i11 j) (mm X i12 j) ∧ ((¬ (((i12 36 0) + (i12 36 1)) = 0) → (∃ (x14 : Int64), EvL (d + 4) 644 [.long ((i12 36 0).toInt64), .long (((i12 36 0) + (i12 36 1)).toInt64)] (mm X (s2 i12 40 1 (nI 0)) j) x14 (mm X (s2 i12 40 1 (nI 0)) j) ∧ ((x14 = (Int64.ofNat 0) → (∃ (x16 : Int64), EvL (d + 4) 644 [.long (((i12 36 0) + (i12 36 2)).toInt64), .long (((((i12 36 0) + (i12 36 1)) + (i12 36 2)) + (i12 36 3)).toInt64)] (mm X (s2 i12 40 1 (nI 0)) j) x16 (mm X (s2 i12 40 1 (nI 0)) j) ∧ ((x16 = (Int64.ofNat 0) → K (vdI (i12 36 0) (i12 36 1) (i12 36 2) (i12 36 3)) (mm X (s2 i12 40 1 (nI 0)) j)) ∧ (¬ (x16 = (Int64.ofNat 0)) → (¬ x16 = 0) ∧ K (vdI (i12 36 0) (i12 36 1) (i12 36 2) (i12 36 3)) (mm X (s2 (s2 (s2 i12 40 1 (nI 0)) 40 1 (nI 1)) 40 1 (nI 2)) (s2 (s2 j 41 0 ((((i12 36 0) + (i12 36 2)).toInt64) / x16)) 41 1 ((((((i12 36 0) + (i12 36 1)) + (i12 36 2)) + (i12 36 3)).toInt64) / x16))))))) ∧ (¬ (x14 = (Int64.ofNat 0)) → (¬ x14 = 0) ∧ (∃ (x24 : Int64), EvL (d + 4) 644 [.long (((i12 36 0) + (i12 36 2)).toInt64), .long (((((i12 36 0) + (i12 36 1)) + (i12 36 2)) + (i12 36 3)).toInt64)] (mm X (s2 (s2 (s2 i12 40 1 (nI 0)) 40 1 (nI 1)) 40 1 (nI 2)) (s2 (s2 j 41 0 (((i12 36 0).toInt64) / x14)) 41 1 ((((i12 36 0) + (i12 36 1)).toInt64) / x14))) x24 (mm X (s2 (s2 (s2 i12 40 1 (nI 0)) 40 1 (nI 1)) 40 1 (nI 2)) (s2 (s2 j 41 0 (((i12 36 0).toInt64) / x14)) 41 1 ((((i12 36 0) + (i12 36 1)).toInt64) / x14))) ∧ ((x24 = (Int64.ofNat 0) → K (vdI (i12 36 0) (i12 36 1) (i12 36 2) (i12 36 3)) (mm X (s2 (s2 (s2 i12 40 1 (nI 0)) 40 1 (nI 1)) 40 1 (nI 2)) (s2 (s2 j 41 0 (((i12 36 0).toInt64) / x14)) 41 1 ((((i12 36 0) + (i12 36 1)).toInt64) / x14)))) ∧ (¬ (x24 = (Int64.ofNat 0)) → (¬ x24 = 0) ∧ K (vdI (i12 36 0) (i12 36 1) (i12 36 2) (i12 36 3)) (mm X (s2 (s2 (s2 (s2 (s2 i12 40 1 (nI 0)) 40 1 (nI 1)) 40 1 (nI 2)) 40 1 (nI 3)) 40 1 (nI 4)) (s2 (s2 (s2 (s2 j 41 0 (((i12 36 0).toInt64) / x14)) 41 1 ((((i12 36 0) + (i12 36 1)).toInt64) / x14)) 41 2 ((((i12 36 0) + (i12 36 2)).toInt64) / x24)) 41 3 ((((((i12 36 0) + (i12 36 1)) + (i12 36 2)) + (i12 36 3)).toInt64) / x24)))))))))) ∧ (((i12 36 0) + (i12 36 1)) = 0 → K (kI (-2)) (mm X i12 j))))))))) : WI (d + 6) 1428 [.ref 2, .int a1, .int a2, .int a3] (mm X i j) K := te_1428 (d + 5) 2 a1 a2 a3 (mm X i j) (qI K) ⟨rfl, (te_1471 (d + 4) 2 a1 a2 a3 (mm X i j) _ ⟨rfl, (p_1468 (d + 3) X i j a1 _ ⟨h.1, (fun h2 => ⟨fun _ => ⟨k0_01, ⟨_, rfl, ⟨fun e4 => absurd e4 (show ¬ (¬ (nI 0) = 0) by decide), fun _ => ⟨_, rfl, (h.2.1 h2)⟩⟩⟩⟩, fun e3 => absurd rfl e3⟩), (fun h5 h6 => ⟨fun e7 => absurd e7 (nz_k (h6.1)), fun _ => (p_1464 (d + 3) X i j a2 a3 _ ⟨fun e8 => ⟨k0_01, ⟨_, rfl, ⟨fun e9 => absurd e9 (show ¬ (¬ (nI 0) = 0) by decide), fun _ => ⟨_, rfl, ((h.2.2 h5 h6).1 ((bi_z e8)))⟩⟩⟩⟩, fun e8 => ⟨k1_01, ⟨_, rfl, ⟨fun _ => ⟨rfl, (te_1478 (d + 4) 2 a1 a2 a3 (mm X i j) _ ⟨rfl, ⟨rfl, (Exists.elim ((h.2.2 h5 h6).2 ((bi_n e8))) fun i11 h34 => EvV.use h34.1 ⟨rfl, ⟨rfl, (te_771 (d + 4) 31 (mm X i11 j) _ ⟨rfl, ⟨_, rfl, ⟨rfl, (Exists.elim h34.2 fun i12 h32 => EvV.use h32.1 ⟨rfl, ⟨rfl, ⟨rfl, (te_903 (d + 5) 36 (mm X i12 j) _ ⟨rfl, ⟨rfl, ⟨_, rfl, ⟨fun e13 => ⟨rfl, ⟨rfl, (te_641 (d + 5) 40 (mm X i12 j) _ ⟨rfl, ⟨rfl, ⟨rfl, ⟨rfl, ⟨rfl, (te_899 (d + 5) 36 (mm X (s2 i12 40 1 (nI 0)) j) _ ⟨rfl, ⟨_, rfl, ⟨rfl, ⟨rfl, (te_903 (d + 5) 36 (mm X (s2 i12 40 1 (nI 0)) j) _ ⟨rfl, ⟨rfl, ⟨_, rfl, ⟨rfl, (te_643 (d + 4) 40 ((i12 36 0).toInt64) (((i12 36 0) + (i12 36 1)).toInt64) (mm X (s2 i12 40 1 (nI 0)) j) _ (Exists.elim (h32.2.1 (e13)) fun x14 h30 => EvL.use h30.1 ⟨fun e15 => ⟨rfl, ⟨rfl, ⟨rfl, ⟨rfl, (te_904 (d + 5) 36 (mm X (s2 i12 40 1 (nI 0)) j) _ ⟨rfl, ⟨rfl, ⟨_, rfl, ⟨rfl, ⟨rfl, (te_905 (d + 5) 36 (mm X (s2 i12 40 1 (nI 0)) j) _ ⟨rfl, ⟨rfl, ⟨rfl, ⟨rfl, ⟨_, rfl, ⟨rfl, (te_643 (d + 4) 40 (((i12 36 0) + (i12 36 2)).toInt64) (((((i12 36 0) + (i12 36 1)) + (i12 36 2)) + (i12 36 3)).toInt64) (mm X (s2 i12 40 1 (nI 0)) j) _ (Exists.elim (h30.2.1 ((lc_eq.1 e15))) fun x16 h20 => EvL.use h20.1 ⟨fun e17 => ⟨rfl, ⟨rfl, ⟨rfl, (p_907 (d + 3) X (s2 i12 40 1 (nI 0)) j  _ ⟨_, rfl, (h20.2.1 ((lc_eq.1 e17)))⟩)⟩⟩⟩, fun e17 => ⟨(h20.2.2 ((fun z => e17 (lc_eq.2 z)))).1, ⟨rfl, (te_642 (d + 4) 40 ((((i12 36 0) + (i12 36 2)).toInt64) / x16) (mm X (s2 i12 40 1 (nI 0)) j) _ ⟨rfl, ⟨fun e18 => absurd e18 (show ¬ ((nI 20) ≤ (nI 0)) by decide), fun _ => ⟨rfl, ⟨rfl, ⟨⟨rfl, (vpk 0 20 rfl)⟩, ⟨rfl, ⟨rfl, ⟨rfl, ⟨(h20.2.2 ((fun z => e17 (lc_eq.2 z)))).1, ⟨rfl, (te_642 (d + 4) 40 ((((((i12 36 0) + (i12 36 1)) + (i12 36 2)) + (i12 36 3)).toInt64) / x16) (mm X (s2 (s2 i12 40 1 (nI 0)) 40 1 (nI 1)) (s2 j 41 0 ((((i12 36 0) + (i12 36 2)).toInt64) / x16))) _ ⟨rfl, ⟨fun e19 => absurd e19 (show ¬ ((nI 20) ≤ (nI 1)) by decide), fun _ => ⟨rfl, ⟨rfl, ⟨⟨rfl, (vpk 1 20 rfl)⟩, ⟨rfl, ⟨rfl, ⟨rfl, ⟨rfl, ⟨rfl, ⟨rfl, (p_907 (d + 3) X (s2 (s2 (s2 i12 40 1 (nI 0)) 40 1 (nI 1)) 40 1 (nI 2)) (s2 (s2 j 41 0 ((((i12 36 0) + (i12 36 2)).toInt64) / x16)) 41 1 ((((((i12 36 0) + (i12 36 1)) + (i12 36 2)) + (i12 36 3)).toInt64) / x16))  _ ⟨_, rfl, (h20.2.2 ((fun z => e17 (lc_eq.2 z)))).2⟩)⟩⟩⟩⟩⟩⟩⟩⟩⟩⟩⟩)⟩⟩⟩⟩⟩⟩⟩⟩⟩⟩)⟩⟩⟩))⟩⟩⟩⟩⟩⟩)⟩⟩⟩⟩⟩)⟩⟩⟩⟩, fun e15 => ⟨(h30.2.2 ((fun z => e15 (lc_eq.2 z)))).1, ⟨rfl, (te_642 (d + 4) 40 (((i12 36 0).toInt64) / x14) (mm X (s2 i12 40 1 (nI 0)) j) _ ⟨rfl, ⟨fun e22 => absurd e22 (show ¬ ((nI 20) ≤ (nI 0)) by decide), fun _ => ⟨rfl, ⟨rfl, ⟨⟨rfl, (vpk 0 20 rfl)⟩, ⟨rfl, ⟨rfl, ⟨rfl, ⟨(h30.2.2 ((fun z => e15 (lc_eq.2 z)))).1, ⟨rfl, (te_642 (d + 4) 40 ((((i12 36 0) + (i12 36 1)).toInt64) / x14) (mm X (s2 (s2 i12 40 1 (nI 0)) 40 1 (nI 1)) (s2 j 41 0 (((i12 36 0).toInt64) / x14))) _ ⟨rfl, ⟨fun e23 => absurd e23 (show ¬ ((nI 20) ≤ (nI 1)) by decide), fun _ => ⟨rfl, ⟨rfl, ⟨⟨rfl, (vpk 1 20 rfl)⟩, ⟨rfl, ⟨rfl, ⟨rfl, ⟨rfl, ⟨rfl, ⟨rfl, ⟨rfl, (te_904 (d + 5) 36 (mm X (s2 (s2 (s2 i12 40 1 (nI 0)) 40 1 (nI 1)) 40 1 (nI 2)) (s2 (s2 j 41 0 (((i12 36 0).toInt64) / x14)) 41 1 ((((i12 36 0) + (i12 36 1)).toInt64) / x14))) _ ⟨rfl, ⟨rfl, ⟨_, rfl, ⟨rfl, ⟨rfl, (te_905 (d + 5) 36 (mm X (s2 (s2 (s2 i12 40 1 (nI 0)) 40 1 (nI 1)) 40 1 (nI 2)) (s2 (s2 j 41 0 (((i12 36 0).toInt64) / x14)) 41 1 ((((i12 36 0) + (i12 36 1)).toInt64) / x14))) _ ⟨rfl, ⟨rfl, ⟨rfl, ⟨rfl, ⟨_, rfl, ⟨rfl, (te_643 (d + 4) 40 (((i12 36 0) + (i12 36 2)).toInt64) (((((i12 36 0) + (i12 36 1)) + (i12 36 2)) + (i12 36 3)).toInt64) (mm X (s2 (s2 (s2 i12 40 1 (nI 0)) 40 1 (nI 1)) 40 1 (nI 2)) (s2 (s2 j 41 0 (((i12 36 0).toInt64) / x14)) 41 1 ((((i12 36 0) + (i12 36 1)).toInt64) / x14))) _ (Exists.elim (h30.2.2 ((fun z => e15 (lc_eq.2 z)))).2 fun x24 h28 => EvL.use h28.1 ⟨fun e25 => ⟨rfl, ⟨rfl, ⟨rfl, (p_907 (d + 3) X (s2 (s2 (s2 i12 40 1 (nI 0)) 40 1 (nI 1)) 40 1 (nI 2)) (s2 (s2 j 41 0 (((i12 36 0).toInt64) / x14)) 41 1 ((((i12 36 0) + (i12 36 1)).toInt64) / x14))  _ ⟨_, rfl, (h28.2.1 ((lc_eq.1 e25)))⟩)⟩⟩⟩, fun e25 => ⟨(h28.2.2 ((fun z => e25 (lc_eq.2 z)))).1, ⟨rfl, (te_642 (d + 4) 40 ((((i12 36 0) + (i12 36 2)).toInt64) / x24) (mm X (s2 (s2 (s2 i12 40 1 (nI 0)) 40 1 (nI 1)) 40 1 (nI 2)) (s2 (s2 j 41 0 (((i12 36 0).toInt64) / x14)) 41 1 ((((i12 36 0) + (i12 36 1)).toInt64) / x14))) _ ⟨rfl, ⟨fun e26 => absurd e26 (show ¬ ((nI 20) ≤ (nI 2)) by decide), fun _ => ⟨rfl, ⟨rfl, ⟨⟨rfl, (vpk 2 20 rfl)⟩, ⟨rfl, ⟨rfl, ⟨rfl, ⟨(h28.2.2 ((fun z => e25 (lc_eq.2 z)))).1, ⟨rfl, (te_642 (d + 4) 40 ((((((i12 36 0) + (i12 36 1)) + (i12 36 2)) + (i12 36 3)).toInt64) / x24) (mm X (s2 (s2 (s2 (s2 i12 40 1 (nI 0)) 40 1 (nI 1)) 40 1 (nI 2)) 40 1 (nI 3)) (s2 (s2 (s2 j 41 0 (((i12 36 0).toInt64) / x14)) 41 1 ((((i12 36 0) + (i12 36 1)).toInt64) / x14)) 41 2 ((((i12 36 0) + (i12 36 2)).toInt64) / x24))) _ ⟨rfl, ⟨fun e27 => absurd e27 (show ¬ ((nI 20) ≤ (nI 3)) by decide), fun _ => ⟨rfl, ⟨rfl, ⟨⟨rfl, (vpk 3 20 rfl)⟩, ⟨rfl, ⟨rfl, ⟨rfl, ⟨rfl, ⟨rfl, ⟨rfl, (p_907 (d + 3) X (s2 (s2 (s2 (s2 (s2 i12 40 1 (nI 0)) 40 1 (nI 1)) 40 1 (nI 2)) 40 1 (nI 3)) 40 1 (nI 4)) (s2 (s2 (s2 (s2 j 41 0 (((i12 36 0).toInt64) / x14)) 41 1 ((((i12 36 0) + (i12 36 1)).toInt64) / x14)) 41 2 ((((i12 36 0) + (i12 36 2)).toInt64) / x24)) 41 3 ((((((i12 36 0) + (i12 36 1)) + (i12 36 2)) + (i12 36 3)).toInt64) / x24))  _ ⟨_, rfl, (h28.2.2 ((fun z => e25 (lc_eq.2 z)))).2⟩)⟩⟩⟩⟩⟩⟩⟩⟩⟩⟩⟩)⟩⟩⟩⟩⟩⟩⟩⟩⟩⟩)⟩⟩⟩))⟩⟩⟩⟩⟩⟩)⟩⟩⟩⟩⟩)⟩⟩⟩⟩⟩⟩⟩⟩⟩⟩⟩⟩)⟩⟩⟩⟩⟩⟩⟩⟩⟩⟩)⟩⟩⟩))⟩⟩⟩⟩)⟩⟩⟩⟩)⟩⟩⟩⟩⟩)⟩⟩, fun e13 => ⟨_, rfl, (h32.2.2 ((Classical.byContradiction e13)))⟩⟩⟩⟩⟩)⟩⟩⟩)⟩⟩⟩)⟩⟩)⟩⟩)⟩, fun e10 => absurd (show ¬ (nI 1) = 0 by decide) e10⟩⟩⟩⟩)⟩)⟩)⟩)⟩
set_option maxRecDepth 100000 in
theorem s_1594 (d : Nat) (X : XS) (i : Nat → Nat → Int32) (j : Nat → Nat → Int64) (a1 : Int32) (a2 : Int32) (a3 : Int32) (K : Int32 → AM → Prop) (h : ((¬ ((nI 0) ≤ a1 ∧ a1 ≤ ((i 42 14) - (nI 1))) → K (kI (-1)) (mm X (s2 i 42 36 (nI 0)) j)) ∧ ((nI 0) ≤ a1 ∧ a1 ≤ ((i 42 14) - (nI 1)) → ((((nI 1) ≤ a2 ∧ a2 ≤ (nI 3)) ∧ ((nI 1) ≤ a3 ∧ a3 ≤ (nI 9)) → (∃ (i3 : Nat → Nat → Int32), EvV (d + 261) 1589 [.ref 42, .int (shlI (nI 1) a1), .int a2, .int a3] (mm X (s2 i 42 36 (nI 0)) j) (mm X i3 j) ∧ (∃ (i4 : Nat → Nat → Int32), EvV (d + 261) 1592 [.ref 42, .int a1, .int (nI 0), .int (i3 42 46)] (mm X i3 j) (mm X i4 j) ∧ ((¬ ((i4 74 0) = 0) → (∃ (x6 : Int64), EvL (d + 260) 1541 [.long ((i4 74 1).toInt64), .long ((i4 74 0).toInt64)] (mm X (s2 i4 42 35 (nI 0)) j) x6 (mm X (s2 i4 42 35 (nI 0)) j) ∧ (¬ x6 = 0) ∧ (∃ (x7 : Int64), EvL (d + 260) 1541 [.long ((i4 74 2).toInt64), .long ((i4 74 3).toInt64)] (mm X (s2 (s2 (s2 i4 42 35 (nI 0)) 42 35 (nI 1)) 42 35 (nI 2)) (s2 (s2 j 70 0 (((i4 74 1).toInt64) / x6)) 70 1 (((i4 74 0).toInt64) / x6))) x7 (mm X (s2 (s2 (s2 i4 42 35 (nI 0)) 42 35 (nI 1)) 42 35 (nI 2)) (s2 (s2 j 70 0 (((i4 74 1).toInt64) / x6)) 70 1 (((i4 74 0).toInt64) / x6))) ∧ (¬ x7 = 0) ∧ K (cpI (i4 74 0) (i4 74 1) (i4 74 2) (i4 74 3)) (mm X (s2 (s2 (s2 (s2 (s2 i4 42 35 (nI 0)) 42 35 (nI 1)) 42 35 (nI 2)) 42 35 (nI 3)) 42 35 (nI 4)) (s2 (s2 (s2 (s2 j 70 0 (((i4 74 1).toInt64) / x6)) 70 1 (((i4 74 0).toInt64) / x6)) 70 2 (((i4 74 2).toInt64) / x7)) 70 3 (((i4 74 3).toInt64) / x7)))))) ∧ ((i4 74 0) = 0 → K (kI (-2)) (mm X i4 j)))))) ∧ (¬ (((nI 1) ≤ a2 ∧ a2 ≤ (nI 3)) ∧ ((nI 1) ≤ a3 ∧ a3 ≤ (nI 9))) → K (kI (-1)) (mm X (s2 i 42 36 (nI 0)) j)))))) : WI (d + 262) 1594 [.ref 42, .int a1, .int a2, .int a3] (mm X i j) K := te_1594 (d + 261) 42 a1 a2 a3 (mm X i j) (qI K) ⟨rfl, ⟨rfl, (te_1546 (d + 260) 42 a1 (mm X (s2 i 42 36 (nI 0)) j) _ ⟨rfl, (p_1538 (d + 260) X (s2 i 42 36 (nI 0)) j a1 (nI 0) ((i 42 14) - (nI 1)) _ ⟨(bi_01 _), ⟨_, rfl, ⟨fun e1 => ⟨_, rfl, (h.1 ((bi_z e1)))⟩, fun e1 => (p_1588 (d + 260) X (s2 i 42 36 (nI 0)) j a2 a3 _ ⟨fun e2 => ⟨rfl, (Exists.elim ((h.2 ((bi_n e1))).1 ((bi_n e2))) fun i3 h14 => EvV.use h14.1 ⟨rfl, ⟨rfl, (Exists.elim h14.2 fun i4 h12 => EvV.use h12.1 ⟨rfl, ⟨⟨rfl, (vpk 0 4 rfl)⟩, ⟨fun e5 => ⟨rfl, ⟨rfl, ⟨⟨rfl, (vpk 1 4 rfl)⟩, ⟨rfl, ⟨⟨rfl, (vpk 0 4 rfl)⟩, ⟨rfl, (te_1542 (d + 260) 42 ((i4 74 1).toInt64) ((i4 74 0).toInt64) (mm X (s2 i4 42 35 (nI 0)) j) _ (Exists.elim (h12.2.1 (e5)) fun x6 h10 => EvL.use h10.1 ⟨h10.2.1, ⟨rfl, (te_1540 (d + 260) 42 (((i4 74 1).toInt64) / x6) (mm X (s2 i4 42 35 (nI 0)) j) _ ⟨rfl, ⟨rfl, ⟨⟨rfl, (vpk 0 32 rfl)⟩, ⟨rfl, ⟨rfl, ⟨rfl, ⟨h10.2.1, ⟨rfl, (te_1540 (d + 260) 42 (((i4 74 0).toInt64) / x6) (mm X (s2 (s2 i4 42 35 (nI 0)) 42 35 (nI 1)) (s2 j 70 0 (((i4 74 1).toInt64) / x6))) _ ⟨rfl, ⟨rfl, ⟨⟨rfl, (vpk 1 32 rfl)⟩, ⟨rfl, ⟨rfl, ⟨rfl, ⟨rfl, ⟨rfl, ⟨⟨rfl, (vpk 2 4 rfl)⟩, ⟨rfl, ⟨⟨rfl, (vpk 3 4 rfl)⟩, ⟨rfl, (te_1542 (d + 260) 42 ((i4 74 2).toInt64) ((i4 74 3).toInt64) (mm X (s2 (s2 (s2 i4 42 35 (nI 0)) 42 35 (nI 1)) 42 35 (nI 2)) (s2 (s2 j 70 0 (((i4 74 1).toInt64) / x6)) 70 1 (((i4 74 0).toInt64) / x6))) _ (Exists.elim h10.2.2 fun x7 h8 => EvL.use h8.1 ⟨h8.2.1, ⟨rfl, (te_1540 (d + 260) 42 (((i4 74 2).toInt64) / x7) (mm X (s2 (s2 (s2 i4 42 35 (nI 0)) 42 35 (nI 1)) 42 35 (nI 2)) (s2 (s2 j 70 0 (((i4 74 1).toInt64) / x6)) 70 1 (((i4 74 0).toInt64) / x6))) _ ⟨rfl, ⟨rfl, ⟨⟨rfl, (vpk 2 32 rfl)⟩, ⟨rfl, ⟨rfl, ⟨rfl, ⟨h8.2.1, ⟨rfl, (te_1540 (d + 260) 42 (((i4 74 3).toInt64) / x7) (mm X (s2 (s2 (s2 (s2 i4 42 35 (nI 0)) 42 35 (nI 1)) 42 35 (nI 2)) 42 35 (nI 3)) (s2 (s2 (s2 j 70 0 (((i4 74 1).toInt64) / x6)) 70 1 (((i4 74 0).toInt64) / x6)) 70 2 (((i4 74 2).toInt64) / x7))) _ ⟨rfl, ⟨rfl, ⟨⟨rfl, (vpk 3 32 rfl)⟩, ⟨rfl, ⟨rfl, ⟨rfl, ⟨rfl, ⟨rfl, (p_1593 (d + 261) X (s2 (s2 (s2 (s2 (s2 i4 42 35 (nI 0)) 42 35 (nI 1)) 42 35 (nI 2)) 42 35 (nI 3)) 42 35 (nI 4)) (s2 (s2 (s2 (s2 j 70 0 (((i4 74 1).toInt64) / x6)) 70 1 (((i4 74 0).toInt64) / x6)) 70 2 (((i4 74 2).toInt64) / x7)) 70 3 (((i4 74 3).toInt64) / x7))  _ ⟨_, rfl, h8.2.2⟩)⟩⟩⟩⟩⟩⟩⟩⟩)⟩⟩⟩⟩⟩⟩⟩⟩)⟩⟩))⟩⟩⟩⟩⟩⟩⟩⟩⟩⟩⟩⟩)⟩⟩⟩⟩⟩⟩⟩⟩)⟩⟩))⟩⟩⟩⟩⟩⟩, fun e5 => ⟨_, rfl, (h12.2.2 ((Classical.byContradiction e5)))⟩⟩⟩⟩)⟩⟩)⟩, fun e2 => ⟨_, rfl, ((h.2 ((bi_n e1))).2 ((bi_nn e2)))⟩⟩)⟩⟩⟩)⟩)⟩⟩
theorem svA {X : XS} {i : Nat → Nat → Int32} {no s : Nat} (hno : no ≤ 10) (hs : s < no) : (fun t => ¬ soF X i no (shlI (nI 1) (nI s)) t = 0) = svP X i s := by
  funext t; exact propext (soF_c hno hs t)
theorem RZ_of {i i' : Nat → Nat → Int32} (h : RZ i) (e1 : i' 34 = i 34) (e2 : i' 35 = i 35) : RZ i' := by
  unfold RZ at h ⊢; rw [e1, e2]; exact h
theorem nIz {m : Nat} (h : m < 2 ^ 31) : nI m = 0 ↔ m = 0 := nI_eq h (b := 0) (by decide)
theorem k_19 (d : Nat) {X : XS} {i : Nat → Nat → Int32} {j : Nat → Nat → Int64} (h : Rel X i j) (a1 a2 a3 : Int32) {Kf : AM → Prop} (hK : Nx X Kf) : WI (d + 300) 1428 [.ref 2, .int a1, .int a2, .int a3] (mm X i j) (fun x1 M1 => WI (d + 300) 1594 [.ref 42, .int a1, .int a2, .int a3] M1 (fun x2 M2 => x1 = x2 ∧ Kf M2)) := by
  have ht := hK.th h
  have hrel := h
  obtain ⟨hx, ⟨⟨n, h0⟩, h1, ⟨ng, h2, no, h4⟩, ⟨tn, h3⟩, ⟨np, h5⟩, h6, ns, h7⟩, h8, hz⟩ := h
  have e1 := h4.2.1
  have e2 := h4.2.2.1
  have hno := h4.1
  have hn := h0.2.1.1.2
  refine s_1428 _ X i j a1 a2 a3 _ ⟨h4.sg, ?_, ?_⟩
  · rw [e1]
    exact fun z => s_1594 _ X i j _ _ _ _ (bq_t (by rw [e2]; exact z) ⟨rfl, ht⟩)
  rw [e1]
  intro z hO
  refine ⟨fun v => s_1594 _ X i j _ _ _ _ (bq_f (by rw [e2]; exact z) ⟨fun w => absurd w v, fun _ => ⟨rfl, ht⟩⟩), fun v => ?_⟩
  have z2 : nI 0 ≤ a1 ∧ a1 ≤ i 42 14 - nI 1 := by rw [e2]; exact z
  obtain ⟨s, hs, rfl⟩ := idx_of (by omega) z
  obtain ⟨q, hq1, hq, rfl⟩ := ev_rng (by decide) v.2
  obtain ⟨i1, hE1, f1, z1, r40, hL, hS⟩ := lov 0 X i j h0 h2 h4 hz (shlI (nI 1) (nI s)) a2 hq

  refine ⟨i1, hE1.up (by omega), ?_⟩
  rw [hS.1]
  obtain ⟨i2, hE2, f2, hT⟩ := c_1479 0 X i1 j hS (Nat.zero_le _) (Nat.le_refl _)
  refine ⟨i2, hE2.up (by omega), ?_⟩
  rw [Nat.sub_zero, svA hno hs] at hT
  obtain ⟨t0, t1, t2, t3⟩ := hT
  obtain ⟨w0, w1, w2⟩ := tly_cel (A := svP X i s) (B := caF i n a2 q) (u := 0) (m := n - q)
  have F2 : FrC X i i2 := f1.tr (FrC_36 f2)
  have Z2 : RZ i2 := RZ_of z1 (f2 34 (by decide)) (f2 35 (by decide))
  have g42 : ∀ b, b = 42 → i2 b = i b := fun b hb => F2 b (by subst hb; exact Or.inl (show 0 < 10 by decide))
  have w3 : n - q = cr (svP X i s) 0 (n - q) + cr (fun t => ¬ svP X i s t ∧ caF i n a2 q t) 0 (n - q) + cr (fun t => ¬ svP X i s t ∧ ¬ caF i n a2 q t) 0 (n - q) := by omega
  rw [vd_cp, t0, t1, t2, t3, nI_add, nI_add, nI_add, nI_add, ← w0, ← w1, ← w3]
  have hle : cr (svP X i s) 0 (n - q) ≤ n - q := ct_le _ _
  have b0 : cr (fun t => svP X i s t ∧ caF i n a2 q t) 0 (n - q) ≤ n - q := ct_le _ _
  have b2 : cr (caF i n a2 q) 0 (n - q) ≤ n - q := ct_le _ _
  by_cases hst : cr (svP X i s) 0 (n - q) = 0
  · refine ⟨fun y => absurd (by rw [hst]; rfl) y, fun _ => ?_⟩
    refine s_1594 _ X i2 _ _ _ _ _ (bq_f (by rw [g42 42 rfl]; exact z2) (br_t v ?_))
    obtain ⟨i4, hE4, f4, -, p46, -, -, p72, p73⟩ := prpv 0 X i (s2 i2 42 36 (nI 0)) j h0 h2 h4 (F2.kp.tr (FrR_th (X := X) (nI 0)).kp) (shlI (nI 1) (nI s)) a2 hq
    refine ⟨i4, hE4.up (by omega), ?_⟩
    rw [p46]
    obtain ⟨i5, hE5, f5, c0, c1, c2, c3⟩ := c_1592 0 X i4 j (s := s) (A := svP X i s) (B := caF i n a2 q) (Nat.zero_le (n - q)) (by omega) (fun t ht => by rw [p72 t (by omega)]; exact soF_r hno hs t) p73
    refine ⟨i5, hE5.up (by omega), ?_⟩
    rw [Nat.sub_zero] at c0
    refine ⟨fun y => absurd (by rw [c0, hst]; rfl) y, fun _ => ⟨rfl, hK.k (fin_row hrel F2 Z2 (((FrR_th (nI 0)).tr f4.fr).tr (FrR_74 f5)) ?_)⟩⟩
    obtain ⟨L, l0, l1, l2, l3⟩ := h8
    refine ⟨L, l0, ?_, ?_, l3⟩
    · rw [f5 40 (by decide), f4.1 40 (show ¬ (48 : Nat) = 40 by decide) (by decide), s2_ne (show 40 ≠ 42 by decide), f2 40 (by decide), r40]; exact l1
    · rw [f5 42 (by decide), f4.2 35 (by decide), s2_ne2 (show 35 ≠ 36 by decide), g42 42 rfl]; exact l2
  · have hpos : 0 < cr (svP X i s) 0 (n - q) := by omega
    refine ⟨fun _ => ?_, fun y => absurd ((nIz (by omega)).mp y) hst⟩
    have n1 : ¬ gcL (nI (cr (fun t => svP X i s t ∧ caF i n a2 q t) 0 (n - q))).toInt64 (nI (cr (svP X i s) 0 (n - q))).toInt64 = 0 := gcL_ne (Or.inr (toL_ne hpos (by omega)))
    have n2 : ¬ gcL (nI (cr (caF i n a2 q) 0 (n - q))).toInt64 (nI (n - q)).toInt64 = 0 := gcL_ne (Or.inr (toL_ne (by omega) (by omega)))
    refine ⟨_, c_644 _ X _ _ _ _, fun y => absurd y n1, fun _ => ⟨n1, _, c_644 _ X _ _ _ _, fun y => absurd y n2, fun _ => ⟨n2, ?_⟩⟩⟩
    obtain ⟨i3, hi3⟩ : ∃ i3, i3 = s2 (s2 (s2 (s2 (s2 i2 40 1 (nI 0)) 40 1 (nI 1)) 40 1 (nI 2)) 40 1 (nI 3)) 40 1 (nI 4) := ⟨_, rfl⟩
    rw [← hi3]
    have f3 : ∀ b, b ≠ 40 → i3 b = i2 b := fun b hb => by rw [hi3, s2_ne hb, s2_ne hb, s2_ne hb, s2_ne hb, s2_ne hb]
    have g40 : i3 40 1 = nI 4 := by rw [hi3, s2_self]
    have F : FrC X i i3 := F2.tr (FrC_40 f3)
    have Z3 : RZ i3 := RZ_of Z2 (f3 34 (by decide)) (f3 35 (by decide))
    refine s_1594 _ X i3 _ _ _ _ _ (bq_f (by rw [f3 42 (by decide), g42 42 rfl]; exact z2) (br_t v ?_))
    obtain ⟨j3, hj3⟩ : ∃ j3, j3 = s2 (s2 (s2 (s2 j 41 0 ((nI (cr (fun t => svP X i s t ∧ caF i n a2 q t) 0 (n - q))).toInt64 / gcL (nI (cr (fun t => svP X i s t ∧ caF i n a2 q t) 0 (n - q))).toInt64 (nI (cr (svP X i s) 0 (n - q))).toInt64)) 41 1 ((nI (cr (svP X i s) 0 (n - q))).toInt64 / gcL (nI (cr (fun t => svP X i s t ∧ caF i n a2 q t) 0 (n - q))).toInt64 (nI (cr (svP X i s) 0 (n - q))).toInt64)) 41 2 ((nI (cr (caF i n a2 q) 0 (n - q))).toInt64 / gcL (nI (cr (caF i n a2 q) 0 (n - q))).toInt64 (nI (n - q)).toInt64)) 41 3 ((nI (n - q)).toInt64 / gcL (nI (cr (caF i n a2 q) 0 (n - q))).toInt64 (nI (n - q)).toInt64) := ⟨_, rfl⟩
    rw [← hj3]
    obtain ⟨i4, hE4, f4, -, p46, -, -, p72, p73⟩ := prpv 0 X i (s2 i3 42 36 (nI 0)) j3 h0 h2 h4 (F.kp.tr (FrR_th (X := X) (nI 0)).kp) (shlI (nI 1) (nI s)) a2 hq
    refine ⟨i4, hE4.up (by omega), ?_⟩
    rw [p46]
    obtain ⟨i5, hE5, f5, c0, c1, c2, c3⟩ := c_1592 0 X i4 j3 (s := s) (A := svP X i s) (B := caF i n a2 q) (Nat.zero_le (n - q)) (by omega) (fun t ht => by rw [p72 t (by omega)]; exact soF_r hno hs t) p73
    refine ⟨i5, hE5.up (by omega), ?_⟩
    rw [Nat.sub_zero] at c0 c1 c2 c3
    rw [c0, c1, c2, c3]
    refine ⟨fun _ => ⟨_, c_1541 _ X _ _ _ _, n1, _, c_1541 _ X _ _ _ _, n2, rfl, hK.k (fin_row hrel F Z3 ((((FrR_th (nI 0)).tr f4.fr).tr (FrR_74 f5)).tr (FrR_42 (fun b hb => by rw [s2_ne hb, s2_ne hb, s2_ne hb, s2_ne hb, s2_ne hb]) (fun k hk => by rw [s2_ne2 (by omega), s2_ne2 (by omega), s2_ne2 (by omega), s2_ne2 (by omega), s2_ne2 (by omega)]))) (r8_of 4 (by decide) ?_ (s2_self _ _ _ _) ?_))⟩, fun y => absurd ((nIz (by omega)).mp y) hst⟩
    · rw [s2_ne (show 40 ≠ 42 by decide), s2_ne (show 40 ≠ 42 by decide), s2_ne (show 40 ≠ 42 by decide), s2_ne (show 40 ≠ 42 by decide), s2_ne (show 40 ≠ 42 by decide), f5 40 (by decide), f4.1 40 (show ¬ (48 : Nat) = 40 by decide) (by decide), s2_ne (show 40 ≠ 42 by decide)]; exact g40
    · intro p hp
      rw [hj3]
      match p, hp with
      | 0, _ => simp [s2_ap]
      | 1, _ => simp [s2_ap]
      | 2, _ => simp [s2_ap]
      | 3, _ => simp [s2_ap]

set_option maxRecDepth 100000 in
theorem s_1432 (d : Nat) (X : XS) (i : Nat → Nat → Int32) (j : Nat → Nat → Int64) (a1 : Int32) (a2 : Int32) (a3 : Int32) (K : Int32 → AM → Prop) (h : (SGs X i) ∧ ((¬ ((nI 0) ≤ a1 ∧ a1 ≤ ((i 2 7) - (nI 1)))) → K (kI (-1)) (mm X i j)) ∧ (((nI 0) ≤ a1 ∧ a1 ≤ ((i 2 7) - (nI 1))) → (OO X (xr X 23 (a1.toNatClampNeg))) → ((¬ (((nI 1) ≤ a2 ∧ a2 ≤ (nI 3)) ∧ ((nI 1) ≤ a3 ∧ a3 ≤ (nI 9))) → K (kI (-1)) (mm X i j)) ∧ (((nI 1) ≤ a2 ∧ a2 ≤ (nI 3)) ∧ ((nI 1) ≤ a3 ∧ a3 ≤ (nI 9)) → (∃ (i11 : Nat → Nat → Int32), EvV (d + 4) 1476 [.ref 2, .ref 9, .int (shlI (nI 1) a1), .int a2, .int a3] (mm X i j) (mm X i11 j) ∧ WP (d + 5) 1432 (40, [(0, .ref 2), (4, .int (i11 31 2)), (5, .int (nI 0)), (6, .int (nI 0))], [], (mm X i11 j)) (qI K)))))) : WI (d + 5) 1432 [.ref 2, .int a1, .int a2, .int a3] (mm X i j) K := te_1432 (d + 4) 2 a1 a2 a3 (mm X i j) (qI K) ⟨rfl, (te_1471 (d + 3) 2 a1 a2 a3 (mm X i j) _ ⟨rfl, (p_1468 (d + 2) X i j a1 _ ⟨h.1, (fun h2 => ⟨fun _ => ⟨k0_01, ⟨_, rfl, ⟨fun e4 => absurd e4 (show ¬ (¬ (nI 0) = 0) by decide), fun _ => ⟨_, rfl, (h.2.1 h2)⟩⟩⟩⟩, fun e3 => absurd rfl e3⟩), (fun h5 h6 => ⟨fun e7 => absurd e7 (nz_k (h6.1)), fun _ => (p_1464 (d + 2) X i j a2 a3 _ ⟨fun e8 => ⟨k0_01, ⟨_, rfl, ⟨fun e9 => absurd e9 (show ¬ (¬ (nI 0) = 0) by decide), fun _ => ⟨_, rfl, ((h.2.2 h5 h6).1 ((bi_z e8)))⟩⟩⟩⟩, fun e8 => ⟨k1_01, ⟨_, rfl, ⟨fun _ => ⟨rfl, ⟨rfl, (Exists.elim ((h.2.2 h5 h6).2 ((bi_n e8))) fun i11 h12 => EvV.use h12.1 ⟨rfl, ⟨rfl, (te_771 (d + 4) 31 (mm X i11 j) _ ⟨rfl, ⟨_, rfl, h12.2⟩⟩)⟩⟩)⟩⟩, fun e10 => absurd (show ¬ (nI 1) = 0 by decide) e10⟩⟩⟩⟩)⟩)⟩)⟩)⟩
set_option maxRecDepth 100000 in
theorem s_1432_40 (d : Nat) (X : XS) (i : Nat → Nat → Int32) (j : Nat → Nat → Int64) (v4 : Int32) (v5 : Int32) (v6 : Int32) (Q : Option (Option Value) → AM → Prop) (h : (((nI 4) ≤ v6 → Q (some (some (.int v5))) (mm X i j)) ∧ (¬ ((nI 4) ≤ v6) → (∃ (i15 : Nat → Nat → Int32), EvV (d + 4) 1479 [.ref 2, .int ((v6 * v4) / (nI 4)), .int (((v6 + (nI 1)) * v4) / (nI 4))] (mm X i j) (mm X i15 j) ∧ ((¬ ((vdI (i15 36 0) (i15 36 1) (i15 36 2) (i15 36 3)) = (nI 1)) → WP (d + 5) 1432 (40, [(0, .ref 2), (4, .int v4), (5, .int v5), (6, .int (v6 + (nI 1)))], [], (mm X i15 j)) Q) ∧ ((vdI (i15 36 0) (i15 36 1) (i15 36 2) (i15 36 3)) = (nI 1) → WP (d + 5) 1432 (40, [(0, .ref 2), (4, .int v4), (5, .int (v5 ||| (shlI (nI 1) v6))), (6, .int (v6 + (nI 1)))], [], (mm X i15 j)) Q)))))) : WP (d + 5) 1432 (40, [(0, .ref 2), (4, .int v4), (5, .int v5), (6, .int v6)], [], mm X i j) Q := tc_1432_40 (d + 4) 2 v4 v5 v6 (mm X i j) Q ⟨fun e14 => (h.1 (e14)), fun e14 => ⟨(by decide), ⟨(by decide), ⟨rfl, (Exists.elim (h.2 (e14)) fun i15 h17 => EvV.use h17.1 ⟨rfl, ⟨rfl, (p_907 (d + 2) X i15 j  _ ⟨fun e16 => (h17.2.1 (e16)), fun e16 => (h17.2.2 ((Classical.byContradiction e16)))⟩)⟩⟩)⟩⟩⟩⟩
set_option maxRecDepth 100000 in
theorem s_1599 (d : Nat) (X : XS) (i : Nat → Nat → Int32) (j : Nat → Nat → Int64) (a1 : Int32) (a2 : Int32) (a3 : Int32) (K : Int32 → AM → Prop) (h : ((¬ ((nI 0) ≤ a1 ∧ a1 ≤ ((i 42 14) - (nI 1))) → K (kI (-1)) (mm X (s2 i 42 36 (nI 0)) j)) ∧ ((nI 0) ≤ a1 ∧ a1 ≤ ((i 42 14) - (nI 1)) → ((((nI 1) ≤ a2 ∧ a2 ≤ (nI 3)) ∧ ((nI 1) ≤ a3 ∧ a3 ≤ (nI 9)) → (∃ (i3 : Nat → Nat → Int32), EvV (d + 261) 1589 [.ref 42, .int (shlI (nI 1) a1), .int a2, .int a3] (mm X (s2 i 42 36 (nI 0)) j) (mm X i3 j) ∧ WP (d + 262) 1599 (38, [(0, .ref 42), (1, .int a1), (4, .int (nI 0)), (5, .int (nI 0))], [], (mm X i3 j)) (qI K))) ∧ (¬ (((nI 1) ≤ a2 ∧ a2 ≤ (nI 3)) ∧ ((nI 1) ≤ a3 ∧ a3 ≤ (nI 9))) → K (kI (-1)) (mm X (s2 i 42 36 (nI 0)) j)))))) : WI (d + 262) 1599 [.ref 42, .int a1, .int a2, .int a3] (mm X i j) K := te_1599 (d + 261) 42 a1 a2 a3 (mm X i j) (qI K) ⟨rfl, ⟨rfl, (te_1546 (d + 260) 42 a1 (mm X (s2 i 42 36 (nI 0)) j) _ ⟨rfl, (p_1538 (d + 260) X (s2 i 42 36 (nI 0)) j a1 (nI 0) ((i 42 14) - (nI 1)) _ ⟨(bi_01 _), ⟨_, rfl, ⟨fun e1 => ⟨_, rfl, (h.1 ((bi_z e1)))⟩, fun e1 => (p_1588 (d + 260) X (s2 i 42 36 (nI 0)) j a2 a3 _ ⟨fun e2 => ⟨rfl, (Exists.elim ((h.2 ((bi_n e1))).1 ((bi_n e2))) fun i3 h4 => EvV.use h4.1 h4.2)⟩, fun e2 => ⟨_, rfl, ((h.2 ((bi_n e1))).2 ((bi_nn e2)))⟩⟩)⟩⟩⟩)⟩)⟩⟩
set_option maxRecDepth 100000 in
theorem s_1599_38 (d : Nat) (X : XS) (i : Nat → Nat → Int32) (j : Nat → Nat → Int64) (v1 : Int32) (v4 : Int32) (v5 : Int32) (Q : Option (Option Value) → AM → Prop) (h : (((nI 4) ≤ v5 → Q (some (some (.int v4))) (mm X i j)) ∧ (¬ ((nI 4) ≤ v5) → (∃ (i7 : Nat → Nat → Int32), EvV (d + 261) 1592 [.ref 42, .int v1, .int ((v5 * (i 42 46)) / (nI 4)), .int (((v5 + (nI 1)) * (i 42 46)) / (nI 4))] (mm X i j) (mm X i7 j) ∧ ((¬ ((cpI (i7 74 0) (i7 74 1) (i7 74 2) (i7 74 3)) = (nI 1)) → WP (d + 262) 1599 (38, [(0, .ref 42), (1, .int v1), (4, .int v4), (5, .int (v5 + (nI 1)))], [], (mm X i7 j)) Q) ∧ ((cpI (i7 74 0) (i7 74 1) (i7 74 2) (i7 74 3)) = (nI 1) → WP (d + 262) 1599 (38, [(0, .ref 42), (1, .int v1), (4, .int (v4 ||| (shlI (nI 1) v5))), (5, .int (v5 + (nI 1)))], [], (mm X i7 j)) Q)))))) : WP (d + 262) 1599 (38, [(0, .ref 42), (1, .int v1), (4, .int v4), (5, .int v5)], [], mm X i j) Q := tc_1599_38 (d + 261) 42 v1 v4 v5 (mm X i j) Q ⟨fun e6 => (h.1 (e6)), fun e6 => ⟨rfl, ⟨(by decide), ⟨rfl, ⟨(by decide), ⟨rfl, (Exists.elim (h.2 (e6)) fun i7 h9 => EvV.use h9.1 ⟨rfl, (p_1593 (d + 261) X i7 j  _ ⟨fun e8 => (h9.2.1 (e8)), fun e8 => (h9.2.2 ((Classical.byContradiction e8)))⟩)⟩)⟩⟩⟩⟩⟩⟩
theorem q4 (p m : Nat) (hp : p ≤ 4) (hm : m ≤ 240) : nI p * nI m / nI 4 = nI (p * m / 4) := by
  have : p * m ≤ 4 * 240 := Nat.mul_le_mul hp hm
  rw [pk_mul, pk_div (by omega) (by decide) (by decide)]
/-- the quarters in which it says more -/
noncomputable def hdF (A B : Nat → Prop) (kn : Nat) : Nat → Int32
  | 0 => nI 0
  | p + 1 => if cpI (nI (cr A (p * kn / 4) ((p + 1) * kn / 4 - p * kn / 4))) (nI (cr (fun t => A t ∧ B t) (p * kn / 4) ((p + 1) * kn / 4 - p * kn / 4))) (nI (cr B (p * kn / 4) ((p + 1) * kn / 4 - p * kn / 4))) (nI ((p + 1) * kn / 4 - p * kn / 4)) = nI 1 then hdF A B kn p ||| shlI (nI 1) (nI p) else hdF A B kn p
theorem k_23 (d : Nat) {X : XS} {i : Nat → Nat → Int32} {j : Nat → Nat → Int64} (h : Rel X i j) (a1 a2 a3 : Int32) {Kf : AM → Prop} (hK : Nx X Kf) : WI (d + 300) 1432 [.ref 2, .int a1, .int a2, .int a3] (mm X i j) (fun x1 M1 => WI (d + 300) 1599 [.ref 42, .int a1, .int a2, .int a3] M1 (fun x2 M2 => x1 = x2 ∧ Kf M2)) := by
  have ht := hK.th h
  have hrel := h
  obtain ⟨hx, ⟨⟨n, h0⟩, h1, ⟨ng, h2, no, h4⟩, ⟨tn, h3⟩, ⟨np, h5⟩, h6, ns, h7⟩, h8, hz⟩ := h
  have e1 := h4.2.1
  have e2 := h4.2.2.1
  have hno := h4.1
  have hn := h0.2.1.1.2
  refine s_1432 _ X i j a1 a2 a3 _ ⟨h4.sg, ?_, ?_⟩
  · rw [e1]
    exact fun z => s_1599 _ X i j _ _ _ _ (bq_t (by rw [e2]; exact z) ⟨rfl, ht⟩)
  rw [e1]
  intro z hO
  refine ⟨fun v => s_1599 _ X i j _ _ _ _ (bq_f (by rw [e2]; exact z) ⟨fun w => absurd w v, fun _ => ⟨rfl, ht⟩⟩), fun v => ?_⟩
  have z2 : nI 0 ≤ a1 ∧ a1 ≤ i 42 14 - nI 1 := by rw [e2]; exact z
  obtain ⟨s, hs, rfl⟩ := idx_of (by omega) z
  obtain ⟨q, hq1, hq, rfl⟩ := ev_rng (by decide) v.2
  obtain ⟨i1, hE1, f1, z1, r40, hL, hS⟩ := lov 0 X i j h0 h2 h4 hz (shlI (nI 1) (nI s)) a2 hq

  refine ⟨i1, hE1.up (by omega), ?_⟩
  rw [hS.1]
  have divs : ∀ p, p < 4 → p * (n - q) / 4 ≤ (p + 1) * (n - q) / 4 ∧ (p + 1) * (n - q) / 4 ≤ n - q := fun p hp => by
    refine ⟨Nat.div_le_div_right (Nat.mul_le_mul_right _ (by omega)), ?_⟩
    have : (p + 1) * (n - q) ≤ 4 * (n - q) := Nat.mul_le_mul_right _ (by omega)
    omega
  refine lup 4 (fun p (z : Int32 × (Nat → Nat → Int32)) => z.1 = hdF (svP X i s) (caF i n a2 q) (n - q) p ∧ ∀ b, b ≠ 36 → z.2 b = i1 b) (fun p z => (40, [(0, .ref 2), (4, .int (nI (n - q))), (5, .int z.1), (6, .int (nI p))], [], mm X z.2 j)) ?_ ?_ 0 (nI 0, i1) (Nat.zero_le _) ⟨rfl, fun _ _ => rfl⟩
  · rintro ⟨bits, i2⟩ ⟨hb, f2⟩
    dsimp only at hb f2 ⊢
    refine s_1432_40 _ X i2 j _ _ _ _ (br_t (Int32.le_refl _) (qI_of ?_))
    have F2 : FrC X i i2 := f1.tr (FrC_36 f2)
    have Z2 : RZ i2 := RZ_of z1 (f2 34 (by decide)) (f2 35 (by decide))
    have g42 : i2 42 = i 42 := F2 42 (Or.inl (show 0 < 10 by decide))
    refine s_1599 _ X i2 _ _ _ _ _ (bq_f (by rw [g42]; exact z2) (br_t v ?_))
    obtain ⟨i4, hE4, f4, -, p46, -, -, p72, p73⟩ := prpv 0 X i (s2 i2 42 36 (nI 0)) j h0 h2 h4 (F2.kp.tr (FrR_th (X := X) (nI 0)).kp) (shlI (nI 1) (nI s)) a2 hq
    refine ⟨i4, hE4.up (by omega), ?_⟩
    refine lup 4 (fun p (z : Int32 × (Nat → Nat → Int32)) => z.1 = hdF (svP X i s) (caF i n a2 q) (n - q) p ∧ ∀ b, b ≠ 74 → z.2 b = i4 b) (fun p z => (38, [(0, .ref 42), (1, .int (nI s)), (4, .int z.1), (5, .int (nI p))], [], mm X z.2 j)) ?_ ?_ 0 (nI 0, i4) (Nat.zero_le _) ⟨rfl, fun _ _ => rfl⟩
    · rintro ⟨bits2, i5⟩ ⟨hb2, f5⟩
      dsimp only at hb2 f5 ⊢
      refine s_1599_38 _ X i5 j _ _ _ _ (br_t (Int32.le_refl _) (qI_of ⟨hb.trans hb2.symm, hK.k (fin_row hrel F2 Z2 (((FrR_th (nI 0)).tr f4.fr).tr (FrR_74 f5)) ?_)⟩))
      obtain ⟨L, l0, l1, l2, l3⟩ := h8
      refine ⟨L, l0, ?_, ?_, l3⟩
      · rw [f5 40 (by decide), f4.1 40 (show ¬ (48 : Nat) = 40 by decide) (by decide), s2_ne (show 40 ≠ 42 by decide), f2 40 (by decide), r40]; exact l1
      · rw [f5 42 (by decide), f4.2 35 (by decide), s2_ne2 (show 35 ≠ 36 by decide), g42]; exact l2
    · rintro p ⟨bits2, i5⟩ hp ⟨hb2, f5⟩ go
      dsimp only at hb2 f5 ⊢
      refine s_1599_38 _ X i5 j _ _ _ _ (br_f (nI_ge hp (by decide)) ?_)
      rw [nI_add, f5 42 (by decide), p46, q4 p _ (by omega) (by omega), q4 (p + 1) _ (by omega) (by omega)]
      obtain ⟨i6, hE6, f6, c0, c1, c2, c3⟩ := c_1592 0 X i5 j (s := s) (A := svP X i s) (B := caF i n a2 q) (divs p hp).1 (by have := (divs p hp).2; omega) (fun t ht => by rw [f5 72 (by decide), p72 t (by have := (divs p hp).2; omega)]; exact soF_r hno hs t) (fun t ht => by rw [f5 73 (by decide)]; exact p73 t (by have := (divs p hp).2; omega))
      refine ⟨i6, hE6.up (by omega), ?_⟩
      rw [c0, c1, c2, c3]
      refine bq_c (fun y => go (bits2, i6) ⟨?_, fun b hb => (f6 b hb).trans (f5 b hb)⟩) (fun y => go (_, i6) ⟨?_, fun b hb => (f6 b hb).trans (f5 b hb)⟩)
      · dsimp only; rw [hdF, if_neg y, hb2]
      · dsimp only; rw [hdF, if_pos y, hb2]
  · rintro p ⟨bits, i2⟩ hp ⟨hb, f2⟩ go
    dsimp only at hb f2 ⊢
    have hS2 := hS.kp (f2 31 (by decide)) (f2 32 (by decide)) (f2 33 (by decide))
    refine s_1432_40 _ X i2 j _ _ _ _ (br_f (nI_ge hp (by decide)) ?_)
    rw [nI_add, q4 p _ (by omega) (by omega), q4 (p + 1) _ (by omega) (by omega)]
    obtain ⟨i3, hE3, f3, hT⟩ := c_1479 0 X i2 j hS2 (divs p hp).1 (divs p hp).2
    refine ⟨i3, hE3.up (by omega), ?_⟩
    rw [svA hno hs] at hT
    obtain ⟨t0, t1, t2, t3⟩ := hT
    obtain ⟨w0, w1, w2⟩ := tly_cel (A := svP X i s) (B := caF i n a2 q) (u := p * (n - q) / 4) (m := (p + 1) * (n - q) / 4 - p * (n - q) / 4)
    have w3 : (p + 1) * (n - q) / 4 - p * (n - q) / 4 = cr (svP X i s) (p * (n - q) / 4) ((p + 1) * (n - q) / 4 - p * (n - q) / 4) + cr (fun t => ¬ svP X i s t ∧ caF i n a2 q t) (p * (n - q) / 4) ((p + 1) * (n - q) / 4 - p * (n - q) / 4) + cr (fun t => ¬ svP X i s t ∧ ¬ caF i n a2 q t) (p * (n - q) / 4) ((p + 1) * (n - q) / 4 - p * (n - q) / 4) := by omega
    have ev : vdI (i3 36 0) (i3 36 1) (i3 36 2) (i3 36 3) = cpI (nI (cr (svP X i s) (p * (n - q) / 4) ((p + 1) * (n - q) / 4 - p * (n - q) / 4))) (nI (cr (fun t => svP X i s t ∧ caF i n a2 q t) (p * (n - q) / 4) ((p + 1) * (n - q) / 4 - p * (n - q) / 4))) (nI (cr (caF i n a2 q) (p * (n - q) / 4) ((p + 1) * (n - q) / 4 - p * (n - q) / 4))) (nI ((p + 1) * (n - q) / 4 - p * (n - q) / 4)) := by
      rw [vd_cp, t0, t1, t2, t3, nI_add, nI_add, nI_add, nI_add, ← w0, ← w1]
      congr 2
      exact w3.symm
    rw [ev]
    refine bq_c (fun y => go (bits, i3) ⟨?_, fun b hb => (f3 b hb).trans (f2 b hb)⟩) (fun y => go (_, i3) ⟨?_, fun b hb => (f3 b hb).trans (f2 b hb)⟩)
    · dsimp only; rw [hdF, if_neg y, hb]
    · dsimp only; rw [hdF, if_pos y, hb]
