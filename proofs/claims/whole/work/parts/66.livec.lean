/-! ===== remember, village, first ===== -/
set_option maxRecDepth 100000 in
theorem s_1440 (d : Nat) (X : XS) (i : Nat → Nat → Int32) (j : Nat → Nat → Int64) (a1 : Int32) (a2 : Int32) (a3 : Int32) (a4 : Int32) (K : Int32 → AM → Prop) (h : (PSs X i) ∧ ((¬ ((nI 0) ≤ a1 ∧ a1 ≤ ((i 2 9) - (nI 1)))) → K (kI (-1)) (mm X i j)) ∧ (((nI 0) ≤ a1 ∧ a1 ≤ ((i 2 9) - (nI 1))) → (PO X (xr X 24 (a1.toNatClampNeg))) → (SGs X i) ∧ ((¬ ((nI 0) ≤ a2 ∧ a2 ≤ ((i 2 7) - (nI 1)))) → K (kI (-1)) (mm X i j)) ∧ (((nI 0) ≤ a2 ∧ a2 ≤ ((i 2 7) - (nI 1))) → (OO X (xr X 23 (a2.toNatClampNeg))) → ((¬ (((nI 1) ≤ a4 ∧ a4 ≤ (nI 3)) ∧ ((nI 1) ≤ (nI 1) ∧ (nI 1) ≤ (nI 9))) → K (kI (-1)) (mm X i j)) ∧ (((nI 1) ≤ a4 ∧ a4 ≤ (nI 3)) ∧ ((nI 1) ≤ (nI 1) ∧ (nI 1) ≤ (nI 9)) → ((¬ ((nI 1) ≤ a3 ∧ a3 ≤ (nI 20)) → K (kI (-1)) (mm X i j)) ∧ ((nI 1) ≤ a3 ∧ a3 ≤ (nI 20) → (∃ (i22 : Nat → Nat → Int32), EvV (d + 5) 1485 [.ref 2, .ref (xr X 24 (a1.toNatClampNeg)), .int (nI 0), .int a2, .int a3, .int a4] (mm X i j) (mm X i22 j) ∧ K (i22 37 5) (mm X (s2 (s2 (s2 (s2 i22 40 1 (nI 0)) 40 1 (nI 1)) 40 1 (nI 2)) 40 1 (nI 3)) (s2 (s2 (s2 j 41 0 ((i22 37 6).toInt64)) 41 1 ((i22 37 7).toInt64)) 41 2 ((i22 37 8).toInt64))))))))))) : WI (d + 6) 1440 [.ref 2, .int a1, .int a2, .int a3, .int a4] (mm X i j) K := te_1440 (d + 5) 2 a1 a2 a3 a4 (mm X i j) (qI K) ⟨rfl, (p_1469 (d + 4) X i j a1 _ ⟨h.1, (fun h2 => ⟨fun _ => ⟨_, rfl, (h.2.1 h2)⟩, fun e3 => absurd rfl e3⟩), (fun h4 h5 => ⟨fun e6 => absurd e6 (nz_k (h5)), fun _ => ⟨rfl, (te_1472 (d + 4) 2 a2 a3 a4 (mm X i j) _ ⟨rfl, (te_1471 (d + 3) 2 a2 a4 (nI 1) (mm X i j) _ ⟨rfl, (p_1468 (d + 2) X i j a2 _ ⟨(h.2.2 h4 h5).1, (fun h8 => ⟨fun _ => ⟨k0_01, ⟨_, rfl, ⟨fun _ => ⟨k0_01, ⟨_, rfl, ⟨fun e11 => absurd e11 (show ¬ (¬ (nI 0) = 0) by decide), fun _ => ⟨_, rfl, ((h.2.2 h4 h5).2.1 h8)⟩⟩⟩⟩, fun e10 => absurd (show (nI 0) = 0 by decide) e10⟩⟩⟩, fun e9 => absurd rfl e9⟩), (fun h12 h13 => ⟨fun e14 => absurd e14 (nz_k (h13.1)), fun _ => (p_1464 (d + 2) X i j a4 (nI 1) _ ⟨fun e15 => ⟨k0_01, ⟨_, rfl, ⟨fun _ => ⟨k0_01, ⟨_, rfl, ⟨fun e17 => absurd e17 (show ¬ (¬ (nI 0) = 0) by decide), fun _ => ⟨_, rfl, (((h.2.2 h4 h5).2.2 h12 h13).1 ((bi_z e15)))⟩⟩⟩⟩, fun e16 => absurd (show (nI 0) = 0 by decide) e16⟩⟩⟩, fun e15 => ⟨k1_01, ⟨_, rfl, ⟨fun e18 => absurd e18 (show ¬ ((nI 1) = 0) by decide), fun _ => (p_1462 (d + 4) X i j a3 (nI 1) (nI 20) _ ⟨fun e19 => ⟨k0_01, ⟨_, rfl, ⟨fun e20 => absurd e20 (show ¬ (¬ (nI 0) = 0) by decide), fun _ => ⟨_, rfl, ((((h.2.2 h4 h5).2.2 h12 h13).2 ((bi_n e15))).1 ((bi_z e19)))⟩⟩⟩⟩, fun e19 => ⟨k1_01, ⟨_, rfl, ⟨fun _ => ⟨rfl, (Exists.elim ((((h.2.2 h4 h5).2.2 h12 h13).2 ((bi_n e15))).2 ((bi_n e19))) fun i22 h26 => EvV.use h26.1 ⟨rfl, ⟨rfl, ⟨rfl, (te_1292 (d + 4) 37 40 (mm X i22 j) _ ⟨rfl, (te_641 (d + 4) 40 (mm X i22 j) _ ⟨rfl, ⟨rfl, ⟨rfl, ⟨rfl, (te_642 (d + 4) 40 ((i22 37 6).toInt64) (mm X (s2 i22 40 1 (nI 0)) j) _ ⟨rfl, ⟨fun e23 => absurd e23 (show ¬ ((nI 20) ≤ (nI 0)) by decide), fun _ => ⟨rfl, ⟨rfl, ⟨⟨rfl, (vpk 0 20 rfl)⟩, ⟨rfl, ⟨rfl, ⟨rfl, ⟨rfl, ⟨rfl, (te_642 (d + 4) 40 ((i22 37 7).toInt64) (mm X (s2 (s2 i22 40 1 (nI 0)) 40 1 (nI 1)) (s2 j 41 0 ((i22 37 6).toInt64))) _ ⟨rfl, ⟨fun e24 => absurd e24 (show ¬ ((nI 20) ≤ (nI 1)) by decide), fun _ => ⟨rfl, ⟨rfl, ⟨⟨rfl, (vpk 1 20 rfl)⟩, ⟨rfl, ⟨rfl, ⟨rfl, ⟨rfl, ⟨rfl, (te_642 (d + 4) 40 ((i22 37 8).toInt64) (mm X (s2 (s2 (s2 i22 40 1 (nI 0)) 40 1 (nI 1)) 40 1 (nI 2)) (s2 (s2 j 41 0 ((i22 37 6).toInt64)) 41 1 ((i22 37 7).toInt64))) _ ⟨rfl, ⟨fun e25 => absurd e25 (show ¬ ((nI 20) ≤ (nI 2)) by decide), fun _ => ⟨rfl, ⟨rfl, ⟨⟨rfl, (vpk 2 20 rfl)⟩, ⟨rfl, ⟨rfl, ⟨rfl, ⟨rfl, ⟨rfl, ⟨rfl, (te_1290 (d + 5) 37 (mm X (s2 (s2 (s2 (s2 i22 40 1 (nI 0)) 40 1 (nI 1)) 40 1 (nI 2)) 40 1 (nI 3)) (s2 (s2 (s2 j 41 0 ((i22 37 6).toInt64)) 41 1 ((i22 37 7).toInt64)) 41 2 ((i22 37 8).toInt64))) _ ⟨rfl, ⟨_, rfl, ⟨_, rfl, h26.2⟩⟩⟩)⟩⟩⟩⟩⟩⟩⟩⟩⟩⟩⟩)⟩⟩⟩⟩⟩⟩⟩⟩⟩⟩)⟩⟩⟩⟩⟩⟩⟩⟩⟩⟩)⟩⟩⟩⟩)⟩)⟩⟩⟩)⟩, fun e21 => absurd (show ¬ (nI 1) = 0 by decide) e21⟩⟩⟩⟩)⟩⟩⟩⟩)⟩)⟩)⟩)⟩)⟩⟩)⟩)⟩
set_option maxRecDepth 100000 in
theorem s_1619 (d : Nat) (X : XS) (i : Nat → Nat → Int32) (j : Nat → Nat → Int64) (a1 : Int32) (a2 : Int32) (a3 : Int32) (a4 : Int32) (K : Int32 → AM → Prop) (h : ((¬ ((nI 0) ≤ a1 ∧ a1 ≤ ((i 42 18) - (nI 1))) → K (kI (-1)) (mm X (s2 i 42 36 (nI 0)) j)) ∧ ((nI 0) ≤ a1 ∧ a1 ≤ ((i 42 18) - (nI 1)) → ((¬ ((nI 0) ≤ a2 ∧ a2 ≤ ((i 42 14) - (nI 1))) → K (kI (-1)) (mm X (s2 i 42 36 (nI 0)) j)) ∧ ((nI 0) ≤ a2 ∧ a2 ≤ ((i 42 14) - (nI 1)) → ((¬ ((nI 1) ≤ a3 ∧ a3 ≤ (nI 20)) → K (kI (-1)) (mm X (s2 i 42 36 (nI 0)) j)) ∧ ((nI 1) ≤ a3 ∧ a3 ≤ (nI 20) → ((¬ (((nI 1) ≤ a4 ∧ a4 ≤ (nI 3)) ∧ ((nI 1) ≤ (nI 1) ∧ (nI 1) ≤ (nI 9))) → K (kI (-1)) (mm X (s2 i 42 36 (nI 0)) j)) ∧ (((nI 1) ≤ a4 ∧ a4 ≤ (nI 3)) ∧ ((nI 1) ≤ (nI 1) ∧ (nI 1) ≤ (nI 9)) → (∃ (i10 : Nat → Nat → Int32), EvV (d + 261) 1589 [.ref 42, .int (shlI (nI 1) a2), .int a4, .int (nI 1)] (mm X (s2 i 42 36 (nI 0)) j) (mm X i10 j) ∧ (∃ (x13 : Int32), ∃ (i11 : Nat → Nat → Int32), ∃ (j12 : Nat → Nat → Int64), EvI (d + 261) 1617 [.ref 42, .int a1, .int a2, .int a3, .int (nI 0)] (mm X i10 j) x13 (mm X i11 j12) ∧ K x13 (mm X i11 j12)))))))))))) : WI (d + 262) 1619 [.ref 42, .int a1, .int a2, .int a3, .int a4] (mm X i j) K := te_1619 (d + 261) 42 a1 a2 a3 a4 (mm X i j) (qI K) ⟨rfl, ⟨rfl, (te_1618 (d + 260) 42 a1 a2 a3 a4 (mm X (s2 i 42 36 (nI 0)) j) _ ⟨rfl, (te_1547 (d + 259) 42 a1 (mm X (s2 i 42 36 (nI 0)) j) _ ⟨rfl, (p_1538 (d + 259) X (s2 i 42 36 (nI 0)) j a1 (nI 0) ((i 42 18) - (nI 1)) _ ⟨(bi_01 _), ⟨_, rfl, ⟨fun e1 => ⟨k0_01, ⟨_, rfl, ⟨fun e2 => absurd e2 (show ¬ (¬ (nI 0) = 0) by decide), fun _ => ⟨_, rfl, (h.1 ((bi_z e1)))⟩⟩⟩⟩, fun e1 => ⟨rfl, (te_1546 (d + 259) 42 a2 (mm X (s2 i 42 36 (nI 0)) j) _ ⟨rfl, (p_1538 (d + 259) X (s2 i 42 36 (nI 0)) j a2 (nI 0) ((i 42 14) - (nI 1)) _ ⟨(bi_01 _), ⟨_, rfl, ⟨fun e3 => ⟨k0_01, ⟨_, rfl, ⟨fun e4 => absurd e4 (show ¬ (¬ (nI 0) = 0) by decide), fun _ => ⟨_, rfl, ((h.2 ((bi_n e1))).1 ((bi_z e3)))⟩⟩⟩⟩, fun e3 => (p_1538 (d + 260) X (s2 i 42 36 (nI 0)) j a3 (nI 1) (nI 20) _ ⟨fun e5 => ⟨k0_01, ⟨_, rfl, ⟨fun e6 => absurd e6 (show ¬ (¬ (nI 0) = 0) by decide), fun _ => ⟨_, rfl, (((h.2 ((bi_n e1))).2 ((bi_n e3))).1 ((bi_z e5)))⟩⟩⟩⟩, fun e5 => (p_1588 (d + 259) X (s2 i 42 36 (nI 0)) j a4 (nI 1) _ ⟨fun e7 => ⟨k0_01, ⟨_, rfl, ⟨fun e8 => absurd e8 (show ¬ (¬ (nI 0) = 0) by decide), fun _ => ⟨_, rfl, ((((h.2 ((bi_n e1))).2 ((bi_n e3))).2 ((bi_n e5))).1 ((bi_z e7)))⟩⟩⟩⟩, fun e7 => ⟨k1_01, ⟨_, rfl, ⟨fun _ => ⟨rfl, (Exists.elim ((((h.2 ((bi_n e1))).2 ((bi_n e3))).2 ((bi_n e5))).2 ((bi_n e7))) fun i10 h18 => EvV.use h18.1 ⟨rfl, (Exists.elim h18.2 fun x13 h14 => Exists.elim h14 fun i11 h15 => Exists.elim h15 fun j12 h16 => EvI.use h16.1 ⟨_, rfl, h16.2⟩)⟩)⟩, fun e9 => absurd (show ¬ (nI 1) = 0 by decide) e9⟩⟩⟩⟩)⟩)⟩⟩⟩)⟩)⟩⟩⟩⟩)⟩)⟩)⟩⟩
theorem k_31 (d : Nat) {X : XS} {i : Nat → Nat → Int32} {j : Nat → Nat → Int64} (h : Rel X i j) (a1 a2 a3 a4 : Int32) {Kf : AM → Prop} (hK : Nx X Kf) : WI (d + 300) 1440 [.ref 2, .int a1, .int a2, .int a3, .int a4] (mm X i j) (fun x1 M1 => WI (d + 300) 1619 [.ref 42, .int a1, .int a2, .int a3, .int a4] M1 (fun x2 M2 => x1 = x2 ∧ Kf M2)) := by
  have ht := hK.th h
  have hrel := h
  obtain ⟨hx, ⟨⟨n, h0⟩, h1, ⟨ng, h2, no, h4⟩, ⟨tn, h3⟩, ⟨np, h5⟩, h6, ns, h7⟩, h8, hz⟩ := h
  have e1 := h5.2.1
  have e2 := h5.2.2.1
  have hnp := h5.1
  have hn := h0.2.1.1.2
  refine s_1440 _ X i j a1 a2 a3 a4 _ ⟨h5.ps, ?_, ?_⟩
  · rw [e1]
    exact fun z => s_1619 _ X i j _ _ _ _ _ (bq_t (by rw [e2]; exact z) ⟨rfl, ht⟩)
  rw [e1]
  intro z hO
  have z2 : nI 0 ≤ a1 ∧ a1 ≤ i 42 18 - nI 1 := by rw [e2]; exact z
  obtain ⟨p, hp, rfl⟩ := idx_of (by omega) z
  rw [tc_nI (by omega)] at hO ⊢
  obtain ⟨-, hPT, ⟨q0, q1, q2, q3, q4⟩, ⟨c, l, s, st, hc, hl, hs, hst, b0, b1, b2, b3⟩, b4⟩ := h5.2.2.2 p hp
  have e3 := h4.2.1
  have e4 := h4.2.2.1
  have hno := h4.1
  refine ⟨h4.sg, ?_, ?_⟩
  · rw [e3]; exact fun w => s_1619 _ X i j _ _ _ _ _ (bq_f z2 (bq_t (by rw [e4]; exact w) ⟨rfl, ht⟩))
  rw [e3]
  intro w hOO
  have w2 : nI 0 ≤ a2 ∧ a2 ≤ i 42 14 - nI 1 := by rw [e4]; exact w
  obtain ⟨sg, hsg, rfl⟩ := idx_of (by omega) w
  refine bq_c (fun y => s_1619 _ X i j _ _ _ _ _ (bq_f z2 (bq_f w2 ⟨fun _ => ⟨rfl, ht⟩, fun _ => bq_t y ⟨rfl, ht⟩⟩))) (fun y => ?_)
  refine bq_c (fun v => s_1619 _ X i j _ _ _ _ _ (bq_f z2 (bq_f w2 (bq_t v ⟨rfl, ht⟩)))) (fun v => ?_)
  obtain ⟨m, hm, rfl⟩ := of_rng (by decide) ⟨Int32.le_trans (by decide) v.1, v.2⟩
  obtain ⟨ca, hca⟩ : ∃ ca, ca = caF i n a4 1 := ⟨_, rfl⟩
  obtain ⟨A, hA⟩ : ∃ A, A = svP X i sg := ⟨_, rfl⟩
  obtain ⟨i1, hE1, f1, z1, r40, hV⟩ := c_1485 0 X i j h0 h2 h4 hz h5 hsg hp hm a4 hA hca (nI 0) (Q := fun _ => False) (fun v hv => ⟨fun _ => id, fun _ => bit_0 v (by omega)⟩) (fun t => (lat A ca 0 t m).1) (fun t => (lat A ca 0 t m).2) (fun t => ⟨fun _ => ⟨rfl, rfl⟩, fun h => absurd rfl h⟩)
  obtain ⟨T, hT⟩ : ∃ T, T = fun t => (lat A ca 0 t m).1 := ⟨_, rfl⟩
  obtain ⟨E, hE⟩ : ∃ E, E = fun t => (lat A ca 0 t m).2 := ⟨_, rfl⟩
  obtain ⟨G, hG⟩ : ∃ G : Nat → Prop, G = fun t => A t ∧ gW (i 57 p) (i 58 p) (i 59 p) (T t) (E t) := ⟨_, rfl⟩
  have hTE : ∀ t, (lat A ca 0 t m).1 + lsT A ca i t m (fun _ => False) np = T t ∧ (lat A ca 0 t m).2 + lsE A ca i t m (fun _ => False) np = E t := fun t => by
    unfold lsT lsE
    rw [sumQ_z (fun _ _ => id), sumQ_z (fun _ _ => id), hT, hE]; exact ⟨rfl, rfl⟩
  have hR : ∀ i4 : Nat → Nat → Int32, Kp X i i4 → ∀ t, (nI 0 = 0 → T t = (lat A ca 0 t m).1 ∧ E t = (lat A ca 0 t m).2) ∧ (¬ nI 0 = 0 → T t = (lat A ca (srN i4 p) t m).1 + lsT A ca i4 t m (fun v => shrI (i4 61 p) (nI v) &&& nI 1 = nI 1) np ∧ E t = (lat A ca (srN i4 p) t m).2 + lsE A ca i4 t m (fun v => shrI (i4 61 p) (nI v) &&& nI 1 = nI 1) np) := fun i4 k4 t => ⟨fun _ => by rw [hT, hE]; exact ⟨rfl, rfl⟩, fun h => absurd rfl h⟩
  simp only [fun t => (hTE t).1, fun t => (hTE t).2] at hV
  rw [← hG] at hV
  obtain ⟨v5, v6, v7, v8, v9⟩ := hV
  refine ⟨i1, hE1.up (by omega), ?_⟩
  rw [v5, v6, v7, v8]
  obtain ⟨kn, hkn⟩ : ∃ kn, kn = n - 1 := ⟨_, rfl⟩
  rw [← hkn]
  obtain ⟨i3, hi3⟩ : ∃ i3, i3 = s2 (s2 (s2 (s2 i1 40 1 (nI 0)) 40 1 (nI 1)) 40 1 (nI 2)) 40 1 (nI 3) := ⟨_, rfl⟩
  rw [← hi3]
  obtain ⟨j3, hj3⟩ : ∃ j3, j3 = s2 (s2 (s2 j 41 0 (nI (ct G kn)).toInt64) 41 1 (nI (ct (fun t => G t ∧ ¬ ca t) kn)).toInt64) 41 2 (nI (ct (fun t => ¬ G t ∧ ca t) kn)).toInt64 := ⟨_, rfl⟩
  rw [← hj3]
  have f3 : ∀ b, b ≠ 40 → i3 b = i1 b := fun b hb => by rw [hi3, s2_ne hb, s2_ne hb, s2_ne hb, s2_ne hb]
  have F : FrC X i i3 := f1.tr (FrC_40 f3)
  have Z : RZ i3 := RZ_of z1 (f3 34 (by decide)) (f3 35 (by decide))
  have g42 : i3 42 = i 42 := F 42 (Or.inl (show 0 < 10 by decide))
  refine s_1619 _ X i3 j3 _ _ _ _ _ (bq_f (by rw [g42]; exact z2) (bq_f (by rw [g42]; exact w2) (bq_f v (bq_f y ?_))))
  obtain ⟨i4, hE4, f4, -, p46, -, -, p72, p73⟩ := prpv 0 X i (s2 i3 42 36 (nI 0)) j3 h0 h2 h4 (F.kp.tr (FrR_th (X := X) (nI 0)).kp) (shlI (nI 1) (nI sg)) a4 (q := 1) (by decide)
  rw [← hca, ← hkn] at p73
  rw [← hkn] at p46
  refine ⟨i4, hE4.up (by omega), ?_⟩
  have k4 : Kp X i i4 := F.kp.tr ((FrR_th (nI 0)).tr f4.fr).kp
  obtain ⟨w57, w58, w59, -, -⟩ := p57 k4
  obtain ⟨i5, j5, hE5, k1, k2, k3, l4, c0, c1, c2⟩ := c_1617 0 X i4 j3 (A := A) (ca := ca) (s := sg) (kn := kn) (m := m) (h5.kp k4) hp (by omega) (by omega) p46 (fun t ht => by rw [p72 t (by omega), hA]; exact soF_r hno hsg t) p73 (nI 0) T E (hR i4 k4) (G := G) (fun t => by rw [hG, w57, w58, w59])
  rw [w57, w58, w59] at hE5
  refine ⟨_, i5, j5, hE5.up (by omega), rfl, hK.k (fin_row hrel F Z (((FrR_th (nI 0)).tr f4.fr).tr (FrR_47 k1 (fun k hk => k2 k (by omega) (by omega) (by omega)))) (r8_of 3 (by decide) ?_ k3 ?_))⟩
  · rw [k1 40 (by decide) (by decide), f4.1 40 (show ¬ (48 : Nat) = 40 by decide) (by decide), s2_ne (show 40 ≠ 42 by decide), hi3, s2_self]
  · intro q hq
    rw [l4 41 (by decide), hj3]
    match q, hq with
    | 0, _ => simp [s2_ap, c0]
    | 1, _ => simp [s2_ap, c1]
    | 2, _ => simp [s2_ap, c2]

set_option maxRecDepth 100000 in
theorem s_1447 (d : Nat) (X : XS) (i : Nat → Nat → Int32) (j : Nat → Nat → Int64) (a1 : Int32) (a2 : Int32) (a3 : Int32) (a4 : Int32) (K : Int32 → AM → Prop) (h : (PSs X i) ∧ ((¬ ((nI 0) ≤ a1 ∧ a1 ≤ ((i 2 9) - (nI 1)))) → K (kI (-1)) (mm X i j)) ∧ (((nI 0) ≤ a1 ∧ a1 ≤ ((i 2 9) - (nI 1))) → (PO X (xr X 24 (a1.toNatClampNeg))) → (SGs X i) ∧ ((¬ ((nI 0) ≤ a2 ∧ a2 ≤ ((i 2 7) - (nI 1)))) → K (kI (-1)) (mm X i j)) ∧ (((nI 0) ≤ a2 ∧ a2 ≤ ((i 2 7) - (nI 1))) → (OO X (xr X 23 (a2.toNatClampNeg))) → ((¬ (((nI 1) ≤ a4 ∧ a4 ≤ (nI 3)) ∧ ((nI 1) ≤ (nI 1) ∧ (nI 1) ≤ (nI 9))) → K (kI (-1)) (mm X i j)) ∧ (((nI 1) ≤ a4 ∧ a4 ≤ (nI 3)) ∧ ((nI 1) ≤ (nI 1) ∧ (nI 1) ≤ (nI 9)) → ((¬ ((nI 1) ≤ a3 ∧ a3 ≤ (nI 20)) → K (kI (-1)) (mm X i j)) ∧ ((nI 1) ≤ a3 ∧ a3 ≤ (nI 20) → (∃ (i22 : Nat → Nat → Int32), EvV (d + 5) 1485 [.ref 2, .ref (xr X 24 (a1.toNatClampNeg)), .int ((i (xr X 24 (a1.toNatClampNeg)) 4) ||| (shlI (nI 1) a1)), .int a2, .int a3, .int a4] (mm X i j) (mm X i22 j) ∧ K (i22 37 5) (mm X (s2 (s2 (s2 (s2 i22 40 1 (nI 0)) 40 1 (nI 1)) 40 1 (nI 2)) 40 1 (nI 3)) (s2 (s2 (s2 j 41 0 ((i22 37 6).toInt64)) 41 1 ((i22 37 7).toInt64)) 41 2 ((i22 37 8).toInt64))))))))))) : WI (d + 6) 1447 [.ref 2, .int a1, .int a2, .int a3, .int a4] (mm X i j) K := te_1447 (d + 5) 2 a1 a2 a3 a4 (mm X i j) (qI K) ⟨rfl, (p_1469 (d + 4) X i j a1 _ ⟨h.1, (fun h2 => ⟨fun _ => ⟨_, rfl, (h.2.1 h2)⟩, fun e3 => absurd rfl e3⟩), (fun h4 h5 => ⟨fun e6 => absurd e6 (nz_k (h5)), fun _ => ⟨rfl, (te_1472 (d + 4) 2 a2 a3 a4 (mm X i j) _ ⟨rfl, (te_1471 (d + 3) 2 a2 a4 (nI 1) (mm X i j) _ ⟨rfl, (p_1468 (d + 2) X i j a2 _ ⟨(h.2.2 h4 h5).1, (fun h8 => ⟨fun _ => ⟨k0_01, ⟨_, rfl, ⟨fun _ => ⟨k0_01, ⟨_, rfl, ⟨fun e11 => absurd e11 (show ¬ (¬ (nI 0) = 0) by decide), fun _ => ⟨_, rfl, ((h.2.2 h4 h5).2.1 h8)⟩⟩⟩⟩, fun e10 => absurd (show (nI 0) = 0 by decide) e10⟩⟩⟩, fun e9 => absurd rfl e9⟩), (fun h12 h13 => ⟨fun e14 => absurd e14 (nz_k (h13.1)), fun _ => (p_1464 (d + 2) X i j a4 (nI 1) _ ⟨fun e15 => ⟨k0_01, ⟨_, rfl, ⟨fun _ => ⟨k0_01, ⟨_, rfl, ⟨fun e17 => absurd e17 (show ¬ (¬ (nI 0) = 0) by decide), fun _ => ⟨_, rfl, (((h.2.2 h4 h5).2.2 h12 h13).1 ((bi_z e15)))⟩⟩⟩⟩, fun e16 => absurd (show (nI 0) = 0 by decide) e16⟩⟩⟩, fun e15 => ⟨k1_01, ⟨_, rfl, ⟨fun e18 => absurd e18 (show ¬ ((nI 1) = 0) by decide), fun _ => (p_1462 (d + 4) X i j a3 (nI 1) (nI 20) _ ⟨fun e19 => ⟨k0_01, ⟨_, rfl, ⟨fun e20 => absurd e20 (show ¬ (¬ (nI 0) = 0) by decide), fun _ => ⟨_, rfl, ((((h.2.2 h4 h5).2.2 h12 h13).2 ((bi_n e15))).1 ((bi_z e19)))⟩⟩⟩⟩, fun e19 => ⟨k1_01, ⟨_, rfl, ⟨fun _ => ⟨h5, (te_517 (d + 5) (xr X 24 (a1.toNatClampNeg)) (mm X i j) _ ⟨h5, ⟨_, rfl, ⟨rfl, (Exists.elim ((((h.2.2 h4 h5).2.2 h12 h13).2 ((bi_n e15))).2 ((bi_n e19))) fun i22 h26 => EvV.use h26.1 ⟨rfl, ⟨rfl, ⟨rfl, (te_1292 (d + 4) 37 40 (mm X i22 j) _ ⟨rfl, (te_641 (d + 4) 40 (mm X i22 j) _ ⟨rfl, ⟨rfl, ⟨rfl, ⟨rfl, (te_642 (d + 4) 40 ((i22 37 6).toInt64) (mm X (s2 i22 40 1 (nI 0)) j) _ ⟨rfl, ⟨fun e23 => absurd e23 (show ¬ ((nI 20) ≤ (nI 0)) by decide), fun _ => ⟨rfl, ⟨rfl, ⟨⟨rfl, (vpk 0 20 rfl)⟩, ⟨rfl, ⟨rfl, ⟨rfl, ⟨rfl, ⟨rfl, (te_642 (d + 4) 40 ((i22 37 7).toInt64) (mm X (s2 (s2 i22 40 1 (nI 0)) 40 1 (nI 1)) (s2 j 41 0 ((i22 37 6).toInt64))) _ ⟨rfl, ⟨fun e24 => absurd e24 (show ¬ ((nI 20) ≤ (nI 1)) by decide), fun _ => ⟨rfl, ⟨rfl, ⟨⟨rfl, (vpk 1 20 rfl)⟩, ⟨rfl, ⟨rfl, ⟨rfl, ⟨rfl, ⟨rfl, (te_642 (d + 4) 40 ((i22 37 8).toInt64) (mm X (s2 (s2 (s2 i22 40 1 (nI 0)) 40 1 (nI 1)) 40 1 (nI 2)) (s2 (s2 j 41 0 ((i22 37 6).toInt64)) 41 1 ((i22 37 7).toInt64))) _ ⟨rfl, ⟨fun e25 => absurd e25 (show ¬ ((nI 20) ≤ (nI 2)) by decide), fun _ => ⟨rfl, ⟨rfl, ⟨⟨rfl, (vpk 2 20 rfl)⟩, ⟨rfl, ⟨rfl, ⟨rfl, ⟨rfl, ⟨rfl, ⟨rfl, (te_1290 (d + 5) 37 (mm X (s2 (s2 (s2 (s2 i22 40 1 (nI 0)) 40 1 (nI 1)) 40 1 (nI 2)) 40 1 (nI 3)) (s2 (s2 (s2 j 41 0 ((i22 37 6).toInt64)) 41 1 ((i22 37 7).toInt64)) 41 2 ((i22 37 8).toInt64))) _ ⟨rfl, ⟨_, rfl, ⟨_, rfl, h26.2⟩⟩⟩)⟩⟩⟩⟩⟩⟩⟩⟩⟩⟩⟩)⟩⟩⟩⟩⟩⟩⟩⟩⟩⟩)⟩⟩⟩⟩⟩⟩⟩⟩⟩⟩)⟩⟩⟩⟩)⟩)⟩⟩⟩)⟩⟩⟩)⟩, fun e21 => absurd (show ¬ (nI 1) = 0 by decide) e21⟩⟩⟩⟩)⟩⟩⟩⟩)⟩)⟩)⟩)⟩)⟩⟩)⟩)⟩
set_option maxRecDepth 100000 in
theorem s_1628 (d : Nat) (X : XS) (i : Nat → Nat → Int32) (j : Nat → Nat → Int64) (a1 : Int32) (a2 : Int32) (a3 : Int32) (a4 : Int32) (K : Int32 → AM → Prop) (h : ((¬ ((nI 0) ≤ a1 ∧ a1 ≤ ((i 42 18) - (nI 1))) → K (kI (-1)) (mm X (s2 i 42 36 (nI 0)) j)) ∧ ((nI 0) ≤ a1 ∧ a1 ≤ ((i 42 18) - (nI 1)) → ((¬ ((nI 0) ≤ a2 ∧ a2 ≤ ((i 42 14) - (nI 1))) → K (kI (-1)) (mm X (s2 i 42 36 (nI 0)) j)) ∧ ((nI 0) ≤ a2 ∧ a2 ≤ ((i 42 14) - (nI 1)) → ((¬ ((nI 1) ≤ a3 ∧ a3 ≤ (nI 20)) → K (kI (-1)) (mm X (s2 i 42 36 (nI 0)) j)) ∧ ((nI 1) ≤ a3 ∧ a3 ≤ (nI 20) → ((¬ (((nI 1) ≤ a4 ∧ a4 ≤ (nI 3)) ∧ ((nI 1) ≤ (nI 1) ∧ (nI 1) ≤ (nI 9))) → K (kI (-1)) (mm X (s2 i 42 36 (nI 0)) j)) ∧ (((nI 1) ≤ a4 ∧ a4 ≤ (nI 3)) ∧ ((nI 1) ≤ (nI 1) ∧ (nI 1) ≤ (nI 9)) → (∃ (i10 : Nat → Nat → Int32), EvV (d + 261) 1589 [.ref 42, .int (shlI (nI 1) a2), .int a4, .int (nI 1)] (mm X (s2 i 42 36 (nI 0)) j) (mm X i10 j) ∧ (∃ (x13 : Int32), ∃ (i11 : Nat → Nat → Int32), ∃ (j12 : Nat → Nat → Int64), EvI (d + 261) 1617 [.ref 42, .int a1, .int a2, .int a3, .int (nI 1)] (mm X i10 j) x13 (mm X i11 j12) ∧ K x13 (mm X i11 j12)))))))))))) : WI (d + 262) 1628 [.ref 42, .int a1, .int a2, .int a3, .int a4] (mm X i j) K := te_1628 (d + 261) 42 a1 a2 a3 a4 (mm X i j) (qI K) ⟨rfl, ⟨rfl, (te_1618 (d + 260) 42 a1 a2 a3 a4 (mm X (s2 i 42 36 (nI 0)) j) _ ⟨rfl, (te_1547 (d + 259) 42 a1 (mm X (s2 i 42 36 (nI 0)) j) _ ⟨rfl, (p_1538 (d + 259) X (s2 i 42 36 (nI 0)) j a1 (nI 0) ((i 42 18) - (nI 1)) _ ⟨(bi_01 _), ⟨_, rfl, ⟨fun e1 => ⟨k0_01, ⟨_, rfl, ⟨fun e2 => absurd e2 (show ¬ (¬ (nI 0) = 0) by decide), fun _ => ⟨_, rfl, (h.1 ((bi_z e1)))⟩⟩⟩⟩, fun e1 => ⟨rfl, (te_1546 (d + 259) 42 a2 (mm X (s2 i 42 36 (nI 0)) j) _ ⟨rfl, (p_1538 (d + 259) X (s2 i 42 36 (nI 0)) j a2 (nI 0) ((i 42 14) - (nI 1)) _ ⟨(bi_01 _), ⟨_, rfl, ⟨fun e3 => ⟨k0_01, ⟨_, rfl, ⟨fun e4 => absurd e4 (show ¬ (¬ (nI 0) = 0) by decide), fun _ => ⟨_, rfl, ((h.2 ((bi_n e1))).1 ((bi_z e3)))⟩⟩⟩⟩, fun e3 => (p_1538 (d + 260) X (s2 i 42 36 (nI 0)) j a3 (nI 1) (nI 20) _ ⟨fun e5 => ⟨k0_01, ⟨_, rfl, ⟨fun e6 => absurd e6 (show ¬ (¬ (nI 0) = 0) by decide), fun _ => ⟨_, rfl, (((h.2 ((bi_n e1))).2 ((bi_n e3))).1 ((bi_z e5)))⟩⟩⟩⟩, fun e5 => (p_1588 (d + 259) X (s2 i 42 36 (nI 0)) j a4 (nI 1) _ ⟨fun e7 => ⟨k0_01, ⟨_, rfl, ⟨fun e8 => absurd e8 (show ¬ (¬ (nI 0) = 0) by decide), fun _ => ⟨_, rfl, ((((h.2 ((bi_n e1))).2 ((bi_n e3))).2 ((bi_n e5))).1 ((bi_z e7)))⟩⟩⟩⟩, fun e7 => ⟨k1_01, ⟨_, rfl, ⟨fun _ => ⟨rfl, (Exists.elim ((((h.2 ((bi_n e1))).2 ((bi_n e3))).2 ((bi_n e5))).2 ((bi_n e7))) fun i10 h18 => EvV.use h18.1 ⟨rfl, (Exists.elim h18.2 fun x13 h14 => Exists.elim h14 fun i11 h15 => Exists.elim h15 fun j12 h16 => EvI.use h16.1 ⟨_, rfl, h16.2⟩)⟩)⟩, fun e9 => absurd (show ¬ (nI 1) = 0 by decide) e9⟩⟩⟩⟩)⟩)⟩⟩⟩)⟩)⟩⟩⟩⟩)⟩)⟩)⟩⟩
theorem k_38 (d : Nat) {X : XS} {i : Nat → Nat → Int32} {j : Nat → Nat → Int64} (h : Rel X i j) (a1 a2 a3 a4 : Int32) {Kf : AM → Prop} (hK : Nx X Kf) : WI (d + 300) 1447 [.ref 2, .int a1, .int a2, .int a3, .int a4] (mm X i j) (fun x1 M1 => WI (d + 300) 1628 [.ref 42, .int a1, .int a2, .int a3, .int a4] M1 (fun x2 M2 => x1 = x2 ∧ Kf M2)) := by
  have ht := hK.th h
  have hrel := h
  obtain ⟨hx, ⟨⟨n, h0⟩, h1, ⟨ng, h2, no, h4⟩, ⟨tn, h3⟩, ⟨np, h5⟩, h6, ns, h7⟩, h8, hz⟩ := h
  have e1 := h5.2.1
  have e2 := h5.2.2.1
  have hnp := h5.1
  have hn := h0.2.1.1.2
  refine s_1447 _ X i j a1 a2 a3 a4 _ ⟨h5.ps, ?_, ?_⟩
  · rw [e1]
    exact fun z => s_1628 _ X i j _ _ _ _ _ (bq_t (by rw [e2]; exact z) ⟨rfl, ht⟩)
  rw [e1]
  intro z hO
  have z2 : nI 0 ≤ a1 ∧ a1 ≤ i 42 18 - nI 1 := by rw [e2]; exact z
  obtain ⟨p, hp, rfl⟩ := idx_of (by omega) z
  rw [tc_nI (by omega)] at hO ⊢
  obtain ⟨-, hPT, ⟨q0, q1, q2, q3, q4⟩, ⟨c, l, s, st, hc, hl, hs, hst, b0, b1, b2, b3⟩, b4⟩ := h5.2.2.2 p hp
  have e3 := h4.2.1
  have e4 := h4.2.2.1
  have hno := h4.1
  refine ⟨h4.sg, ?_, ?_⟩
  · rw [e3]; exact fun w => s_1628 _ X i j _ _ _ _ _ (bq_f z2 (bq_t (by rw [e4]; exact w) ⟨rfl, ht⟩))
  rw [e3]
  intro w hOO
  have w2 : nI 0 ≤ a2 ∧ a2 ≤ i 42 14 - nI 1 := by rw [e4]; exact w
  obtain ⟨sg, hsg, rfl⟩ := idx_of (by omega) w
  refine bq_c (fun y => s_1628 _ X i j _ _ _ _ _ (bq_f z2 (bq_f w2 ⟨fun _ => ⟨rfl, ht⟩, fun _ => bq_t y ⟨rfl, ht⟩⟩))) (fun y => ?_)
  refine bq_c (fun v => s_1628 _ X i j _ _ _ _ _ (bq_f z2 (bq_f w2 (bq_t v ⟨rfl, ht⟩)))) (fun v => ?_)
  obtain ⟨m, hm, rfl⟩ := of_rng (by decide) ⟨Int32.le_trans (by decide) v.1, v.2⟩
  obtain ⟨ca, hca⟩ : ∃ ca, ca = caF i n a4 1 := ⟨_, rfl⟩
  obtain ⟨A, hA⟩ : ∃ A, A = svP X i sg := ⟨_, rfl⟩
  have hb := h5.2.2.2 p hp
  have hb4 : shrI (i 61 p) (nI p) &&& nI 1 = 0 := b4
  rw [q4]
  obtain ⟨Q1, hQ1⟩ : ∃ Q1 : Nat → Prop, Q1 = fun v => shrI (i 61 p) (nI v) &&& nI 1 = nI 1 := ⟨_, rfl⟩
  have nQ : ¬ Q1 p := by rw [hQ1]; exact fun h => (and1 _).mp h hb4
  have hbits : ∀ v, v < np → (shrI (i 61 p ||| shlI (nI 1) (nI p)) (nI v) &&& nI 1 = 0 ↔ ¬ (Q1 v ∨ v = p)) := fun v hv => by
    rw [bit_or (by omega) (by omega), hQ1]
    dsimp only
    rw [and1]
    exact ⟨fun h z => z.elim (fun q => q h.1) h.2, fun h => ⟨Classical.byContradiction fun q => h (Or.inl q), fun e => h (Or.inr e)⟩⟩
  have hne : ¬ i 61 p ||| shlI (nI 1) (nI p) = 0 := fun e => by
    have := bit_or (a := i 61 p) (p := p) (v := p) (by omega) (by omega)
    rw [e] at this
    exact (this.mp (bit_0 p (by omega))).2 rfl
  obtain ⟨i1, hE1, f1, z1, r40, hV⟩ := c_1485 0 X i j h0 h2 h4 hz h5 hsg hp hm a4 hA hca (i 61 p ||| shlI (nI 1) (nI p)) (Q := fun v => Q1 v ∨ v = p) hbits (fun _ => 0) (fun _ => 0) (fun t => ⟨fun h => absurd h hne, fun _ => ⟨rfl, rfl⟩⟩)
  obtain ⟨T, hT⟩ : ∃ T, T = fun t => (lat A ca (srN i p) t m).1 + lsT A ca i t m Q1 np := ⟨_, rfl⟩
  obtain ⟨E, hE⟩ : ∃ E, E = fun t => (lat A ca (srN i p) t m).2 + lsE A ca i t m Q1 np := ⟨_, rfl⟩
  obtain ⟨G, hG⟩ : ∃ G : Nat → Prop, G = fun t => A t ∧ gW (i 57 p) (i 58 p) (i 59 p) (T t) (E t) := ⟨_, rfl⟩
  have hTE : ∀ t, 0 + lsT A ca i t m (fun v => Q1 v ∨ v = p) np = T t ∧ 0 + lsE A ca i t m (fun v => Q1 v ∨ v = p) np = E t := fun t => by
    unfold lsT lsE at *
    rw [sumQ_or nQ hp, sumQ_or nQ hp, hT, hE, Nat.zero_add, Nat.zero_add]; exact ⟨rfl, rfl⟩
  have hR : ∀ i4 : Nat → Nat → Int32, Kp X i i4 → ∀ t, (nI 1 = 0 → T t = (lat A ca 0 t m).1 ∧ E t = (lat A ca 0 t m).2) ∧ (¬ nI 1 = 0 → T t = (lat A ca (srN i4 p) t m).1 + lsT A ca i4 t m (fun v => shrI (i4 61 p) (nI v) &&& nI 1 = nI 1) np ∧ E t = (lat A ca (srN i4 p) t m).2 + lsE A ca i4 t m (fun v => shrI (i4 61 p) (nI v) &&& nI 1 = nI 1) np) := fun i4 k4 t => ⟨fun h => absurd h (by decide), fun _ => by
    obtain ⟨-, -, -, w60, w61⟩ := p57 k4
    rw [(lsT_cg w60).1, (lsT_cg w60).2, srN_cg w60, w61, ← hQ1, hT, hE]; exact ⟨rfl, rfl⟩⟩
  simp only [fun t => (hTE t).1, fun t => (hTE t).2] at hV
  rw [← hG] at hV
  obtain ⟨v5, v6, v7, v8, v9⟩ := hV
  refine ⟨i1, hE1.up (by omega), ?_⟩
  rw [v5, v6, v7, v8]
  obtain ⟨kn, hkn⟩ : ∃ kn, kn = n - 1 := ⟨_, rfl⟩
  rw [← hkn]
  obtain ⟨i3, hi3⟩ : ∃ i3, i3 = s2 (s2 (s2 (s2 i1 40 1 (nI 0)) 40 1 (nI 1)) 40 1 (nI 2)) 40 1 (nI 3) := ⟨_, rfl⟩
  rw [← hi3]
  obtain ⟨j3, hj3⟩ : ∃ j3, j3 = s2 (s2 (s2 j 41 0 (nI (ct G kn)).toInt64) 41 1 (nI (ct (fun t => G t ∧ ¬ ca t) kn)).toInt64) 41 2 (nI (ct (fun t => ¬ G t ∧ ca t) kn)).toInt64 := ⟨_, rfl⟩
  rw [← hj3]
  have f3 : ∀ b, b ≠ 40 → i3 b = i1 b := fun b hb => by rw [hi3, s2_ne hb, s2_ne hb, s2_ne hb, s2_ne hb]
  have F : FrC X i i3 := f1.tr (FrC_40 f3)
  have Z : RZ i3 := RZ_of z1 (f3 34 (by decide)) (f3 35 (by decide))
  have g42 : i3 42 = i 42 := F 42 (Or.inl (show 0 < 10 by decide))
  refine s_1628 _ X i3 j3 _ _ _ _ _ (bq_f (by rw [g42]; exact z2) (bq_f (by rw [g42]; exact w2) (bq_f v (bq_f y ?_))))
  obtain ⟨i4, hE4, f4, -, p46, -, -, p72, p73⟩ := prpv 0 X i (s2 i3 42 36 (nI 0)) j3 h0 h2 h4 (F.kp.tr (FrR_th (X := X) (nI 0)).kp) (shlI (nI 1) (nI sg)) a4 (q := 1) (by decide)
  rw [← hca, ← hkn] at p73
  rw [← hkn] at p46
  refine ⟨i4, hE4.up (by omega), ?_⟩
  have k4 : Kp X i i4 := F.kp.tr ((FrR_th (nI 0)).tr f4.fr).kp
  obtain ⟨w57, w58, w59, -, -⟩ := p57 k4
  obtain ⟨i5, j5, hE5, k1, k2, k3, l4, c0, c1, c2⟩ := c_1617 0 X i4 j3 (A := A) (ca := ca) (s := sg) (kn := kn) (m := m) (h5.kp k4) hp (by omega) (by omega) p46 (fun t ht => by rw [p72 t (by omega), hA]; exact soF_r hno hsg t) p73 (nI 1) T E (hR i4 k4) (G := G) (fun t => by rw [hG, w57, w58, w59])
  rw [w57, w58, w59] at hE5
  refine ⟨_, i5, j5, hE5.up (by omega), rfl, hK.k (fin_row hrel F Z (((FrR_th (nI 0)).tr f4.fr).tr (FrR_47 k1 (fun k hk => k2 k (by omega) (by omega) (by omega)))) (r8_of 3 (by decide) ?_ k3 ?_))⟩
  · rw [k1 40 (by decide) (by decide), f4.1 40 (show ¬ (48 : Nat) = 40 by decide) (by decide), s2_ne (show 40 ≠ 42 by decide), hi3, s2_self]
  · intro q hq
    rw [l4 41 (by decide), hj3]
    match q, hq with
    | 0, _ => simp [s2_ap, c0]
    | 1, _ => simp [s2_ap, c1]
    | 2, _ => simp [s2_ap, c2]

set_option maxRecDepth 100000 in
theorem s_1448 (d : Nat) (X : XS) (i : Nat → Nat → Int32) (j : Nat → Nat → Int64) (a1 : Int32) (a2 : Int32) (a3 : Int32) (a4 : Int32) (K : Int32 → AM → Prop) (h : (PSs X i) ∧ ((¬ ((nI 0) ≤ a1 ∧ a1 ≤ ((i 2 9) - (nI 1)))) → K (kI (-1)) (mm X i j)) ∧ (((nI 0) ≤ a1 ∧ a1 ≤ ((i 2 9) - (nI 1))) → (PO X (xr X 24 (a1.toNatClampNeg))) → (SGs X i) ∧ ((¬ ((nI 0) ≤ a2 ∧ a2 ≤ ((i 2 7) - (nI 1)))) → K (kI (-1)) (mm X i j)) ∧ (((nI 0) ≤ a2 ∧ a2 ≤ ((i 2 7) - (nI 1))) → (OO X (xr X 23 (a2.toNatClampNeg))) → ((¬ (((nI 1) ≤ a4 ∧ a4 ≤ (nI 3)) ∧ ((nI 1) ≤ (nI 1) ∧ (nI 1) ≤ (nI 9))) → K (kI (-1)) (mm X i j)) ∧ (((nI 1) ≤ a4 ∧ a4 ≤ (nI 3)) ∧ ((nI 1) ≤ (nI 1) ∧ (nI 1) ≤ (nI 9)) → ((¬ ((nI 1) ≤ a3 ∧ a3 ≤ (nI 20)) → K (kI (-1)) (mm X i j)) ∧ ((nI 1) ≤ a3 ∧ a3 ≤ (nI 20) → (∃ (i22 : Nat → Nat → Int32), EvV (d + 5) 1485 [.ref 2, .ref (xr X 24 (a1.toNatClampNeg)), .int ((i (xr X 24 (a1.toNatClampNeg)) 4) ||| (shlI (nI 1) a1)), .int a2, .int a3, .int a4] (mm X i j) (mm X i22 j) ∧ K (i22 37 9) (mm X i22 j))))))))) : WI (d + 6) 1448 [.ref 2, .int a1, .int a2, .int a3, .int a4] (mm X i j) K := te_1448 (d + 5) 2 a1 a2 a3 a4 (mm X i j) (qI K) ⟨rfl, (p_1469 (d + 4) X i j a1 _ ⟨h.1, (fun h2 => ⟨fun _ => ⟨_, rfl, (h.2.1 h2)⟩, fun e3 => absurd rfl e3⟩), (fun h4 h5 => ⟨fun e6 => absurd e6 (nz_k (h5)), fun _ => ⟨rfl, (te_1472 (d + 4) 2 a2 a3 a4 (mm X i j) _ ⟨rfl, (te_1471 (d + 3) 2 a2 a4 (nI 1) (mm X i j) _ ⟨rfl, (p_1468 (d + 2) X i j a2 _ ⟨(h.2.2 h4 h5).1, (fun h8 => ⟨fun _ => ⟨k0_01, ⟨_, rfl, ⟨fun _ => ⟨k0_01, ⟨_, rfl, ⟨fun e11 => absurd e11 (show ¬ (¬ (nI 0) = 0) by decide), fun _ => ⟨_, rfl, ((h.2.2 h4 h5).2.1 h8)⟩⟩⟩⟩, fun e10 => absurd (show (nI 0) = 0 by decide) e10⟩⟩⟩, fun e9 => absurd rfl e9⟩), (fun h12 h13 => ⟨fun e14 => absurd e14 (nz_k (h13.1)), fun _ => (p_1464 (d + 2) X i j a4 (nI 1) _ ⟨fun e15 => ⟨k0_01, ⟨_, rfl, ⟨fun _ => ⟨k0_01, ⟨_, rfl, ⟨fun e17 => absurd e17 (show ¬ (¬ (nI 0) = 0) by decide), fun _ => ⟨_, rfl, (((h.2.2 h4 h5).2.2 h12 h13).1 ((bi_z e15)))⟩⟩⟩⟩, fun e16 => absurd (show (nI 0) = 0 by decide) e16⟩⟩⟩, fun e15 => ⟨k1_01, ⟨_, rfl, ⟨fun e18 => absurd e18 (show ¬ ((nI 1) = 0) by decide), fun _ => (p_1462 (d + 4) X i j a3 (nI 1) (nI 20) _ ⟨fun e19 => ⟨k0_01, ⟨_, rfl, ⟨fun e20 => absurd e20 (show ¬ (¬ (nI 0) = 0) by decide), fun _ => ⟨_, rfl, ((((h.2.2 h4 h5).2.2 h12 h13).2 ((bi_n e15))).1 ((bi_z e19)))⟩⟩⟩⟩, fun e19 => ⟨k1_01, ⟨_, rfl, ⟨fun _ => ⟨h5, (te_517 (d + 5) (xr X 24 (a1.toNatClampNeg)) (mm X i j) _ ⟨h5, ⟨_, rfl, ⟨rfl, (Exists.elim ((((h.2.2 h4 h5).2.2 h12 h13).2 ((bi_n e15))).2 ((bi_n e19))) fun i22 h23 => EvV.use h23.1 ⟨rfl, ⟨rfl, (te_1291 (d + 5) 37 (mm X i22 j) _ ⟨rfl, ⟨_, rfl, ⟨_, rfl, h23.2⟩⟩⟩)⟩⟩)⟩⟩⟩)⟩, fun e21 => absurd (show ¬ (nI 1) = 0 by decide) e21⟩⟩⟩⟩)⟩⟩⟩⟩)⟩)⟩)⟩)⟩)⟩⟩)⟩)⟩
set_option maxRecDepth 100000 in
theorem s_1629 (d : Nat) (X : XS) (i : Nat → Nat → Int32) (j : Nat → Nat → Int64) (a1 : Int32) (a2 : Int32) (a3 : Int32) (a4 : Int32) (K : Int32 → AM → Prop) (h : ((¬ ((nI 0) ≤ a1 ∧ a1 ≤ ((i 42 18) - (nI 1))) → K (kI (-1)) (mm X (s2 i 42 36 (nI 0)) j)) ∧ ((nI 0) ≤ a1 ∧ a1 ≤ ((i 42 18) - (nI 1)) → ((¬ ((nI 0) ≤ a2 ∧ a2 ≤ ((i 42 14) - (nI 1))) → K (kI (-1)) (mm X (s2 i 42 36 (nI 0)) j)) ∧ ((nI 0) ≤ a2 ∧ a2 ≤ ((i 42 14) - (nI 1)) → ((¬ ((nI 1) ≤ a3 ∧ a3 ≤ (nI 20)) → K (kI (-1)) (mm X (s2 i 42 36 (nI 0)) j)) ∧ ((nI 1) ≤ a3 ∧ a3 ≤ (nI 20) → ((¬ (((nI 1) ≤ a4 ∧ a4 ≤ (nI 3)) ∧ ((nI 1) ≤ (nI 1) ∧ (nI 1) ≤ (nI 9))) → K (kI (-1)) (mm X (s2 i 42 36 (nI 0)) j)) ∧ (((nI 1) ≤ a4 ∧ a4 ≤ (nI 3)) ∧ ((nI 1) ≤ (nI 1) ∧ (nI 1) ≤ (nI 9)) → (∃ (i10 : Nat → Nat → Int32), EvV (d + 261) 1589 [.ref 42, .int (shlI (nI 1) a2), .int a4, .int (nI 1)] (mm X (s2 i 42 36 (nI 0)) j) (mm X i10 j) ∧ WP (d + 262) 1629 (32, [(0, .ref 42), (1, .int a1), (2, .int a2), (3, .int a3), (5, .int (nI 0))], [], (mm X i10 j)) (qI K))))))))))) : WI (d + 262) 1629 [.ref 42, .int a1, .int a2, .int a3, .int a4] (mm X i j) K := te_1629 (d + 261) 42 a1 a2 a3 a4 (mm X i j) (qI K) ⟨rfl, ⟨rfl, (te_1618 (d + 260) 42 a1 a2 a3 a4 (mm X (s2 i 42 36 (nI 0)) j) _ ⟨rfl, (te_1547 (d + 259) 42 a1 (mm X (s2 i 42 36 (nI 0)) j) _ ⟨rfl, (p_1538 (d + 259) X (s2 i 42 36 (nI 0)) j a1 (nI 0) ((i 42 18) - (nI 1)) _ ⟨(bi_01 _), ⟨_, rfl, ⟨fun e1 => ⟨k0_01, ⟨_, rfl, ⟨fun e2 => absurd e2 (show ¬ (¬ (nI 0) = 0) by decide), fun _ => ⟨_, rfl, (h.1 ((bi_z e1)))⟩⟩⟩⟩, fun e1 => ⟨rfl, (te_1546 (d + 259) 42 a2 (mm X (s2 i 42 36 (nI 0)) j) _ ⟨rfl, (p_1538 (d + 259) X (s2 i 42 36 (nI 0)) j a2 (nI 0) ((i 42 14) - (nI 1)) _ ⟨(bi_01 _), ⟨_, rfl, ⟨fun e3 => ⟨k0_01, ⟨_, rfl, ⟨fun e4 => absurd e4 (show ¬ (¬ (nI 0) = 0) by decide), fun _ => ⟨_, rfl, ((h.2 ((bi_n e1))).1 ((bi_z e3)))⟩⟩⟩⟩, fun e3 => (p_1538 (d + 260) X (s2 i 42 36 (nI 0)) j a3 (nI 1) (nI 20) _ ⟨fun e5 => ⟨k0_01, ⟨_, rfl, ⟨fun e6 => absurd e6 (show ¬ (¬ (nI 0) = 0) by decide), fun _ => ⟨_, rfl, (((h.2 ((bi_n e1))).2 ((bi_n e3))).1 ((bi_z e5)))⟩⟩⟩⟩, fun e5 => (p_1588 (d + 259) X (s2 i 42 36 (nI 0)) j a4 (nI 1) _ ⟨fun e7 => ⟨k0_01, ⟨_, rfl, ⟨fun e8 => absurd e8 (show ¬ (¬ (nI 0) = 0) by decide), fun _ => ⟨_, rfl, ((((h.2 ((bi_n e1))).2 ((bi_n e3))).2 ((bi_n e5))).1 ((bi_z e7)))⟩⟩⟩⟩, fun e7 => ⟨k1_01, ⟨_, rfl, ⟨fun _ => ⟨rfl, (Exists.elim ((((h.2 ((bi_n e1))).2 ((bi_n e3))).2 ((bi_n e5))).2 ((bi_n e7))) fun i10 h11 => EvV.use h11.1 h11.2)⟩, fun e9 => absurd (show ¬ (nI 1) = 0 by decide) e9⟩⟩⟩⟩)⟩)⟩⟩⟩)⟩)⟩⟩⟩⟩)⟩)⟩)⟩⟩
set_option maxRecDepth 100000 in
theorem s_1629_32 (d : Nat) (X : XS) (i : Nat → Nat → Int32) (j : Nat → Nat → Int64) (v1 : Int32) (v2 : Int32) (v3 : Int32) (v5 : Int32) (Q : Option (Option Value) → AM → Prop) (h : (((i 42 46) ≤ v5 → Q (some (some (.int (kI (-2))))) (mm X i j)) ∧ (¬ ((i 42 46) ≤ v5) → (∃ (P15 : Prop), ∃ (i14 : Nat → Nat → Int32), EvI (d + 261) 1616 [.ref 42, .int v1, .int v2, .int v3, .int v5, .int (nI 1)] (mm X i j) (bi P15) (mm X i14 j) ∧ ((¬ (P15) → WP (d + 262) 1629 (32, [(0, .ref 42), (1, .int v1), (2, .int v2), (3, .int v3), (5, .int (v5 + (nI 1)))], [], (mm X i14 j)) Q) ∧ (P15 → Q (some (some (.int v5))) (mm X i14 j))))))) : WP (d + 262) 1629 (32, [(0, .ref 42), (1, .int v1), (2, .int v2), (3, .int v3), (5, .int v5)], [], mm X i j) Q := tc_1629_32 (d + 261) 42 v1 v2 v3 v5 (mm X i j) Q ⟨rfl, ⟨fun e13 => (h.1 (e13)), fun e13 => ⟨rfl, (Exists.elim (h.2 (e13)) fun P15 h17 => Exists.elim h17 fun i14 h18 => EvI.use h18.1 ⟨fun e16 => (h18.2.1 ((bi_z e16))), fun e16 => (h18.2.2 ((bi_n e16)))⟩)⟩⟩⟩
theorem k_39 (d : Nat) {X : XS} {i : Nat → Nat → Int32} {j : Nat → Nat → Int64} (h : Rel X i j) (a1 a2 a3 a4 : Int32) {Kf : AM → Prop} (hK : Nx X Kf) : WI (d + 300) 1448 [.ref 2, .int a1, .int a2, .int a3, .int a4] (mm X i j) (fun x1 M1 => WI (d + 300) 1629 [.ref 42, .int a1, .int a2, .int a3, .int a4] M1 (fun x2 M2 => x1 = x2 ∧ Kf M2)) := by
  have ht := hK.th h
  have hrel := h
  obtain ⟨hx, ⟨⟨n, h0⟩, h1, ⟨ng, h2, no, h4⟩, ⟨tn, h3⟩, ⟨np, h5⟩, h6, ns, h7⟩, h8, hz⟩ := h
  have e1 := h5.2.1
  have e2 := h5.2.2.1
  have hnp := h5.1
  have hn := h0.2.1.1.2
  refine s_1448 _ X i j a1 a2 a3 a4 _ ⟨h5.ps, ?_, ?_⟩
  · rw [e1]
    exact fun z => s_1629 _ X i j _ _ _ _ _ (bq_t (by rw [e2]; exact z) ⟨rfl, ht⟩)
  rw [e1]
  intro z hO
  have z2 : nI 0 ≤ a1 ∧ a1 ≤ i 42 18 - nI 1 := by rw [e2]; exact z
  obtain ⟨p, hp, rfl⟩ := idx_of (by omega) z
  rw [tc_nI (by omega)] at hO ⊢
  obtain ⟨-, hPT, ⟨q0, q1, q2, q3, q4⟩, ⟨c, l, s, st, hc, hl, hs, hst, b0, b1, b2, b3⟩, b4⟩ := h5.2.2.2 p hp
  have e3 := h4.2.1
  have e4 := h4.2.2.1
  have hno := h4.1
  refine ⟨h4.sg, ?_, ?_⟩
  · rw [e3]; exact fun w => s_1629 _ X i j _ _ _ _ _ (bq_f z2 (bq_t (by rw [e4]; exact w) ⟨rfl, ht⟩))
  rw [e3]
  intro w hOO
  have w2 : nI 0 ≤ a2 ∧ a2 ≤ i 42 14 - nI 1 := by rw [e4]; exact w
  obtain ⟨sg, hsg, rfl⟩ := idx_of (by omega) w
  refine bq_c (fun y => s_1629 _ X i j _ _ _ _ _ (bq_f z2 (bq_f w2 ⟨fun _ => ⟨rfl, ht⟩, fun _ => bq_t y ⟨rfl, ht⟩⟩))) (fun y => ?_)
  refine bq_c (fun v => s_1629 _ X i j _ _ _ _ _ (bq_f z2 (bq_f w2 (bq_t v ⟨rfl, ht⟩)))) (fun v => ?_)
  obtain ⟨m, hm, rfl⟩ := of_rng (by decide) ⟨Int32.le_trans (by decide) v.1, v.2⟩
  obtain ⟨ca, hca⟩ : ∃ ca, ca = caF i n a4 1 := ⟨_, rfl⟩
  obtain ⟨A, hA⟩ : ∃ A, A = svP X i sg := ⟨_, rfl⟩
  have hb := h5.2.2.2 p hp
  have hb4 : shrI (i 61 p) (nI p) &&& nI 1 = 0 := b4
  rw [q4]
  obtain ⟨Q1, hQ1⟩ : ∃ Q1 : Nat → Prop, Q1 = fun v => shrI (i 61 p) (nI v) &&& nI 1 = nI 1 := ⟨_, rfl⟩
  have nQ : ¬ Q1 p := by rw [hQ1]; exact fun h => (and1 _).mp h hb4
  have hbits : ∀ v, v < np → (shrI (i 61 p ||| shlI (nI 1) (nI p)) (nI v) &&& nI 1 = 0 ↔ ¬ (Q1 v ∨ v = p)) := fun v hv => by
    rw [bit_or (by omega) (by omega), hQ1]
    dsimp only
    rw [and1]
    exact ⟨fun h z => z.elim (fun q => q h.1) h.2, fun h => ⟨Classical.byContradiction fun q => h (Or.inl q), fun e => h (Or.inr e)⟩⟩
  have hne : ¬ i 61 p ||| shlI (nI 1) (nI p) = 0 := fun e => by
    have := bit_or (a := i 61 p) (p := p) (v := p) (by omega) (by omega)
    rw [e] at this
    exact (this.mp (bit_0 p (by omega))).2 rfl
  obtain ⟨i1, hE1, f1, z1, r40, hV⟩ := c_1485 0 X i j h0 h2 h4 hz h5 hsg hp hm a4 hA hca (i 61 p ||| shlI (nI 1) (nI p)) (Q := fun v => Q1 v ∨ v = p) hbits (fun _ => 0) (fun _ => 0) (fun t => ⟨fun h => absurd h hne, fun _ => ⟨rfl, rfl⟩⟩)
  obtain ⟨T, hT⟩ : ∃ T, T = fun t => (lat A ca (srN i p) t m).1 + lsT A ca i t m Q1 np := ⟨_, rfl⟩
  obtain ⟨E, hE⟩ : ∃ E, E = fun t => (lat A ca (srN i p) t m).2 + lsE A ca i t m Q1 np := ⟨_, rfl⟩
  obtain ⟨G, hG⟩ : ∃ G : Nat → Prop, G = fun t => A t ∧ gW (i 57 p) (i 58 p) (i 59 p) (T t) (E t) := ⟨_, rfl⟩
  have hTE : ∀ t, 0 + lsT A ca i t m (fun v => Q1 v ∨ v = p) np = T t ∧ 0 + lsE A ca i t m (fun v => Q1 v ∨ v = p) np = E t := fun t => by
    unfold lsT lsE at *
    rw [sumQ_or nQ hp, sumQ_or nQ hp, hT, hE, Nat.zero_add, Nat.zero_add]; exact ⟨rfl, rfl⟩
  have hR : ∀ i4 : Nat → Nat → Int32, Kp X i i4 → ∀ t, (nI 1 = 0 → T t = (lat A ca 0 t m).1 ∧ E t = (lat A ca 0 t m).2) ∧ (¬ nI 1 = 0 → T t = (lat A ca (srN i4 p) t m).1 + lsT A ca i4 t m (fun v => shrI (i4 61 p) (nI v) &&& nI 1 = nI 1) np ∧ E t = (lat A ca (srN i4 p) t m).2 + lsE A ca i4 t m (fun v => shrI (i4 61 p) (nI v) &&& nI 1 = nI 1) np) := fun i4 k4 t => ⟨fun h => absurd h (by decide), fun _ => by
    obtain ⟨-, -, -, w60, w61⟩ := p57 k4
    rw [(lsT_cg w60).1, (lsT_cg w60).2, srN_cg w60, w61, ← hQ1, hT, hE]; exact ⟨rfl, rfl⟩⟩
  simp only [fun t => (hTE t).1, fun t => (hTE t).2] at hV
  rw [← hG] at hV
  obtain ⟨v5, v6, v7, v8, v9⟩ := hV
  refine ⟨i1, hE1.up (by omega), ?_⟩

  rw [v9]
  obtain ⟨kn, hkn⟩ : ∃ kn, kn = n - 1 := ⟨_, rfl⟩
  rw [← hkn]
  have g42 : i1 42 = i 42 := f1 42 (Or.inl (show 0 < 10 by decide))
  refine s_1629 _ X i1 j _ _ _ _ _ (bq_f (by rw [g42]; exact z2) (bq_f (by rw [g42]; exact w2) (bq_f v (bq_f y ?_))))
  obtain ⟨i4, hE4, f4, -, p46, -, -, p72, p73⟩ := prpv 0 X i (s2 i1 42 36 (nI 0)) j h0 h2 h4 (f1.kp.tr (FrR_th (X := X) (nI 0)).kp) (shlI (nI 1) (nI sg)) a4 (q := 1) (by decide)
  rw [← hca, ← hkn] at p73
  rw [← hkn] at p46
  refine ⟨i4, hE4.up (by omega), ?_⟩
  have k4 : Kp X i i4 := f1.kp.tr ((FrR_th (nI 0)).tr f4.fr).kp
  have fin : ∀ i5 : Nat → Nat → Int32, (∀ b, b ≠ 42 → i5 b = i4 b) → (∀ k, k ≠ 49 → k ≠ 50 → i5 42 k = i4 42 k) → Kf (mm X i5 j) := fun i5 k1 k2 => by
    refine hK.k (fin_row hrel f1 z1 (((FrR_th (nI 0)).tr f4.fr).tr (FrR_42 k1 (fun k hk => k2 k (by omega) (by omega)))) ?_)
    obtain ⟨L, l0, l1, l2, l3⟩ := h8
    refine ⟨L, l0, ?_, ?_, l3⟩
    · rw [k1 40 (by decide), f4.1 40 (show ¬ (48 : Nat) = 40 by decide) (by decide), s2_ne (show 40 ≠ 42 by decide), r40]; exact l1
    · rw [k2 35 (by decide) (by decide), f4.2 35 (by decide), s2_ne2 (show 35 ≠ 36 by decide), g42]; exact l2
  refine lup kn (fun t (i5 : Nat → Nat → Int32) => fs G t = kI (-2) ∧ (∀ b, b ≠ 42 → i5 b = i4 b) ∧ (∀ k, k ≠ 49 → k ≠ 50 → i5 42 k = i4 42 k)) (fun t i5 => (32, [(0, .ref 42), (1, .int (nI p)), (2, .int (nI sg)), (3, .int (nI m)), (5, .int (nI t))], [], mm X i5 j)) ?_ ?_ 0 i4 (Nat.zero_le _) ⟨rfl, fun _ _ => rfl, fun _ _ _ => rfl⟩
  · rintro i5 ⟨hf, k1, k2⟩
    exact s_1629_32 _ X i5 j _ _ _ _ _ (br_t (by rw [k2 46 (by decide) (by decide), p46]; exact Int32.le_refl _) (qI_of ⟨hf, fin i5 k1 k2⟩))
  · rintro t i5 ht' ⟨hf, k1, k2⟩ go
    have k5 : Kp X i i5 := k4.tr (FrR_42 (X := X) k1 (fun k hk => k2 k (by omega) (by omega))).kp
    obtain ⟨w57, w58, w59, -, -⟩ := p57 k5
    obtain ⟨i6, hE6, l1, l2⟩ := c_1616 0 X i5 j (A := A) (ca := ca) (s := sg) (t := t) (m := m) (h5.kp k5) hp (by omega) (by omega) (fun v hv => by rw [k1 72 (by decide), p72 v (by omega), hA]; exact soF_r hno hsg v) (fun v hv => by rw [k1 73 (by decide)]; exact p73 v (by omega)) (nI 1) (T := T t) (E := E t) (hR i5 k5 t).1 (hR i5 k5 t).2
    have hGt : G t ↔ A t ∧ gW (i 57 p) (i 58 p) (i 59 p) (T t) (E t) := by rw [hG]
    rw [w57, w58, w59, ← propext hGt] at hE6
    refine s_1629_32 _ X i5 j _ _ _ _ _ (br_f (by rw [k2 46 (by decide) (by decide), p46]; exact nI_ge ht' (by omega)) ⟨_, i6, hE6.up (by omega), bq_c (fun u => ?_) (fun u => qI_of ⟨?_, fin i6 (fun b hb => (l1 b hb).trans (k1 b hb)) (fun k h1 h2 => (l2 k h1 h2).trans (k2 k h1 h2))⟩)⟩)
    · rw [nI_add]
      exact go i6 ⟨by rw [fs_n fun z => u z.2]; exact hf, fun b hb => (l1 b hb).trans (k1 b hb), fun k h1 h2 => (l2 k h1 h2).trans (k2 k h1 h2)⟩
    · have st : ∀ e, t + 1 + e ≤ 240 → fs G (t + 1 + e) = nI t := fun e => by
        induction e with
        | zero => exact fun _ => fs_y hf u
        | succ e ih =>
          intro he
          rw [← Nat.add_assoc, fs_n fun z => by rw [ih (by omega)] at z; exact n2_ne (by omega) z.1]
          exact ih (by omega)
      have := st (kn - (t + 1)) (by omega)
      rw [show t + 1 + (kn - (t + 1)) = kn by omega] at this
      exact this
