/-! ===== value ===== -/
theorem Rel.xth {X : XS} {i : Nat → Nat → Int32} {j : Nat → Nat → Int64} (h : Rel X i j) : Rel (XN X 30 0 6 0) (s2 (s2 (zN X i 0) 42 36 (nI 0)) 42 36 (nI 1)) (zN X j 0) := ((h.exc 30 0 6).th _).th _
theorem TO.bad {X : XS} {i : Nat → Nat → Int32} {j : Nat → Nat → Int64} (h : Rel X i j) {Kf : AM → Prop} (hK : Nx X Kf) (b : Int64) : TO Kf (kI 1) b (mm (XN X 30 0 6 0) (s2 (s2 (zN X i 0) 42 36 (nI 0)) 42 36 (nI 1)) (zN X j 0)) := ⟨_, _, _, rfl, by rw [s2_self]; rfl, fun e => absurd e (by decide), hK _ _ _ h.xth (Grw.exc X 30 0)⟩
set_option maxRecDepth 100000 in
theorem s_1426 (d : Nat) (X : XS) (i : Nat → Nat → Int32) (j : Nat → Nat → Int64) (a1 : Int32) (a2 : Int32) (K : Int32 → AM → Prop) (E : AM → Prop) (h : (SGs X i) ∧ ((¬ ((nI 0) ≤ a1 ∧ a1 ≤ ((i 2 7) - (nI 1)))) → E (nw (mm X i j) 30 0 6)) ∧ (((nI 0) ≤ a1 ∧ a1 ≤ ((i 2 7) - (nI 1))) → (OO X (xr X 23 (a1.toNatClampNeg))) → ((a2 < 0 → E (nw (mm X i j) 30 0 6)) ∧ (¬ (a2 < 0) → (((i 9 3) ≤ a2 → E (nw (mm X i j) 30 0 6)) ∧ (¬ ((i 9 3) ≤ a2) → (∃ (i12 : Nat → Nat → Int32), EvV (d + 3) 1473 [.ref 2, .ref 9] (mm X i j) (mm X i12 j) ∧ (∃ (x14 : Int32), ∃ (i13 : Nat → Nat → Int32), EvI (d + 3) 387 [.ref (xr X 23 (a1.toNatClampNeg)), .ref 9, .int a2] (mm X i12 j) x14 (mm X i13 j) ∧ K x14 (mm X i13 j))))))))) : WX (d + 4) 1426 [.ref 2, .int a1, .int a2] (mm X i j) K E := te_1426 (d + 3) 2 a1 a2 (mm X i j) (qX K E) ⟨rfl, (p_1468 (d + 2) X i j a1 _ ⟨h.1, (fun h2 => ⟨fun _ => Or.inr ⟨rfl, (h.2.1 h2)⟩, fun e3 => absurd rfl e3⟩), (fun h4 h5 => ⟨fun e6 => absurd e6 (nz_k (h5.1)), fun _ => ⟨rfl, ⟨rfl, (te_130 (d + 3) 9 a2 (mm X i j) _ ⟨fun e7 => ⟨k0_01, ⟨_, rfl, ⟨fun e8 => absurd e8 (show ¬ (¬ (nI 0) = 0) by decide), fun _ => Or.inr ⟨rfl, ((h.2.2 h4 h5).1 (e7))⟩⟩⟩⟩, fun e7 => ⟨rfl, ⟨fun e9 => ⟨k0_01, ⟨_, rfl, ⟨fun e10 => absurd e10 (show ¬ (¬ (nI 0) = 0) by decide), fun _ => Or.inr ⟨rfl, (((h.2.2 h4 h5).2 (e7)).1 (e9))⟩⟩⟩⟩, fun e9 => ⟨k1_01, ⟨_, rfl, ⟨fun _ => ⟨rfl, ⟨rfl, (Exists.elim (((h.2.2 h4 h5).2 (e7)).2 (e9)) fun i12 h18 => EvV.use h18.1 ⟨rfl, ⟨h5.1, (Exists.elim h18.2 fun x14 h15 => Exists.elim h15 fun i13 h16 => EvI.use h16.1 (Or.inl ⟨_, rfl, h16.2⟩))⟩⟩)⟩⟩, fun e11 => absurd (show ¬ (nI 1) = 0 by decide) e11⟩⟩⟩⟩⟩⟩)⟩⟩⟩)⟩)⟩
set_option maxRecDepth 100000 in
theorem s_1587 (d : Nat) (X : XS) (i : Nat → Nat → Int32) (j : Nat → Nat → Int64) (a1 : Int32) (a2 : Int32) (K : Int32 → AM → Prop) (h : ((¬ ((nI 0) ≤ a1 ∧ a1 ≤ ((i 42 14) - (nI 1))) → K (nI 0) (mm X (s2 (s2 i 42 36 (nI 0)) 42 36 (nI 1)) j)) ∧ ((nI 0) ≤ a1 ∧ a1 ≤ ((i 42 14) - (nI 1)) → (((nI 0) ≤ a2 ∧ a2 ≤ ((i 42 0) - (nI 1)) → (∃ (i3 : Nat → Nat → Int32), EvV (d + 260) 1565 [.ref 42] (mm X (s2 i 42 36 (nI 0)) j) (mm X i3 j) ∧ (∃ (x5 : Int32), ∃ (i4 : Nat → Nat → Int32), EvI (d + 260) 1586 [.ref 42, .int a1, .int a2] (mm X i3 j) x5 (mm X i4 j) ∧ K x5 (mm X i4 j)))) ∧ (¬ ((nI 0) ≤ a2 ∧ a2 ≤ ((i 42 0) - (nI 1))) → K (nI 0) (mm X (s2 (s2 i 42 36 (nI 0)) 42 36 (nI 1)) j)))))) : WI (d + 261) 1587 [.ref 42, .int a1, .int a2] (mm X i j) K := te_1587 (d + 260) 42 a1 a2 (mm X i j) (qI K) ⟨rfl, ⟨rfl, (te_1546 (d + 259) 42 a1 (mm X (s2 i 42 36 (nI 0)) j) _ ⟨rfl, (p_1538 (d + 259) X (s2 i 42 36 (nI 0)) j a1 (nI 0) ((i 42 14) - (nI 1)) _ ⟨(bi_01 _), ⟨_, rfl, ⟨fun e1 => (tc_1587_21 (d + 260) 42 (mm X (s2 i 42 36 (nI 0)) j) _ ⟨rfl, (te_1539 (d + 260) 42 (mm X (s2 i 42 36 (nI 0)) j) _ ⟨rfl, ⟨_, rfl, ⟨_, rfl, (h.1 ((bi_z e1)))⟩⟩⟩)⟩), fun e1 => ⟨rfl, (te_1543 (d + 259) 42 a2 (mm X (s2 i 42 36 (nI 0)) j) _ ⟨rfl, (p_1538 (d + 259) X (s2 i 42 36 (nI 0)) j a2 (nI 0) ((i 42 0) - (nI 1)) _ ⟨(bi_01 _), ⟨_, rfl, ⟨fun e2 => ⟨rfl, (Exists.elim ((h.2 ((bi_n e1))).1 ((bi_n e2))) fun i3 h9 => EvV.use h9.1 ⟨rfl, (Exists.elim h9.2 fun x5 h6 => Exists.elim h6 fun i4 h7 => EvI.use h7.1 ⟨_, rfl, h7.2⟩)⟩)⟩, fun e2 => (tc_1587_21 (d + 260) 42 (mm X (s2 i 42 36 (nI 0)) j) _ ⟨rfl, (te_1539 (d + 260) 42 (mm X (s2 i 42 36 (nI 0)) j) _ ⟨rfl, ⟨_, rfl, ⟨_, rfl, ((h.2 ((bi_n e1))).2 ((bi_nn e2)))⟩⟩⟩)⟩)⟩⟩⟩)⟩)⟩⟩⟩⟩)⟩)⟩⟩
theorem k_17 (d : Nat) {X : XS} {i : Nat → Nat → Int32} {j : Nat → Nat → Int64} (h : Rel X i j) (a1 a2 : Int32) {Kf : AM → Prop} (hK : Nx X Kf) : WI (d + 301) 1666 [.ref 2, .int a1, .int a2, .ref 77] (mm X i j) (fun k M1 => WI (d + 300) 1587 [.ref 42, .int a1, .int a2] M1 (fun b M2 => TO Kf k b.toInt64 M2)) := by
  have hrel := h
  obtain ⟨hx, ⟨⟨n, h0⟩, h1, ⟨ng, h2, no, h4⟩, ⟨tn, h3⟩, ⟨np, h5⟩, h6, ns, h7⟩, h8, hz⟩ := h
  have e1 := h4.2.1
  have e2 := h4.2.2.1
  have e3 := h2.2.2.1
  have hno := h4.1
  have hn := h0.2.1.1.2
  have n42 : 42 ≠ xn X + 2 := by have := hx.1; omega
  refine te_1666 (d + 300) 2 a1 a2 77 (mm X i j) _ ⟨rfl, ?_⟩
  have bad : ¬ (nI 0 ≤ a1 ∧ a1 ≤ nI no - nI 1) ∨ ((nI 0 ≤ a1 ∧ a1 ≤ nI no - nI 1) ∧ ¬ (nI 0 ≤ a2 ∧ a2 ≤ nI n - nI 1)) → WP (d + 301) 1666 (15, [(0, .ref 2), (1, .int a1), (2, .int a2), (3, .ref 77)], [], nw (mm X i j) 30 0 6) (fun r M2 => ∃ x : Int32, r = some (some (.int x)) ∧ WI (d + 300) 1587 [.ref 42, .int a1, .int a2] M2 (fun b M2 => TO Kf x b.toInt64 M2)) := by
    intro w
    refine tc_1666_15 (d + 300) _ _ _ _ _ _ ⟨kI 1, rfl, ?_⟩
    rw [nw_mm hx.1 0]
    rcases w with w | ⟨w1, w2⟩
    · exact s_1587 _ _ _ _ _ _ _ (bq_t (by rw [zN_ne n42, e2]; exact w) (TO.bad hrel hK _))
    · exact s_1587 _ _ _ _ _ _ _ (bq_f (by rw [zN_ne n42, e2]; exact w1) (br_f (by rw [zN_ne n42, h0.1]; exact w2) (TO.bad hrel hK _)))
  have hr := rng_iff (n := n) (by omega) a2
  refine s_1426 _ X i j _ _ _ _ ⟨h4.sg, ?_, ?_⟩
  · rw [e1]; exact fun w => bad (Or.inl w)
  rw [e1]
  intro z hO
  refine br_c (fun y => bad (Or.inr ⟨z, fun u => (hr.mp u).1 y⟩)) (fun y => ?_)
  rw [h0.2.1.1.1]
  refine br_c (fun y2 => bad (Or.inr ⟨z, fun u => (hr.mp u).2 y2⟩)) (fun y2 => ?_)
  have v := hr.mpr ⟨y, y2⟩
  obtain ⟨s, hs, rfl⟩ := idx_of (by omega) z
  obtain ⟨t, ht, rfl⟩ := idx_of (by omega) v
  rw [tc_nI (by omega)] at hO
  rw [tc_nI (by omega)]
  obtain ⟨i1, hE1, f1, z1, r40, hL, g9⟩ := gov 0 X i j h0 h2 hz
  obtain ⟨i2, hE2, k1⟩ := cval (i2 := i1) 0 j h0 h2 h4 f1 hL (fun _ _ _ => rfl) hs ht
  refine ⟨i1, hE1.up (by omega), _, i2, hE2.up (by omega), ?_⟩
  refine tc_1666_8 (d + 300) _ _ _ _ _ _ _ _ _ ⟨kd77 _ _ _, kI 0, rfl, ?_⟩
  rw [sl77]
  have F : FrC X i i2 := fun b hb => by rw [k1 b (by omega)]; exact f1 b hb
  have t34 : xt X 34 = 45 ∧ xt X 35 = 45 ∧ xt X 40 = 48 := ⟨rfl, rfl, rfl⟩
  have Z : RZ i2 := RZ_of z1 (k1 34 (by omega)) (k1 35 (by omega))
  have g42 : i2 42 = i 42 := F 42 (Or.inl (show 0 < 10 by decide))
  refine s_1587 _ X i2 _ _ _ _ (bq_f (by rw [g42, e2]; exact z) (br_t (by rw [g42, h0.1]; exact v) ?_))
  have k3 : Kp X i (s2 i2 42 36 (nI 0)) := F.kp.tr (FrR_th (X := X) (nI 0)).kp
  obtain ⟨i3, hE3, k2, hS3⟩ := c_1565 0 X (s2 i2 42 36 (nI 0)) (s2 j 77 0 (vlF X i (i 43) (i 44) (i 45) s t).toInt64) (n := n) h2.1 (by rw [k3.2 7 (by decide)]; exact e3) hn (by rw [k3.2 0 (by decide)]; exact h0.1)
  have k4 : Kp X i i3 := k3.tr (FrR_71 (X := X) k2).kp
  have e44 : (s2 i2 42 36 (nI 0)) 44 = i3 44 := (k2 44 (by decide)).symm
  obtain ⟨i4, hE4, k5, k6⟩ := c_1586 0 X i3 (s2 j 77 0 (vlF X i (i 43) (i 44) (i 45) s t).toInt64) (h2.kp k4) (h4.kp k4) hn (fun g hg t ht => by rw [hS3 g hg t ht, rdR_kp k3, rdR_kp k4, e44]) hs ht
  obtain ⟨w3, w4, w5⟩ := kp43 k4
  rw [w3, w4, w5, vlF_kp h4 k4 _ _ _ hs] at hE4
  refine ⟨i3, hE3.up (by omega), _, i4, hE4.up (by omega), ?_⟩
  have h36 : i4 42 36 = nI 0 := by rw [k6 36 (by omega), k2 42 (by decide), s2_self]
  refine ⟨_, _, _, rfl, by rw [h36]; rfl, fun _ => by rw [s2_self], hK.k (fin_row (hrel.ou (nI 0).toInt64) F Z ((FrR_th (nI 0)).tr ((FrR_71 k2).tr (FrR_42 k5 (fun k hk => k6 k (by omega))))) ?_)⟩
  obtain ⟨L, l0, l1, l2, l3⟩ := h8
  refine ⟨L, l0, ?_, ?_, fun q hq => ?_⟩
  · rw [k5 40 (by decide), k2 40 (by decide), s2_ne (show 40 ≠ 42 by decide), k1 40 (by omega), r40]; exact l1
  · rw [k6 35 (by omega), k2 42 (by decide), s2_ne2 (show 35 ≠ 36 by decide), g42]; exact l2
  · rw [s2_ne (show 41 ≠ 77 by decide), s2_ne (show 70 ≠ 77 by decide)]; exact l3 q hq
