/-! ===== person ===== -/
set_option maxRecDepth 100000 in
theorem s_1600 (d : Nat) (X : XS) (i : Nat → Nat → Int32) (j : Nat → Nat → Int64) (a1 : Int32) (a2 : Int32) (a3 : Int32) (K : Int32 → AM → Prop) (h : ((¬ ((nI 0) ≤ a1 ∧ a1 ≤ (nI 99)) → K (kI (-1)) (mm X (s2 i 42 36 (nI 0)) j)) ∧ ((nI 0) ≤ a1 ∧ a1 ≤ (nI 99) → ((¬ ((nI 0) ≤ a2 ∧ a2 ≤ (nI 999)) → K (kI (-1)) (mm X (s2 i 42 36 (nI 0)) j)) ∧ ((nI 0) ≤ a2 ∧ a2 ≤ (nI 999) → ((¬ ((nI 0) ≤ a3 ∧ a3 ≤ (nI 999)) → K (kI (-1)) (mm X (s2 i 42 36 (nI 0)) j)) ∧ ((nI 0) ≤ a3 ∧ a3 ≤ (nI 999) → ((¬ ((i 42 18) = (nI 6)) → (vp_in (i 42 18) 6) ∧ K (((i 42 18) + (nI 1)) - (nI 1)) (mm X (s2 (s2 (s2 (s2 (s2 (s2 (s2 i 42 36 (nI 0)) 57 ((i 42 18).toNatClampNeg) a1) 58 ((i 42 18).toNatClampNeg) a2) 59 ((i 42 18).toNatClampNeg) a3) 60 ((i 42 18).toNatClampNeg) (nI 0)) 61 ((i 42 18).toNatClampNeg) (nI 0)) 42 18 ((i 42 18) + (nI 1))) j)) ∧ ((i 42 18) = (nI 6) → K (kI (-1)) (mm X (s2 i 42 36 (nI 0)) j)))))))))) : WI (d + 1) 1600 [.ref 42, .int a1, .int a2, .int a3] (mm X i j) K := te_1600 d 42 a1 a2 a3 (mm X i j) (qI K) ⟨rfl, (p_1538 d X (s2 i 42 36 (nI 0)) j a1 (nI 0) (nI 99) _ ⟨fun e1 => ⟨_, rfl, (h.1 ((bi_z e1)))⟩, fun e1 => (p_1538 d X (s2 i 42 36 (nI 0)) j a2 (nI 0) (nI 999) _ ⟨fun e2 => ⟨_, rfl, ((h.2 ((bi_n e1))).1 ((bi_z e2)))⟩, fun e2 => (p_1538 d X (s2 i 42 36 (nI 0)) j a3 (nI 0) (nI 999) _ ⟨fun e3 => ⟨_, rfl, (((h.2 ((bi_n e1))).2 ((bi_n e2))).1 ((bi_z e3)))⟩, fun e3 => ⟨rfl, ⟨fun e4 => ⟨rfl, ⟨rfl, ⟨⟨rfl, ((((h.2 ((bi_n e1))).2 ((bi_n e2))).2 ((bi_n e3))).1 (e4)).1⟩, ⟨rfl, ⟨rfl, ⟨⟨rfl, ((((h.2 ((bi_n e1))).2 ((bi_n e2))).2 ((bi_n e3))).1 (e4)).1⟩, (tc_1600_68 d 42 a3 (mm X (s2 (s2 (s2 i 42 36 (nI 0)) 57 ((i 42 18).toNatClampNeg) a1) 58 ((i 42 18).toNatClampNeg) a2) j) _ ⟨rfl, ⟨rfl, ⟨⟨rfl, ((((h.2 ((bi_n e1))).2 ((bi_n e2))).2 ((bi_n e3))).1 (e4)).1⟩, ⟨rfl, ⟨rfl, ⟨⟨rfl, ((((h.2 ((bi_n e1))).2 ((bi_n e2))).2 ((bi_n e3))).1 (e4)).1⟩, ⟨rfl, ⟨rfl, ⟨⟨rfl, ((((h.2 ((bi_n e1))).2 ((bi_n e2))).2 ((bi_n e3))).1 (e4)).1⟩, (tc_1600_98 d 42 (mm X (s2 (s2 (s2 (s2 (s2 (s2 i 42 36 (nI 0)) 57 ((i 42 18).toNatClampNeg) a1) 58 ((i 42 18).toNatClampNeg) a2) 59 ((i 42 18).toNatClampNeg) a3) 60 ((i 42 18).toNatClampNeg) (nI 0)) 61 ((i 42 18).toNatClampNeg) (nI 0)) j) _ ⟨rfl, ⟨rfl, ⟨rfl, ⟨_, rfl, ((((h.2 ((bi_n e1))).2 ((bi_n e2))).2 ((bi_n e3))).1 (e4)).2⟩⟩⟩⟩)⟩⟩⟩⟩⟩⟩⟩⟩⟩)⟩⟩⟩⟩⟩⟩, fun e4 => ⟨_, rfl, ((((h.2 ((bi_n e1))).2 ((bi_n e2))).2 ((bi_n e3))).2 ((Classical.byContradiction e4)))⟩⟩⟩⟩)⟩)⟩)⟩
theorem k_24 (d : Nat) {X : XS} {i : Nat → Nat → Int32} {j : Nat → Nat → Int64} (h : Rel X i j) (a1 a2 a3 : Int32) {Kf : AM → Prop} (hK : Nx X Kf) : WI (d + 300) 1433 [.ref 2, .int a1, .int a2, .int a3] (mm X i j) (fun x1 M1 => WI (d + 300) 1600 [.ref 42, .int a1, .int a2, .int a3] M1 (fun x2 M2 => x1 = x2 ∧ Kf M2)) := by
  have ht := hK.th h
  have hrel := h
  obtain ⟨hx, ⟨⟨n, h0⟩, h1, ⟨ng, h2, no, h4⟩, ⟨tn, h3⟩, ⟨np, h5⟩, h6, ns, h7⟩, h8, hz⟩ := h

  have e1 := h5.2.1
  have e2 := h5.2.2.1
  have hnp := h5.1
  refine te_1433 (d + 299) 2 a1 a2 a3 (mm X i j) _ (p_1462 _ X i j _ _ _ _ ?_)
  rw [bi_eq0]
  refine ⟨fun y => ⟨_, rfl, s_1600 _ X i j _ _ _ _ (bq_t y ⟨rfl, ht⟩)⟩, fun y => p_1462 _ X i j _ _ _ _ ?_⟩
  have y := Classical.byContradiction y
  rw [bi_eq0]
  refine ⟨fun w => ⟨_, rfl, s_1600 _ X i j _ _ _ _ (bq_f y (bq_t w ⟨rfl, ht⟩))⟩, fun w => p_1462 _ X i j _ _ _ _ ?_⟩
  have w := Classical.byContradiction w
  rw [bi_eq0]
  refine ⟨fun v => ?_, fun v => ⟨_, rfl, s_1600 _ X i j _ _ _ _ (bq_f y (bq_f w (bq_t (fun u => v (fun z => z u)) ⟨rfl, ht⟩)))⟩⟩
  have v := Classical.byContradiction v
  refine ⟨rfl, fun z => ?_, fun z => ⟨_, rfl, s_1600 _ X i j _ _ _ _ (bq_f y (bq_f w (bq_f v (bq_f ?_ ⟨rfl, ht⟩))))⟩⟩
  · have z : np < 6 := by
      have z : i 2 9 < nI 6 := z
      rw [e1] at z
      exact (nI_ltI (by omega) (by decide)).mp z
    refine ⟨rfl, rfl, ?_, ?_⟩
    · rw [nw_mm hx.1 (90 + np)]
      show xk (XN X 5 0 5 (90 + np)) (xn X + 2) = 5
      rw [xk_N hx.1]; simp [u1]
    · rw [nw_mm hx.1 (90 + np)]
      sorry
  · have z : ¬ i 2 9 < nI 6 := z
    rw [e1] at z
    rw [e2, show np = 6 from Classical.byContradiction fun n6 => z (nI_lt (by omega) (by decide))]
