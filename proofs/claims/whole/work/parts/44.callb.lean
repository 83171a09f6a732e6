/-! ===== calls: persons and glasses that stand ===== -/
set_option maxRecDepth 100000 in
theorem kp_1445 (d : Nat) (X : XS) (i : Nat → Nat → Int32) (j : Nat → Nat → Int64) (a1 : Int32) (a2 : Int32) (Kf : AM → Prop) (h : (PSs X i) ∧ ((¬ ((nI 0) ≤ a1 ∧ a1 ≤ ((i 2 9) - (nI 1)))) → ((¬ ((nI 0) ≤ a1 ∧ a1 ≤ ((i 42 18) - (nI 1))) → Kf (mm X (s2 i 42 36 (nI 0)) j)) ∧ ((nI 0) ≤ a1 ∧ a1 ≤ ((i 42 18) - (nI 1)) → (((nI 0) ≤ a2 ∧ a2 ≤ (nI 239) → (vp_in a1 6) ∧ ((kI (-1)) = (i 60 ((a1).toNatClampNeg))) ∧ Kf (mm X (s2 (s2 i 42 36 (nI 0)) 60 ((a1).toNatClampNeg) a2) j)) ∧ (¬ ((nI 0) ≤ a2 ∧ a2 ≤ (nI 239)) → Kf (mm X (s2 i 42 36 (nI 0)) j)))))) ∧ (((nI 0) ≤ a1 ∧ a1 ≤ ((i 2 9) - (nI 1))) → (PO X (xr X 24 (a1.toNatClampNeg))) → (((nI 0) ≤ a2 ∧ a2 ≤ (nI 239) → ((¬ ((nI 0) ≤ a1 ∧ a1 ≤ (((s2 i (xr X 24 (a1.toNatClampNeg)) 3 a2) 42 18) - (nI 1))) → ((i (xr X 24 (a1.toNatClampNeg)) 3) = (kI (-1))) ∧ Kf (mm X (s2 (s2 i (xr X 24 (a1.toNatClampNeg)) 3 a2) 42 36 (nI 0)) j)) ∧ ((nI 0) ≤ a1 ∧ a1 ≤ (((s2 i (xr X 24 (a1.toNatClampNeg)) 3 a2) 42 18) - (nI 1)) → (vp_in a1 6) ∧ ((i (xr X 24 (a1.toNatClampNeg)) 3) = ((s2 i (xr X 24 (a1.toNatClampNeg)) 3 a2) 60 ((a1).toNatClampNeg))) ∧ Kf (mm X (s2 (s2 (s2 i (xr X 24 (a1.toNatClampNeg)) 3 a2) 42 36 (nI 0)) 60 ((a1).toNatClampNeg) a2) j)))) ∧ (¬ ((nI 0) ≤ a2 ∧ a2 ≤ (nI 239)) → ((¬ ((nI 0) ≤ a1 ∧ a1 ≤ ((i 42 18) - (nI 1))) → Kf (mm X (s2 i 42 36 (nI 0)) j)) ∧ ((nI 0) ≤ a1 ∧ a1 ≤ ((i 42 18) - (nI 1)) → Kf (mm X (s2 i 42 36 (nI 0)) j))))))) : WI (d + 300) 1445 [.ref 2, .int a1, .int a2] (mm X i j) (fun x1 M1 => WI (d + 300) 1626 [.ref 42, .int a1, .int a2] M1 (fun x2 M2 => x1 = x2 ∧ Kf M2)) := te_1445 (d + 299) 2 a1 a2 (mm X i j) _ ⟨rfl, (p_1469 (d + 298) X i j a1 _ ⟨h.1, (fun h2 => ⟨fun _ => ⟨_, rfl, (te_1626 (d + 299) 42 a1 a2 (mm X i j) _ ⟨rfl, ⟨rfl, (te_1547 (d + 298) 42 a1 (mm X (s2 i 42 36 (nI 0)) j) _ ⟨rfl, (p_1538 (d + 298) X (s2 i 42 36 (nI 0)) j a1 (nI 0) ((i 42 18) - (nI 1)) _ ⟨(bi_01 _), ⟨_, rfl, ⟨fun e4 => ⟨_, rfl, rfl, ((h.2.1 h2).1 ((bi_z e4)))⟩, fun e4 => (p_1538 (d + 299) X (s2 i 42 36 (nI 0)) j a2 (nI 0) (nI 239) _ ⟨fun e5 => ⟨rfl, ⟨⟨rfl, (((h.2.1 h2).2 ((bi_n e4))).1 ((bi_n e5))).1⟩, ⟨rfl, ⟨⟨rfl, (((h.2.1 h2).2 ((bi_n e4))).1 ((bi_n e5))).1⟩, ⟨_, rfl, (((h.2.1 h2).2 ((bi_n e4))).1 ((bi_n e5))).2⟩⟩⟩⟩⟩, fun e5 => ⟨_, rfl, rfl, (((h.2.1 h2).2 ((bi_n e4))).2 ((bi_nn e5)))⟩⟩)⟩⟩⟩)⟩)⟩⟩)⟩, fun e3 => absurd rfl e3⟩), (fun h6 h7 => ⟨fun e8 => absurd e8 (nz_k (h7)), fun _ => (p_1462 (d + 299) X i j a2 (nI 0) (nI 239) _ ⟨fun e9 => ⟨h7, (te_516 (d + 299) (xr X 24 (a1.toNatClampNeg)) a2 (mm X i j) _ ⟨h7, ⟨h7, ⟨_, rfl, ⟨_, rfl, (te_1626 (d + 299) 42 a1 a2 (mm X (s2 i (xr X 24 (a1.toNatClampNeg)) 3 a2) j) _ ⟨rfl, ⟨rfl, (te_1547 (d + 298) 42 a1 (mm X (s2 (s2 i (xr X 24 (a1.toNatClampNeg)) 3 a2) 42 36 (nI 0)) j) _ ⟨rfl, (p_1538 (d + 298) X (s2 (s2 i (xr X 24 (a1.toNatClampNeg)) 3 a2) 42 36 (nI 0)) j a1 (nI 0) (((s2 i (xr X 24 (a1.toNatClampNeg)) 3 a2) 42 18) - (nI 1)) _ ⟨(bi_01 _), ⟨_, rfl, ⟨fun e10 => ⟨_, rfl, (((h.2.2 h6 h7).1 ((bi_n e9))).1 ((bi_z e10)))⟩, fun e10 => (p_1538 (d + 299) X (s2 (s2 i (xr X 24 (a1.toNatClampNeg)) 3 a2) 42 36 (nI 0)) j a2 (nI 0) (nI 239) _ ⟨fun _ => ⟨rfl, ⟨⟨rfl, (((h.2.2 h6 h7).1 ((bi_n e9))).2 ((bi_n e10))).1⟩, ⟨rfl, ⟨⟨rfl, (((h.2.2 h6 h7).1 ((bi_n e9))).2 ((bi_n e10))).1⟩, ⟨_, rfl, (((h.2.2 h6 h7).1 ((bi_n e9))).2 ((bi_n e10))).2⟩⟩⟩⟩⟩, fun e11 => absurd (fun z => bi_z z ((bi_n e9))) e11⟩)⟩⟩⟩)⟩)⟩⟩)⟩⟩⟩⟩)⟩, fun e9 => ⟨_, rfl, (te_1626 (d + 299) 42 a1 a2 (mm X i j) _ ⟨rfl, ⟨rfl, (te_1547 (d + 298) 42 a1 (mm X (s2 i 42 36 (nI 0)) j) _ ⟨rfl, (p_1538 (d + 298) X (s2 i 42 36 (nI 0)) j a1 (nI 0) ((i 42 18) - (nI 1)) _ ⟨(bi_01 _), ⟨_, rfl, ⟨fun e12 => ⟨_, rfl, rfl, (((h.2.2 h6 h7).2 ((bi_nn e9))).1 ((bi_z e12)))⟩, fun e12 => (p_1538 (d + 299) X (s2 i 42 36 (nI 0)) j a2 (nI 0) (nI 239) _ ⟨fun e13 => absurd e13 (fun z => z (bi_f ((bi_nn e9)))), fun _ => ⟨_, rfl, rfl, (((h.2.2 h6 h7).2 ((bi_nn e9))).2 ((bi_n e12)))⟩⟩)⟩⟩⟩)⟩)⟩⟩)⟩⟩)⟩)⟩)⟩
theorem k_36 (d : Nat) {X : XS} {i : Nat → Nat → Int32} {j : Nat → Nat → Int64} (h : Rel X i j) (a1 a2 : Int32) {Kf : AM → Prop} (hK : Nx X Kf) : WI (d + 300) 1445 [.ref 2, .int a1, .int a2] (mm X i j) (fun x1 M1 => WI (d + 300) 1626 [.ref 42, .int a1, .int a2] M1 (fun x2 M2 => x1 = x2 ∧ Kf M2)) := by
  have ht := hK.th h
  obtain ⟨hx, ⟨⟨n, h0⟩, h1, ⟨ng, h2, no, h4⟩, ⟨tn, h3⟩, ⟨np, h5⟩, h6, ns, h7⟩, h8, hz⟩ := h
  have e1 := h5.2.1
  have e2 := h5.2.2.1
  have hnp := h5.1
  refine kp_1445 d X i j a1 a2 Kf ⟨h5.ps, ?_, ?_⟩
  · rw [e1, e2]
    exact fun z => ⟨fun _ => ht, fun q => absurd q z⟩
  · rw [e1]
    intro z hP
    obtain ⟨p, hp, rfl⟩ := idx_of (by omega) z
    have hpp := h5.2.2.2 p hp
    rw [tc_nI (by omega)] at hP ⊢
    have n42 : 42 ≠ xr X 24 p := (ne42 (X := X) (by have := hpp.2.1; omega)).symm
    have n60 : 60 ≠ xr X 24 p := fun e => by have := xt_big (X := X) (a := xr X 24 p) (by have := hpp.2.1; omega); omega
    rw [s2_ne n42, s2_ne n60, e2]
    refine ⟨fun w => ⟨fun q => absurd z q, fun _ => ⟨vp_in_nI (by omega) (by decide), hpp.2.2.1.2.2.2.1, hK.k ?_⟩⟩, fun w => ⟨fun _ => ht, fun _ => ht⟩⟩
    obtain ⟨m, hm, rfl⟩ := of_rng (by decide) w
    have g := Ag.tr (Ag.dy (X := X) (i := i) hpp.2.1 (by omega) 3 (nI m)) (Ag.wr (X := X) [(42, 36, nI 0), (60, p, nI m)] rfl)
    refine ⟨hx, ⟨⟨n, h0.ag g rfl⟩, h1.ag g rfl, ⟨ng, h2.ag g rfl (fun t _ q => by rcases q with q | q <;> omega), no, h4.ag g rfl (fun t _ q => by rcases q with q | q <;> omega)⟩, ⟨tn, h3.ag g rfl⟩, ⟨np, ?_⟩, h6.ag g rfl, ns, h7.ag g rfl⟩, h8.ag g rfl, hz.ag g rfl⟩
    have f : ∀ b, b ≤ 77 → b ≠ 42 → b ≠ 60 → (s2 (s2 (s2 i (xr X 24 p) 3 (nI m)) 42 36 (nI 0)) 60 p (nI m)) b = i b := fun b hb h42 h60 => by
      rw [s2_ne h60, s2_ne h42, s2_ne (fun e => by have := xt_big (X := X) (a := xr X 24 p) (by have := hpp.2.1; omega); omega)]
    refine ⟨hnp, by rw [f 2 (by decide) (by decide) (by decide)]; exact e1, ?_, fun p' hp' => ?_⟩
    · show (s2 (s2 (s2 i (xr X 24 p) 3 (nI m)) 42 36 (nI 0)) 60 p (nI m)) 42 18 = nI np
      rw [s2_ne (show 42 ≠ 60 by decide), s2_ne2 (show 18 ≠ 36 by decide), s2_ne n42]; exact e2
    · have hh := h5.2.2.2 p' hp'
      have nP42 : xr X 24 p' ≠ 42 := ne42 (X := X) (by have := hh.2.1; omega)
      have nP60 : xr X 24 p' ≠ 60 := fun e => by have := xt_big (X := X) (a := xr X 24 p') (by have := hh.2.1; omega); omega
      show PO X (xr X 24 p') ∧ xt X (xr X 24 p') = 90 + p' ∧ ((s2 (s2 (s2 i (xr X 24 p) 3 (nI m)) 42 36 (nI 0)) 60 p (nI m)) (xr X 24 p') 0 = _ ∧ (s2 (s2 (s2 i (xr X 24 p) 3 (nI m)) 42 36 (nI 0)) 60 p (nI m)) (xr X 24 p') 1 = _ ∧ (s2 (s2 (s2 i (xr X 24 p) 3 (nI m)) 42 36 (nI 0)) 60 p (nI m)) (xr X 24 p') 2 = _ ∧ (s2 (s2 (s2 i (xr X 24 p) 3 (nI m)) 42 36 (nI 0)) 60 p (nI m)) (xr X 24 p') 3 = (s2 (s2 (s2 i (xr X 24 p) 3 (nI m)) 42 36 (nI 0)) 60 p (nI m)) 60 p' ∧ (s2 (s2 (s2 i (xr X 24 p) 3 (nI m)) 42 36 (nI 0)) 60 p (nI m)) (xr X 24 p') 4 = _) ∧ (∃ c l s st : Nat, c < 100 ∧ l < 1000 ∧ s < 1000 ∧ st < 240 ∧ (s2 (s2 (s2 i (xr X 24 p) 3 (nI m)) 42 36 (nI 0)) 60 p (nI m)) 57 p' = _ ∧ (s2 (s2 (s2 i (xr X 24 p) 3 (nI m)) 42 36 (nI 0)) 60 p (nI m)) 58 p' = _ ∧ (s2 (s2 (s2 i (xr X 24 p) 3 (nI m)) 42 36 (nI 0)) 60 p (nI m)) 59 p' = _ ∧ (s2 (s2 (s2 i (xr X 24 p) 3 (nI m)) 42 36 (nI 0)) 60 p (nI m)) 60 p' = _) ∧ shrI ((s2 (s2 (s2 i (xr X 24 p) 3 (nI m)) 42 36 (nI 0)) 60 p (nI m)) 61 p') (nI p') &&& nI 1 = 0
      rw [f 57 (by decide) (by decide) (by decide), f 58 (by decide) (by decide) (by decide), f 59 (by decide) (by decide) (by decide), f 61 (by decide) (by decide) (by decide), s2_ne nP60, s2_ne nP42]
      obtain ⟨c, l, s, st, g1, g2, g3, g4, g5, g6, g7, g8⟩ := hh.2.2.2.1
      by_cases e : p' = p
      · subst e
        rw [s2_self, s2_self, s2_ne2 (show 0 ≠ 3 by decide), s2_ne2 (show 1 ≠ 3 by decide), s2_ne2 (show 2 ≠ 3 by decide), s2_ne2 (show 4 ≠ 3 by decide)]
        exact ⟨hh.1, hh.2.1, ⟨hh.2.2.1.1, hh.2.2.1.2.1, hh.2.2.1.2.2.1, rfl, hh.2.2.1.2.2.2.2⟩, ⟨c, l, s, m, g1, g2, g3, by omega, g5, g6, g7, rfl⟩, hh.2.2.2.2⟩
      · have nPP : xr X 24 p' ≠ xr X 24 p := fun e' => by have t1 := hh.2.1; have t2 := hpp.2.1; rw [e', t2] at t1; omega
        rw [s2_ne nPP, s2_ne2 e, s2_ne (show 60 ≠ 42 by decide), s2_ne n60]
        exact ⟨hh.1, hh.2.1, hh.2.2.1, ⟨c, l, s, st, g1, g2, g3, g4, g5, g6, g7, g8⟩, hh.2.2.2.2⟩
set_option maxRecDepth 100000 in
theorem kp_1446 (d : Nat) (X : XS) (i : Nat → Nat → Int32) (j : Nat → Nat → Int64) (a1 : Int32) (a2 : Int32) (Kf : AM → Prop) (h : (PSs X i) ∧ ((¬ ((nI 0) ≤ a1 ∧ a1 ≤ ((i 2 9) - (nI 1)))) → ((¬ ((nI 0) ≤ a1 ∧ a1 ≤ ((i 42 18) - (nI 1))) → Kf (mm X (s2 i 42 36 (nI 0)) j)) ∧ ((nI 0) ≤ a1 ∧ a1 ≤ ((i 42 18) - (nI 1)) → ((¬ ((nI 0) ≤ a2 ∧ a2 ≤ ((shlI (nI 1) (i 42 18)) - (nI 1))) → Kf (mm X (s2 i 42 36 (nI 0)) j)) ∧ ((nI 0) ≤ a2 ∧ a2 ≤ ((shlI (nI 1) (i 42 18)) - (nI 1)) → ((¬ (((shrI a2 a1) &&& (nI 1)) = (nI 1)) → (vp_in a1 6) ∧ ((kI (-1)) = (i 61 ((a1).toNatClampNeg))) ∧ Kf (mm X (s2 (s2 i 42 36 (nI 0)) 61 ((a1).toNatClampNeg) a2) j)) ∧ (((shrI a2 a1) &&& (nI 1)) = (nI 1) → Kf (mm X (s2 i 42 36 (nI 0)) j)))))))) ∧ (((nI 0) ≤ a1 ∧ a1 ≤ ((i 2 9) - (nI 1))) → (PO X (xr X 24 (a1.toNatClampNeg))) → ((¬ ((nI 0) ≤ a2 ∧ a2 ≤ ((shlI (nI 1) (i 2 9)) - (nI 1))) → ((¬ ((nI 0) ≤ a1 ∧ a1 ≤ ((i 42 18) - (nI 1))) → Kf (mm X (s2 i 42 36 (nI 0)) j)) ∧ ((nI 0) ≤ a1 ∧ a1 ≤ ((i 42 18) - (nI 1)) → ((¬ ((nI 0) ≤ a2 ∧ a2 ≤ ((shlI (nI 1) (i 42 18)) - (nI 1))) → Kf (mm X (s2 i 42 36 (nI 0)) j)) ∧ ((nI 0) ≤ a2 ∧ a2 ≤ ((shlI (nI 1) (i 42 18)) - (nI 1)) → ((¬ (((shrI a2 a1) &&& (nI 1)) = (nI 1)) → (vp_in a1 6) ∧ ((kI (-1)) = (i 61 ((a1).toNatClampNeg))) ∧ Kf (mm X (s2 (s2 i 42 36 (nI 0)) 61 ((a1).toNatClampNeg) a2) j)) ∧ (((shrI a2 a1) &&& (nI 1)) = (nI 1) → Kf (mm X (s2 i 42 36 (nI 0)) j)))))))) ∧ ((nI 0) ≤ a2 ∧ a2 ≤ ((shlI (nI 1) (i 2 9)) - (nI 1)) → ((((shrI a2 a1) &&& (nI 1)) = 0 → ((¬ ((nI 0) ≤ a1 ∧ a1 ≤ (((s2 i (xr X 24 (a1.toNatClampNeg)) 4 a2) 42 18) - (nI 1))) → ((i (xr X 24 (a1.toNatClampNeg)) 4) = (kI (-1))) ∧ Kf (mm X (s2 (s2 i (xr X 24 (a1.toNatClampNeg)) 4 a2) 42 36 (nI 0)) j)) ∧ ((nI 0) ≤ a1 ∧ a1 ≤ (((s2 i (xr X 24 (a1.toNatClampNeg)) 4 a2) 42 18) - (nI 1)) → ((¬ ((nI 0) ≤ a2 ∧ a2 ≤ ((shlI (nI 1) ((s2 i (xr X 24 (a1.toNatClampNeg)) 4 a2) 42 18)) - (nI 1))) → ((i (xr X 24 (a1.toNatClampNeg)) 4) = (kI (-1))) ∧ Kf (mm X (s2 (s2 i (xr X 24 (a1.toNatClampNeg)) 4 a2) 42 36 (nI 0)) j)) ∧ ((nI 0) ≤ a2 ∧ a2 ≤ ((shlI (nI 1) ((s2 i (xr X 24 (a1.toNatClampNeg)) 4 a2) 42 18)) - (nI 1)) → ((¬ (((shrI a2 a1) &&& (nI 1)) = (nI 1)) → (vp_in a1 6) ∧ ((i (xr X 24 (a1.toNatClampNeg)) 4) = ((s2 i (xr X 24 (a1.toNatClampNeg)) 4 a2) 61 ((a1).toNatClampNeg))) ∧ Kf (mm X (s2 (s2 (s2 i (xr X 24 (a1.toNatClampNeg)) 4 a2) 42 36 (nI 0)) 61 ((a1).toNatClampNeg) a2) j)) ∧ (((shrI a2 a1) &&& (nI 1)) = (nI 1) → ((i (xr X 24 (a1.toNatClampNeg)) 4) = (kI (-1))) ∧ Kf (mm X (s2 (s2 i (xr X 24 (a1.toNatClampNeg)) 4 a2) 42 36 (nI 0)) j)))))))) ∧ (¬ (((shrI a2 a1) &&& (nI 1)) = 0) → ((¬ ((nI 0) ≤ a1 ∧ a1 ≤ ((i 42 18) - (nI 1))) → Kf (mm X (s2 i 42 36 (nI 0)) j)) ∧ ((nI 0) ≤ a1 ∧ a1 ≤ ((i 42 18) - (nI 1)) → ((¬ ((nI 0) ≤ a2 ∧ a2 ≤ ((shlI (nI 1) (i 42 18)) - (nI 1))) → Kf (mm X (s2 i 42 36 (nI 0)) j)) ∧ ((nI 0) ≤ a2 ∧ a2 ≤ ((shlI (nI 1) (i 42 18)) - (nI 1)) → ((¬ (((shrI a2 a1) &&& (nI 1)) = (nI 1)) → (vp_in a1 6) ∧ ((kI (-1)) = (i 61 ((a1).toNatClampNeg))) ∧ Kf (mm X (s2 (s2 i 42 36 (nI 0)) 61 ((a1).toNatClampNeg) a2) j)) ∧ (((shrI a2 a1) &&& (nI 1)) = (nI 1) → Kf (mm X (s2 i 42 36 (nI 0)) j))))))))))))) : WI (d + 300) 1446 [.ref 2, .int a1, .int a2] (mm X i j) (fun x1 M1 => WI (d + 300) 1627 [.ref 42, .int a1, .int a2] M1 (fun x2 M2 => x1 = x2 ∧ Kf M2)) := te_1446 (d + 299) 2 a1 a2 (mm X i j) _ ⟨rfl, (p_1469 (d + 298) X i j a1 _ ⟨h.1, (fun h2 => ⟨fun _ => ⟨_, rfl, (te_1627 (d + 299) 42 a1 a2 (mm X i j) _ ⟨rfl, ⟨rfl, (te_1547 (d + 298) 42 a1 (mm X (s2 i 42 36 (nI 0)) j) _ ⟨rfl, (p_1538 (d + 298) X (s2 i 42 36 (nI 0)) j a1 (nI 0) ((i 42 18) - (nI 1)) _ ⟨(bi_01 _), ⟨_, rfl, ⟨fun e4 => ⟨_, rfl, rfl, ((h.2.1 h2).1 ((bi_z e4)))⟩, fun e4 => ⟨rfl, (p_1538 (d + 299) X (s2 i 42 36 (nI 0)) j a2 (nI 0) ((shlI (nI 1) (i 42 18)) - (nI 1)) _ ⟨fun e5 => ⟨_, rfl, rfl, (((h.2.1 h2).2 ((bi_n e4))).1 ((bi_z e5)))⟩, fun e5 => ⟨fun e6 => ⟨rfl, ⟨⟨rfl, ((((h.2.1 h2).2 ((bi_n e4))).2 ((bi_n e5))).1 (e6)).1⟩, ⟨rfl, ⟨⟨rfl, ((((h.2.1 h2).2 ((bi_n e4))).2 ((bi_n e5))).1 (e6)).1⟩, ⟨_, rfl, ((((h.2.1 h2).2 ((bi_n e4))).2 ((bi_n e5))).1 (e6)).2⟩⟩⟩⟩⟩, fun e6 => ⟨_, rfl, rfl, ((((h.2.1 h2).2 ((bi_n e4))).2 ((bi_n e5))).2 ((Classical.byContradiction e6)))⟩⟩⟩)⟩⟩⟩⟩)⟩)⟩⟩)⟩, fun e3 => absurd rfl e3⟩), (fun h7 h8 => ⟨fun e9 => absurd e9 (nz_k (h8)), fun _ => ⟨rfl, (p_1462 (d + 299) X i j a2 (nI 0) ((shlI (nI 1) (i 2 9)) - (nI 1)) _ ⟨fun e10 => ⟨_, rfl, (te_1627 (d + 299) 42 a1 a2 (mm X i j) _ ⟨rfl, ⟨rfl, (te_1547 (d + 298) 42 a1 (mm X (s2 i 42 36 (nI 0)) j) _ ⟨rfl, (p_1538 (d + 298) X (s2 i 42 36 (nI 0)) j a1 (nI 0) ((i 42 18) - (nI 1)) _ ⟨(bi_01 _), ⟨_, rfl, ⟨fun e11 => ⟨_, rfl, rfl, (((h.2.2 h7 h8).1 ((bi_z e10))).1 ((bi_z e11)))⟩, fun e11 => ⟨rfl, (p_1538 (d + 299) X (s2 i 42 36 (nI 0)) j a2 (nI 0) ((shlI (nI 1) (i 42 18)) - (nI 1)) _ ⟨fun e12 => ⟨_, rfl, rfl, ((((h.2.2 h7 h8).1 ((bi_z e10))).2 ((bi_n e11))).1 ((bi_z e12)))⟩, fun e12 => ⟨fun e13 => ⟨rfl, ⟨⟨rfl, (((((h.2.2 h7 h8).1 ((bi_z e10))).2 ((bi_n e11))).2 ((bi_n e12))).1 (e13)).1⟩, ⟨rfl, ⟨⟨rfl, (((((h.2.2 h7 h8).1 ((bi_z e10))).2 ((bi_n e11))).2 ((bi_n e12))).1 (e13)).1⟩, ⟨_, rfl, (((((h.2.2 h7 h8).1 ((bi_z e10))).2 ((bi_n e11))).2 ((bi_n e12))).1 (e13)).2⟩⟩⟩⟩⟩, fun e13 => ⟨_, rfl, rfl, (((((h.2.2 h7 h8).1 ((bi_z e10))).2 ((bi_n e11))).2 ((bi_n e12))).2 ((Classical.byContradiction e13)))⟩⟩⟩)⟩⟩⟩⟩)⟩)⟩⟩)⟩, fun e10 => ⟨fun e14 => ⟨h8, (te_518 (d + 299) (xr X 24 (a1.toNatClampNeg)) a2 (mm X i j) _ ⟨h8, ⟨h8, ⟨_, rfl, ⟨_, rfl, (te_1627 (d + 299) 42 a1 a2 (mm X (s2 i (xr X 24 (a1.toNatClampNeg)) 4 a2) j) _ ⟨rfl, ⟨rfl, (te_1547 (d + 298) 42 a1 (mm X (s2 (s2 i (xr X 24 (a1.toNatClampNeg)) 4 a2) 42 36 (nI 0)) j) _ ⟨rfl, (p_1538 (d + 298) X (s2 (s2 i (xr X 24 (a1.toNatClampNeg)) 4 a2) 42 36 (nI 0)) j a1 (nI 0) (((s2 i (xr X 24 (a1.toNatClampNeg)) 4 a2) 42 18) - (nI 1)) _ ⟨(bi_01 _), ⟨_, rfl, ⟨fun e15 => ⟨_, rfl, ((((h.2.2 h7 h8).2 ((bi_n e10))).1 (e14)).1 ((bi_z e15)))⟩, fun e15 => ⟨rfl, (p_1538 (d + 299) X (s2 (s2 i (xr X 24 (a1.toNatClampNeg)) 4 a2) 42 36 (nI 0)) j a2 (nI 0) ((shlI (nI 1) ((s2 i (xr X 24 (a1.toNatClampNeg)) 4 a2) 42 18)) - (nI 1)) _ ⟨fun e16 => ⟨_, rfl, (((((h.2.2 h7 h8).2 ((bi_n e10))).1 (e14)).2 ((bi_n e15))).1 ((bi_z e16)))⟩, fun e16 => ⟨fun e17 => ⟨rfl, ⟨⟨rfl, ((((((h.2.2 h7 h8).2 ((bi_n e10))).1 (e14)).2 ((bi_n e15))).2 ((bi_n e16))).1 (e17)).1⟩, ⟨rfl, ⟨⟨rfl, ((((((h.2.2 h7 h8).2 ((bi_n e10))).1 (e14)).2 ((bi_n e15))).2 ((bi_n e16))).1 (e17)).1⟩, ⟨_, rfl, ((((((h.2.2 h7 h8).2 ((bi_n e10))).1 (e14)).2 ((bi_n e15))).2 ((bi_n e16))).1 (e17)).2⟩⟩⟩⟩⟩, fun e17 => ⟨_, rfl, ((((((h.2.2 h7 h8).2 ((bi_n e10))).1 (e14)).2 ((bi_n e15))).2 ((bi_n e16))).2 ((Classical.byContradiction e17)))⟩⟩⟩)⟩⟩⟩⟩)⟩)⟩⟩)⟩⟩⟩⟩)⟩, fun e14 => ⟨_, rfl, (te_1627 (d + 299) 42 a1 a2 (mm X i j) _ ⟨rfl, ⟨rfl, (te_1547 (d + 298) 42 a1 (mm X (s2 i 42 36 (nI 0)) j) _ ⟨rfl, (p_1538 (d + 298) X (s2 i 42 36 (nI 0)) j a1 (nI 0) ((i 42 18) - (nI 1)) _ ⟨(bi_01 _), ⟨_, rfl, ⟨fun e18 => ⟨_, rfl, rfl, ((((h.2.2 h7 h8).2 ((bi_n e10))).2 (e14)).1 ((bi_z e18)))⟩, fun e18 => ⟨rfl, (p_1538 (d + 299) X (s2 i 42 36 (nI 0)) j a2 (nI 0) ((shlI (nI 1) (i 42 18)) - (nI 1)) _ ⟨fun e19 => ⟨_, rfl, rfl, (((((h.2.2 h7 h8).2 ((bi_n e10))).2 (e14)).2 ((bi_n e18))).1 ((bi_z e19)))⟩, fun e19 => ⟨fun e20 => ⟨rfl, ⟨⟨rfl, ((((((h.2.2 h7 h8).2 ((bi_n e10))).2 (e14)).2 ((bi_n e18))).2 ((bi_n e19))).1 (e20)).1⟩, ⟨rfl, ⟨⟨rfl, ((((((h.2.2 h7 h8).2 ((bi_n e10))).2 (e14)).2 ((bi_n e18))).2 ((bi_n e19))).1 (e20)).1⟩, ⟨_, rfl, ((((((h.2.2 h7 h8).2 ((bi_n e10))).2 (e14)).2 ((bi_n e18))).2 ((bi_n e19))).1 (e20)).2⟩⟩⟩⟩⟩, fun e20 => ⟨_, rfl, rfl, ((((((h.2.2 h7 h8).2 ((bi_n e10))).2 (e14)).2 ((bi_n e18))).2 ((bi_n e19))).2 ((Classical.byContradiction e20)))⟩⟩⟩)⟩⟩⟩⟩)⟩)⟩⟩)⟩⟩⟩)⟩⟩)⟩)⟩
theorem k_37 (d : Nat) {X : XS} {i : Nat → Nat → Int32} {j : Nat → Nat → Int64} (h : Rel X i j) (a1 a2 : Int32) {Kf : AM → Prop} (hK : Nx X Kf) : WI (d + 300) 1446 [.ref 2, .int a1, .int a2] (mm X i j) (fun x1 M1 => WI (d + 300) 1627 [.ref 42, .int a1, .int a2] M1 (fun x2 M2 => x1 = x2 ∧ Kf M2)) := by
  have ht := hK.th h
  obtain ⟨hx, ⟨⟨n, h0⟩, h1, ⟨ng, h2, no, h4⟩, ⟨tn, h3⟩, ⟨np, h5⟩, h6, ns, h7⟩, h8, hz⟩ := h
  have e1 := h5.2.1
  have e2 := h5.2.2.1
  have hnp := h5.1
  refine kp_1446 d X i j a1 a2 Kf ⟨h5.ps, ?_, ?_⟩
  · rw [e1, e2]
    exact fun z => ⟨fun _ => ht, fun q => absurd q z⟩
  · rw [e1]
    intro z hP
    obtain ⟨p, hp, rfl⟩ := idx_of (by omega) z
    have hpp := h5.2.2.2 p hp
    rw [tc_nI (by omega)] at hP ⊢
    have n42 : 42 ≠ xr X 24 p := (ne42 (X := X) (by have := hpp.2.1; omega)).symm
    have n61 : 61 ≠ xr X 24 p := fun e => by have := xt_big (X := X) (a := xr X 24 p) (by have := hpp.2.1; omega); omega
    rw [s2_ne n42, s2_ne n61, e2]
    refine ⟨fun w => ⟨fun q => absurd z q, fun _ => ⟨fun _ => ht, fun q => absurd q w⟩⟩, fun w => ⟨fun y => ⟨fun q => absurd z q, fun _ => ⟨fun q => absurd w q, fun _ => ⟨fun _ => ⟨vp_in_nI (by omega) (by decide), hpp.2.2.1.2.2.2.2, hK.k ?_⟩, fun q => absurd y ((and1 _).mp q)⟩⟩⟩, fun y => ⟨fun q => absurd z q, fun _ => ⟨fun q => absurd w q, fun _ => ⟨fun q => absurd ((and1 _).mpr y) q, fun _ => ht⟩⟩⟩⟩⟩
    have g := Ag.tr (Ag.dy (X := X) (i := i) hpp.2.1 (by omega) 4 a2) (Ag.wr (X := X) [(42, 36, nI 0), (61, p, a2)] rfl)
    refine ⟨hx, ⟨⟨n, h0.ag g rfl⟩, h1.ag g rfl, ⟨ng, h2.ag g rfl (fun t _ q => by rcases q with q | q <;> omega), no, h4.ag g rfl (fun t _ q => by rcases q with q | q <;> omega)⟩, ⟨tn, h3.ag g rfl⟩, ⟨np, ?_⟩, h6.ag g rfl, ns, h7.ag g rfl⟩, h8.ag g rfl, hz.ag g rfl⟩
    clear g
    obtain ⟨i', hi'⟩ : ∃ i', i' = s2 (s2 (s2 i (xr X 24 p) 4 a2) 42 36 (nI 0)) 61 p a2 := ⟨_, rfl⟩
    rw [← hi']
    have f : ∀ b, b ≠ 42 → b ≠ 61 → b ≠ xr X 24 p → i' b = i b := fun b h42 h61 hb => by rw [hi', s2_ne h61, s2_ne h42, s2_ne hb]
    have fx : ∀ b, b ≤ 77 → b ≠ 42 → b ≠ 61 → i' b = i b := fun b hb h42 h61 => f b h42 h61 (fun e => by have := xt_big (X := X) (a := xr X 24 p) (by have := hpp.2.1; omega); omega)
    have f42 : i' 42 18 = i 42 18 := by rw [hi', s2_ne (show 42 ≠ 61 by decide), s2_ne2 (show 18 ≠ 36 by decide), s2_ne n42]
    have f61 : ∀ q, i' 61 q = if q = p then a2 else i 61 q := fun q => by rw [hi', s2_same, s2_ne (show 61 ≠ 42 by decide), s2_ne n61]
    have fP : ∀ q, i' (xr X 24 p) q = if q = 4 then a2 else i (xr X 24 p) q := fun q => by rw [hi', s2_ne n61.symm, s2_ne n42.symm, s2_same]
    refine ⟨hnp, by rw [fx 2 (by decide) (by decide) (by decide)]; exact e1, by rw [f42]; exact e2, fun p' hp' => ?_⟩
    have hh := h5.2.2.2 p' hp'
    rw [fx 57 (by decide) (by decide) (by decide), fx 58 (by decide) (by decide) (by decide), fx 59 (by decide) (by decide) (by decide), fx 60 (by decide) (by decide) (by decide), f61]
    by_cases e : p' = p
    · subst e
      rw [fP, fP, fP, fP, fP]
      exact ⟨hh.1, hh.2.1, ⟨hh.2.2.1.1, hh.2.2.1.2.1, hh.2.2.1.2.2.1, hh.2.2.1.2.2.2.1, by simp⟩, hh.2.2.2.1, by simpa using y⟩
    · have nPP : xr X 24 p' ≠ xr X 24 p := fun e' => by have t1 := hh.2.1; have t2 := hpp.2.1; rw [e', t2] at t1; omega
      rw [f _ (ne42 (X := X) (by have := hh.2.1; omega)) (fun e => by have := xt_big (X := X) (a := xr X 24 p') (by have := hh.2.1; omega); omega) nPP, if_neg e]
      exact hh
set_option maxRecDepth 100000 in
theorem kp_1417 (d : Nat) (X : XS) (i : Nat → Nat → Int32) (j : Nat → Nat → Int64) (a1 : Int32) (a2 : Int32) (b2 : a2 = 0 ∨ a2 = 1) (Kf : AM → Prop) (h : (GLs X i) ∧ ((¬ ((nI 0) ≤ a1 ∧ a1 ≤ ((i 2 4) - (nI 1)))) → (((nI 0) ≤ a1 ∧ a1 ≤ ((i 42 7) - (nI 1)) → (vp_in a1 4) ∧ ((nI 0) = (nI 1)) ∧ Kf (mm X (s2 (s2 i 42 36 (nI 0)) 51 ((a1).toNatClampNeg) (bnar 21 a2)) j)) ∧ (¬ ((nI 0) ≤ a1 ∧ a1 ≤ ((i 42 7) - (nI 1))) → Kf (mm X (s2 i 42 36 (nI 0)) j)))) ∧ (((nI 0) ≤ a1 ∧ a1 ≤ ((i 2 4) - (nI 1))) → (GO X (xr X 17 (a1.toNatClampNeg))) → (((nI 0) ≤ a1 ∧ a1 ≤ (((s2 i (xr X 17 (a1.toNatClampNeg)) 3 a2) 42 7) - (nI 1)) → (vp_in a1 4) ∧ Kf (mm X (s2 (s2 (s2 i (xr X 17 (a1.toNatClampNeg)) 3 a2) 42 36 (nI 0)) 51 ((a1).toNatClampNeg) (bnar 21 a2)) j)) ∧ (¬ ((nI 0) ≤ a1 ∧ a1 ≤ (((s2 i (xr X 17 (a1.toNatClampNeg)) 3 a2) 42 7) - (nI 1))) → ((nI 1) = (nI 0)) ∧ Kf (mm X (s2 (s2 i (xr X 17 (a1.toNatClampNeg)) 3 a2) 42 36 (nI 0)) j))))) : WI (d + 300) 1417 [.ref 2, .int a1, .int a2] (mm X i j) (fun x1 M1 => WI (d + 300) 1559 [.ref 42, .int a1, .int a2] M1 (fun x2 M2 => x1 = x2 ∧ Kf M2)) := te_1417 (d + 299) 2 a1 a2 (mm X i j) _ ⟨rfl, (p_1467 (d + 298) X i j a1 _ ⟨h.1, (fun h2 => ⟨fun e3 => absurd rfl e3, fun _ => ⟨k0_01, ⟨_, rfl, (te_1559 (d + 299) 42 a1 a2 (mm X i j) _ ⟨rfl, ⟨rfl, (te_1545 (d + 298) 42 a1 (mm X (s2 i 42 36 (nI 0)) j) _ ⟨rfl, (p_1538 (d + 298) X (s2 i 42 36 (nI 0)) j a1 (nI 0) ((i 42 7) - (nI 1)) _ ⟨(bi_01 _), ⟨_, rfl, ⟨fun e4 => ⟨rfl, ⟨⟨(Or.inl rfl), ((h.2.1 h2).1 ((bi_n e4))).1⟩, ⟨k1_01, ⟨_, rfl, ((h.2.1 h2).1 ((bi_n e4))).2⟩⟩⟩⟩, fun e4 => ⟨k0_01, ⟨_, rfl, rfl, ((h.2.1 h2).2 ((bi_nn e4)))⟩⟩⟩⟩⟩)⟩)⟩⟩)⟩⟩⟩), (fun h5 h6 => ⟨fun _ => ⟨h6.1, (te_257 (d + 299) (xr X 17 (a1.toNatClampNeg)) a2 (mm X i j) _ ⟨⟨h6.1, b2⟩, ⟨rfl, ⟨k1_01, ⟨_, rfl, (te_1559 (d + 299) 42 a1 a2 (mm X (s2 i (xr X 17 (a1.toNatClampNeg)) 3 a2) j) _ ⟨rfl, ⟨rfl, (te_1545 (d + 298) 42 a1 (mm X (s2 (s2 i (xr X 17 (a1.toNatClampNeg)) 3 a2) 42 36 (nI 0)) j) _ ⟨rfl, (p_1538 (d + 298) X (s2 (s2 i (xr X 17 (a1.toNatClampNeg)) 3 a2) 42 36 (nI 0)) j a1 (nI 0) (((s2 i (xr X 17 (a1.toNatClampNeg)) 3 a2) 42 7) - (nI 1)) _ ⟨(bi_01 _), ⟨_, rfl, ⟨fun e8 => ⟨rfl, ⟨⟨(Or.inl rfl), ((h.2.2 h5 h6).1 ((bi_n e8))).1⟩, ⟨k1_01, ⟨_, rfl, rfl, ((h.2.2 h5 h6).1 ((bi_n e8))).2⟩⟩⟩⟩, fun e8 => ⟨k0_01, ⟨_, rfl, ((h.2.2 h5 h6).2 ((bi_nn e8)))⟩⟩⟩⟩⟩)⟩)⟩⟩)⟩⟩⟩⟩)⟩, fun e7 => absurd (nz_k (h6.1)) e7⟩)⟩)⟩
theorem k_8 (d : Nat) {X : XS} {i : Nat → Nat → Int32} {j : Nat → Nat → Int64} (h : Rel X i j) (a1 a2 : Int32) (b2 : a2 = 0 ∨ a2 = 1) {Kf : AM → Prop} (hK : Nx X Kf) : WI (d + 300) 1417 [.ref 2, .int a1, .int a2] (mm X i j) (fun x1 M1 => WI (d + 300) 1559 [.ref 42, .int a1, .int a2] M1 (fun x2 M2 => x1 = x2 ∧ Kf M2)) := by
  have ht := hK.th h
  obtain ⟨hx, ⟨⟨n, h0⟩, h1, ⟨ng, h2, no, h4⟩, ⟨tn, h3⟩, ⟨np, h5⟩, h6, ns, h7⟩, h8, hz⟩ := h
  have e1 := h2.2.1
  have e2 := h2.2.2.1
  have hng := h2.1
  refine kp_1417 d X i j a1 a2 b2 Kf ⟨h2.gl, ?_, ?_⟩
  · rw [e1, e2]
    exact fun z => ⟨fun q => absurd q z, fun _ => ht⟩
  · rw [e1]
    intro z hP
    obtain ⟨p, hp, rfl⟩ := idx_of (by omega) z
    have hpp := h2.2.2.2 p hp
    have tG := hpp.2.1.2.1
    rw [tc_nI (by omega)] at hP ⊢
    have n42 : 42 ≠ xr X 17 p := (ne42 (X := X) (by omega)).symm
    have n51 : 51 ≠ xr X 17 p := fun e => by have := xt_big (X := X) (a := xr X 17 p) (by omega); omega
    rw [s2_ne n42, e2]
    refine ⟨fun _ => ⟨vp_in_nI (by omega) (by decide), hK.k ?_⟩, fun q => absurd z q⟩
    have eb : bnar 21 a2 = a2 := by rcases b2 with e | e <;> (rw [e]; rfl)
    rw [eb]
    have g := Ag.tr (Ag.dy (X := X) (i := i) tG (by omega) 3 a2) (Ag.wr (X := X) [(42, 36, nI 0), (51, p, a2)] rfl)
    refine ⟨hx, ⟨⟨n, h0.ag g rfl⟩, h1.ag g rfl, ⟨ng, ?_, no, h4.ag g rfl (fun t _ q => by rcases q with q | q <;> omega)⟩, ⟨tn, h3.ag g rfl⟩, ⟨np, h5.ag g rfl (fun t _ q => by rcases q with q | q <;> omega)⟩, h6.ag g rfl, ns, h7.ag g rfl⟩, h8.ag g rfl, hz.ag g rfl⟩
    clear g
    obtain ⟨i', hi'⟩ : ∃ i', i' = s2 (s2 (s2 i (xr X 17 p) 3 a2) 42 36 (nI 0)) 51 p a2 := ⟨_, rfl⟩
    rw [← hi']
    have f : ∀ b, b ≠ 42 → b ≠ 51 → b ≠ xr X 17 p → i' b = i b := fun b h42 h51 hb => by rw [hi', s2_ne h51, s2_ne h42, s2_ne hb]
    have fx : ∀ b, b ≤ 77 → b ≠ 42 → b ≠ 51 → i' b = i b := fun b hb h42 h51 => f b h42 h51 (fun e => by have := xt_big (X := X) (a := xr X 17 p) (by omega); omega)
    have f42 : i' 42 7 = i 42 7 := by rw [hi', s2_ne (show 42 ≠ 51 by decide), s2_ne2 (show 7 ≠ 36 by decide), s2_ne n42]
    have f51 : ∀ q, i' 51 q = if q = p then a2 else i 51 q := fun q => by rw [hi', s2_same, s2_ne (show 51 ≠ 42 by decide), s2_ne n51]
    have fP : ∀ q, i' (xr X 17 p) q = if q = 3 then a2 else i (xr X 17 p) q := fun q => by rw [hi', s2_ne n51.symm, s2_ne n42.symm, s2_same]
    refine ⟨hng, by rw [fx 2 (by decide) (by decide) (by decide)]; exact e1, by rw [f42]; exact e2, fun p' hp' => ?_⟩
    have hh := h2.2.2.2 p' hp'
    have tM := hh.2.1.2.2.1
    have fM : i' (xr X (xr X 17 p') 4) = i (xr X (xr X 17 p') 4) := f _ (ne42 (X := X) (by omega)) (fun e => by have := xt_big (X := X) (a := xr X (xr X 17 p') 4) (by omega); omega) (fun e => by rw [e, tG] at tM; omega)
    rw [fx 48 (by decide) (by decide) (by decide), fx 49 (by decide) (by decide) (by decide), fx 50 (by decide) (by decide) (by decide), fx 52 (by decide) (by decide) (by decide), fx 53 (by decide) (by decide) (by decide), f51, fM]
    by_cases e : p' = p
    · subst e
      rw [fP, fP, fP, fP, fP]
      exact ⟨hh.1, hh.2.1, ⟨hh.2.2.1.1, hh.2.2.1.2.1, hh.2.2.1.2.2.1, by simp⟩, by simpa using b2, hh.2.2.2.2⟩
    · have nPP : xr X 17 p' ≠ xr X 17 p := fun e' => by have t1 := hh.2.1.2.1; rw [e', tG] at t1; omega
      rw [f _ (ne42 (X := X) (by have := hh.2.1.2.1; omega)) (fun e => by have := xt_big (X := X) (a := xr X 17 p') (by have := hh.2.1.2.1; omega); omega) nPP, if_neg e]
      exact hh
