/-! ===== calls that may throw: by the law's own methods ===== -/
theorem sl77 (X : XS) (i : Nat → Nat → Int32) (j : Nat → Nat → Int64) (v : Int64) : sl (mm X i j) 77 (kI 0).toNatClampNeg v = mm X i (s2 j 77 0 v) := rfl
theorem kd77 (X : XS) (i : Nat → Nat → Int32) (j : Nat → Nat → Int64) : kd (mm X i j) 77 = 23 ∧ vp_in (kI 0) (ln (mm X i j) 77) := ⟨rfl, by show vp_in (nI 0) 1; exact vp_in_nI (by decide) (by decide)⟩
theorem Grw.exc (X : XS) (k l : Nat) : Grw X (XN X k l 6 0) := by
  refine ⟨?_, ?_, ?_⟩
  · show xn X ≤ xn X + 1; omega
  · show xn X + 1 ≤ xn X + 4; omega
  · show xu X + 6 ≤ xu X + 600; omega
/-- what the law asks of an outcome k, an answer b and what follows -/
def TO (Kf : AM → Prop) (k : Int32) (b : Int64) (M2 : AM) : Prop := ∃ X' i' j', M2 = mm X' i' j' ∧ k = i' 42 36 ∧ (k = 0 → j' 77 0 = b) ∧ Kf (mm X' i' j')
set_option maxRecDepth 100000 in
theorem s_1413 (d : Nat) (X : XS) (i : Nat → Nat → Int32) (j : Nat → Nat → Int64) (a1 : Int32) (a2 : Int32) (K : Int32 → AM → Prop) (E : AM → Prop) (h : ((¬ ((nI 0) ≤ a1 ∧ a1 ≤ (nI 3)) → E (nw (mm X i j) 30 0 6)) ∧ ((nI 0) ≤ a1 ∧ a1 ≤ (nI 3) → (((kI (-50)) ≤ a2 ∧ a2 ≤ (nI 50) → (vp_in a1 4) ∧ K (i 5 ((a1).toNatClampNeg)) (mm X (s2 i 5 ((a1).toNatClampNeg) a2) j)) ∧ (¬ ((kI (-50)) ≤ a2 ∧ a2 ≤ (nI 50)) → E (nw (mm X i j) 30 0 6)))))) : WX (d + 4) 1413 [.ref 2, .int a1, .int a2] (mm X i j) K E := te_1413 (d + 3) 2 a1 a2 (mm X i j) (qX K E) (p_1463 (d + 2) X i j a1 _ ⟨fun e1 => Or.inr ⟨rfl, (h.1 ((bi_z e1)))⟩, fun e1 => (p_1462 (d + 3) X i j a2 (kI (-50)) (nI 50) _ ⟨fun e2 => ⟨rfl, ⟨rfl, (te_6 (d + 2) 3 a1 a2 (mm X i j) _ ⟨rfl, (te_5 (d + 1) 3 a1 (mm X i j) _ (p_1463 d X i j a1 _ ⟨fun e3 => absurd e3 (fun z => bi_z z ((bi_n e1))), fun _ => ⟨rfl, ⟨⟨rfl, ((h.2 ((bi_n e1))).1 ((bi_n e2))).1⟩, ⟨_, rfl, (p_1463 (d + 1) X i j a1 _ ⟨fun e4 => absurd e4 (fun z => bi_z z ((bi_n e1))), fun _ => ⟨rfl, ⟨⟨rfl, ((h.2 ((bi_n e1))).1 ((bi_n e2))).1⟩, ⟨_, rfl, Or.inl ⟨_, rfl, ((h.2 ((bi_n e1))).1 ((bi_n e2))).2⟩⟩⟩⟩⟩)⟩⟩⟩⟩))⟩)⟩⟩, fun e2 => Or.inr ⟨rfl, ((h.2 ((bi_n e1))).2 ((bi_nn e2)))⟩⟩)⟩)
set_option maxRecDepth 100000 in
theorem s_1555 (d : Nat) (X : XS) (i : Nat → Nat → Int32) (j : Nat → Nat → Int64) (a1 : Int32) (a2 : Int32) (K : Int32 → AM → Prop) (h : ((¬ ((nI 0) ≤ a1 ∧ a1 ≤ (nI 3)) → K (nI 0) (mm X (s2 (s2 i 42 36 (nI 0)) 42 36 (nI 1)) j)) ∧ ((nI 0) ≤ a1 ∧ a1 ≤ (nI 3) → (((kI (-50)) ≤ a2 ∧ a2 ≤ (nI 50) → (vp_in a1 4) ∧ K (i 47 ((a1).toNatClampNeg)) (mm X (s2 (s2 i 42 36 (nI 0)) 47 ((a1).toNatClampNeg) a2) j)) ∧ (¬ ((kI (-50)) ≤ a2 ∧ a2 ≤ (nI 50)) → K (nI 0) (mm X (s2 (s2 i 42 36 (nI 0)) 42 36 (nI 1)) j)))))) : WI (d + 2) 1555 [.ref 42, .int a1, .int a2] (mm X i j) K := te_1555 (d + 1) 42 a1 a2 (mm X i j) (qI K) ⟨rfl, (p_1544 d X (s2 i 42 36 (nI 0)) j a1 _ ⟨fun e1 => (tc_1555_23 (d + 1) 42 (mm X (s2 i 42 36 (nI 0)) j) _ ⟨rfl, (te_1539 (d + 1) 42 (mm X (s2 i 42 36 (nI 0)) j) _ ⟨rfl, ⟨_, rfl, ⟨_, rfl, (h.1 ((bi_z e1)))⟩⟩⟩)⟩), fun e1 => (p_1538 (d + 1) X (s2 i 42 36 (nI 0)) j a2 (kI (-50)) (nI 50) _ ⟨fun e2 => ⟨rfl, ⟨⟨rfl, ((h.2 ((bi_n e1))).1 ((bi_n e2))).1⟩, ⟨rfl, ⟨⟨rfl, ((h.2 ((bi_n e1))).1 ((bi_n e2))).1⟩, ⟨_, rfl, ((h.2 ((bi_n e1))).1 ((bi_n e2))).2⟩⟩⟩⟩⟩, fun e2 => (tc_1555_23 (d + 1) 42 (mm X (s2 i 42 36 (nI 0)) j) _ ⟨rfl, (te_1539 (d + 1) 42 (mm X (s2 i 42 36 (nI 0)) j) _ ⟨rfl, ⟨_, rfl, ⟨_, rfl, ((h.2 ((bi_n e1))).2 ((bi_nn e2)))⟩⟩⟩)⟩)⟩)⟩)⟩
theorem k_4 (d : Nat) {X : XS} {i : Nat → Nat → Int32} {j : Nat → Nat → Int64} (h : Rel X i j) (a1 a2 : Int32) {Kf : AM → Prop} (hK : Nx X Kf) : WI (d + 301) 1664 [.ref 2, .int a1, .int a2, .ref 77] (mm X i j) (fun k M1 => WI (d + 300) 1555 [.ref 42, .int a1, .int a2] M1 (fun b M2 => TO Kf k b.toInt64 M2)) := by
  have hrel := h
  obtain ⟨hx, ⟨⟨n, h0⟩, h1, ⟨ng, h2, no, h4⟩, ⟨tn, h3⟩, ⟨np, h5⟩, h6, ns, h7⟩, h8, hz⟩ := h
  refine te_1664 (d + 300) 2 a1 a2 77 (mm X i j) _ ⟨rfl, ?_⟩
  have bad : ¬ (nI 0 ≤ a1 ∧ a1 ≤ nI 3) ∨ ((nI 0 ≤ a1 ∧ a1 ≤ nI 3) ∧ ¬ (kI (-50) ≤ a2 ∧ a2 ≤ nI 50)) → WP (d + 301) 1664 (15, [(0, .ref 2), (1, .int a1), (2, .int a2), (3, .ref 77)], [], nw (mm X i j) 30 0 6) (fun r M2 => ∃ x : Int32, r = some (some (.int x)) ∧ WI (d + 300) 1555 [.ref 42, .int a1, .int a2] M2 (fun b M2 => TO Kf x b.toInt64 M2)) := by
    intro w
    refine tc_1664_15 (d + 300) _ _ _ _ _ _ ⟨kI 1, rfl, ?_⟩
    rw [nw_mm hx.1 0]
    have hr := hrel.exc 30 0 6
    have fin : TO Kf (kI 1) (nI 0).toInt64 (mm (XN X 30 0 6 0) (s2 (s2 (zN X i 0) 42 36 (nI 0)) 42 36 (nI 1)) (zN X j 0)) := ⟨_, _, _, rfl, by rw [s2_self]; rfl, fun e => absurd e (by decide), hK _ _ _ ((hr.th _).th _) (Grw.exc X 30 0)⟩
    rcases w with w | ⟨w1, w2⟩
    · exact s_1555 _ _ _ _ _ _ _ (bq_t w fin)
    · exact s_1555 _ _ _ _ _ _ _ (bq_f w1 (br_f w2 fin))
  refine s_1413 _ X i j _ _ _ _ (bq_c (fun w => bad (Or.inl w)) (fun w => br_c (fun y => ⟨?_, ?_⟩) (fun y => bad (Or.inr ⟨w, y⟩))))
  · obtain ⟨m, hm, rfl⟩ := of_rng (by decide) w
    exact vp_in_nI (by omega) (by decide)
  · refine tc_1664_8 (d + 300) _ _ _ _ _ _ _ _ _ ⟨kd77 _ _ _, kI 0, rfl, ?_⟩
    rw [sl77]
    obtain ⟨m, hm, rfl⟩ := of_rng (by decide) w
    refine s_1555 _ _ _ _ _ _ _ (bq_f w (br_t y ⟨vp_in_nI (by omega) (by decide), ?_⟩))
    rw [tc_nI (by omega)]
    refine ⟨_, _, _, rfl, ?_, fun _ => ?_, ?_⟩
    · rw [s2_ne (show 42 ≠ 47 by decide), s2_self]; rfl
    · rw [s2_self, s2_ne (show 47 ≠ 5 by decide), h1.2.2.1 m (by omega)]
    · refine hK.k ?_
      have g := Ag.wr (X := X) (i := i) [(5, m, a2), (42, 36, nI 0), (47, m, a2)] rfl
      refine Rel.ou (i := s2 (s2 (s2 i 5 m a2) 42 36 (nI 0)) 47 m a2) (v := _) ⟨hx, ⟨⟨n, h0.ag g rfl⟩, ?_, ⟨ng, h2.ag g rfl no_T, no, h4.ag g rfl no_T⟩, ⟨tn, h3.ag g rfl⟩, ⟨np, h5.ag g rfl no_T⟩, h6.ag g rfl, ns, h7.ag g rfl⟩, h8.ag g rfl, hz.ag g rfl⟩
      obtain ⟨r1, r2, r3, r4⟩ := h1
      refine ⟨by simpa [s2_ap] using r1, by simpa [s2_ap] using r2, fun q hq => ?_, by simpa [s2_ap] using r4⟩
      by_cases e : q = m
      · simp [s2_ap, e]
      · simpa [s2_ap, e] using r3 q hq
set_option maxRecDepth 100000 in
theorem s_1461 (d : Nat) (X : XS) (i : Nat → Nat → Int32) (j : Nat → Nat → Int64) (a1 : Int32) (K : Int64 → AM → Prop) (E : AM → Prop) (h : (((nI 0) ≤ a1 ∧ a1 ≤ ((i 40 1) - (nI 1)) → ((a1 < 0 → K (Int64.ofNat 0) (mm X i j)) ∧ (¬ (a1 < 0) → (((i 40 1) ≤ a1 → K (Int64.ofNat 0) (mm X i j)) ∧ (¬ ((i 40 1) ≤ a1) → (vp_in a1 20) ∧ K (j 41 ((a1).toNatClampNeg)) (mm X i j)))))) ∧ (¬ ((nI 0) ≤ a1 ∧ a1 ≤ ((i 40 1) - (nI 1))) → E (nw (mm X i j) 30 0 6)))) : WY (d + 1) 1461 [.ref 2, .int a1] (mm X i j) K E := te_1461 d 2 a1 (mm X i j) (qY K E) ⟨rfl, ⟨rfl, (te_645 d 40 (mm X i j) _ ⟨rfl, ⟨_, rfl, (p_1462 d X i j a1 (nI 0) ((i 40 1) - (nI 1)) _ ⟨fun e1 => ⟨rfl, ⟨rfl, (te_646 d 40 a1 (mm X i j) _ ⟨fun e2 => ⟨_, rfl, Or.inl ⟨_, rfl, ((h.1 ((bi_n e1))).1 (e2))⟩⟩, fun e2 => ⟨rfl, ⟨fun e3 => ⟨_, rfl, Or.inl ⟨_, rfl, (((h.1 ((bi_n e1))).2 (e2)).1 (e3))⟩⟩, fun e3 => ⟨rfl, ⟨⟨rfl, (((h.1 ((bi_n e1))).2 (e2)).2 (e3)).1⟩, ⟨_, rfl, Or.inl ⟨_, rfl, (((h.1 ((bi_n e1))).2 (e2)).2 (e3)).2⟩⟩⟩⟩⟩⟩⟩)⟩⟩, fun e1 => Or.inr ⟨rfl, (h.2 ((bi_nn e1)))⟩⟩)⟩⟩)⟩⟩
set_option maxRecDepth 100000 in
theorem s_1646 (d : Nat) (X : XS) (i : Nat → Nat → Int32) (j : Nat → Nat → Int64) (a1 : Int32) (K : Int64 → AM → Prop) (h : ((¬ ((nI 0) ≤ a1 ∧ a1 ≤ ((i 42 35) - (nI 1))) → K ((nI 0).toInt64) (mm X (s2 (s2 i 42 36 (nI 0)) 42 36 (nI 1)) j)) ∧ ((nI 0) ≤ a1 ∧ a1 ≤ ((i 42 35) - (nI 1)) → (vp_in a1 32) ∧ K (j 70 ((a1).toNatClampNeg)) (mm X (s2 i 42 36 (nI 0)) j)))) : WL (d + 1) 1646 [.ref 42, .int a1] (mm X i j) K := te_1646 d 42 a1 (mm X i j) (qL K) ⟨rfl, ⟨rfl, (p_1538 d X (s2 i 42 36 (nI 0)) j a1 (nI 0) ((i 42 35) - (nI 1)) _ ⟨fun e1 => ⟨rfl, (te_1539 d 42 (mm X (s2 i 42 36 (nI 0)) j) _ ⟨rfl, ⟨_, rfl, ⟨_, rfl, (h.1 ((bi_z e1)))⟩⟩⟩)⟩, fun e1 => ⟨rfl, ⟨⟨rfl, (h.2 ((bi_n e1))).1⟩, ⟨_, rfl, (h.2 ((bi_n e1))).2⟩⟩⟩⟩)⟩⟩
theorem k_52 (d : Nat) {X : XS} {i : Nat → Nat → Int32} {j : Nat → Nat → Int64} (h : Rel X i j) (a1 : Int32) {Kf : AM → Prop} (hK : Nx X Kf) : WI (d + 301) 1668 [.ref 2, .int a1, .ref 77] (mm X i j) (fun k M1 => WL (d + 300) 1646 [.ref 42, .int a1] M1 (fun b M2 => TO Kf k b M2)) := by
  have hrel := h
  obtain ⟨hx, -, ⟨L, l0, l1, l2, l3⟩, hz⟩ := h
  refine te_1668 (d + 300) 2 a1 77 (mm X i j) _ ⟨rfl, ?_⟩
  refine s_1461 _ X i j _ _ _ ?_
  rw [l1]
  refine br_c (fun w => ?_) (fun w => ?_)
  · obtain ⟨q, hq, rfl⟩ := idx_of (by omega) w
    refine br_f (nI_pos (by omega)) (br_f (nI_ge hq (by omega)) ⟨vp_in_nI (by omega) (by decide), ?_⟩)
    rw [tc_nI (by omega)]
    refine tc_1668_7 (d + 300) _ _ _ _ _ _ _ _ ⟨kd77 _ _ _, kI 0, rfl, ?_⟩
    rw [sl77]
    refine s_1646 _ _ _ _ _ _ (bq_f (by rw [l2]; exact w) ⟨vp_in_nI (by omega) (by decide), ?_⟩)
    rw [tc_nI (by omega)]
    refine ⟨_, _, _, rfl, by rw [s2_self]; rfl, fun _ => ?_, hK.k ((hrel.ou _).th _)⟩
    rw [s2_self, s2_ne (show 70 ≠ 77 by decide)]
    exact l3 q hq
  · refine tc_1668_12 (d + 300) _ _ _ _ _ ⟨kI 1, rfl, ?_⟩
    rw [nw_mm hx.1 0]
    refine s_1646 _ _ _ _ _ _ (bq_t ?_ ⟨_, _, _, rfl, by rw [s2_self]; rfl, fun e => absurd e (by decide), hK _ _ _ (((hrel.exc 30 0 6).th _).th _) (Grw.exc X 30 0)⟩)
    rw [zN_ne (by have := hx.1; omega), l2]; exact w
