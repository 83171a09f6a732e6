/-! ===== glass ===== -/
set_option maxRecDepth 100000 in
theorem s_1558 (d : Nat) (X : XS) (i : Nat → Nat → Int32) (j : Nat → Nat → Int64) (a1 : Int32) (a2 : Int32) (a3 : Int32) (K : Int32 → AM → Prop) (h : ((¬ ((nI 0) ≤ a1 ∧ a1 ≤ (nI 300)) → K (kI (-1)) (mm X (s2 i 42 36 (nI 0)) j)) ∧ ((nI 0) ≤ a1 ∧ a1 ≤ (nI 300) → ((¬ ((kI (-50)) ≤ a2 ∧ a2 ≤ (nI 50)) → K (kI (-1)) (mm X (s2 i 42 36 (nI 0)) j)) ∧ ((kI (-50)) ≤ a2 ∧ a2 ≤ (nI 50) → ((¬ ((nI 0) ≤ a3 ∧ a3 ≤ (nI 40)) → K (kI (-1)) (mm X (s2 i 42 36 (nI 0)) j)) ∧ ((nI 0) ≤ a3 ∧ a3 ≤ (nI 40) → ((¬ ((i 42 7) = (nI 4)) → (vp_in (i 42 7) 4) ∧ K (((i 42 7) + (nI 1)) - (nI 1)) (mm X (s2 (s2 (s2 (s2 (s2 (s2 (s2 i 42 36 (nI 0)) 48 ((i 42 7).toNatClampNeg) a1) 49 ((i 42 7).toNatClampNeg) a2) 50 ((i 42 7).toNatClampNeg) a3) 51 ((i 42 7).toNatClampNeg) (bnar 21 (nI 1))) 53 ((i 42 7).toNatClampNeg) (nI 0)) 42 7 ((i 42 7) + (nI 1))) j)) ∧ ((i 42 7) = (nI 4) → K (kI (-1)) (mm X (s2 i 42 36 (nI 0)) j)))))))))) : WI (d + 1) 1558 [.ref 42, .int a1, .int a2, .int a3] (mm X i j) K := te_1558 d 42 a1 a2 a3 (mm X i j) (qI K) ⟨rfl, (p_1538 d X (s2 i 42 36 (nI 0)) j a1 (nI 0) (nI 300) _ ⟨fun e1 => ⟨_, rfl, (h.1 ((bi_z e1)))⟩, fun e1 => (p_1538 d X (s2 i 42 36 (nI 0)) j a2 (kI (-50)) (nI 50) _ ⟨fun e2 => ⟨_, rfl, ((h.2 ((bi_n e1))).1 ((bi_z e2)))⟩, fun e2 => (p_1538 d X (s2 i 42 36 (nI 0)) j a3 (nI 0) (nI 40) _ ⟨fun e3 => ⟨_, rfl, (((h.2 ((bi_n e1))).2 ((bi_n e2))).1 ((bi_z e3)))⟩, fun e3 => ⟨rfl, ⟨fun e4 => ⟨rfl, ⟨rfl, ⟨⟨rfl, ((((h.2 ((bi_n e1))).2 ((bi_n e2))).2 ((bi_n e3))).1 (e4)).1⟩, ⟨rfl, ⟨rfl, ⟨⟨rfl, ((((h.2 ((bi_n e1))).2 ((bi_n e2))).2 ((bi_n e3))).1 (e4)).1⟩, (tc_1558_67 d 42 a3 (mm X (s2 (s2 (s2 i 42 36 (nI 0)) 48 ((i 42 7).toNatClampNeg) a1) 49 ((i 42 7).toNatClampNeg) a2) j) _ ⟨rfl, ⟨rfl, ⟨⟨rfl, ((((h.2 ((bi_n e1))).2 ((bi_n e2))).2 ((bi_n e3))).1 (e4)).1⟩, ⟨rfl, ⟨rfl, ⟨⟨(Or.inl rfl), ((((h.2 ((bi_n e1))).2 ((bi_n e2))).2 ((bi_n e3))).1 (e4)).1⟩, ⟨rfl, ⟨rfl, ⟨⟨rfl, ((((h.2 ((bi_n e1))).2 ((bi_n e2))).2 ((bi_n e3))).1 (e4)).1⟩, (tc_1558_97 d 42 (mm X (s2 (s2 (s2 (s2 (s2 (s2 i 42 36 (nI 0)) 48 ((i 42 7).toNatClampNeg) a1) 49 ((i 42 7).toNatClampNeg) a2) 50 ((i 42 7).toNatClampNeg) a3) 51 ((i 42 7).toNatClampNeg) (bnar 21 (nI 1))) 53 ((i 42 7).toNatClampNeg) (nI 0)) j) _ ⟨rfl, ⟨rfl, ⟨rfl, ⟨_, rfl, ((((h.2 ((bi_n e1))).2 ((bi_n e2))).2 ((bi_n e3))).1 (e4)).2⟩⟩⟩⟩)⟩⟩⟩⟩⟩⟩⟩⟩⟩)⟩⟩⟩⟩⟩⟩, fun e4 => ⟨_, rfl, ((((h.2 ((bi_n e1))).2 ((bi_n e2))).2 ((bi_n e3))).2 ((Classical.byContradiction e4)))⟩⟩⟩⟩)⟩)⟩)⟩
theorem k_7 (d : Nat) {X : XS} {i : Nat → Nat → Int32} {j : Nat → Nat → Int64} (h : Rel X i j) (a1 a2 a3 : Int32) {Kf : AM → Prop} (hK : Nx X Kf) : WI (d + 300) 1416 [.ref 2, .int a1, .int a2, .int a3] (mm X i j) (fun x1 M1 => WI (d + 300) 1558 [.ref 42, .int a1, .int a2, .int a3] M1 (fun x2 M2 => x1 = x2 ∧ Kf M2)) := by
  have ht := hK.th h
  have hrel := h
  obtain ⟨hx, ⟨⟨n, h0⟩, h1, ⟨ng, h2, no, h4⟩, ⟨tn, h3⟩, ⟨np, h5⟩, h6, ns, h7⟩, h8, hz⟩ := h
  have e1 := h2.2.1
  have e2 := h2.2.2.1
  have hng := h2.1
  refine te_1416 (d + 299) 2 a1 a2 a3 (mm X i j) _ (p_1462 _ X i j _ _ _ _ ?_)
  rw [bi_eq0]
  refine ⟨fun y => ⟨_, rfl, s_1558 _ X i j _ _ _ _ (bq_t y ⟨rfl, ht⟩)⟩, fun y => p_1462 _ X i j _ _ _ _ ?_⟩
  have y := Classical.byContradiction y
  rw [bi_eq0]
  refine ⟨fun w => ⟨_, rfl, s_1558 _ X i j _ _ _ _ (bq_f y (bq_t w ⟨rfl, ht⟩))⟩, fun w => p_1462 _ X i j _ _ _ _ ?_⟩
  have w := Classical.byContradiction w
  rw [bi_eq0]
  refine ⟨fun v => ?_, fun v => ⟨_, rfl, s_1558 _ X i j _ _ _ _ (bq_f y (bq_f w (bq_t (fun u => v (fun z => z u)) ⟨rfl, ht⟩)))⟩⟩
  have v := Classical.byContradiction v
  refine ⟨rfl, fun z => ?_, fun z => ⟨_, rfl, s_1558 _ X i j _ _ _ _ (bq_f y (bq_f w (bq_f v (bq_f ?_ ⟨rfl, ht⟩))))⟩⟩
  rotate_left
  · have z : ¬ i 2 4 < nI 4 := z
    rw [e1] at z
    rw [e2, show ng = 4 from Classical.byContradiction fun n4 => z (nI_lt (by omega) (by decide))]
  have z : ng < 4 := by
    have z : i 2 4 < nI 4 := z
    rw [e1] at z
    exact (nI_ltI (by omega) (by decide)).mp z
  have h76 := hx.1
  obtain ⟨X1, hX1⟩ : ∃ X1, X1 = XN X 3 0 8 (60 + ng) := ⟨_, rfl⟩
  obtain ⟨N, hN⟩ : ∃ N, N = xn X + 2 := ⟨_, rfl⟩
  have n1 : xn X1 = xn X + 1 := by rw [hX1]; rfl
  have u1' : xu X1 = xu X + 8 := by rw [hX1]; rfl
  have kN1 : xk X1 N = 3 := by rw [hX1, hN, xk_N h76]; simp [u1]
  have tN1 : xt X1 N = 60 + ng := by rw [hX1, hN, xt_N h76]; simp [u1]
  have m0 : nw (mm X i j) 3 0 8 = mm X1 (zN X i 0) (zN X j 0) := by rw [nw_mm h76 (60 + ng), hX1]
  refine ⟨rfl, rfl, ?_, ?_⟩
  · rw [m0]
    show xk X1 (xn X + 2) = 3
    rw [← hN]; exact kN1
  rw [m0]
  show WV (d + 299) 256 [.ref (xn X + 2), .int a1, .int a2, .int a3] _ _
  rw [← hN]
  refine c_256 (d + 299) X1 _ _ (by omega) (by omega) (by omega) kN1 a1 a2 a3 (50 + ng) (10 + ng) (20 + ng) ?_
  intro X7 i7 j7 q0 q1 q2 q3 q4 q5 q6 r4 r6 r7 qi qa qb qc
  have n0N : ∀ b, b < xn X + 2 → b < xn X1 + 2 := fun b hb => by omega
  have o7 : Old X X7 i i7 := q0 X i hx hN.symm (by rw [hX1]; exact Old.rfl'.nw' hx (Nat.le_refl _) 3 0 8 (60 + ng))
  have jj : ∀ b, b < xn X + 2 → j7 b = j b := fun b hb => (q2 b (by omega)).trans (zN_ne (by omega))
  have kN7 : xk X7 N = 3 := (q1 N (by omega)).1.trans kN1
  have tN7 : xt X7 N = 60 + ng := (q1 N (by omega)).2.2.trans tN1
  have i75 : i7 N 5 = 0 := by rw [qi.2.2.2.2]; rw [hN]; simp [zN, u1]
  have nx7 : NX X7 := ⟨by omega, fun b hb => by
    rw [q6 b hb, hX1, xt_Ne h76 (by omega)]
    exact hx.2 b (by omega)⟩
  have i2o : i7 2 = i 2 := o7.f 2 rfl
  have i42o : i7 42 = i 42 := o7.f 42 rfl
  refine ⟨⟨⟨?_, ?_⟩, ?_, ?_⟩, rfl, rfl, ?_⟩
  · show 24 ≤ KD 17; decide
  · show KD 17 ≤ 26; decide
  · show KD 17 = xk X7 (xn X + 2) + 21; rw [← hN, kN7]; rfl
  · show vp_in (i 2 4) 4; rw [e1]; exact vp_in_nI z (by decide)
  show WP (d + 300) 1416 (73, [(0, .ref 2)], [], si (sr (mm X7 i7 j7) 17 (i 2 4).toNatClampNeg (xn X + 2)) 2 4 (i7 2 4 + kI 1)) _
  rw [← hN, e1, tc_nI (by omega), srR RA17, i2o, e1]
  obtain ⟨X8, hX8⟩ : ∃ X8, X8 = XR X7 17 ng N := ⟨_, rfl⟩
  rw [← hX8]
  refine tc_1416_73 (d + 299) _ _ _ ⟨rfl, _, rfl, ?_⟩
  show WI (d + 300) 1558 [.ref 42, .int a1, .int a2, .int a3] (mm X8 (s2 i7 2 4 (nI ng + kI 1)) j7) (fun x2 M2 => nI ng + kI 1 - kI 1 = x2 ∧ Kf M2)
  have q42 : (s2 i7 2 4 (nI ng + kI 1)) 42 = i 42 := by rw [s2_ne (by decide), i42o]
  refine s_1558 _ _ _ _ _ _ _ _ (bq_f y (bq_f w (bq_f v (bq_t ?_ ⟨?_, ?_⟩))))
  · rw [q42, e2, nI_eq (by omega) (by decide)]; omega
  · rw [q42, e2]; exact vp_in_nI (by omega) (by decide)
  rw [q42, e2, tc_nI (by omega)]
  refine ⟨rfl, hK _ _ _ ?_ ?_⟩
  rotate_left
  · rw [hX8]
    refine ⟨?_, ?_, ?_⟩
    · show xn X ≤ xn X7; omega
    · show xn X7 ≤ xn X + 4; omega
    · show xu X7 ≤ xu X + 600; omega
  have r0 := h0.old o7
  have r1 := h1.old o7
  have r2 := h2.old o7
  have r3 := h3.old o7
  have r4' := h4.old h2 o7
  have r5 := h5.old o7
  have r6' := h6.old o7
  have r7' := h7.old o7
  have r8 : R8 i7 j7 := by
    unfold R8; rw [o7.f 40 rfl, o7.f 42 rfl, jj 41 (by omega), jj 70 (by omega)]; exact h8
  have rz : RZ i7 := by unfold RZ; rw [o7.f 34 rfl, o7.f 35 rfl]; exact hz
  have g := Ag.wr (X := X7) (i := i7) [(2, 4, nI ng + kI 1), (42, 36, nI 0), (48, ng, a1), (49, ng, a2), (50, ng, a3), (51, ng, bnar 21 (nI 1)), (53, ng, nI 0), (42, 7, nI ng + nI 1)] rfl
  obtain ⟨i8, hi8⟩ : ∃ i8, i8 = wrs i7 [(2, 4, nI ng + kI 1), (42, 36, nI 0), (48, ng, a1), (49, ng, a2), (50, ng, a3), (51, ng, bnar 21 (nI 1)), (53, ng, nI 0), (42, 7, nI ng + nI 1)] := ⟨_, rfl⟩
  rw [← hi8] at g
  show Rel X8 (wrs i7 [(2, 4, nI ng + kI 1), (42, 36, nI 0), (48, ng, a1), (49, ng, a2), (50, ng, a3), (51, ng, bnar 21 (nI 1)), (53, ng, nI 0), (42, 7, nI ng + nI 1)]) j7
  rw [← hi8]
  have w8 : i8 = s2 (s2 (s2 (s2 (s2 (s2 (s2 (s2 i7 2 4 (nI ng + kI 1)) 42 36 (nI 0)) 48 ng a1) 49 ng a2) 50 ng a3) 51 ng (bnar 21 (nI 1))) 53 ng (nI 0)) 42 7 (nI ng + nI 1) := hi8
  have v48 : ∀ q, i8 48 q = if q = ng then a1 else i 48 q := fun q => by rw [w8]; simp [s2_ap, o7.f 48 rfl]
  have v49 : ∀ q, i8 49 q = if q = ng then a2 else i 49 q := fun q => by rw [w8]; simp [s2_ap, o7.f 49 rfl]
  have v50 : ∀ q, i8 50 q = if q = ng then a3 else i 50 q := fun q => by rw [w8]; simp [s2_ap, o7.f 50 rfl]
  have v51 : ∀ q, i8 51 q = if q = ng then nI 1 else i 51 q := fun q => by rw [w8]; simp [s2_ap, o7.f 51 rfl]; rfl
  have v53 : ∀ q, i8 53 q = if q = ng then nI 0 else i 53 q := fun q => by rw [w8]; simp [s2_ap, o7.f 53 rfl]
  have v52 : i8 52 = i 52 := by rw [g.f 52 rfl, o7.f 52 rfl]
  have vb : ∀ b, 77 < b → i8 b = i7 b := fun b hb => g.2.1 b hb id
  rw [hX8]
  refine ⟨nx7.ref, ⟨⟨n, (r0.ag g rfl).ra⟩, r1.ag g rfl, ⟨ng + 1, ?_, no, (r4'.ag g rfl no_T).ra17' ?_⟩, ⟨tn, r3.ag g rfl⟩, ⟨np, (r5.ag g rfl no_T).ra (Or.inl rfl)⟩, r6'.ag g rfl, ns, ?_⟩, r8.ag g rfl, rz.ag g rfl⟩
  · refine ⟨by omega, ?_, ?_, fun q hq => ?_⟩
    · rw [w8, s2_ne (show 2 ≠ 42 by decide), s2_ne (show 2 ≠ 53 by decide), s2_ne (show 2 ≠ 51 by decide), s2_ne (show 2 ≠ 50 by decide), s2_ne (show 2 ≠ 49 by decide), s2_ne (show 2 ≠ 48 by decide), s2_ne (show 2 ≠ 42 by decide), s2_self]; exact nI_add ng 1
    · rw [w8, s2_self]; exact nI_add ng 1
    · by_cases hqn : q = ng
      · subst hqn
        have en : xr (XR X7 17 q N) N = xr X7 N := xrRne (by omega)
        rw [xrRk RA17]
        refine ⟨?_, ?_, ?_, ?_, 0, by decide, ?_, ?_, fun p hp => absurd hp (by omega)⟩
        · unfold GO
          rw [en, r4, r6, r7, xk_R, xl_R, n1]
          exact ⟨kN7, ⟨by have := qa.1; rwa [n1] at this, by have := qa.2.1; rwa [n1] at this⟩, ⟨by have := qb.1; rwa [n1] at this, by have := qb.2.1; rwa [n1] at this⟩, by have := qc.1; rwa [n1] at this, by have := qc.2.1; rwa [n1] at this⟩
        · unfold GT
          rw [en, r4, r6, r7, xt_R]
          exact ⟨z, tN7, qa.2.2, qb.2.2, qc.2.2⟩
        · rw [vb N (by omega), qi.1, qi.2.1, qi.2.2.1, qi.2.2.2.1, v48, v49, v50, v51, if_pos rfl, if_pos rfl, if_pos rfl, if_pos rfl]
          exact ⟨rfl, rfl, rfl, rfl⟩
        · rw [v51, if_pos rfl]; exact Or.inr rfl
        · rw [vb N (by omega), i75]; rfl
        · rw [v53, if_pos rfl]
      · have hh := h2.2.2.2 q (by omega)
        have hr := r2.2.2.2 q (by omega)
        obtain ⟨s1, s2', s3⟩ := GO.ra (X := X7) (a := 17) (k := ng) (v := N) (by decide) hr.1 hr.2.1
        obtain ⟨p1, p2, p3, p4, p5⟩ := GOT.old hh.1 hh.2.1 o7
        have e17 : xr X7 17 = xr X 17 := o7.r 17 rfl
        have l77 := xt_big (X := X) (a := xr X 17 q) (by have := hh.2.1.2.1; omega)
        have l78 := xt_big (X := X) (a := xr X (xr X 17 q) 4) (by have := hh.2.1.2.2.1; omega)
        rw [xrRo RA17 hqn]
        refine ⟨s1, s2', ?_⟩
        rw [s3, e17, p3, vb _ l77, vb _ l78, p4, p5, v48, v49, v50, v51, v53, v52, if_neg hqn, if_neg hqn, if_neg hqn, if_neg hqn, if_neg hqn]
        exact hh.2.2
  · exact fun q hq => ⟨(r2.2.2.2 q hq).1, (r2.2.2.2 q hq).2.1, trivial⟩
  · obtain ⟨b1, b2, b3, b4, b5⟩ := h7
    refine ⟨b1, ?_, ?_, ?_, fun q hq => ?_⟩
    · rw [g.2.2.2 14 rfl, i2o]; exact b2
    · rw [g.2.2.1 26 rfl, i42o]; exact b3
    · rw [g.f 29 rfl, g.f 30 rfl, g.f 64 rfl, g.f 65 rfl, o7.f 29 rfl, o7.f 30 rfl, o7.f 64 rfl, o7.f 65 rfl]; exact b4
    · rw [v48, v49, v50]
      by_cases hqn : q = ng
      · rw [if_pos hqn, if_pos hqn, if_pos hqn]; exact ⟨y, w, v⟩
      · rw [if_neg hqn, if_neg hqn, if_neg hqn]; exact b5 q hq
