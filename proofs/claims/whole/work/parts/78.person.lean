/-! ===== person ===== -/
set_option maxRecDepth 100000 in
theorem s_1600 (d : Nat) (X : XS) (i : Nat → Nat → Int32) (j : Nat → Nat → Int64) (a1 : Int32) (a2 : Int32) (a3 : Int32) (K : Int32 → AM → Prop) (h : ((¬ ((nI 0) ≤ a1 ∧ a1 ≤ (nI 99)) → K (kI (-1)) (mm X (s2 i 42 36 (nI 0)) j)) ∧ ((nI 0) ≤ a1 ∧ a1 ≤ (nI 99) → ((¬ ((nI 0) ≤ a2 ∧ a2 ≤ (nI 999)) → K (kI (-1)) (mm X (s2 i 42 36 (nI 0)) j)) ∧ ((nI 0) ≤ a2 ∧ a2 ≤ (nI 999) → ((¬ ((nI 0) ≤ a3 ∧ a3 ≤ (nI 999)) → K (kI (-1)) (mm X (s2 i 42 36 (nI 0)) j)) ∧ ((nI 0) ≤ a3 ∧ a3 ≤ (nI 999) → ((¬ ((i 42 18) = (nI 6)) → (vp_in (i 42 18) 6) ∧ K (((i 42 18) + (nI 1)) - (nI 1)) (mm X (s2 (s2 (s2 (s2 (s2 (s2 (s2 i 42 36 (nI 0)) 57 ((i 42 18).toNatClampNeg) a1) 58 ((i 42 18).toNatClampNeg) a2) 59 ((i 42 18).toNatClampNeg) a3) 60 ((i 42 18).toNatClampNeg) (nI 0)) 61 ((i 42 18).toNatClampNeg) (nI 0)) 42 18 ((i 42 18) + (nI 1))) j)) ∧ ((i 42 18) = (nI 6) → K (kI (-1)) (mm X (s2 i 42 36 (nI 0)) j)))))))))) : WI (d + 1) 1600 [.ref 42, .int a1, .int a2, .int a3] (mm X i j) K := te_1600 d 42 a1 a2 a3 (mm X i j) (qI K) ⟨rfl, (p_1538 d X (s2 i 42 36 (nI 0)) j a1 (nI 0) (nI 99) _ ⟨fun e1 => ⟨_, rfl, (h.1 ((bi_z e1)))⟩, fun e1 => (p_1538 d X (s2 i 42 36 (nI 0)) j a2 (nI 0) (nI 999) _ ⟨fun e2 => ⟨_, rfl, ((h.2 ((bi_n e1))).1 ((bi_z e2)))⟩, fun e2 => (p_1538 d X (s2 i 42 36 (nI 0)) j a3 (nI 0) (nI 999) _ ⟨fun e3 => ⟨_, rfl, (((h.2 ((bi_n e1))).2 ((bi_n e2))).1 ((bi_z e3)))⟩, fun e3 => ⟨rfl, ⟨fun e4 => ⟨rfl, ⟨rfl, ⟨⟨rfl, ((((h.2 ((bi_n e1))).2 ((bi_n e2))).2 ((bi_n e3))).1 (e4)).1⟩, ⟨rfl, ⟨rfl, ⟨⟨rfl, ((((h.2 ((bi_n e1))).2 ((bi_n e2))).2 ((bi_n e3))).1 (e4)).1⟩, (tc_1600_68 d 42 a3 (mm X (s2 (s2 (s2 i 42 36 (nI 0)) 57 ((i 42 18).toNatClampNeg) a1) 58 ((i 42 18).toNatClampNeg) a2) j) _ ⟨rfl, ⟨rfl, ⟨⟨rfl, ((((h.2 ((bi_n e1))).2 ((bi_n e2))).2 ((bi_n e3))).1 (e4)).1⟩, ⟨rfl, ⟨rfl, ⟨⟨rfl, ((((h.2 ((bi_n e1))).2 ((bi_n e2))).2 ((bi_n e3))).1 (e4)).1⟩, ⟨rfl, ⟨rfl, ⟨⟨rfl, ((((h.2 ((bi_n e1))).2 ((bi_n e2))).2 ((bi_n e3))).1 (e4)).1⟩, (tc_1600_98 d 42 (mm X (s2 (s2 (s2 (s2 (s2 (s2 i 42 36 (nI 0)) 57 ((i 42 18).toNatClampNeg) a1) 58 ((i 42 18).toNatClampNeg) a2) 59 ((i 42 18).toNatClampNeg) a3) 60 ((i 42 18).toNatClampNeg) (nI 0)) 61 ((i 42 18).toNatClampNeg) (nI 0)) j) _ ⟨rfl, ⟨rfl, ⟨rfl, ⟨_, rfl, ((((h.2 ((bi_n e1))).2 ((bi_n e2))).2 ((bi_n e3))).1 (e4)).2⟩⟩⟩⟩)⟩⟩⟩⟩⟩⟩⟩⟩⟩)⟩⟩⟩⟩⟩⟩, fun e4 => ⟨_, rfl, ((((h.2 ((bi_n e1))).2 ((bi_n e2))).2 ((bi_n e3))).2 ((Classical.byContradiction e4)))⟩⟩⟩⟩)⟩)⟩)⟩
theorem k_24 (d : Nat) {X : XS} {i : Nat → Nat → Int32} {j : Nat → Nat → Int64} (h : Rel X i j) (a1 a2 a3 : Int32) {Kf : AM → Prop} (hK : Nx X Kf) : WI (d + 300) 1433 [.ref 2, .int a1, .int a2, .int a3] (mm X i j) (fun x1 M1 => WI (d + 300) 1600 [.ref 42, .int a1, .int a2, .int a3] M1 (fun x2 M2 => x1 = x2 ∧ Kf M2)) := by
  have ht := hK.th h
  have hrel := h
  obtain ⟨hx, ⟨⟨n, h0⟩, h1, ⟨ng, h2, no, h4⟩, ⟨tn, h3⟩, ⟨np, h5⟩, h6, ns, h7⟩, h8, hz⟩ := h

  have e1 := h5.2.1
  have e2 := h5.2.2.1
  have hnp := h5.1
  refine te_1433 (d + 299) 2 a1 a2 a3 (mm X i j) _ (p_1462 _ X i j _ _ _ _ ?_)
  rw [bi_eq0]
  refine ⟨fun y => ⟨_, rfl, s_1600 _ X i j _ _ _ _ (bq_t y ⟨rfl, ht⟩)⟩, fun y => p_1462 _ X i j _ _ _ _ ?_⟩
  have y := Classical.byContradiction y
  rw [bi_eq0]
  refine ⟨fun w => ⟨_, rfl, s_1600 _ X i j _ _ _ _ (bq_f y (bq_t w ⟨rfl, ht⟩))⟩, fun w => p_1462 _ X i j _ _ _ _ ?_⟩
  have w := Classical.byContradiction w
  rw [bi_eq0]
  refine ⟨fun v => ?_, fun v => ⟨_, rfl, s_1600 _ X i j _ _ _ _ (bq_f y (bq_f w (bq_t (fun u => v (fun z => z u)) ⟨rfl, ht⟩)))⟩⟩
  have v := Classical.byContradiction v
  refine ⟨rfl, fun z => ?_, fun z => ⟨_, rfl, s_1600 _ X i j _ _ _ _ (bq_f y (bq_f w (bq_f v (bq_f ?_ ⟨rfl, ht⟩))))⟩⟩
  · have z : np < 6 := by
      have z : i 2 9 < nI 6 := z
      rw [e1] at z
      exact (nI_ltI (by omega) (by decide)).mp z
    refine ⟨rfl, rfl, ?_, ?_⟩
    · rw [nw_mm hx.1 (90 + np)]
      show xk (XN X 5 0 5 (90 + np)) (xn X + 2) = 5
      rw [xk_N hx.1]; simp [u1]
    · rw [nw_mm hx.1 (90 + np)]
      have hk5 : xk (XN X 5 0 5 (90 + np)) (xn X + 2) = 5 := by rw [xk_N hx.1]; simp [u1]
      have n78 : 78 ≤ xn X + 2 := by have := hx.1; omega
      refine te_512 (d + 299) (xn X + 2) a1 a2 a3 _ _ ⟨by omega, hk5, hk5, hk5, rfl, ?_⟩
      obtain ⟨i3, hi3⟩ : ∃ i3, i3 = s2 (s2 (s2 (zN X i 0) (xn X + 2) 0 a1) (xn X + 2) 1 a2) (xn X + 2) 2 a3 := ⟨_, rfl⟩
      have f3 : ∀ b, b ≠ xn X + 2 → i3 b = i b := fun b hb => by rw [hi3, s2_ne hb, s2_ne hb, s2_ne hb, zN_ne hb]
      refine ⟨⟨⟨?_, ?_⟩, ?_, ?_⟩, rfl, rfl, ?_⟩
      · show 24 ≤ KD 24; decide
      · show KD 24 ≤ 26; decide
      · show KD 24 = xk (XN X 5 0 5 (90 + np)) (xn X + 2) + 21; rw [hk5]; rfl
      · show vp_in (i 2 9) 6; rw [e1]; exact vp_in_nI (by omega) (by decide)
      · show WP (d + 300) 1433 (74, [(0, .ref 2)], [], si (sr (mm (XN X 5 0 5 (90 + np)) (s2 (s2 (s2 (zN X i 0) (xn X + 2) 0 a1) (xn X + 2) 1 a2) (xn X + 2) 2 a3) (zN X j 0)) 24 (i 2 9).toNatClampNeg (xn X + 2)) 2 9 ((s2 (s2 (s2 (zN X i 0) (xn X + 2) 0 a1) (xn X + 2) 1 a2) (xn X + 2) 2 a3) 2 9 + kI 1)) _
        rw [← hi3, e1, tc_nI (by omega), sr_mm (Or.inr (Or.inr rfl)), f3 2 (by omega), e1]
        refine tc_1433_74 (d + 299) _ _ _ ⟨rfl, _, rfl, ?_⟩
        show WI (d + 300) 1600 [.ref 42, .int a1, .int a2, .int a3] (mm (XR (XN X 5 0 5 (90 + np)) 24 np (xn X + 2)) (s2 i3 2 9 (nI np + kI 1)) (zN X j 0)) (fun x2 M2 => nI np + kI 1 - kI 1 = x2 ∧ Kf M2)
        have q42 : (s2 i3 2 9 (nI np + kI 1)) 42 = i 42 := by rw [s2_ne (by decide), f3 42 (by omega)]
        refine s_1600 _ _ _ _ _ _ _ _ (bq_f y (bq_f w (bq_f v (bq_t ?_ ⟨?_, ?_⟩))))
        · rw [q42, e2, nI_eq (by omega) (by decide)]; omega
        · rw [q42, e2]; exact vp_in_nI (by omega) (by decide)
        · rw [q42, e2, tc_nI (by omega)]
          refine ⟨rfl, hK _ _ _ ?_ ⟨Nat.le_succ _, ?_, ?_⟩⟩
          · have o := Old.new hx 5 0 5 (90 + np) i
            have r0 := h0.old o
            have r1 := h1.old o
            have r2 := h2.old o
            have r3 := h3.old o
            have r4 := h4.old h2 o
            have r5 := h5.old o
            have r6 := h6.old o
            have r7 := h7.old o
            have r8 : R8 (zN X i 0) (zN X j 0) := by
              unfold R8; rw [o.f 40 rfl, o.f 42 rfl, zN_ne (by omega), zN_ne (by omega)]; exact h8
            have rz : RZ (zN X i 0) := by unfold RZ; rw [o.f 34 rfl, o.f 35 rfl]; exact hz
            have ht5 : xt (XN X 5 0 5 (90 + np)) (xn X + 2) = 90 + np := by rw [xt_N hx.1]; simp [u1]
            have g := ((Ag.dy (i := zN X i 0) ht5 (by omega) 0 a1).tr ((Ag.dy ht5 (by omega) 1 a2).tr ((Ag.dy ht5 (by omega) 2 a3).tr (Ag.wr [(2, 9, nI np + kI 1), (42, 36, nI 0), (57, np, a1), (58, np, a2), (59, np, a3), (60, np, nI 0), (61, np, nI 0), (42, 18, nI np + nI 1)] rfl))))
            rw [hi3]
            have nT : ∀ t, t < 90 → ¬ (t = 90 + np ∨ (t = 90 + np ∨ (t = 90 + np ∨ False))) := fun t ht h => by rcases h with h | h | h | h <;> first | exact h.elim | omega
            refine ⟨(hx.new (90 + np) : NX (XN X 5 0 5 (90 + np))), ⟨⟨n, R0.rf (r0.ag g rfl)⟩, r1.ag g rfl, ⟨ng, R2.rf (r2.ag g rfl (fun t h => nT t (by omega))), no, R4.rf (r4.ag g rfl (fun t h => nT t (by omega))) (r2.ag g rfl (fun t h => nT t (by omega)))⟩, ⟨tn, r3.ag g rfl⟩, ⟨np + 1, ?_⟩, r6.ag g rfl, ns, r7.ag g rfl⟩, r8.ag g rfl, rz.ag g rfl⟩
            obtain ⟨ma, hma, ema⟩ := of_rng (m := 99) (by decide) y
            obtain ⟨mb, hmb, emb⟩ := of_rng (m := 999) (by decide) w
            obtain ⟨mc, hmc, emc⟩ := of_rng (m := 999) (by decide) v
            have rk := xr_Rk (X := XN X 5 0 5 (90 + np)) (a := 24) (k := np) (v := xn X + 2) (Or.inr (Or.inr rfl))
            refine ⟨by omega, ?_, ?_, fun p hp => ?_⟩
            · rw [s2_ne (show 2 ≠ 42 by decide), s2_ne (show 2 ≠ 61 by decide), s2_ne (show 2 ≠ 60 by decide), s2_ne (show 2 ≠ 59 by decide), s2_ne (show 2 ≠ 58 by decide), s2_ne (show 2 ≠ 57 by decide), s2_ne (show 2 ≠ 42 by decide), s2_self]; exact nI_add np 1
            · rw [s2_self]; exact nI_add np 1
            · by_cases hpn : p = np
              · subst hpn
                rw [rk]
                refine ⟨hk5, ht5, ?_, ⟨ma, mb, mc, 0, by omega, by omega, by omega, by decide, ?_⟩, ?_⟩
                · rw [s2_ne (show xn X + 2 ≠ 42 by omega), s2_ne (show xn X + 2 ≠ 61 by omega), s2_ne (show xn X + 2 ≠ 60 by omega), s2_ne (show xn X + 2 ≠ 59 by omega), s2_ne (show xn X + 2 ≠ 58 by omega), s2_ne (show xn X + 2 ≠ 57 by omega), s2_ne (show xn X + 2 ≠ 42 by omega), s2_ne (show xn X + 2 ≠ 2 by omega)]
                  simp [s2_ap, zN, u1]
                  rfl
                · simp [s2_ap, ema, emb, emc]
                · simp [s2_ap]
                  exact bit_0 p (by omega)
              · have hh := r5.2.2.2 p (by omega)
                have hP : xr (XN X 5 0 5 (90 + np)) 24 p ≠ xn X + 2 := fun e => by
                  have := hh.2.1
                  rw [e, ht5] at this
                  omega
                have hb := xt_big (X := XN X 5 0 5 (90 + np)) (a := xr (XN X 5 0 5 (90 + np)) 24 p) (by have := hh.2.1; omega)
                rw [xr_Ro (Or.inr (Or.inr rfl)) hpn]
                rw [s2_ne (show xr (XN X 5 0 5 (90 + np)) 24 p ≠ 42 by omega), s2_ne (show xr (XN X 5 0 5 (90 + np)) 24 p ≠ 61 by omega), s2_ne (show xr (XN X 5 0 5 (90 + np)) 24 p ≠ 60 by omega), s2_ne (show xr (XN X 5 0 5 (90 + np)) 24 p ≠ 59 by omega), s2_ne (show xr (XN X 5 0 5 (90 + np)) 24 p ≠ 58 by omega), s2_ne (show xr (XN X 5 0 5 (90 + np)) 24 p ≠ 57 by omega), s2_ne (show xr (XN X 5 0 5 (90 + np)) 24 p ≠ 42 by omega), s2_ne (show xr (XN X 5 0 5 (90 + np)) 24 p ≠ 2 by omega), s2_ne hP, s2_ne hP, s2_ne hP]
                refine ⟨hh.1, hh.2.1, ?_⟩
                simpa [s2_ap, hpn, show ¬ 57 = xn X + 2 by omega, show ¬ 58 = xn X + 2 by omega, show ¬ 59 = xn X + 2 by omega, show ¬ 60 = xn X + 2 by omega, show ¬ 61 = xn X + 2 by omega] using hh.2.2
          · show xn X + 1 ≤ xn X + 4; omega
          · show xu X + 5 ≤ xu X + 600; omega
  · have z : ¬ i 2 9 < nI 6 := z
    rw [e1] at z
    rw [e2, show np = 6 from Classical.byContradiction fun n6 => z (nI_lt (by omega) (by decide))]
