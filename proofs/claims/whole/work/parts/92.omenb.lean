/-! ===== omen: the call ===== -/
theorem p_1027z (d : Nat) (X : XS) (i : Nat → Nat → Int32) (j : Nat → Nat → Int64) {n : Nat} (hn : n ≤ 60) (e : i 18 1 = nI n) {K : Int32 → AM → Prop} (h : K (nI 1) (mm X (s2 i 18 1 (nI 0)) j)) : WI d 1027 [.ref 18, .int (kI 0)] (mm X i j) K := by
  refine s_1027 d X i j (kI 0) K (br_f (by decide) (br_t ?_ h))
  rw [e]; exact nI_le (Nat.zero_le _) (by omega)
theorem Rel.cut {X : XS} {i : Nat → Nat → Int32} {j : Nat → Nat → Int64} (h : Rel X i j) : Rel X (s2 (s2 (s2 i 18 1 (nI 0)) 42 36 (nI 0)) 42 33 (nI 0)) j := by
  obtain ⟨hx, ⟨⟨n, h0⟩, h1, ⟨ng, h2, no, h4⟩, ⟨tn, h3⟩, ⟨np, h5⟩, h6, ns, h7⟩, h8, hz⟩ := h
  have g := Ag.wr (X := X) (i := i) [(18, 1, nI 0), (42, 36, nI 0), (42, 33, nI 0)] rfl
  exact ⟨hx, ⟨⟨n, h0.ag g rfl⟩, h1.ag g rfl, ⟨ng, h2.ag g rfl no_T, no, h4.ag g rfl no_T⟩, ⟨0, by omega, by simp [s2_ap], by simp [s2_ap], fun q hq => absurd hq (by omega)⟩, ⟨np, h5.ag g rfl no_T⟩, h6.ag g rfl, ns, h7.ag g rfl⟩, h8.ag g rfl, hz.ag g rfl⟩
/-- where the text is wrong: nothing but the text, and scratch, is changed -/
theorem Rel.omf {X : XS} {i i1 i2 i' : Nat → Nat → Int32} {j : Nat → Nat → Int64} {t : Nat → Nat} {n no ng : Nat} (h : Rel X i j) (h4 : R4 X i no ng) (h2 : R2 X i ng) (f1 : FrT i i1) (e2 : i2 = s2 i1 18 1 (nI 0)) (hf : FrO t no n i2 i') : Rel X i' j := by
  obtain ⟨hx, ⟨⟨n, h0⟩, h1, -, -, ⟨np, h5⟩, h6, ns, h7⟩, h8, hz⟩ := h
  obtain ⟨k1, k2, k3, k4, k5⟩ := hf
  have f2 : ∀ b, b ≠ 18 → b ≠ 20 → b ≠ 21 → b ≠ 22 → i2 b = i b := fun b c1 c2 c3 c4 => by rw [e2, s2_ne c1]; exact f1.1 b c1 c2 c3 c4
  have g : Ag X (upN [18, 20, 21, 22, 54]) (fun _ => False) (fun k => Nat.ble 36 k || Nat.beq k 33) (fun _ => false) i i' := by
    refine ⟨fun b hb he h42 _ => ?_, fun b hb _ => ?_, fun k hk => ?_, fun k _ => ?_⟩
    · have q := upN_ne he
      rw [k1 b h42 (q 54 (by simp))]
      exact f2 b (q 18 (by simp)) (q 20 (by simp)) (q 21 (by simp)) (q 22 (by simp))
    · rw [k1 b (by omega) (by omega)]
      exact f2 b (by omega) (by omega) (by omega) (by omega)
    · rw [Bool.or_eq_false_iff] at hk
      have a : k < 36 := Nat.not_le.mp fun z => by have := hk.1; rw [Nat.ble_eq.mpr z] at this; cases this
      have b : k ≠ 33 := fun z => by have := hk.2; rw [z] at this; cases this
      rw [k2 k a b, f2 42 (by decide) (by decide) (by decide) (by decide)]
    · rw [k1 2 (by decide) (by decide), f2 2 (by decide) (by decide) (by decide) (by decide)]
  refine ⟨hx, ⟨⟨n, h0.ag g rfl⟩, h1.ag g rfl, ⟨ng, h2.ag g rfl no_T, no, ?_⟩, ⟨0, by omega, ?_, k3, fun q hq => absurd hq (by omega)⟩, ⟨np, h5.ag g rfl no_T⟩, h6.ag g rfl, ns, h7.ag g rfl⟩, h8.ag g rfl, hz.ag g rfl⟩
  · refine ⟨h4.1, by rw [g.2.2.2 7 rfl]; exact h4.2.1, by rw [g.2.2.1 14 rfl]; exact h4.2.2.1, fun s hs => ?_⟩
    obtain ⟨hO, hOT, hg, hl, tx, tn, htn, e55, htx, hC⟩ := h4.2.2.2 s hs
    have l77 := xt_big (X := X) (a := xr X (xr X 23 s) 1) (by have := hOT.2.2.1; omega)
    refine ⟨hO, hOT, by rw [g.f 56 rfl]; exact hg, hl, tx, tn, htn, by rw [g.f 55 rfl]; exact e55, fun q hq => ⟨(htx q hq).1, ?_⟩, by rw [g.2.1 _ l77 id]; exact hC⟩
    rw [k4 _ (by omega), f2 54 (by decide) (by decide) (by decide) (by decide)]; exact (htx q hq).2
  · rw [k1 18 (by decide) (by decide), e2, s2_self]
theorem k_16 (d : Nat) {X : XS} {i : Nat → Nat → Int32} {j : Nat → Nat → Int64} (h : Rel X i j) (a1 : Int32) {Kf : AM → Prop} (hK : Nx X Kf) : WI (d + 300) 1425 [.ref 2, .int a1] (mm X i j) (fun x1 M1 => WI (d + 300) 1585 [.ref 42, .int a1] M1 (fun x2 M2 => x1 = x2 ∧ Kf M2)) := by
  have hrel := h
  obtain ⟨hx, ⟨⟨n, h0⟩, h1, ⟨ng, h2, no, h4⟩, ⟨tn, h3⟩, ⟨np, h5⟩, h6, ns, h7⟩, h8, hz⟩ := h
  have e1 := h2.2.1
  have e2 := h2.2.2.1
  have e3 := h4.2.1
  have e4 := h4.2.2.1
  have hng := h2.1
  have hno := h4.1
  obtain ⟨htn, t18, t33, htx⟩ := h3
  have hc := hK.k hrel.cut
  refine te_1425 (d + 299) 2 a1 (mm X i j) _ ⟨rfl, p_1467 (d + 298) X i j a1 _ ⟨h2.gl, ?_, ?_⟩⟩
  · rw [e1]
    intro z
    refine ⟨fun _ => ⟨rfl, rfl, p_1027z _ X i j htn t18 ⟨_, rfl, ?_⟩⟩, fun w => absurd rfl w⟩
    refine s_1585 _ X (s2 i 18 1 (nI 0)) j a1 _ (bq_t ?_ ⟨rfl, hc⟩)
    rw [s2_ne (by decide), e2]; exact z
  rw [e1]
  intro z hGO
  have z2 : nI 0 ≤ a1 ∧ a1 ≤ i 42 7 - nI 1 := by rw [e2]; exact z
  obtain ⟨g, hg, rfl⟩ := idx_of (by omega) z
  rw [tc_nI (by omega)] at hGO ⊢
  have hG2 := h2.2.2.2 g hg
  have gBig := xt_big (X := X) (a := xr X 17 g) (by have := hG2.2.1.2.1; omega)
  refine ⟨fun w => absurd w (by omega), fun _ => ⟨rfl, fun y => ?_, fun y => ⟨rfl, rfl, p_1027z _ X i j htn t18 ⟨_, rfl, ?_⟩⟩⟩⟩
  rotate_left
  · have y : ¬ i 2 7 < nI 10 := y
    rw [e3] at y
    refine s_1585 _ X (s2 i 18 1 (nI 0)) j _ _ (bq_f ?_ (bq_f ?_ ⟨rfl, hc⟩))
    · rw [s2_ne (by decide)]; exact z2
    · rw [s2_ne (by decide), e4, show no = 10 from Classical.byContradiction fun q => y (nI_lt (by omega) (by decide))]
  have no10 : no < 10 := by
    have y : i 2 7 < nI 10 := y
    rw [e3] at y
    exact (nI_ltI (by omega) (by decide)).mp y
  obtain ⟨t, ht⟩ : ∃ t : Nat → Nat, ∀ q, q < tn → t q < 256 ∧ i 19 q = nI (t q) ∧ i 69 q = sb (t q) := by
    have : ∀ q, ∃ b, q < tn → b < 256 ∧ i 19 q = nI b ∧ i 69 q = sb b := fun q => by
      by_cases hq : q < tn
      · obtain ⟨b, b1, b2, b3⟩ := htx q hq
        exact ⟨b, fun _ => ⟨b1, b2, b3⟩⟩
      · exact ⟨0, fun z => absurd z hq⟩
    exact Classical.axiomOfChoice this
  obtain ⟨x, i1, hE, f1, hR⟩ := c_1028 0 X i j (t := t) htn t18 (fun q hq => ⟨(ht q hq).1, (ht q hq).2.1⟩)
  obtain ⟨i2, hi2⟩ : ∃ i2, i2 = s2 i1 18 1 (nI 0) := ⟨_, rfl⟩
  have f2 : ∀ b, b ≠ 18 → b ≠ 20 → b ≠ 21 → b ≠ 22 → i2 b = i b := fun b c1 c2 c3 c4 => by rw [hi2, s2_ne c1]; exact f1.1 b c1 c2 c3 c4
  have g42 : i2 42 = i 42 := f2 42 (by decide) (by decide) (by decide) (by decide)
  refine ⟨rfl, rfl, (hE.up (by omega)).use ⟨rfl, rfl, p_1027z _ X i1 j htn (f1.2.trans t18) ?_⟩⟩
  rw [← hi2]
  rcases hR with ⟨rfl, h40, c0, w, m, dg, hscn, hC, hlen⟩ | ⟨w, rfl, hP⟩
  rotate_left
  · have w60 : w ≤ 60 := by have := hP.1; omega
    refine ⟨fun q => absurd q (nI_pos (by omega)), fun _ => ⟨_, rfl, ?_⟩⟩
    refine c_1585 (d + 40) X i2 j (t := t) (n := tn) (no := no) htn no10 (by rw [g42]; exact t33) (by rw [g42]; exact e4) (fun q hq => ⟨(ht q hq).1, by rw [f2 69 (by decide) (by decide) (by decide) (by decide)]; exact (ht q hq).2.2⟩) (nI g) (by rw [g42]; exact z2) (fun q40 ⟨c0, wt, m, dg, hs⟩ => absurd (good_bad q40 hs hP) id) (fun w' hP' i' hf => ⟨by rw [pbad_one hP hP'], hK.k (hrel.omf h4 h2 f1 hi2 hf)⟩)
  refine ⟨fun _ => ?_, fun q => absurd (show kI (-1) < 0 by decide) q⟩
  have h76 := hx.1
  obtain ⟨c, hcl⟩ : ∃ c, c = (popW 1 c0 w).1.length := ⟨_, rfl⟩
  obtain ⟨N, hN⟩ : ∃ N, N = xn X + 2 := ⟨_, rfl⟩
  obtain ⟨X2, hX2⟩ : ∃ X2, X2 = XN X 4 0 3 (70 + no) := ⟨_, rfl⟩
  have n2 : xn X2 = xn X + 1 := by rw [hX2]; rfl
  have u2 : xu X2 = xu X + 3 := by rw [hX2]; rfl
  have m2 : nw (mm X i2 j) 4 0 3 = mm X2 (zN X i2 0) (zN X j 0) := by rw [nw_mm h76 (70 + no), hX2]
  refine ⟨rfl, rfl, by rw [m2]; rfl, by rw [m2]; rfl, ?_⟩
  rw [m2]
  have e18 : zN X i2 0 18 3 = nI c := by
    rw [zN_ne (by omega), hi2, s2_ne2 (by decide), hcl]; exact hC.1
  refine c_1029 (d + 299) X2 (zN X i2 0) (zN X j 0) (by omega) (c := c) (by omega) e18 (80 + no) ?_
  intro i3 f3 c3
  obtain ⟨X3, hX3⟩ : ∃ X3, X3 = XN X2 20 c c (80 + no) := ⟨_, rfl⟩
  rw [← hX3]
  have n3 : xn X3 = xn X + 2 := by rw [hX3]; show xn X2 + 1 = _; omega
  have u3 : xu X3 = xu X + 3 + c := by rw [hX3]; show xu X2 + c = _; omega
  have k3N : xk X3 N = 4 := by
    rw [hX3, xk_Ne (by omega) (by omega), hX2, hN, xk_N h76]; simp [u1]
  have t3N : xt X3 N = 70 + no := by
    rw [hX3, xt_Ne (by omega) (by omega), hX2, hN, xt_N h76]; simp [u1]
  have C3 : xk X3 (xn X2 + 2) = 20 ∧ xl X3 (xn X2 + 2) = c ∧ xt X3 (xn X2 + 2) = 80 + no := by
    rw [hX3, xk_N (by omega), xl_N (by omega), xt_N (by omega)]
    exact ⟨by simp [u1], by simp [u1], by simp [u1]⟩
  refine ⟨by show xk X3 (xn X + 2) = 4; rw [← hN]; exact k3N, ?_⟩
  show WV (d + 299) 384 [.ref (xn X + 2), .ref (xr X 17 g), .ref (xn X2 + 2)] (mm X3 i3 (zN X2 (zN X j 0) 0)) _
  rw [← hN]
  refine c_384 (d + 299) X3 i3 (zN X2 (zN X j 0) 0) (N := N) (G := xr X 17 g) (C := xn X2 + 2) (c := c) (by omega) (by omega) (by omega) k3N (by omega) C3.1 C3.2.1 (by omega) (30 + no) ?_
  intro X4 i4 j4 q0 q1 q2 q4 q5 q6 r0 r1 r2 qc
  have o2 : Old X X2 i2 (zN X i2 0) := by rw [hX2]; exact Old.rfl'.nw' hx (Nat.le_refl _) 4 0 3 (70 + no)
  have o3 : Old X X3 i2 i3 := fun b hb => by
    have lb := hx.lt hb
    obtain ⟨a1, a2, a3, a4, a5⟩ := o2 b hb
    rw [hX3, xk_Ne (by omega) (by omega), xl_Ne (by omega) (by omega), xt_Ne (by omega) (by omega), xr_Ne (by omega) (by omega)]
    exact ⟨a1, a2, a3, a4, (f3 b (by omega)).trans a5⟩
  have o4 : Old X X4 i2 i4 := q0 X i2 hx (by omega) o3
  have jj : ∀ b, b < xn X + 2 → j4 b = j b := fun b hb => by
    rw [(q1 b (by omega)).2.2.2.2, zN_ne (by omega), zN_ne (by omega)]
  have k4N : xk X4 N = 4 := (q1 N (by omega)).1.trans k3N
  have t4N : xt X4 N = 70 + no := (q1 N (by omega)).2.2.1.trans t3N
  have C4 : xk X4 (xn X2 + 2) = 20 ∧ xl X4 (xn X2 + 2) = c ∧ xt X4 (xn X2 + 2) = 80 + no := by
    obtain ⟨a1, a2, a3, -⟩ := q1 (xn X2 + 2) (by omega)
    rw [a1, a2, a3]; exact C3
  have nx4 : NX X4 := ⟨by omega, fun b hb => by
    rw [q6 b hb, hX3, xt_Ne (by omega) (by omega), hX2, xt_Ne h76 (by omega)]
    exact hx.2 b (by omega)⟩
  have i4o : ∀ b, b ≤ 77 → b ≠ 18 → b ≠ 20 → b ≠ 21 → b ≠ 22 → i4 b = i b := fun b hb c1 c2 c3 c4 => (o4 b (Or.inr hb)).2.2.2.2.trans (f2 b c1 c2 c3 c4)
  refine ⟨⟨⟨?_, ?_⟩, ?_, ?_⟩, rfl, rfl, ?_⟩
  · show 24 ≤ KD 23; decide
  · show KD 23 ≤ 26; decide
  · show KD 23 = xk X4 (xn X + 2) + 21; rw [← hN, k4N]; rfl
  · show vp_in (i2 2 7) 10; rw [f2 2 (by decide) (by decide) (by decide) (by decide), e3]; exact vp_in_nI no10 (by decide)
  show WP (d + 300) 1425 (90, [(0, .ref 2)], [], si (sr (mm X4 i4 j4) 23 (i2 2 7).toNatClampNeg (xn X + 2)) 2 7 (i4 2 7 + kI 1)) _
  rw [← hN, f2 2 (by decide) (by decide) (by decide) (by decide), e3, tc_nI (by omega), srR RA23, i4o 2 (by decide) (by decide) (by decide) (by decide) (by decide), e3]
  obtain ⟨X5, hX5⟩ : ∃ X5, X5 = XR X4 23 no N := ⟨_, rfl⟩
  rw [← hX5]
  refine tc_1425_90 (d + 299) _ _ _ ⟨rfl, _, rfl, ?_⟩
  obtain ⟨iB, hiB⟩ : ∃ iB, iB = s2 i4 2 7 (nI no + kI 1) := ⟨_, rfl⟩
  show WI (d + 300) 1585 [.ref 42, .int (nI g)] (mm X5 (s2 i4 2 7 (nI no + kI 1)) j4) (fun x2 M2 => (s2 i4 2 7 (nI no + kI 1)) 2 7 - kI 1 = x2 ∧ Kf M2)
  rw [s2_self, ← hiB]
  have fB : ∀ b, b ≠ 2 → iB b = i4 b := fun b hb => by rw [hiB, s2_ne hb]
  have B42 : iB 42 = i 42 := (fB 42 (by decide)).trans (i4o 42 (by decide) (by decide) (by decide) (by decide) (by decide))
  refine c_1585 (d + 40) X5 iB j4 (t := t) (n := tn) (no := no) htn no10 (by rw [B42]; exact t33) (by rw [B42]; exact e4) (fun q hq => ⟨(ht q hq).1, by rw [fB 69 (by decide), i4o 69 (by decide) (by decide) (by decide) (by decide) (by decide)]; exact (ht q hq).2.2⟩) (nI g) (by rw [B42]; exact z2) (fun _ _ i' hf => ⟨rfl, hK _ _ _ ?_ ?_⟩) (fun w' hP' i' hf => absurd (good_bad h40 hscn hP') id)
  rotate_left
  · rw [hX5]
    refine ⟨?_, ?_, ?_⟩
    · show xn X ≤ xn X4; omega
    · show xn X4 ≤ xn X + 4; omega
    · show xu X4 ≤ xu X + 600; omega
  obtain ⟨l1, l2, l3, l4, l5⟩ := hf
  obtain ⟨i6, hi6⟩ : ∃ i6, i6 = s2 (s2 (s2 i' 55 no (nI tn)) 56 no (nI g)) 42 14 (nI no + nI 1) := ⟨_, rfl⟩
  rw [← hi6]
  have gS : Ag X (upN [18, 20, 21, 22]) (fun _ => False) (fun _ => false) (fun _ => false) i i2 := by
    refine ⟨fun b hb he _ _ => ?_, fun b hb _ => f2 b (by omega) (by omega) (by omega) (by omega), fun k _ => by rw [g42], fun k _ => by rw [f2 2 (by decide) (by decide) (by decide) (by decide)]⟩
    have q := upN_ne he
    exact f2 b (q 18 (by simp)) (q 20 (by simp)) (q 21 (by simp)) (q 22 (by simp))
  have gW : Ag X4 (upN [54, 55, 56]) (fun _ => False) (fun k => Nat.ble 36 k || upN [33, 14] k) (fun k => Nat.beq k 7) i4 i6 := by
    refine ⟨fun b hb he h42 h2' => ?_, fun b hb _ => ?_, fun k hk => ?_, fun k hk => ?_⟩
    · have q := upN_ne he
      rw [hi6, s2_ne h42, s2_ne (q 56 (by simp)), s2_ne (q 55 (by simp)), l1 b h42 (q 54 (by simp)), fB b h2']
    · rw [hi6, s2_ne (by omega), s2_ne (by omega), s2_ne (by omega), l1 b (by omega) (by omega), fB b (by omega)]
    · rw [Bool.or_eq_false_iff] at hk
      have a : k < 36 := Nat.not_le.mp fun z => by have := hk.1; rw [Nat.ble_eq.mpr z] at this; cases this
      have q := upN_ne hk.2
      rw [hi6, s2_ne2 (q 14 (by simp)), s2_ne (by decide), s2_ne (by decide), l2 k a (q 33 (by simp)), fB 42 (by decide)]
    · have k7 : k ≠ 7 := fun z => by rw [z] at hk; cases hk
      rw [hi6, s2_ne (by decide), s2_ne (by decide), s2_ne (by decide), l1 2 (by decide) (by decide), hiB, s2_ne2 k7]
  have R0' := (h0.ag gS rfl).old o4
  have R1' := (h1.ag gS rfl).old o4
  have R2i := h2.ag gS rfl no_T
  have R2' := R2i.old o4
  have R4' := (h4.ag gS rfl no_T).old R2i o4
  have R5' := (h5.ag gS rfl no_T).old o4
  have R6' := (h6.ag gS rfl).old o4
  have R7' := (h7.ag gS rfl).old o4
  have R8' : R8 i4 j4 := by
    have q := h8
    unfold R8; rw [i4o 40 (by decide) (by decide) (by decide) (by decide) (by decide), i4o 42 (by decide) (by decide) (by decide) (by decide) (by decide), jj 41 (by omega), jj 70 (by omega)]; exact q
  have RZ' : RZ i4 := by unfold RZ; rw [i4o 34 (by decide) (by decide) (by decide) (by decide) (by decide), i4o 35 (by decide) (by decide) (by decide) (by decide) (by decide)]; exact hz
  have e17 : xr X4 17 = xr X 17 := o4.r 17 rfl
  rw [hX5]
  refine ⟨nx4.ref, ⟨⟨n, (R0'.ag gW rfl).ra⟩, R1'.ag gW rfl, ⟨ng, (R2'.ag gW rfl no_T).ra (Or.inl rfl), no + 1, ?_⟩, ⟨0, by omega, ?_, ?_, fun q hq => absurd hq (by omega)⟩, ⟨np, (R5'.ag gW rfl no_T).ra (Or.inr rfl)⟩, R6'.ag gW rfl, ns, R7'.ag gW rfl⟩, R8'.ag gW rfl, RZ'.ag gW rfl⟩
  · refine ⟨by omega, ?_, ?_, fun s hs => ?_⟩
    · rw [hi6, s2_ne (by decide), s2_ne (by decide), s2_ne (by decide), l1 2 (by decide) (by decide), hiB, s2_self]; exact nI_add no 1
    · rw [hi6, s2_self]; exact nI_add no 1
    · by_cases hsn : s = no
      · subst hsn
        have en : xr (XR X4 23 s N) N = xr X4 N := xrRne (by omega)
        have e17' : xr (XR X4 23 s N) 17 = xr X4 17 := xrRne (by decide)
        rw [xrRk RA23]
        refine ⟨?_, ?_, ⟨g, hg, ?_, ?_⟩, ?_, t, tn, h40, ?_, fun q hq => ⟨(ht q hq).1, ?_⟩, ?_⟩
        · unfold OO
          rw [en, r0, r1, r2, xk_R]
          refine ⟨k4N, ?_, C4.1, qc.1⟩
          have hh := R2'.2.2.2 g hg
          rw [e17] at hh
          exact (GO.ra (a := 23) (by decide) hh.1 hh.2.1).1
        · unfold OT
          rw [en, r1, r2, xt_R]
          exact ⟨no10, t4N, C4.2.2, qc.2.2⟩
        · rw [en, r0, e17', e17]
        · rw [hi6, s2_ne (by decide), s2_self]
        · rw [en, r1, r2, xl_R, C4.2.1, qc.2.1]; exact ⟨by omega, rfl⟩
        · rw [hi6, s2_ne (by decide), s2_ne (by decide), s2_self]
        · rw [hi6, s2_ne (by decide), s2_ne (by decide), s2_ne (by decide)]; exact l5 q (by omega)
        · rw [en, r1, xl_R, C4.2.1]
          refine ⟨c0, w, m, dg, hscn, hcl.symm, fun q hq => ?_⟩
          rw [gW.2.1 _ (by omega) id, (q1 (xn X2 + 2) (by omega)).2.2.2.1, c3 q hq, zN_ne (by omega), hi2, s2_ne (by decide)]
          exact hC.2.1 q (by omega)
      · obtain ⟨hO, hOT, ⟨g', hg', eg', e56'⟩, hl, tx, tn', htn', e55', htx', hC'⟩ := R4'.2.2.2 s (by omega)
        have hh := R2'.2.2.2 g' hg'
        have sBig := xt_big (X := X4) (a := xr X4 23 s) (by have := hOT.2.1; omega)
        have cBig := xt_big (X := X4) (a := xr X4 (xr X4 23 s) 1) (by have := hOT.2.2.1; omega)
        have es : xr (XR X4 23 no N) (xr X4 23 s) = xr X4 (xr X4 23 s) := xrRne (by omega)
        have e17' : xr (XR X4 23 no N) 17 = xr X4 17 := xrRne (by decide)
        rw [xrRo RA23 hsn, es, e17', xl_R]
        refine ⟨?_, ?_, ⟨g', hg', eg', ?_⟩, hl, tx, tn', htn', ?_, fun q hq => ⟨(htx' q hq).1, ?_⟩, by rw [gW.2.1 _ cBig id]; exact hC'⟩
        · unfold OO
          rw [es, xk_R, eg']
          exact ⟨hO.1, (GO.ra (a := 23) (by decide) hh.1 hh.2.1).1, hO.2.2⟩
        · unfold OT
          rw [es, xt_R]; exact hOT
        · rw [hi6, s2_ne (by decide), s2_ne2 hsn, s2_ne (by decide), l1 56 (by decide) (by decide), fB 56 (by decide)]; exact e56'
        · rw [hi6, s2_ne (by decide), s2_ne (by decide), s2_ne2 hsn, l1 55 (by decide) (by decide), fB 55 (by decide)]; exact e55'
        · rw [hi6, s2_ne (by decide), s2_ne (by decide), s2_ne (by decide), l4 _ (by omega), fB 54 (by decide)]; exact (htx' q hq).2
  · rw [hi6, s2_ne (by decide), s2_ne (by decide), s2_ne (by decide), l1 18 (by decide) (by decide), fB 18 (by decide), o4.f 18 rfl, hi2, s2_self]
  · rw [hi6, s2_ne2 (by decide), s2_ne (by decide), s2_ne (by decide)]; exact l3
