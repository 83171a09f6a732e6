/-! ===== mow ===== -/
noncomputable def mwF (A : Nat → Prop) (w : Nat → Int32) (n m : Nat) : Nat → Nat → Nat → Nat → Nat → Nat × Nat × Nat
  | 0, _, a, b, c => (a, b, c)
  | f + 1, t, a, b, c => @ite _ (t + m < n) (Classical.propDecidable _) (@ite _ (A t) (Classical.propDecidable _) (if frd w t m = m then mwF A w n m f (t + m + 1) (a + 1) b c else mwF A w n m f (t + frd w t m + 2) a (b + 1) c) (mwF A w n m f (t + 1) a b (c + 1))) (a, b, c)
section mws
variable {A : Nat → Prop} {w : Nat → Int32} {n m : Nat}
theorem mw_end {f t a b c : Nat} (z : ¬ t + m < n) : mwF A w n m f t a b c = (a, b, c) := by
  cases f with
  | zero => rfl
  | succ f => rw [mwF, if_neg z]
theorem mw_n {t a b c : Nat} (z : t + m < n) (y : ¬ A t) : ∀ f, n - t < f → mwF A w n m f t a b c = mwF A w n m (f - 1) (t + 1) a b (c + 1)
  | 0, hf => absurd hf (by omega)
  | f + 1, hf => by rw [mwF, if_pos z, if_neg y]; rfl
theorem mw_y {t a b c : Nat} (z : t + m < n) (y : A t) (x : frd w t m = m) : ∀ f, n - t < f → mwF A w n m f t a b c = mwF A w n m (f - 1) (t + m + 1) (a + 1) b c
  | 0, hf => absurd hf (by omega)
  | f + 1, hf => by rw [mwF, if_pos z, if_pos y, if_pos x]; rfl
theorem mw_s {t a b c : Nat} (z : t + m < n) (y : A t) (x : ¬ frd w t m = m) : ∀ f, n - t < f → mwF A w n m f t a b c = mwF A w n m (f - 1) (t + frd w t m + 2) a (b + 1) c
  | 0, hf => absurd hf (by omega)
  | f + 1, hf => by rw [mwF, if_pos z, if_pos y, if_neg x]; rfl
end mws
set_option maxRecDepth 100000 in
theorem s_1443 (d : Nat) (X : XS) (i : Nat → Nat → Int32) (j : Nat → Nat → Int64) (a1 : Int32) (a2 : Int32) (K : Int32 → AM → Prop) (h : (SGs X i) ∧ ((¬ ((nI 0) ≤ a1 ∧ a1 ≤ ((i 2 7) - (nI 1)))) → K (kI (-1)) (mm X i j)) ∧ (((nI 0) ≤ a1 ∧ a1 ≤ ((i 2 7) - (nI 1))) → (OO X (xr X 23 (a1.toNatClampNeg))) → (((nI 1) ≤ a2 ∧ a2 ≤ (nI 6) → (∃ (i8 : Nat → Nat → Int32), EvV (d + 3) 1473 [.ref 2, .ref 9] (mm X i j) (mm X i8 j) ∧ WP (d + 4) 1443 (42, [(0, .ref 2), (2, .int a2), (3, .ref (xr X 23 (a1.toNatClampNeg))), (4, .int (nI 0)), (5, .int (nI 0)), (6, .int (nI 0)), (7, .int (nI 0))], [], (mm X i8 j)) (qI K))) ∧ (¬ ((nI 1) ≤ a2 ∧ a2 ≤ (nI 6)) → K (kI (-1)) (mm X i j))))) : WI (d + 4) 1443 [.ref 2, .int a1, .int a2] (mm X i j) K := te_1443 (d + 3) 2 a1 a2 (mm X i j) (qI K) ⟨rfl, (p_1468 (d + 2) X i j a1 _ ⟨h.1, (fun h2 => ⟨fun _ => ⟨_, rfl, (h.2.1 h2)⟩, fun e3 => absurd rfl e3⟩), (fun h4 h5 => ⟨fun e6 => absurd e6 (nz_k (h5.1)), fun _ => (p_1462 (d + 3) X i j a2 (nI 1) (nI 6) _ ⟨fun e7 => ⟨rfl, ⟨rfl, (Exists.elim ((h.2.2 h4 h5).1 ((bi_n e7))) fun i8 h9 => EvV.use h9.1 h9.2)⟩⟩, fun e7 => ⟨_, rfl, ((h.2.2 h4 h5).2 ((bi_nn e7)))⟩⟩)⟩)⟩)⟩
set_option maxRecDepth 100000 in
theorem s_1443_42 (d : Nat) (X : XS) (i : Nat → Nat → Int32) (j : Nat → Nat → Int64) (v2 : Int32) (v3 : Nat) (h3 : OO X v3) (v4 : Int32) (v5 : Int32) (v6 : Int32) (v7 : Int32) (Q : Option (Option Value) → AM → Prop) (h : (((i 9 3) ≤ (v7 + v2) → Q (some (some (.int v4))) (mm X (s2 (s2 (s2 i 40 1 (nI 0)) 40 1 (nI 1)) 40 1 (nI 2)) (s2 (s2 j 41 0 (v5.toInt64)) 41 1 (v6.toInt64)))) ∧ (¬ ((i 9 3) ≤ (v7 + v2)) → (∃ (x15 : Int32), ∃ (i14 : Nat → Nat → Int32), EvI (d + 3) 387 [.ref v3, .ref 9, .int v7] (mm X i j) x15 (mm X i14 j) ∧ ((¬ (x15 = 0) → (∃ (x17 : Int32), EvI (d + 3) 138 [.ref 9, .int v7, .int v2] (mm X i14 j) x17 (mm X i14 j) ∧ ((¬ (x17 = v2) → (∃ (x19 : Int32), EvI (d + 3) 138 [.ref 9, .int v7, .int v2] (mm X i14 j) x19 (mm X i14 j) ∧ WP (d + 4) 1443 (42, [(0, .ref 2), (2, .int v2), (3, .ref v3), (4, .int v4), (5, .int (v5 + (nI 1))), (6, .int v6), (7, .int (v7 + (x19 + (nI 2))))], [], (mm X i14 j)) Q)) ∧ (x17 = v2 → WP (d + 4) 1443 (42, [(0, .ref 2), (2, .int v2), (3, .ref v3), (4, .int (v4 + (nI 1))), (5, .int v5), (6, .int v6), (7, .int (v7 + (v2 + (nI 1))))], [], (mm X i14 j)) Q)))) ∧ (x15 = 0 → WP (d + 4) 1443 (42, [(0, .ref 2), (2, .int v2), (3, .ref v3), (4, .int v4), (5, .int v5), (6, .int (v6 + (nI 1))), (7, .int (v7 + (nI 1)))], [], (mm X i14 j)) Q)))))) : WP (d + 4) 1443 (42, [(0, .ref 2), (2, .int v2), (3, .ref v3), (4, .int v4), (5, .int v5), (6, .int v6), (7, .int v7)], [], mm X i j) Q := tc_1443_42 (d + 3) 2 v2 v3 v4 v5 v6 v7 (mm X i j) Q ⟨rfl, ⟨rfl, (te_129 (d + 3) 9 (mm X i j) _ ⟨rfl, ⟨_, rfl, ⟨fun e11 => ⟨rfl, ⟨rfl, (te_641 (d + 3) 40 (mm X i j) _ ⟨rfl, ⟨rfl, ⟨rfl, ⟨rfl, (te_642 (d + 3) 40 (v5.toInt64) (mm X (s2 i 40 1 (nI 0)) j) _ ⟨rfl, ⟨fun e12 => absurd e12 (show ¬ ((nI 20) ≤ (nI 0)) by decide), fun _ => ⟨rfl, ⟨rfl, ⟨⟨rfl, (vpk 0 20 rfl)⟩, ⟨rfl, ⟨rfl, ⟨rfl, ⟨rfl, ⟨rfl, (te_642 (d + 3) 40 (v6.toInt64) (mm X (s2 (s2 i 40 1 (nI 0)) 40 1 (nI 1)) (s2 j 41 0 (v5.toInt64))) _ ⟨rfl, ⟨fun e13 => absurd e13 (show ¬ ((nI 20) ≤ (nI 1)) by decide), fun _ => ⟨rfl, ⟨rfl, ⟨⟨rfl, (vpk 1 20 rfl)⟩, ⟨rfl, ⟨rfl, ⟨rfl, (h.1 (e11))⟩⟩⟩⟩⟩⟩⟩⟩)⟩⟩⟩⟩⟩⟩⟩⟩⟩⟩)⟩⟩⟩⟩)⟩⟩, fun e11 => ⟨rfl, ⟨h3.1, (Exists.elim (h.2 (e11)) fun x15 h24 => Exists.elim h24 fun i14 h25 => EvI.use h25.1 ⟨fun e16 => ⟨rfl, ⟨rfl, (Exists.elim (h25.2.1 (e16)) fun x17 h22 => EvI.use h22.1 ⟨fun e18 => ⟨rfl, ⟨rfl, (Exists.elim (h22.2.1 (e18)) fun x19 h20 => EvI.use h20.1 h20.2)⟩⟩, fun e18 => (h22.2.2 ((Classical.byContradiction e18)))⟩)⟩⟩, fun e16 => (h25.2.2 ((Classical.byContradiction e16)))⟩)⟩⟩⟩⟩⟩)⟩⟩
set_option maxRecDepth 100000 in
theorem s_1624 (d : Nat) (X : XS) (i : Nat → Nat → Int32) (j : Nat → Nat → Int64) (a1 : Int32) (a2 : Int32) (K : Int32 → AM → Prop) (h : ((¬ ((nI 0) ≤ a1 ∧ a1 ≤ ((i 42 14) - (nI 1))) → K (kI (-1)) (mm X (s2 i 42 36 (nI 0)) j)) ∧ ((nI 0) ≤ a1 ∧ a1 ≤ ((i 42 14) - (nI 1)) → (((nI 1) ≤ a2 ∧ a2 ≤ (nI 6) → (∃ (i3 : Nat → Nat → Int32), EvV (d + 261) 1589 [.ref 42, .int (shlI (nI 1) a1), .int (nI 1), .int (nI 1)] (mm X (s2 i 42 36 (nI 0)) j) (mm X i3 j) ∧ WP (d + 262) 1624 (45, [(0, .ref 42), (1, .int a1), (2, .int a2), (3, .int (nI 0)), (4, .int (nI 0)), (5, .int (nI 0)), (6, .int (nI 0))], [], (mm X i3 j)) (qI K))) ∧ (¬ ((nI 1) ≤ a2 ∧ a2 ≤ (nI 6)) → K (kI (-1)) (mm X (s2 i 42 36 (nI 0)) j)))))) : WI (d + 262) 1624 [.ref 42, .int a1, .int a2] (mm X i j) K := te_1624 (d + 261) 42 a1 a2 (mm X i j) (qI K) ⟨rfl, ⟨rfl, (te_1546 (d + 260) 42 a1 (mm X (s2 i 42 36 (nI 0)) j) _ ⟨rfl, (p_1538 (d + 260) X (s2 i 42 36 (nI 0)) j a1 (nI 0) ((i 42 14) - (nI 1)) _ ⟨(bi_01 _), ⟨_, rfl, ⟨fun e1 => ⟨_, rfl, (h.1 ((bi_z e1)))⟩, fun e1 => (p_1538 (d + 261) X (s2 i 42 36 (nI 0)) j a2 (nI 1) (nI 6) _ ⟨fun e2 => ⟨rfl, (Exists.elim ((h.2 ((bi_n e1))).1 ((bi_n e2))) fun i3 h4 => EvV.use h4.1 h4.2)⟩, fun e2 => ⟨_, rfl, ((h.2 ((bi_n e1))).2 ((bi_nn e2)))⟩⟩)⟩⟩⟩)⟩)⟩⟩
set_option maxRecDepth 100000 in
theorem s_1624_45 (d : Nat) (X : XS) (i : Nat → Nat → Int32) (j : Nat → Nat → Int64) (v1 : Int32) (v2 : Int32) (v3 : Int32) (v4 : Int32) (v5 : Int32) (v6 : Int32) (Q : Option (Option Value) → AM → Prop) (h : (((i 42 0) ≤ (v6 + v2) → Q (some (some (.int v3))) (mm X (s2 (s2 (s2 i 42 35 (nI 0)) 42 35 (nI 1)) 42 35 (nI 2)) (s2 (s2 j 70 0 (v4.toInt64)) 70 1 (v5.toInt64)))) ∧ (¬ ((i 42 0) ≤ (v6 + v2)) → (vp_in v6 240) ∧ ((¬ (((shrI (i 72 ((v6).toNatClampNeg)) v1) &&& (nI 1)) = (nI 1)) → WP (d + 262) 1624 (45, [(0, .ref 42), (1, .int v1), (2, .int v2), (3, .int v3), (4, .int v4), (5, .int (v5 + (nI 1))), (6, .int (v6 + (nI 1)))], [], (mm X i j)) Q) ∧ (((shrI (i 72 ((v6).toNatClampNeg)) v1) &&& (nI 1)) = (nI 1) → (∃ (x10 : Int32), EvI (d + 261) 1623 [.ref 42, .int v6, .int v2] (mm X i j) x10 (mm X i j) ∧ ((¬ (x10 = (kI (-1))) → WP (d + 262) 1624 (45, [(0, .ref 42), (1, .int v1), (2, .int v2), (3, .int v3), (4, .int (v4 + (nI 1))), (5, .int v5), (6, .int (x10 + (nI 1)))], [], (mm X i j)) Q) ∧ (x10 = (kI (-1)) → WP (d + 262) 1624 (45, [(0, .ref 42), (1, .int v1), (2, .int v2), (3, .int (v3 + (nI 1))), (4, .int v4), (5, .int v5), (6, .int ((v6 + v2) + (nI 1)))], [], (mm X i j)) Q)))))))) : WP (d + 262) 1624 (45, [(0, .ref 42), (1, .int v1), (2, .int v2), (3, .int v3), (4, .int v4), (5, .int v5), (6, .int v6)], [], mm X i j) Q := tc_1624_45 (d + 261) 42 v1 v2 v3 v4 v5 v6 (mm X i j) Q ⟨rfl, ⟨fun e6 => ⟨rfl, ⟨rfl, (te_1540 (d + 261) 42 (v4.toInt64) (mm X (s2 i 42 35 (nI 0)) j) _ ⟨rfl, ⟨rfl, ⟨⟨rfl, (vpk 0 32 rfl)⟩, ⟨rfl, ⟨rfl, ⟨rfl, ⟨rfl, (te_1540 (d + 261) 42 (v5.toInt64) (mm X (s2 (s2 i 42 35 (nI 0)) 42 35 (nI 1)) (s2 j 70 0 (v4.toInt64))) _ ⟨rfl, ⟨rfl, ⟨⟨rfl, (vpk 1 32 rfl)⟩, ⟨rfl, ⟨rfl, ⟨rfl, (h.1 (e6))⟩⟩⟩⟩⟩⟩)⟩⟩⟩⟩⟩⟩⟩)⟩⟩, fun e6 => ⟨rfl, (te_1590 (d + 261) 42 v1 v6 (mm X i j) _ ⟨rfl, ⟨⟨rfl, (h.2 (e6)).1⟩, ⟨fun e7 => ⟨k0_01, ⟨_, rfl, ⟨fun e8 => absurd e8 (show ¬ (¬ (nI 0) = 0) by decide), fun _ => ((h.2 (e6)).2.1 (e7))⟩⟩⟩, fun e7 => ⟨k1_01, ⟨_, rfl, ⟨fun _ => ⟨rfl, (Exists.elim ((h.2 (e6)).2.2 ((Classical.byContradiction e7))) fun x10 h14 => EvI.use h14.1 ⟨fun e11 => ⟨fun _ => (tc_1624_120 (d + 261) 42 v1 v2 v3 (v4 + (nI 1)) v5 (x10 + (nI 1)) (mm X i j) _ (h14.2.1 (e11))), fun e12 => absurd ((e11)) e12⟩, fun e11 => ⟨fun e13 => absurd e13 (fun z => z ((Classical.byContradiction e11))), fun _ => (tc_1624_120 (d + 261) 42 v1 v2 (v3 + (nI 1)) v4 v5 ((v6 + v2) + (nI 1)) (mm X i j) _ (h14.2.2 ((Classical.byContradiction e11))))⟩⟩)⟩, fun e9 => absurd (show ¬ (nI 1) = 0 by decide) e9⟩⟩⟩⟩⟩⟩)⟩⟩⟩
theorem k_34 (d : Nat) {X : XS} {i : Nat → Nat → Int32} {j : Nat → Nat → Int64} (h : Rel X i j) (a1 a2 : Int32) {Kf : AM → Prop} (hK : Nx X Kf) : WI (d + 300) 1443 [.ref 2, .int a1, .int a2] (mm X i j) (fun x1 M1 => WI (d + 300) 1624 [.ref 42, .int a1, .int a2] M1 (fun x2 M2 => x1 = x2 ∧ Kf M2)) := by
  have ht := hK.th h
  have hrel := h
  obtain ⟨hx, ⟨⟨n, h0⟩, h1, ⟨ng, h2, no, h4⟩, ⟨tn, h3⟩, ⟨np, h5⟩, h6, ns, h7⟩, h8, hz⟩ := h
  have e1 := h4.2.1
  have e2 := h4.2.2.1
  have hno := h4.1
  have hn := h0.2.1.1.2
  refine s_1443 _ X i j a1 a2 _ ⟨h4.sg, ?_, ?_⟩
  · rw [e1]
    exact fun z => s_1624 _ X i j _ _ _ (bq_t (by rw [e2]; exact z) ⟨rfl, ht⟩)
  rw [e1]
  intro z hO
  have z2 : nI 0 ≤ a1 ∧ a1 ≤ i 42 14 - nI 1 := by rw [e2]; exact z
  obtain ⟨s, hs, rfl⟩ := idx_of (by omega) z

  refine br_c (fun v => ?_) (fun v => s_1624 _ X i j _ _ _ (bq_f z2 (br_f v ⟨rfl, ht⟩)))
  obtain ⟨m, hm1, hm, rfl⟩ := ev_rng (by decide) v
  obtain ⟨i1, hE1, f1, z1, r40, hL, g9⟩ := gov 0 X i j h0 h2 hz
  refine ⟨i1, hE1.up (by omega), ?_⟩
  rw [tc_nI (by omega)] at hO
  rw [tc_nI (by omega)]
  obtain ⟨A, hA⟩ : ∃ A, A = svP X i s := ⟨_, rfl⟩
  obtain ⟨W, hW⟩ : ∃ W, W = wv n (i 43) := ⟨_, rfl⟩
  obtain ⟨R, hR⟩ : ∃ R, R = mwF A W n m (n + 1) 0 0 0 0 := ⟨_, rfl⟩
  have t36 : 41 ≤ xt X 36 ∧ xt X 36 < 50 := by
    have : 41 ≤ TF 36 ∧ TF 36 < 50 := by decide
    exact this
  have F36 : ∀ {i2 : Nat → Nat → Int32}, (∀ b, ¬ (30 ≤ xt X b ∧ xt X b < 40) → b ≠ 36 → i2 b = i1 b) → FrC X i i2 := fun {i2} g b hb => by
    rw [g b (by omega) (fun e => by subst e; omega)]
    exact f1 b hb
  refine lwh (σ := Nat × Nat × Nat × Nat × Nat × (Nat → Nat → Int32)) (fun z => n - z.1 < z.2.1 ∧ z.1 ≤ n + 9 ∧ mwF A W n m z.2.1 z.1 z.2.2.1 z.2.2.2.1 z.2.2.2.2.1 = R ∧ (∀ b, ¬ (30 ≤ xt X b ∧ xt X b < 40) → b ≠ 36 → z.2.2.2.2.2 b = i1 b)) (fun z => z.2.1) (fun z => (42, [(0, .ref 2), (2, .int (nI m)), (3, .ref (xr X 23 s)), (4, .int (nI z.2.2.1)), (5, .int (nI z.2.2.2.1)), (6, .int (nI z.2.2.2.2.1)), (7, .int (nI z.1))], [], mm X z.2.2.2.2.2 j)) ?_ (0, n + 1, 0, 0, 0, i1) ⟨by dsimp only; omega, by dsimp only; omega, hR.symm, fun _ _ _ => rfl⟩
  rintro ⟨t, f, a, b, c, i2⟩ ⟨hf, ht7, hRR, g⟩ go
  dsimp only at hf ht7 hRR g ⊢
  have F2 := F36 g
  have e9 : i2 9 = i 9 := F2 9 (Or.inl (show 0 < 10 by decide))
  have hD2 : ∀ i3 : Nat → Nat → Int32, (∀ b, ¬ (30 ≤ xt X b ∧ xt X b < 40) → b ≠ 36 → i3 b = i1 b) → DY X 9 i3 n (i 43) (i 44) (i 45) := fun i3 g3 => h0.2.1.kp (F36 g3 9 (Or.inl (show 0 < 10 by decide))) (F36 g3 10 (Or.inl (show 0 < 10 by decide))) (F36 g3 11 (Or.inl (show 0 < 10 by decide))) (F36 g3 12 (Or.inl (show 0 < 10 by decide)))
  refine s_1443_42 _ X i2 j _ _ hO _ _ _ _ _ ?_
  rw [e9, h0.2.1.1.1, nI_add t m]
  by_cases z : t + m < n
  · refine br_f (nI_ge z (by omega)) ?_
    obtain ⟨i3, hE3, k1⟩ := cval 0 j h0 h2 h4 f1 hL g hs (t := t) (by omega)
    refine ⟨_, i3, hE3.up (by omega), ?_⟩
    have r1 : ∀ b, ¬ (30 ≤ xt X b ∧ xt X b < 40) → b ≠ 36 → i3 b = i1 b := fun b h1 h2 => (k1 b (by omega)).trans (g b h1 h2)
    have At : A t ↔ ¬ vlF X i (i 43) (i 44) (i 45) s t = 0 := by rw [hA]; rfl
    have hfr := frd_le W t m
    have c1 := c_138 0 X i3 j 9 (DO9 X) (hD2 i3 r1) t m (by omega)
    rw [← hW] at c1
    refine bq_c (fun y => ⟨_, c1.up (by omega), ?_⟩) (fun y => ?_)
    · have ya : A t := At.mpr y
      rw [nI_eq (by omega) (by omega)]
      refine bq_c (fun x => ⟨_, c1.up (by omega), ?_⟩) (fun x => ?_)
      · rw [nI_add, nI_add, nI_add]
        exact go (t + (frd W t m + 2), f - 1, a, b + 1, c, i3) ⟨by dsimp only; omega, by dsimp only; omega, by dsimp only; rw [← Nat.add_assoc, ← mw_s z ya x f hf]; exact hRR, r1⟩ (by dsimp only; omega)
      · rw [nI_add, nI_add, nI_add]
        exact go (t + (m + 1), f - 1, a + 1, b, c, i3) ⟨by dsimp only; omega, by dsimp only; omega, by dsimp only; rw [← Nat.add_assoc, ← mw_y z ya x f hf]; exact hRR, r1⟩ (by dsimp only; omega)
    · have na : ¬ A t := fun u => At.mp u y
      rw [nI_add, nI_add]
      exact go (t + 1, f - 1, a, b, c + 1, i3) ⟨by dsimp only; omega, by dsimp only; omega, by dsimp only; rw [← mw_n z na f hf]; exact hRR, r1⟩ (by dsimp only; omega)
  · refine br_t (nI_le (by omega) (by omega)) (qI_of ?_)
    rw [mw_end z] at hRR
    obtain ⟨i3, hi3⟩ : ∃ i3, i3 = s2 (s2 (s2 i2 40 1 (nI 0)) 40 1 (nI 1)) 40 1 (nI 2) := ⟨_, rfl⟩
    rw [← hi3]
    obtain ⟨j3, hj3⟩ : ∃ j3, j3 = s2 (s2 j 41 0 (nI b).toInt64) 41 1 (nI c).toInt64 := ⟨_, rfl⟩
    rw [← hj3]
    have f3 : ∀ b, b ≠ 40 → i3 b = i2 b := fun b hb => by rw [hi3, s2_ne hb, s2_ne hb, s2_ne hb]
    have F : FrC X i i3 := F2.tr (FrC_40 f3)
    have t34 : xt X 34 = 45 ∧ xt X 35 = 45 := ⟨rfl, rfl⟩
    have Z : RZ i3 := RZ_of z1 ((f3 34 (by decide)).trans (g 34 (by omega) (by decide))) ((f3 35 (by decide)).trans (g 35 (by omega) (by decide)))
    have g42 : i3 42 = i 42 := F 42 (Or.inl (show 0 < 10 by decide))
    refine s_1624 _ X i3 j3 _ _ _ (bq_f (by rw [g42]; exact z2) (br_t v ?_))
    obtain ⟨i4, hE4, f4, -, p46, -, -, p72, p73⟩ := prpv 0 X i (s2 i3 42 36 (nI 0)) j3 h0 h2 h4 (F.kp.tr (FrR_th (X := X) (nI 0)).kp) (shlI (nI 1) (nI s)) (nI 1) (q := 1) (by decide)
    refine ⟨i4, hE4.up (by omega), ?_⟩
    have k4 : Kp X i i4 := F.kp.tr ((FrR_th (nI 0)).tr f4.fr).kp
    have e43 : i4 43 = i 43 := xt_c k4 43 0 rfl rfl (by decide)
    have e0 : i4 42 0 = nI n := by rw [k4.2 0 (by decide)]; exact h0.1
    refine lwh (σ := Nat × Nat × Nat × Nat × Nat) (fun z => n - z.1 < z.2.1 ∧ z.1 ≤ n + 9 ∧ mwF A W n m z.2.1 z.1 z.2.2.1 z.2.2.2.1 z.2.2.2.2 = R) (fun z => z.2.1) (fun z => (45, [(0, .ref 42), (1, .int (nI s)), (2, .int (nI m)), (3, .int (nI z.2.2.1)), (4, .int (nI z.2.2.2.1)), (5, .int (nI z.2.2.2.2)), (6, .int (nI z.1))], [], mm X i4 j3)) ?_ (0, n + 1, 0, 0, 0) ⟨by dsimp only; omega, by dsimp only; omega, hR.symm⟩
    rintro ⟨t', f', a', b', c'⟩ ⟨hf', ht7', hRR'⟩ go2
    dsimp only at hf' ht7' hRR' ⊢
    refine s_1624_45 _ X i4 j3 _ _ _ _ _ _ _ ?_
    rw [e0, nI_add t' m]
    by_cases z' : t' + m < n
    · refine br_f (nI_ge z' (by omega)) ⟨vp_in_nI (by omega) (by decide), ?_⟩
      have hfr := frd_le W t' m
      have c1 := c_1623 0 X i4 j3 (n := n) (w := i 43) hn (fun t _ => by rw [e43]) t' m (by omega)
      rw [← hW] at c1
      rw [tc_nI (by omega), p72 t' (by omega), propext (soF_r hno hs t'), show svP X i s t' = A t' by rw [hA]]
      refine bq_c (fun y => ?_) (fun y => ⟨_, c1.up (by omega), ?_⟩)
      · rw [nI_add, nI_add]
        exact go2 (t' + 1, f' - 1, a', b', c' + 1) ⟨by dsimp only; omega, by dsimp only; omega, by dsimp only; rw [← mw_n z' y f' hf']; exact hRR'⟩ (by dsimp only; omega)
      · by_cases x : frd W t' m = m
        · rw [if_pos x]
          refine bq_f rfl ?_
          rw [nI_add, nI_add]
          exact go2 (t' + m + 1, f' - 1, a' + 1, b', c') ⟨by dsimp only; omega, by dsimp only; omega, by dsimp only; rw [← mw_y z' y x f' hf']; exact hRR'⟩ (by dsimp only; omega)
        · rw [if_neg x]
          refine bq_t (nIm1 (by omega)) ?_
          rw [nI_add, nI_add]
          exact go2 (t' + frd W t' m + 1 + 1, f' - 1, a', b' + 1, c') ⟨by dsimp only; omega, by dsimp only; omega, by dsimp only; rw [Nat.add_assoc _ 1 1, ← mw_s z' y x f' hf']; exact hRR'⟩ (by dsimp only; omega)
    · rw [mw_end z', ← hRR] at hRR'
      cases hRR'
      refine br_t (nI_le (by omega) (by omega)) (qI_of ⟨rfl, ?_⟩)
      refine hK.k (fin_row hrel F Z (((FrR_th (nI 0)).tr f4.fr).tr (FrR_42 (fun b hb => by rw [s2_ne hb, s2_ne hb, s2_ne hb]) (fun k hk => by rw [s2_ne2 (by omega), s2_ne2 (by omega), s2_ne2 (by omega)]))) (r8_of 2 (by decide) ?_ (s2_self _ _ _ _) ?_))
      · rw [s2_ne (show 40 ≠ 42 by decide), s2_ne (show 40 ≠ 42 by decide), s2_ne (show 40 ≠ 42 by decide), f4.1 40 (show ¬ (48 : Nat) = 40 by decide) (by decide), s2_ne (show 40 ≠ 42 by decide), hi3, s2_self]
      · intro p hp
        rw [hj3]
        match p, hp with
        | 0, _ => simp [s2_ap]
        | 1, _ => simp [s2_ap]
