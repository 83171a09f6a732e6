/-! ===== blind, saved ===== -/
theorem cb_1603 (d : Nat) (X : XS) (i : Nat → Nat → Int32) (j : Nat → Nat → Int64) {p kn : Nat} {P : Prop} {A : Int32} (hp : p < 6) (hA : A = bi P) (hv : kn ≤ 240) {ca : Nat → Prop} (hc : ∀ t, t < kn → i 73 t = bi (ca t)) :
    EvI (d + 1) 1603 [.ref 42, .int (nI p), .int A, .int (nI 0), .int (nI kn)] (mm X i j) (coI P (i 57 p) (i 58 p) (i 59 p) (nI kn) (nI (ct ca kn))) (mm X i j) := by
  have := c_1603 d X i j hp hA (Nat.zero_le kn) hv hc
  rw [Nat.sub_zero, show nI (ct ca kn) - nI (ct ca 0) = nI (ct ca kn) by show nI (ct ca kn) - 0 = _; grind] at this
  exact this
theorem bT : nI 1 = bi True := (bi_t trivial).symm
theorem bF : nI 0 = bi False := (bi_f id).symm
theorem coT (c l s m e : Int32) : coI True c l s m e = c * m + s * e := by unfold coI; rw [if_pos trivial]
theorem coF (c l s m e : Int32) : coI False c l s m e = l * e := by unfold coI; rw [if_neg id]
theorem coP {P : Prop} (h : P) (c l s m e : Int32) : coI P c l s m e = coI True c l s m e := by rw [coT]; unfold coI; rw [if_pos h]
theorem coN {P : Prop} (h : ¬ P) (c l s m e : Int32) : coI P c l s m e = coI False c l s m e := by rw [coF]; unfold coI; rw [if_neg h]
theorem blT {c l s : Int32} {ca : Nat → Prop} {n : Nat} (h : saP c l s (nI n) (nI (ct ca n))) : blC c l s ca n = coI True c l s (nI n) (nI (ct ca n)) := coP h _ _ _ _ _
theorem blF {c l s : Int32} {ca : Nat → Prop} {n : Nat} (h : ¬ saP c l s (nI n) (nI (ct ca n))) : blC c l s ca n = coI False c l s (nI n) (nI (ct ca n)) := coN h _ _ _ _ _
theorem saN {c l s m e : Int32} : coI False c l s m e ≤ coI True c l s m e ↔ ¬ saP c l s m e := by
  rw [coT, coF]; unfold saP; rw [Int32.not_lt]
/-- the reference's cells of persons stand -/
theorem p57 {X : XS} {i i1 : Nat → Nat → Int32} (k : Kp X i i1) : i1 57 = i 57 ∧ i1 58 = i 58 ∧ i1 59 = i 59 ∧ i1 60 = i 60 ∧ i1 61 = i 61 := ⟨xt_c k 57 0 rfl rfl (by decide), xt_c k 58 0 rfl rfl (by decide), xt_c k 59 0 rfl rfl (by decide), xt_c k 60 0 rfl rfl (by decide), xt_c k 61 0 rfl rfl (by decide)⟩
theorem kpP {X : XS} {i i1 : Nat → Nat → Int32} (k : Kp X i i1) {P t : Nat} (h : xt X P = 90 + t) : i1 P = i P := k.1 _ (by omega) (ne42 (X := X) (by omega))
theorem xtNe {X : XS} {P t : Nat} (h : xt X P = 90 + t) : 77 < P := xt_big (X := X) (by omega)
theorem FrC_sv {X : XS} {i i' : Nat → Nat → Int32} (h : ∀ b, b ≠ 31 → b ≠ 34 → b ≠ 35 → i' b = i b) : FrC X i i' := by
  have t : xt X 31 = 45 ∧ xt X 34 = 45 ∧ xt X 35 = 45 := ⟨rfl, rfl, rfl⟩
  exact fun b hb => h b (fun e => by subst e; omega) (fun e => by subst e; omega) (fun e => by subst e; omega)
set_option maxRecDepth 100000 in
theorem s_1435 (d : Nat) (X : XS) (i : Nat → Nat → Int32) (j : Nat → Nat → Int64) (a1 : Int32) (a2 : Int32) (a3 : Int32) (K : Int32 → AM → Prop) (h : (PSs X i) ∧ ((¬ ((nI 0) ≤ a1 ∧ a1 ≤ ((i 2 9) - (nI 1)))) → K (kI (-1)) (mm X i j)) ∧ (((nI 0) ≤ a1 ∧ a1 ≤ ((i 2 9) - (nI 1))) → (PO X (xr X 24 (a1.toNatClampNeg))) → ((((nI 1) ≤ a2 ∧ a2 ≤ (nI 3)) ∧ ((nI 1) ≤ a3 ∧ a3 ≤ (nI 9)) → (∃ (i8 : Nat → Nat → Int32), EvV (d + 4) 1476 [.ref 2, .ref 9, .int (nI 0), .int a2, .int a3] (mm X i j) (mm X i8 j) ∧ (∃ (P9 : Prop), EvI (d + 4) 775 [.ref 31, .ref (xr X 24 (a1.toNatClampNeg)), .int (i8 31 2)] (mm X (s2 i8 40 1 (nI 0)) j) (bi P9) (mm X (s2 i8 40 1 (nI 0)) j) ∧ ((¬ (P9) → (∃ (x12 : Int32), EvI (d + 4) 776 [.ref 31, .ref (xr X 24 (a1.toNatClampNeg))] (mm X (s2 (s2 i8 40 1 (nI 0)) 40 1 (nI 1)) (s2 j 41 0 (Int64.ofNat 0))) x12 (mm X (s2 (s2 i8 40 1 (nI 0)) 40 1 (nI 1)) (s2 j 41 0 (Int64.ofNat 0))) ∧ K x12 (mm X (s2 (s2 i8 40 1 (nI 0)) 40 1 (nI 1)) (s2 j 41 0 (Int64.ofNat 0))))) ∧ (P9 → (∃ (x16 : Int32), EvI (d + 4) 776 [.ref 31, .ref (xr X 24 (a1.toNatClampNeg))] (mm X (s2 (s2 i8 40 1 (nI 0)) 40 1 (nI 1)) (s2 j 41 0 (Int64.ofNat 1))) x16 (mm X (s2 (s2 i8 40 1 (nI 0)) 40 1 (nI 1)) (s2 j 41 0 (Int64.ofNat 1))) ∧ K x16 (mm X (s2 (s2 i8 40 1 (nI 0)) 40 1 (nI 1)) (s2 j 41 0 (Int64.ofNat 1))))))))) ∧ (¬ (((nI 1) ≤ a2 ∧ a2 ≤ (nI 3)) ∧ ((nI 1) ≤ a3 ∧ a3 ≤ (nI 9))) → K (kI (-1)) (mm X i j))))) : WI (d + 5) 1435 [.ref 2, .int a1, .int a2, .int a3] (mm X i j) K := te_1435 (d + 4) 2 a1 a2 a3 (mm X i j) (qI K) ⟨rfl, (p_1469 (d + 3) X i j a1 _ ⟨h.1, (fun h2 => ⟨fun _ => ⟨_, rfl, (h.2.1 h2)⟩, fun e3 => absurd rfl e3⟩), (fun h4 h5 => ⟨fun e6 => absurd e6 (nz_k (h5)), fun _ => (p_1464 (d + 3) X i j a2 a3 _ ⟨fun e7 => ⟨rfl, ⟨rfl, (Exists.elim ((h.2.2 h4 h5).1 ((bi_n e7))) fun i8 h21 => EvV.use h21.1 ⟨rfl, ⟨rfl, (te_641 (d + 4) 40 (mm X i8 j) _ ⟨rfl, ⟨rfl, ⟨rfl, ⟨rfl, ⟨rfl, ⟨rfl, (te_771 (d + 4) 31 (mm X (s2 i8 40 1 (nI 0)) j) _ ⟨rfl, ⟨_, rfl, ⟨rfl, (Exists.elim h21.2 fun P9 h19 => EvI.use h19.1 ⟨fun e10 => ⟨rfl, (te_642 (d + 4) 40 (Int64.ofNat 0) (mm X (s2 i8 40 1 (nI 0)) j) _ ⟨rfl, ⟨fun e11 => absurd e11 (show ¬ ((nI 20) ≤ (nI 0)) by decide), fun _ => ⟨rfl, ⟨rfl, ⟨⟨rfl, (vpk 0 20 rfl)⟩, ⟨rfl, ⟨rfl, ⟨rfl, ⟨rfl, ⟨rfl, (Exists.elim (h19.2.1 ((bi_z e10))) fun x12 h13 => EvI.use h13.1 ⟨_, rfl, h13.2⟩)⟩⟩⟩⟩⟩⟩⟩⟩⟩⟩)⟩, fun e10 => ⟨rfl, (te_642 (d + 4) 40 (Int64.ofNat 1) (mm X (s2 i8 40 1 (nI 0)) j) _ ⟨rfl, ⟨fun e15 => absurd e15 (show ¬ ((nI 20) ≤ (nI 0)) by decide), fun _ => ⟨rfl, ⟨rfl, ⟨⟨rfl, (vpk 0 20 rfl)⟩, ⟨rfl, ⟨rfl, ⟨rfl, ⟨rfl, ⟨rfl, (Exists.elim (h19.2.2 ((bi_n e10))) fun x16 h17 => EvI.use h17.1 ⟨_, rfl, h17.2⟩)⟩⟩⟩⟩⟩⟩⟩⟩⟩⟩)⟩⟩)⟩⟩⟩)⟩⟩⟩⟩⟩⟩)⟩⟩)⟩⟩, fun e7 => ⟨_, rfl, ((h.2.2 h4 h5).2 ((bi_nn e7)))⟩⟩)⟩)⟩)⟩
set_option maxRecDepth 100000 in
theorem s_1605 (d : Nat) (X : XS) (i : Nat → Nat → Int32) (j : Nat → Nat → Int64) (a1 : Int32) (a2 : Int32) (a3 : Int32) (K : Int32 → AM → Prop) (h : ((¬ ((nI 0) ≤ a1 ∧ a1 ≤ ((i 42 18) - (nI 1))) → K (kI (-1)) (mm X (s2 i 42 36 (nI 0)) j)) ∧ ((nI 0) ≤ a1 ∧ a1 ≤ ((i 42 18) - (nI 1)) → ((((nI 1) ≤ a2 ∧ a2 ≤ (nI 3)) ∧ ((nI 1) ≤ a3 ∧ a3 ≤ (nI 9)) → (∃ (i3 : Nat → Nat → Int32), EvV (d + 261) 1589 [.ref 42, .int (nI 0), .int a2, .int a3] (mm X (s2 i 42 36 (nI 0)) j) (mm X i3 j) ∧ (∃ (x4 : Int32), EvI (d + 260) 1603 [.ref 42, .int a1, .int (nI 1), .int (nI 0), .int (i3 42 46)] (mm X i3 j) x4 (mm X i3 j) ∧ (∃ (x5 : Int32), EvI (d + 260) 1603 [.ref 42, .int a1, .int (nI 0), .int (nI 0), .int (i3 42 46)] (mm X i3 j) x5 (mm X i3 j) ∧ ((x5 ≤ x4 → (∃ (x8 : Int32), EvI (d + 261) 1603 [.ref 42, .int a1, .int (nI 0), .int (nI 0), .int (i3 42 46)] (mm X (s2 (s2 i3 42 35 (nI 0)) 42 35 (nI 1)) (s2 j 70 0 (Int64.ofNat 0))) x8 (mm X (s2 (s2 i3 42 35 (nI 0)) 42 35 (nI 1)) (s2 j 70 0 (Int64.ofNat 0))) ∧ K x8 (mm X (s2 (s2 i3 42 35 (nI 0)) 42 35 (nI 1)) (s2 j 70 0 (Int64.ofNat 0))))) ∧ (¬ (x5 ≤ x4) → (∃ (x12 : Int32), EvI (d + 261) 1603 [.ref 42, .int a1, .int (nI 1), .int (nI 0), .int (i3 42 46)] (mm X (s2 (s2 i3 42 35 (nI 0)) 42 35 (nI 1)) (s2 j 70 0 (Int64.ofNat 1))) x12 (mm X (s2 (s2 i3 42 35 (nI 0)) 42 35 (nI 1)) (s2 j 70 0 (Int64.ofNat 1))) ∧ K x12 (mm X (s2 (s2 i3 42 35 (nI 0)) 42 35 (nI 1)) (s2 j 70 0 (Int64.ofNat 1)))))))))) ∧ (¬ (((nI 1) ≤ a2 ∧ a2 ≤ (nI 3)) ∧ ((nI 1) ≤ a3 ∧ a3 ≤ (nI 9))) → K (kI (-1)) (mm X (s2 i 42 36 (nI 0)) j)))))) : WI (d + 262) 1605 [.ref 42, .int a1, .int a2, .int a3] (mm X i j) K := te_1605 (d + 261) 42 a1 a2 a3 (mm X i j) (qI K) ⟨rfl, ⟨rfl, (te_1547 (d + 260) 42 a1 (mm X (s2 i 42 36 (nI 0)) j) _ ⟨rfl, (p_1538 (d + 260) X (s2 i 42 36 (nI 0)) j a1 (nI 0) ((i 42 18) - (nI 1)) _ ⟨(bi_01 _), ⟨_, rfl, ⟨fun e1 => ⟨_, rfl, (h.1 ((bi_z e1)))⟩, fun e1 => (p_1588 (d + 260) X (s2 i 42 36 (nI 0)) j a2 a3 _ ⟨fun e2 => ⟨rfl, (Exists.elim ((h.2 ((bi_n e1))).1 ((bi_n e2))) fun i3 h19 => EvV.use h19.1 ⟨rfl, ⟨rfl, (te_1604 (d + 260) 42 a1 (nI 0) (i3 42 46) (mm X i3 j) _ ⟨rfl, (Exists.elim h19.2 fun x4 h17 => EvI.use h17.1 ⟨rfl, (Exists.elim h17.2 fun x5 h15 => EvI.use h15.1 ⟨fun e6 => ⟨k0_01, ⟨_, rfl, ⟨rfl, ⟨fun _ => ⟨rfl, (te_1540 (d + 261) 42 (Int64.ofNat 0) (mm X (s2 i3 42 35 (nI 0)) j) _ ⟨rfl, ⟨rfl, ⟨⟨rfl, (vpk 0 32 rfl)⟩, ⟨rfl, ⟨rfl, ⟨rfl, (tc_1605_61 (d + 261) 42 a1 (nI 0) (mm X (s2 (s2 i3 42 35 (nI 0)) 42 35 (nI 1)) (s2 j 70 0 (Int64.ofNat 0))) _ ⟨rfl, ⟨rfl, (Exists.elim (h15.2.1 (e6)) fun x8 h9 => EvI.use h9.1 ⟨_, rfl, h9.2⟩)⟩⟩)⟩⟩⟩⟩⟩⟩)⟩, fun e7 => absurd (show (nI 0) = 0 by decide) e7⟩⟩⟩⟩, fun e6 => ⟨k1_01, ⟨_, rfl, ⟨rfl, ⟨fun e11 => absurd e11 (show ¬ ((nI 1) = 0) by decide), fun _ => ⟨rfl, (te_1540 (d + 261) 42 (Int64.ofNat 1) (mm X (s2 i3 42 35 (nI 0)) j) _ ⟨rfl, ⟨rfl, ⟨⟨rfl, (vpk 0 32 rfl)⟩, ⟨rfl, ⟨rfl, ⟨rfl, (tc_1605_61 (d + 261) 42 a1 (nI 1) (mm X (s2 (s2 i3 42 35 (nI 0)) 42 35 (nI 1)) (s2 j 70 0 (Int64.ofNat 1))) _ ⟨rfl, ⟨rfl, (Exists.elim (h15.2.2 (e6)) fun x12 h13 => EvI.use h13.1 ⟨_, rfl, h13.2⟩)⟩⟩)⟩⟩⟩⟩⟩⟩)⟩⟩⟩⟩⟩⟩)⟩)⟩)⟩⟩)⟩, fun e2 => ⟨_, rfl, ((h.2 ((bi_n e1))).2 ((bi_nn e2)))⟩⟩)⟩⟩⟩)⟩)⟩⟩
theorem k_26 (d : Nat) {X : XS} {i : Nat → Nat → Int32} {j : Nat → Nat → Int64} (h : Rel X i j) (a1 a2 a3 : Int32) {Kf : AM → Prop} (hK : Nx X Kf) : WI (d + 300) 1435 [.ref 2, .int a1, .int a2, .int a3] (mm X i j) (fun x1 M1 => WI (d + 300) 1605 [.ref 42, .int a1, .int a2, .int a3] M1 (fun x2 M2 => x1 = x2 ∧ Kf M2)) := by
  have ht := hK.th h
  have hrel := h
  obtain ⟨hx, ⟨⟨n, h0⟩, h1, ⟨ng, h2, no, h4⟩, ⟨tn, h3⟩, ⟨np, h5⟩, h6, ns, h7⟩, h8, hz⟩ := h
  have e1 := h5.2.1
  have e2 := h5.2.2.1
  have hnp := h5.1
  have hn := h0.2.1.1.2
  refine s_1435 _ X i j a1 a2 a3 _ ⟨h5.ps, ?_, ?_⟩
  · rw [e1]
    exact fun z => s_1605 _ X i j _ _ _ _ (bq_t (by rw [e2]; exact z) ⟨rfl, ht⟩)
  rw [e1]
  intro z hO
  have z2 : nI 0 ≤ a1 ∧ a1 ≤ i 42 18 - nI 1 := by rw [e2]; exact z
  obtain ⟨p, hp, rfl⟩ := idx_of (by omega) z
  rw [tc_nI (by omega)] at hO ⊢
  obtain ⟨-, hPT, ⟨q0, q1, q2, q3, q4⟩, ⟨c, l, s, st, hc, hl, hs, hst, b0, b1, b2, b3⟩, b4⟩ := h5.2.2.2 p hp

  refine br_c (fun v => ?_) (fun v => s_1605 _ X i j _ _ _ _ (bq_f z2 (br_f v ⟨rfl, ht⟩)))
  obtain ⟨q, hq1, hq, rfl⟩ := ev_rng (by decide) v.2
  obtain ⟨i1, hE1, f1, z1, r40, hL, hS⟩ := lov 0 X i j h0 h2 h4 hz (nI 0) a2 hq
  refine ⟨i1, hE1.up (by omega), ?_⟩
  rw [hS.1]
  have f40 : ∀ v, ∀ b, b ≠ 40 → (s2 i1 40 1 v) b = i1 b := fun v b hb => s2_ne hb
  have hPn := xtNe hPT
  have hS2 := fun v => hS.kp (f40 v 31 (by decide)) (f40 v 32 (by decide)) (f40 v 33 (by decide))
  have hE2 := c_775 0 X (s2 i1 40 1 (nI 0)) j _ hO (hS2 _) (Nat.le_refl _)
  rw [f40 _ _ (by omega), kpP f1.kp hPT, q0, q1, q2] at hE2
  refine ⟨_, hE2.up (by omega), ?_⟩
  obtain ⟨ca, hca⟩ : ∃ ca, ca = caF i n a2 q := ⟨_, rfl⟩
  rw [← hca] at hS hS2 ⊢
  have main : ∀ i3 j3 (b : Nat), (∀ b, b ≠ 40 → i3 b = i1 b) → i3 40 1 = nI 1 → j3 70 = j 70 → j3 41 0 = Int64.ofNat b → (saP (i 57 p) (i 58 p) (i 59 p) (nI (n - q)) (nI (ct ca (n - q))) ∧ b = 1 ∨ ¬ saP (i 57 p) (i 58 p) (i 59 p) (nI (n - q)) (nI (ct ca (n - q))) ∧ b = 0) → ∃ x, EvI (d + 299) 776 [.ref 31, .ref (xr X 24 p)] (mm X i3 j3) x (mm X i3 j3) ∧ WI (d + 300) 1605 [.ref 42, .int (nI p), .int a2, .int (nI q)] (mm X i3 j3) (fun x2 M2 => x = x2 ∧ Kf M2) := by
    intro i3 j3 b f3 g40 g70 g41 hb
    have hE3 := c_776 0 X i3 j3 _ hO (hS.kp (f3 31 (by decide)) (f3 32 (by decide)) (f3 33 (by decide)))
    rw [f3 _ (by omega), kpP f1.kp hPT, q0, q1, q2] at hE3
    refine ⟨_, hE3.up (by omega), ?_⟩
    have F : FrC X i i3 := f1.tr (FrC_40 f3)
    have Z : RZ i3 := RZ_of z1 (f3 34 (by decide)) (f3 35 (by decide))
    have g42 : i3 42 = i 42 := by rw [f3 42 (by decide), f1 42 (Or.inl (show 0 < 10 by decide))]
    refine s_1605 _ X i3 j3 _ _ _ _ (bq_f (by rw [g42]; exact z2) (br_t v ?_))
    obtain ⟨i4, hE4, f4, -, p46, -, -, -, p73⟩ := prpv 0 X i (s2 i3 42 36 (nI 0)) j3 h0 h2 h4 (F.kp.tr (FrR_th (X := X) (nI 0)).kp) (nI 0) a2 hq
    rw [← hca] at p73
    refine ⟨i4, hE4.up (by omega), ?_⟩
    rw [p46]
    have k4 : Kp X i i4 := F.kp.tr ((FrR_th (nI 0)).tr f4.fr).kp
    obtain ⟨w57, w58, w59, -, -⟩ := p57 k4
    have c1 := cb_1603 0 X i4 j3 (p := p) (by omega) bT (by omega) p73
    have c2 := cb_1603 0 X i4 j3 (p := p) (by omega) bF (by omega) p73
    rw [w57, w58, w59] at c1 c2
    refine ⟨_, c1.up (by omega), _, c2.up (by omega), ?_⟩
    rw [saN]
    obtain ⟨i5, hi5⟩ : ∃ i5, i5 = s2 (s2 i4 42 35 (nI 0)) 42 35 (nI 1) := ⟨_, rfl⟩
    rw [← hi5]
    have f5 : ∀ b, b ≠ 42 → i5 b = i4 b := fun b hb => by rw [hi5, s2_ne hb, s2_ne hb]
    have r8 : ∀ b', b' = b → R8 i5 (s2 j3 70 0 (Int64.ofNat b')) := by
      intro b' hb'
      subst hb'
      refine r8_of 1 (by decide) ?_ (by rw [hi5, s2_self]) ?_
      · rw [f5 40 (by decide), f4.1 40 (show ¬ (48 : Nat) = 40 by decide) (by decide), s2_ne (show 40 ≠ 42 by decide)]; exact g40
      · intro y hy
        have : y = 0 := by omega
        subst this
        rw [s2_self, s2_ne (show 41 ≠ 70 by decide), g41]
    have fin : ∀ b', b' = b → Kf (mm X i5 (s2 j3 70 0 (Int64.ofNat b'))) := fun b' hb' => hK.k (fin_row hrel F Z (((FrR_th (nI 0)).tr f4.fr).tr (FrR_42 f5 (fun k hk => by rw [hi5, s2_ne2 (by omega), s2_ne2 (by omega)]))) (r8 b' hb'))
    have d1 := fun b' => cb_1603 0 X i5 (s2 j3 70 0 (Int64.ofNat b')) (p := p) (kn := n - q) (ca := ca) (by omega) bT (by omega) (fun t ht => by rw [f5 73 (by decide)]; exact p73 t ht)
    have d2 := fun b' => cb_1603 0 X i5 (s2 j3 70 0 (Int64.ofNat b')) (p := p) (kn := n - q) (ca := ca) (by omega) bF (by omega) (fun t ht => by rw [f5 73 (by decide)]; exact p73 t ht)
    rw [f5 57 (by decide), f5 58 (by decide), f5 59 (by decide), w57, w58, w59] at d1 d2
    rcases hb with ⟨hb, e⟩ | ⟨hb, e⟩
    · exact br_f (fun y => y hb) ⟨_, (d1 1).up (by omega), blT hb, fin 1 e.symm⟩
    · exact br_t hb ⟨_, (d2 0).up (by omega), blF hb, fin 0 e.symm⟩
  obtain ⟨i3, hi3⟩ : ∃ i3, i3 = s2 (s2 i1 40 1 (nI 0)) 40 1 (nI 1) := ⟨_, rfl⟩
  rw [← hi3]
  have f3 : ∀ b, b ≠ 40 → i3 b = i1 b := fun b hb => by rw [hi3, s2_ne hb, s2_ne hb]
  refine bq_c (fun y => main i3 _ 0 f3 (by rw [hi3, s2_self]) (s2_ne (by decide)) (s2_self _ _ _ _) (Or.inr ⟨y, rfl⟩)) (fun y => main i3 _ 1 f3 (by rw [hi3, s2_self]) (s2_ne (by decide)) (s2_self _ _ _ _) (Or.inl ⟨y, rfl⟩))
set_option maxRecDepth 100000 in
theorem s_1436 (d : Nat) (X : XS) (i : Nat → Nat → Int32) (j : Nat → Nat → Int64) (a1 : Int32) (a2 : Int32) (a3 : Int32) (a4 : Int32) (K : Int32 → AM → Prop) (h : (PSs X i) ∧ ((¬ ((nI 0) ≤ a1 ∧ a1 ≤ ((i 2 9) - (nI 1)))) → K (kI (-1)) (mm X i j)) ∧ (((nI 0) ≤ a1 ∧ a1 ≤ ((i 2 9) - (nI 1))) → (PO X (xr X 24 (a1.toNatClampNeg))) → ((¬ ((nI 1) ≤ a2 ∧ a2 ≤ ((shlI (nI 1) (i 2 7)) - (nI 1))) → K (kI (-1)) (mm X i j)) ∧ ((nI 1) ≤ a2 ∧ a2 ≤ ((shlI (nI 1) (i 2 7)) - (nI 1)) → ((((nI 1) ≤ a3 ∧ a3 ≤ (nI 3)) ∧ ((nI 1) ≤ a4 ∧ a4 ≤ (nI 9)) → (∃ (i9 : Nat → Nat → Int32), EvV (d + 4) 1476 [.ref 2, .ref 9, .int a2, .int a3, .int a4] (mm X i j) (mm X i9 j) ∧ (∃ (x11 : Int32), ∃ (i10 : Nat → Nat → Int32), EvI (d + 4) 781 [.ref 31, .ref (xr X 24 (a1.toNatClampNeg)), .int a2] (mm X i9 j) x11 (mm X i10 j) ∧ (∃ (x14 : Int32), EvI (d + 4) 776 [.ref 31, .ref (xr X 24 (a1.toNatClampNeg))] (mm X (s2 (s2 (s2 i10 40 1 (nI 0)) 40 1 (nI 1)) 40 1 (nI 2)) (s2 (s2 j 41 0 (x11.toInt64)) 41 1 ((i10 31 5).toInt64))) x14 (mm X (s2 (s2 (s2 i10 40 1 (nI 0)) 40 1 (nI 1)) 40 1 (nI 2)) (s2 (s2 j 41 0 (x11.toInt64)) 41 1 ((i10 31 5).toInt64))) ∧ K (x14 - x11) (mm X (s2 (s2 (s2 i10 40 1 (nI 0)) 40 1 (nI 1)) 40 1 (nI 2)) (s2 (s2 j 41 0 (x11.toInt64)) 41 1 ((i10 31 5).toInt64))))))) ∧ (¬ (((nI 1) ≤ a3 ∧ a3 ≤ (nI 3)) ∧ ((nI 1) ≤ a4 ∧ a4 ≤ (nI 9))) → K (kI (-1)) (mm X i j))))))) : WI (d + 5) 1436 [.ref 2, .int a1, .int a2, .int a3, .int a4] (mm X i j) K := te_1436 (d + 4) 2 a1 a2 a3 a4 (mm X i j) (qI K) ⟨rfl, (p_1469 (d + 3) X i j a1 _ ⟨h.1, (fun h2 => ⟨fun _ => ⟨_, rfl, (h.2.1 h2)⟩, fun e3 => absurd rfl e3⟩), (fun h4 h5 => ⟨fun e6 => absurd e6 (nz_k (h5)), fun _ => ⟨rfl, (te_1470 (d + 3) 2 a2 (mm X i j) _ ⟨rfl, (p_1462 (d + 3) X i j a2 (nI 1) ((shlI (nI 1) (i 2 7)) - (nI 1)) _ ⟨(bi_01 _), ⟨_, rfl, ⟨fun e7 => ⟨_, rfl, ((h.2.2 h4 h5).1 ((bi_z e7)))⟩, fun e7 => (p_1464 (d + 3) X i j a3 a4 _ ⟨fun e8 => ⟨rfl, ⟨rfl, (Exists.elim (((h.2.2 h4 h5).2 ((bi_n e7))).1 ((bi_n e8))) fun i9 h20 => EvV.use h20.1 ⟨rfl, ⟨rfl, (Exists.elim h20.2 fun x11 h17 => Exists.elim h17 fun i10 h18 => EvI.use h18.1 ⟨rfl, ⟨rfl, (te_641 (d + 4) 40 (mm X i10 j) _ ⟨rfl, ⟨rfl, ⟨rfl, ⟨rfl, (te_642 (d + 4) 40 (x11.toInt64) (mm X (s2 i10 40 1 (nI 0)) j) _ ⟨rfl, ⟨fun e12 => absurd e12 (show ¬ ((nI 20) ≤ (nI 0)) by decide), fun _ => ⟨rfl, ⟨rfl, ⟨⟨rfl, (vpk 0 20 rfl)⟩, ⟨rfl, ⟨rfl, ⟨rfl, ⟨rfl, ⟨rfl, ⟨rfl, (te_778 (d + 4) 31 (mm X (s2 (s2 i10 40 1 (nI 0)) 40 1 (nI 1)) (s2 j 41 0 (x11.toInt64))) _ ⟨rfl, ⟨_, rfl, ⟨rfl, (te_642 (d + 4) 40 ((i10 31 5).toInt64) (mm X (s2 (s2 i10 40 1 (nI 0)) 40 1 (nI 1)) (s2 j 41 0 (x11.toInt64))) _ ⟨rfl, ⟨fun e13 => absurd e13 (show ¬ ((nI 20) ≤ (nI 1)) by decide), fun _ => ⟨rfl, ⟨rfl, ⟨⟨rfl, (vpk 1 20 rfl)⟩, ⟨rfl, ⟨rfl, ⟨rfl, ⟨rfl, ⟨rfl, (Exists.elim h18.2 fun x14 h15 => EvI.use h15.1 ⟨_, rfl, h15.2⟩)⟩⟩⟩⟩⟩⟩⟩⟩⟩⟩)⟩⟩⟩)⟩⟩⟩⟩⟩⟩⟩⟩⟩⟩⟩)⟩⟩⟩⟩)⟩⟩)⟩⟩)⟩⟩, fun e8 => ⟨_, rfl, (((h.2.2 h4 h5).2 ((bi_n e7))).2 ((bi_nn e8)))⟩⟩)⟩⟩⟩)⟩)⟩⟩)⟩)⟩
set_option maxRecDepth 100000 in
theorem s_1610 (d : Nat) (X : XS) (i : Nat → Nat → Int32) (j : Nat → Nat → Int64) (a1 : Int32) (a2 : Int32) (a3 : Int32) (a4 : Int32) (K : Int32 → AM → Prop) (h : ((¬ ((nI 0) ≤ a1 ∧ a1 ≤ ((i 42 18) - (nI 1))) → K (kI (-1)) (mm X (s2 i 42 36 (nI 0)) j)) ∧ ((nI 0) ≤ a1 ∧ a1 ≤ ((i 42 18) - (nI 1)) → ((¬ ((nI 1) ≤ a2 ∧ a2 ≤ ((shlI (nI 1) (i 42 14)) - (nI 1))) → K (kI (-1)) (mm X (s2 i 42 36 (nI 0)) j)) ∧ ((nI 1) ≤ a2 ∧ a2 ≤ ((shlI (nI 1) (i 42 14)) - (nI 1)) → ((((nI 1) ≤ a3 ∧ a3 ≤ (nI 3)) ∧ ((nI 1) ≤ a4 ∧ a4 ≤ (nI 9)) → (∃ (i4 : Nat → Nat → Int32), EvV (d + 261) 1589 [.ref 42, .int a2, .int a3, .int a4] (mm X (s2 i 42 36 (nI 0)) j) (mm X i4 j) ∧ (∃ (x5 : Int32), EvI (d + 259) 1603 [.ref 42, .int a1, .int (nI 1), .int (nI 0), .int (i4 42 46)] (mm X i4 j) x5 (mm X i4 j) ∧ (∃ (x6 : Int32), EvI (d + 259) 1603 [.ref 42, .int a1, .int (nI 0), .int (nI 0), .int (i4 42 46)] (mm X i4 j) x6 (mm X i4 j) ∧ ((x6 ≤ x5 → (∃ (x8 : Int32), EvI (d + 260) 1603 [.ref 42, .int a1, .int (nI 0), .int (nI 0), .int (i4 42 46)] (mm X i4 j) x8 (mm X i4 j) ∧ (∃ (x10 : Int32), ∃ (i9 : Nat → Nat → Int32), EvI (d + 260) 1607 [.ref 42, .int a1, .int a2] (mm X i4 j) x10 (mm X i9 j) ∧ (∃ (x12 : Int32), ∃ (i11 : Nat → Nat → Int32), EvI (d + 261) 1607 [.ref 42, .int a1, .int a2] (mm X (s2 i9 42 35 (nI 0)) j) x12 (mm X i11 j) ∧ (vp_in (i11 42 35) 32) ∧ (vp_in ((i11 42 35) + (nI 1)) 32) ∧ K (x8 - x10) (mm X (s2 (s2 i11 42 35 ((i11 42 35) + (nI 1))) 42 35 (((i11 42 35) + (nI 1)) + (nI 1))) (s2 (s2 j 70 ((i11 42 35).toNatClampNeg) (x12.toInt64)) 70 (((i11 42 35) + (nI 1)).toNatClampNeg) ((i11 42 48).toInt64))))))) ∧ (¬ (x6 ≤ x5) → (∃ (x21 : Int32), EvI (d + 260) 1603 [.ref 42, .int a1, .int (nI 1), .int (nI 0), .int (i4 42 46)] (mm X i4 j) x21 (mm X i4 j) ∧ (∃ (x23 : Int32), ∃ (i22 : Nat → Nat → Int32), EvI (d + 260) 1607 [.ref 42, .int a1, .int a2] (mm X i4 j) x23 (mm X i22 j) ∧ (∃ (x25 : Int32), ∃ (i24 : Nat → Nat → Int32), EvI (d + 261) 1607 [.ref 42, .int a1, .int a2] (mm X (s2 i22 42 35 (nI 0)) j) x25 (mm X i24 j) ∧ (vp_in (i24 42 35) 32) ∧ (vp_in ((i24 42 35) + (nI 1)) 32) ∧ K (x21 - x23) (mm X (s2 (s2 i24 42 35 ((i24 42 35) + (nI 1))) 42 35 (((i24 42 35) + (nI 1)) + (nI 1))) (s2 (s2 j 70 ((i24 42 35).toNatClampNeg) (x25.toInt64)) 70 (((i24 42 35) + (nI 1)).toNatClampNeg) ((i24 42 48).toInt64)))))))))))) ∧ (¬ (((nI 1) ≤ a3 ∧ a3 ≤ (nI 3)) ∧ ((nI 1) ≤ a4 ∧ a4 ≤ (nI 9))) → K (kI (-1)) (mm X (s2 i 42 36 (nI 0)) j)))))))) : WI (d + 262) 1610 [.ref 42, .int a1, .int a2, .int a3, .int a4] (mm X i j) K := te_1610 (d + 261) 42 a1 a2 a3 a4 (mm X i j) (qI K) ⟨rfl, ⟨rfl, (te_1547 (d + 260) 42 a1 (mm X (s2 i 42 36 (nI 0)) j) _ ⟨rfl, (p_1538 (d + 260) X (s2 i 42 36 (nI 0)) j a1 (nI 0) ((i 42 18) - (nI 1)) _ ⟨(bi_01 _), ⟨_, rfl, ⟨fun e1 => ⟨_, rfl, (h.1 ((bi_z e1)))⟩, fun e1 => ⟨rfl, (te_1609 (d + 260) 42 a2 (mm X (s2 i 42 36 (nI 0)) j) _ ⟨rfl, (p_1538 (d + 260) X (s2 i 42 36 (nI 0)) j a2 (nI 1) ((shlI (nI 1) (i 42 14)) - (nI 1)) _ ⟨(bi_01 _), ⟨_, rfl, ⟨fun e2 => ⟨_, rfl, ((h.2 ((bi_n e1))).1 ((bi_z e2)))⟩, fun e2 => (p_1588 (d + 260) X (s2 i 42 36 (nI 0)) j a3 a4 _ ⟨fun e3 => ⟨rfl, (Exists.elim (((h.2 ((bi_n e1))).2 ((bi_n e2))).1 ((bi_n e3))) fun i4 h38 => EvV.use h38.1 ⟨rfl, (te_1608 (d + 260) 42 a1 a2 (mm X i4 j) _ ⟨rfl, ⟨rfl, (te_1604 (d + 259) 42 a1 (nI 0) (i4 42 46) (mm X i4 j) _ ⟨rfl, (Exists.elim h38.2 fun x5 h36 => EvI.use h36.1 ⟨rfl, (Exists.elim h36.2 fun x6 h34 => EvI.use h34.1 ⟨fun e7 => ⟨k0_01, ⟨_, rfl, ⟨rfl, ⟨rfl, (Exists.elim (h34.2.1 (e7)) fun x8 h19 => EvI.use h19.1 ⟨rfl, (Exists.elim h19.2 fun x10 h16 => Exists.elim h16 fun i9 h17 => EvI.use h17.1 ⟨_, rfl, ⟨rfl, ⟨rfl, (Exists.elim h17.2 fun x12 h13 => Exists.elim h13 fun i11 h14 => EvI.use h14.1 ⟨rfl, (te_1540 (d + 261) 42 (x12.toInt64) (mm X i11 j) _ ⟨rfl, ⟨rfl, ⟨⟨rfl, h14.2.1⟩, ⟨rfl, ⟨rfl, ⟨rfl, ⟨rfl, ⟨rfl, (te_1540 (d + 261) 42 ((i11 42 48).toInt64) (mm X (s2 i11 42 35 ((i11 42 35) + (nI 1))) (s2 j 70 ((i11 42 35).toNatClampNeg) (x12.toInt64))) _ ⟨rfl, ⟨rfl, ⟨⟨rfl, h14.2.2.1⟩, ⟨rfl, ⟨rfl, ⟨rfl, ⟨_, rfl, h14.2.2.2⟩⟩⟩⟩⟩⟩⟩)⟩⟩⟩⟩⟩⟩⟩⟩)⟩)⟩⟩⟩)⟩)⟩⟩⟩⟩, fun e7 => ⟨k1_01, ⟨_, rfl, ⟨rfl, ⟨rfl, (Exists.elim (h34.2.2 (e7)) fun x21 h32 => EvI.use h32.1 ⟨rfl, (Exists.elim h32.2 fun x23 h29 => Exists.elim h29 fun i22 h30 => EvI.use h30.1 ⟨_, rfl, ⟨rfl, ⟨rfl, (Exists.elim h30.2 fun x25 h26 => Exists.elim h26 fun i24 h27 => EvI.use h27.1 ⟨rfl, (te_1540 (d + 261) 42 (x25.toInt64) (mm X i24 j) _ ⟨rfl, ⟨rfl, ⟨⟨rfl, h27.2.1⟩, ⟨rfl, ⟨rfl, ⟨rfl, ⟨rfl, ⟨rfl, (te_1540 (d + 261) 42 ((i24 42 48).toInt64) (mm X (s2 i24 42 35 ((i24 42 35) + (nI 1))) (s2 j 70 ((i24 42 35).toNatClampNeg) (x25.toInt64))) _ ⟨rfl, ⟨rfl, ⟨⟨rfl, h27.2.2.1⟩, ⟨rfl, ⟨rfl, ⟨rfl, ⟨_, rfl, h27.2.2.2⟩⟩⟩⟩⟩⟩⟩)⟩⟩⟩⟩⟩⟩⟩⟩)⟩)⟩⟩⟩)⟩)⟩⟩⟩⟩⟩)⟩)⟩)⟩⟩)⟩)⟩, fun e3 => ⟨_, rfl, (((h.2 ((bi_n e1))).2 ((bi_n e2))).2 ((bi_nn e3)))⟩⟩)⟩⟩⟩)⟩)⟩⟩⟩⟩)⟩)⟩⟩
theorem k_27 (d : Nat) {X : XS} {i : Nat → Nat → Int32} {j : Nat → Nat → Int64} (h : Rel X i j) (a1 a2 a3 a4 : Int32) {Kf : AM → Prop} (hK : Nx X Kf) : WI (d + 300) 1436 [.ref 2, .int a1, .int a2, .int a3, .int a4] (mm X i j) (fun x1 M1 => WI (d + 300) 1610 [.ref 42, .int a1, .int a2, .int a3, .int a4] M1 (fun x2 M2 => x1 = x2 ∧ Kf M2)) := by
  have ht := hK.th h
  have hrel := h
  obtain ⟨hx, ⟨⟨n, h0⟩, h1, ⟨ng, h2, no, h4⟩, ⟨tn, h3⟩, ⟨np, h5⟩, h6, ns, h7⟩, h8, hz⟩ := h
  have e1 := h5.2.1
  have e2 := h5.2.2.1
  have hnp := h5.1
  have hn := h0.2.1.1.2
  refine s_1436 _ X i j a1 a2 a3 a4 _ ⟨h5.ps, ?_, ?_⟩
  · rw [e1]
    exact fun z => s_1610 _ X i j _ _ _ _ _ (bq_t (by rw [e2]; exact z) ⟨rfl, ht⟩)
  rw [e1]
  intro z hO
  have z2 : nI 0 ≤ a1 ∧ a1 ≤ i 42 18 - nI 1 := by rw [e2]; exact z
  obtain ⟨p, hp, rfl⟩ := idx_of (by omega) z
  rw [tc_nI (by omega)] at hO ⊢
  obtain ⟨-, hPT, ⟨q0, q1, q2, q3, q4⟩, ⟨c, l, s, st, hc, hl, hs, hst, b0, b1, b2, b3⟩, b4⟩ := h5.2.2.2 p hp

  have g2 : i 2 7 = i 42 14 := by rw [h4.2.1, h4.2.2.1]
  refine bq_c (fun y => s_1610 _ X i j _ _ _ _ _ (bq_f z2 (bq_t (by rw [← g2]; exact y) ⟨rfl, ht⟩))) (fun y => ?_)
  have y2 : nI 1 ≤ a2 ∧ a2 ≤ shlI (nI 1) (i 42 14) - nI 1 := by rw [← g2]; exact y
  refine br_c (fun v => ?_) (fun v => s_1610 _ X i j _ _ _ _ _ (bq_f z2 (bq_f y2 (br_f v ⟨rfl, ht⟩))))
  obtain ⟨q, hq1, hq, rfl⟩ := ev_rng (by decide) v.2
  obtain ⟨i1, hE1, f1, z1, r40, hL, hS⟩ := lov 0 X i j h0 h2 h4 hz a2 a3 hq
  refine ⟨i1, hE1.up (by omega), ?_⟩
  have hPn := xtNe hPT
  have hB : SB (n - q) (soF X i no a2) := soF_B h4.1 a2
  obtain ⟨ca, hca⟩ : ∃ ca, ca = caF i n a3 q := ⟨_, rfl⟩
  obtain ⟨so, hso⟩ : ∃ so, so = soF X i no a2 := ⟨_, rfl⟩
  rw [← hca, ← hso] at hS
  rw [← hso] at hB
  obtain ⟨i2, hE2, g31, g5, g55, z3⟩ := c_781 0 X i1 j _ hO (by omega) hS hB z1 a2
  rw [kpP f1.kp hPT, q0, q1, q2] at hE2
  refine ⟨_, i2, hE2.up (by omega), ?_⟩
  rw [g55]
  obtain ⟨i3, hi3⟩ : ∃ i3, i3 = s2 (s2 (s2 i2 40 1 (nI 0)) 40 1 (nI 1)) 40 1 (nI 2) := ⟨_, rfl⟩
  rw [← hi3]
  have f3 : ∀ b, b ≠ 40 → i3 b = i2 b := fun b hb => by rw [hi3, s2_ne hb, s2_ne hb, s2_ne hb]
  obtain ⟨j3, hj3⟩ : ∃ j3, j3 = s2 (s2 j 41 0 (byS (i 57 p) (i 58 p) (i 59 p) so ca a2 (n - q) (n - q)).toInt64) 41 1 (nI (ct (fst1 so a2) (n - q))).toInt64 := ⟨_, rfl⟩
  rw [← hj3]
  have hS2 : SV i2 (n - q) so ca := ⟨by rw [g5 2 (by decide)]; exact hS.1, hS.2.1, fun t ht => by rw [g31 32 (by decide) (by decide) (by decide), g31 33 (by decide) (by decide) (by decide)]; exact hS.2.2 t ht⟩
  have hE3 := c_776 0 X i3 j3 _ hO (hS2.kp (f3 31 (by decide)) (f3 32 (by decide)) (f3 33 (by decide)))
  rw [f3 _ (by omega), g31 _ (by omega) (by omega) (by omega), kpP f1.kp hPT, q0, q1, q2] at hE3
  refine ⟨_, hE3.up (by omega), ?_⟩
  have F2 : FrC X i i2 := f1.tr (FrC_sv g31)
  have F : FrC X i i3 := F2.tr (FrC_40 f3)
  have Z : RZ i3 := RZ_of z3 (f3 34 (by decide)) (f3 35 (by decide))
  have g42 : i3 42 = i 42 := F 42 (Or.inl (show 0 < 10 by decide))
  refine s_1610 _ X i3 j3 _ _ _ _ _ (bq_f (by rw [g42]; exact z2) (bq_f (by rw [g42]; exact y2) (br_t v ?_)))
  obtain ⟨i4, hE4, f4, -, p46, -, -, p72, p73⟩ := prpv 0 X i (s2 i3 42 36 (nI 0)) j3 h0 h2 h4 (F.kp.tr (FrR_th (X := X) (nI 0)).kp) a2 a3 hq
  rw [← hca] at p73
  rw [← hso] at p72
  refine ⟨i4, hE4.up (by omega), ?_⟩
  have k4 : Kp X i i4 := F.kp.tr ((FrR_th (nI 0)).tr f4.fr).kp
  obtain ⟨w57, w58, w59, -, -⟩ := p57 k4
  have c1 := cb_1603 0 X i4 j3 (p := p) (by omega) bT (by omega) p73
  have c2 := cb_1603 0 X i4 j3 (p := p) (by omega) bF (by omega) p73
  rw [w57, w58, w59] at c1 c2
  have c3 := c_1607 0 X i4 j3 (p := p) (by omega) (by omega) p46 (fun t ht => p72 t (by omega)) p73 a2
  obtain ⟨A, hA⟩ : ∃ A, A = nI (ct (fst1 so a2) (n - q)) := ⟨_, rfl⟩
  obtain ⟨i5, hi5⟩ : ∃ i5, i5 = s2 (s2 i4 42 48 A) 42 35 (nI 0) := ⟨_, rfl⟩
  have f5 : ∀ b, b ≠ 42 → i5 b = i4 b := fun b hb => by rw [hi5, s2_ne hb, s2_ne hb]
  have c4 := c_1607 0 X i5 j3 (p := p) (so := so) (ca := ca) (n := n - q) (by omega) (by omega) (by rw [hi5, s2_ne2 (by decide), s2_ne2 (by decide)]; exact p46) (fun t ht => by rw [f5 72 (by decide)]; exact p72 t (by omega)) (fun t ht => by rw [f5 73 (by decide)]; exact p73 t ht) a2
  rw [f5 57 (by decide), f5 58 (by decide), f5 59 (by decide)] at c4
  rw [w57, w58, w59] at c3 c4
  rw [← hA] at c3 c4
  rw [p46]
  refine ⟨_, c1.up (by omega), _, c2.up (by omega), ?_⟩
  rw [saN]
  have h35 : (s2 i5 42 48 A) 42 35 = nI 0 := by rw [s2_ne2 (by decide), hi5, s2_self]
  have h48 : (s2 i5 42 48 A) 42 48 = A := s2_self _ _ _ _
  have last : Kf (mm X (s2 (s2 (s2 i5 42 48 A) 42 35 ((s2 i5 42 48 A) 42 35 + nI 1)) 42 35 ((s2 i5 42 48 A) 42 35 + nI 1 + nI 1)) (s2 (s2 j3 70 ((s2 i5 42 48 A) 42 35).toNatClampNeg (byS (i 57 p) (i 58 p) (i 59 p) so ca a2 (n - q) (n - q)).toInt64) 70 ((s2 i5 42 48 A) 42 35 + nI 1).toNatClampNeg ((s2 i5 42 48 A) 42 48).toInt64)) := by
    rw [h35, h48]
    refine hK.k (fin_row hrel F Z (((FrR_th (nI 0)).tr f4.fr).tr (FrR_42 (fun b hb => by rw [s2_ne hb, s2_ne hb, s2_ne hb]; exact f5 b hb) (fun k hk => by rw [s2_ne2 (by omega), s2_ne2 (by omega), s2_ne2 (by omega), hi5, s2_ne2 (by omega), s2_ne2 (by omega)]))) (r8_of 2 (by decide) ?_ (s2_self _ _ _ _) ?_))
    · rw [s2_ne (show 40 ≠ 42 by decide), s2_ne (show 40 ≠ 42 by decide), s2_ne (show 40 ≠ 42 by decide), f5 40 (by decide), f4.1 40 (show ¬ (48 : Nat) = 40 by decide) (by decide), s2_ne (show 40 ≠ 42 by decide), hi3, s2_self]
    · intro y hy
      rw [hj3, ← hA]
      match y, hy with
      | 0, _ => simp [s2_ap, show (nI 0).toNatClampNeg = 0 from rfl, show (nI 0 + nI 1).toNatClampNeg = 1 from rfl]
      | 1, _ => simp [s2_ap, show (nI 0).toNatClampNeg = 0 from rfl, show (nI 0 + nI 1).toNatClampNeg = 1 from rfl]
  have in1 : vp_in ((s2 i5 42 48 A) 42 35) 32 := by rw [h35]; exact vp_in_nI (by decide) (by decide)
  have in2 : vp_in ((s2 i5 42 48 A) 42 35 + nI 1) 32 := by rw [h35]; exact vp_in_nI (n := 1) (by decide) (by decide)
  by_cases hb : saP (i 57 p) (i 58 p) (i 59 p) (nI (n - q)) (nI (ct ca (n - q)))
  · exact br_f (fun y => y hb) ⟨_, c1.up (by omega), _, _, c3.up (by omega), _, _, by rw [← hi5]; exact c4.up (by omega), in1, in2, by rw [blT hb], last⟩
  · exact br_t hb ⟨_, c2.up (by omega), _, _, c3.up (by omega), _, _, by rw [← hi5]; exact c4.up (by omega), in1, in2, by rw [blF hb], last⟩
