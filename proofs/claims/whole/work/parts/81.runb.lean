/-! ===== run ===== -/
noncomputable def sqW (w : Nat → Int32) (n : Nat) (f : Nat → MS) (t : Nat) : Int32 := if t < n then w t else nI (f (t - n + 1)).1
noncomputable def sqA (a : Nat → Int32) (n : Nat) (f : Nat → MS) (t : Nat) : Int32 := if t < n then a t else (f (t - n + 1)).2.1
noncomputable def sqK (k : Nat → Int32) (n : Nat) (f : Nat → MS) (t : Nat) : Int32 := if t < n then k t else (f (t - n + 1)).2.2.2
section sq
variable {w a k : Nat → Int32} {n : Nat} {f : Nat → MS}
theorem sq_o {t : Nat} (h : t < n) : sqW w n f t = w t ∧ sqA a n f t = a t ∧ sqK k n f t = k t := ⟨if_pos h, if_pos h, if_pos h⟩
theorem sq_n (e : Nat) : sqW w n f (n + e) = nI (f (e + 1)).1 ∧ sqA a n f (n + e) = (f (e + 1)).2.1 ∧ sqK k n f (n + e) = (f (e + 1)).2.2.2 := by
  have q : ¬ n + e < n := by omega
  unfold sqW sqA sqK
  rw [if_neg q, if_neg q, if_neg q, show n + e - n + 1 = e + 1 by omega]
  exact ⟨rfl, rfl, rfl⟩
theorem sq_l (h1 : 0 < n → w (n - 1) = nI (f 0).1 ∧ a (n - 1) = (f 0).2.1) (e : Nat) (h : 0 < n + e) : sqW w n f (n + e - 1) = nI (f e).1 ∧ sqA a n f (n + e - 1) = (f e).2.1 := by
  cases e with
  | zero =>
    have := h1 (by omega)
    obtain ⟨q1, q2, -⟩ := sq_o (w := w) (a := a) (k := w) (f := f) (show n + 0 - 1 < n by omega)
    rw [q1, q2]; exact this
  | succ e =>
    obtain ⟨q1, q2, -⟩ := sq_n (w := w) (a := a) (k := w) (n := n) (f := f) e
    exact ⟨q1, q2⟩
end sq
set_option maxRecDepth 100000 in
theorem s_1411 (d : Nat) (X : XS) (i : Nat → Nat → Int32) (j : Nat → Nat → Int64) (a1 : Int32) (K : Int32 → AM → Prop) (h : ((¬ ((nI 0) ≤ a1 ∧ a1 ≤ (nI 100)) → K (kI (-1)) (mm X i j)) ∧ ((nI 0) ≤ a1 ∧ a1 ≤ (nI 100) → ((((i 9 3) + a1) ≤ (nI 240) → WP (d + 5) 1411 (29, [(0, .ref 2), (1, .int a1), (2, .int (nI 0))], [], (mm X i j)) (qI K)) ∧ (¬ (((i 9 3) + a1) ≤ (nI 240)) → K (kI (-1)) (mm X i j)))))) : WI (d + 5) 1411 [.ref 2, .int a1] (mm X i j) K := te_1411 (d + 4) 2 a1 (mm X i j) (qI K) (p_1462 (d + 4) X i j a1 (nI 0) (nI 100) _ ⟨fun e1 => ⟨_, rfl, (h.1 ((bi_z e1)))⟩, fun e1 => ⟨rfl, ⟨rfl, (te_129 (d + 4) 9 (mm X i j) _ ⟨rfl, ⟨_, rfl, ⟨fun e2 => ((h.2 ((bi_n e1))).1 (e2)), fun e2 => ⟨_, rfl, ((h.2 ((bi_n e1))).2 (e2))⟩⟩⟩⟩)⟩⟩⟩)
set_option maxRecDepth 100000 in
theorem s_1411_29 (d : Nat) (X : XS) (i : Nat → Nat → Int32) (j : Nat → Nat → Int64) (v1 : Int32) (v2 : Int32) (Q : Option (Option Value) → AM → Prop) (h : ((v1 ≤ v2 → Q (some (some (.int (i 9 3)))) (mm X i j)) ∧ (¬ (v1 ≤ v2) → (∃ (i4 : Nat → Nat → Int32), EvV (d + 4) 9 [.ref 3, .ref 9] (mm X i j) (mm X i4 j) ∧ WP (d + 5) 1411 (29, [(0, .ref 2), (1, .int v1), (2, .int (v2 + (nI 1)))], [], (mm X i4 j)) Q)))) : WP (d + 5) 1411 (29, [(0, .ref 2), (1, .int v1), (2, .int v2)], [], mm X i j) Q := tc_1411_29 (d + 4) 2 v1 v2 (mm X i j) Q ⟨fun e3 => ⟨rfl, ⟨rfl, (te_129 (d + 4) 9 (mm X i j) _ ⟨rfl, ⟨_, rfl, (h.1 (e3))⟩⟩)⟩⟩, fun e3 => ⟨rfl, ⟨rfl, ⟨rfl, (Exists.elim (h.2 (e3)) fun i4 h5 => EvV.use h5.1 h5.2)⟩⟩⟩⟩
set_option maxRecDepth 100000 in
theorem s_1553 (d : Nat) (X : XS) (i : Nat → Nat → Int32) (j : Nat → Nat → Int64) (a1 : Int32) (K : Int32 → AM → Prop) (h : ((¬ ((nI 0) ≤ a1 ∧ a1 ≤ (nI 100)) → K (kI (-1)) (mm X (s2 i 42 36 (nI 0)) j)) ∧ ((nI 0) ≤ a1 ∧ a1 ≤ (nI 100) → ((((i 42 0) + a1) ≤ (nI 240) → WP (d + 2) 1553 (31, [(0, .ref 42), (1, .int a1), (2, .int (nI 0))], [], (mm X (s2 i 42 36 (nI 0)) j)) (qI K)) ∧ (¬ (((i 42 0) + a1) ≤ (nI 240)) → K (kI (-1)) (mm X (s2 i 42 36 (nI 0)) j)))))) : WI (d + 2) 1553 [.ref 42, .int a1] (mm X i j) K := te_1553 (d + 1) 42 a1 (mm X i j) (qI K) ⟨rfl, (p_1538 (d + 1) X (s2 i 42 36 (nI 0)) j a1 (nI 0) (nI 100) _ ⟨fun e1 => ⟨_, rfl, (h.1 ((bi_z e1)))⟩, fun e1 => ⟨rfl, ⟨fun e2 => ((h.2 ((bi_n e1))).1 (e2)), fun e2 => ⟨_, rfl, ((h.2 ((bi_n e1))).2 (e2))⟩⟩⟩⟩)⟩
set_option maxRecDepth 100000 in
theorem s_1553_31 (d : Nat) (X : XS) (i : Nat → Nat → Int32) (j : Nat → Nat → Int64) (v1 : Int32) (v2 : Int32) (Q : Option (Option Value) → AM → Prop) (h : ((v1 ≤ v2 → Q (some (some (.int (i 42 0)))) (mm X i j)) ∧ (¬ (v1 ≤ v2) → (∃ (i4 : Nat → Nat → Int32), EvV (d + 1) 1552 [.ref 42] (mm X i j) (mm X i4 j) ∧ WP (d + 2) 1553 (31, [(0, .ref 42), (1, .int v1), (2, .int (v2 + (nI 1)))], [], (mm X i4 j)) Q)))) : WP (d + 2) 1553 (31, [(0, .ref 42), (1, .int v1), (2, .int v2)], [], mm X i j) Q := tc_1553_31 (d + 1) 42 v1 v2 (mm X i j) Q ⟨fun e3 => ⟨rfl, (h.1 (e3))⟩, fun e3 => ⟨rfl, (Exists.elim (h.2 (e3)) fun i4 h5 => EvV.use h5.1 h5.2)⟩⟩
theorem k_2 (d : Nat) {X : XS} {i : Nat → Nat → Int32} {j : Nat → Nat → Int64} (h : Rel X i j) (a1 : Int32) {Kf : AM → Prop} (hK : Nx X Kf) : WI (d + 300) 1411 [.ref 2, .int a1] (mm X i j) (fun x1 M1 => WI (d + 300) 1553 [.ref 42, .int a1] M1 (fun x2 M2 => x1 = x2 ∧ Kf M2)) := by
  have ht := hK.th h
  have hrel := h
  obtain ⟨hx, ⟨⟨n, h0⟩, h1, ⟨ng, h2, no, h4⟩, ⟨tn, h3⟩, ⟨np, h5⟩, h6, ns, h7⟩, h8, hz⟩ := h
  obtain ⟨e2, hD, hw⟩ := h0
  have e1 := hD.1.1
  have hn := hD.1.2
  refine s_1411 _ X i j a1 _ (bq_c (fun z => s_1553 _ X i j _ _ (bq_t z ⟨rfl, ht⟩)) (fun z => ?_))
  rw [e1]
  refine br_c (fun v => ?_) (fun v => s_1553 _ X i j _ _ (bq_f z (by rw [e2]; exact br_f v ⟨rfl, ht⟩)))
  obtain ⟨m, hm, rfl⟩ := of_rng (m := 100) (by decide) z
  have hnm : n + m ≤ 240 := by
    have v := v
    rw [nI_add] at v
    exact (nI_leI (by omega) (by decide)).mp v
  obtain ⟨W, hW⟩ : ∃ W : Nat → Nat, ∀ q, q < 16 → i 46 q = nI (W q) ∧ W q < 10 := by
    refine ⟨fun q => (i 46 q).toNatClampNeg, fun q hq => ?_⟩
    obtain ⟨-, m, hm, e⟩ := h1.2.1 q hq
    try dsimp only
    rw [e, tc_nI (by omega)]; exact ⟨rfl, hm⟩
  have hW4 : ∀ q, q < 16 → i 4 q = nI (W q) ∧ W q < 10 := fun q hq => by rw [(h1.2.1 q hq).1]; exact hW q hq
  obtain ⟨s0, hs0, hs1, hs2, hs3⟩ : ∃ s0 : MS, s0.1 < 4 ∧ (n = 0 → s0.1 = 0 ∧ s0.2.1 = nI 500) ∧ (0 < n → i 43 (n - 1) = nI s0.1 ∧ i 44 (n - 1) = s0.2.1) ∧ s0.2.2.1 = i 3 2 := by
    by_cases q : n = 0
    · exact ⟨(0, nI 500, i 3 2, 0), by dsimp only; omega, fun _ => ⟨rfl, rfl⟩, fun z => absurd q (by omega), rfl⟩
    · obtain ⟨⟨l, hl, el⟩, -⟩ := hw (n - 1) (by omega)
      exact ⟨(l, i 44 (n - 1), i 3 2, 0), hl, fun z => absurd z q, fun _ => ⟨el, rfl⟩, rfl⟩
  obtain ⟨f, hf⟩ : ∃ f, f = mks W (i 47) s0 := ⟨_, rfl⟩
  have f0 : f 0 = s0 := by rw [hf]; rfl
  have fS : ∀ e, f (e + 1) = mkst W (i 47) (f e) := fun e => by rw [hf]; rfl
  have fL : ∀ e, (f e).1 < 4 := fun e => by rw [hf]; exact mks_lt hs0 e
  have fD : ∀ e, DW W (f e).1 (f e).2.2.1 (f (e + 1)).1 (dwf W (f e).1 (f e).2.2.1).2 := fun e => by rw [fS]; exact DW_f _ _ _
  have fV : ∀ e, (f (e + 1)).1 < 4 := fun e => fL (e + 1)
  rw [← f0] at hs1 hs2 hs3
  have fl0 : ∀ e, n + e = 0 → (f e).1 = 0 ∧ (f e).2.1 = nI 500 := fun e he => by
    have : e = 0 := by omega
    subst this; exact hs1 (by omega)
  refine lup m (fun e (i1 : Nat → Nat → Int32) => i1 3 2 = (f e).2.2.1 ∧ DY X 9 i1 (n + e) (sqW (i 43) n f) (sqA (i 44) n f) (sqK (i 45) n f) ∧ ∀ b, b ≠ 3 → b ≠ 9 → b ≠ 10 → b ≠ 11 → b ≠ 12 → i1 b = i b) (fun e i1 => (29, [(0, .ref 2), (1, .int (nI m)), (2, .int (nI e))], [], mm X i1 j)) ?_ ?_ 0 i (Nat.zero_le _) ⟨hs3.symm, ⟨⟨e1, hn⟩, fun t ht => ?_⟩, fun _ _ _ _ _ _ => rfl⟩
  · rintro i1 ⟨hr, hc, f1⟩
    try dsimp only
    refine s_1411_29 _ X i1 j _ _ _ (br_t (Int32.le_refl _) (qI_of ?_))
    have f42 : i1 42 = i 42 := f1 42 (by decide) (by decide) (by decide) (by decide) (by decide)
    refine s_1553 _ X i1 j _ _ (bq_f z ?_)
    rw [f42, e2]
    refine br_t v ?_
    refine lup m (fun e (i2 : Nat → Nat → Int32) => i2 42 6 = (f e).2.2.1 ∧ DR i2 (n + e) (sqW (i 43) n f) (sqA (i 44) n f) (sqK (i 45) n f) ∧ (∀ b, b ≠ 42 → b ≠ 43 → b ≠ 44 → b ≠ 45 → i2 b = i1 b) ∧ ∀ k, k ≠ 0 → k ≠ 6 → k ≠ 36 → i2 42 k = i 42 k) (fun e i2 => (31, [(0, .ref 42), (1, .int (nI m)), (2, .int (nI e))], [], mm X i2 j)) ?_ ?_ 0 (s2 i1 42 36 (nI 0)) (Nat.zero_le _) ⟨?_, ⟨⟨by rw [s2_ne2 (by decide), f42]; exact e2, hn⟩, fun t ht => ?_⟩, fun b hb _ _ _ => s2_ne hb, fun k _ _ hk => by rw [s2_ne2 hk, f42]⟩
    · rintro i2 ⟨hr2, hd2, f2, g2⟩
      try dsimp only
      refine s_1553_31 _ X i2 j _ _ _ (br_t (Int32.le_refl _) (qI_of ⟨?_, hK.k ?_⟩))
      · rw [hc.1.1, hd2.1.1]
      · refine hrel.dys (n := n + m) (fun b b3 b9 b10 b11 b12 b42 b43 b44 b45 => by rw [f2 b b42 b43 b44 b45, f1 b b3 b9 b10 b11 b12]) g2 ?_ (w := sqW (i 43) n f) (a := sqA (i 44) n f) (k := sqK (i 45) n f) ?_ hd2 (fun t ht => ?_)
        · rw [f2 3 (by decide) (by decide) (by decide) (by decide), hr, hr2]
        · exact hc.kp (f2 9 (by decide) (by decide) (by decide) (by decide)) (f2 10 (by decide) (by decide) (by decide) (by decide)) (f2 11 (by decide) (by decide) (by decide) (by decide)) (f2 12 (by decide) (by decide) (by decide) (by decide))
        · by_cases q : t < n
          · obtain ⟨b1, b2, -⟩ := sq_o (w := i 43) (a := i 44) (k := i 45) (f := f) q
            rw [b1, b2]; exact hw t q
          · obtain ⟨b1, b2, -⟩ := sq_n (w := i 43) (a := i 44) (k := i 45) (n := n) (f := f) (t - n)
            rw [show n + (t - n) = t by omega] at b1 b2
            obtain ⟨c, hc, ec⟩ := mks_air (W := W) (sp := i 47) (s0 := s0) (t - n)
            rw [← hf] at ec
            exact ⟨⟨_, fL _, b1⟩, c, hc, b2.trans ec⟩
    · rintro e i2 he ⟨hr2, hd2, f2, g2⟩ go
      try dsimp only
      refine s_1553_31 _ X i2 j _ _ _ (br_f (nI_ge he (by omega)) ?_)
      obtain ⟨b1, b2, b3⟩ := sq_n (w := i 43) (a := i 44) (k := i 45) (n := n) (f := f) e
      have e47 : i2 47 = i 47 := by rw [f2 47 (by decide) (by decide) (by decide) (by decide), f1 47 (by decide) (by decide) (by decide) (by decide) (by decide)]
      have e46 : i2 46 = i 46 := by rw [f2 46 (by decide) (by decide) (by decide) (by decide), f1 46 (by decide) (by decide) (by decide) (by decide) (by decide)]
      obtain ⟨i3, hE, q1, q2, q3, q4, -⟩ := c_1552 (d + 298) X i2 j (W := W) (fun q hq => by rw [e46]; exact hW q hq) (show n + e < 240 by omega) hd2 (fL e) (fun z => (fl0 e z).1) (fun z => (sq_l hs2 e z).1) (a0 := (f e).2.1) (fun z => (fl0 e z).2) (fun z => (sq_l hs2 e z).2) (v := (f (e + 1)).1) (by rw [hr2]; exact fD e) b1 (by rw [b2, e47, fS]; rfl) (by rw [b3, fS]; rfl)
      rw [nI_add]
      refine ⟨i3, hE, go i3 ⟨?_, q2, fun b c42 c43 c44 c45 => (q3 b c42 c43 c44 c45).trans (f2 b c42 c43 c44 c45), fun k k0 k6 k36 => (q4 k k0 k6).trans (g2 k k0 k6 k36)⟩⟩
      rw [q1, fS]; rfl
    · rw [s2_ne2 (by decide), f42, ← h1.1]; exact hs3.symm
    · rw [s2_ne (show 43 ≠ 42 by decide), s2_ne (show 44 ≠ 42 by decide), s2_ne (show 45 ≠ 42 by decide), f1 43 (by decide) (by decide) (by decide) (by decide) (by decide), f1 44 (by decide) (by decide) (by decide) (by decide) (by decide), f1 45 (by decide) (by decide) (by decide) (by decide) (by decide)]
      obtain ⟨b1, b2, b3⟩ := sq_o (w := i 43) (a := i 44) (k := i 45) (n := n) (f := f) ht
      exact ⟨b1.symm, b2.symm, b3.symm⟩
  · rintro e i1 he ⟨hr, hc, f1⟩ go
    try dsimp only
    refine s_1411_29 _ X i1 j _ _ _ (br_f (nI_ge he (by omega)) ?_)
    obtain ⟨b1, b2, b3⟩ := sq_n (w := i 43) (a := i 44) (k := i 45) (n := n) (f := f) e
    have e4 : i1 4 = i 4 := f1 4 (by decide) (by decide) (by decide) (by decide) (by decide)
    have e5 : i1 5 = i 5 := f1 5 (by decide) (by decide) (by decide) (by decide) (by decide)
    obtain ⟨i3, hE, q1, q2, q3⟩ := c_9_9 (d + 295) X i1 j (W := W) (fun q hq => by rw [e4]; exact hW4 q hq) (show n + e < 240 by omega) hc (fL e) (fun z => (fl0 e z).1) (fun z => (sq_l hs2 e z).1) (a0 := (f e).2.1) (fun z => (fl0 e z).2) (fun z => (sq_l hs2 e z).2) (v := (f (e + 1)).1) (by rw [hr]; exact fD e) b1 (by rw [b2, e5, h1.2.2.1 _ (fV e), fS]; rfl) (by rw [b3, fS]; rfl)
    rw [nI_add]
    refine ⟨i3, hE, go i3 ⟨?_, q2, fun b c3 c9 c10 c11 c12 => (q3 b c3 c9 c10 c11 c12).trans (f1 b c3 c9 c10 c11 c12)⟩⟩
    rw [q1, fS]; rfl
  · obtain ⟨b1, b2, b3⟩ := sq_o (w := i 43) (a := i 44) (k := i 45) (n := n) (f := f) ht
    rw [b1, b2, b3]; exact hD.2 t ht
