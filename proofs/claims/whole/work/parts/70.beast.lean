/-! ===== beast ===== -/
/-- the glass says word w on day t -/
def wdP (i : Nat → Nat → Int32) (n g w t : Nat) : Prop := WD i n g (nI 0) t = nI w
theorem LK.c36 {X : XS} {i i1 i2 : Nat → Nat → Int32} {ng n : Nat} {a : Nat → Int32} (h2 : R2 X i ng) (hL : LK X i1 ng n a) (g : ∀ b, b ≠ 36 → i2 b = i1 b) : Kp X i1 i2 ∧ LK X i2 ng n a := by
  have t36 : 41 ≤ xt X 36 ∧ xt X 36 < 50 := by
    have : 41 ≤ TF 36 ∧ TF 36 < 50 := by decide
    exact this
  have kk : Kp X i1 i2 := ⟨fun b hb _ => g b (fun e => by subst e; omega), fun k _ => by rw [g 42 (by decide)]⟩
  refine ⟨kk, hL.up kk (fun c hc => ?_)⟩
  have hG := (h2.2.2.2 c hc).2.1
  have hg4 := hG.1
  exact ⟨g _ (fun e => by have := hG.2.2.2.2; rw [e] at this; omega), g _ (fun e => by have := hG.2.2.2.1; rw [e] at this; omega)⟩
def TL4 (i : Nat → Nat → Int32) (V A B : Nat → Prop) (t : Nat) : Prop := i 36 0 = nI (ct (fun t => V t ∧ A t ∧ B t) t) ∧ i 36 1 = nI (ct (fun t => V t ∧ A t ∧ ¬ B t) t) ∧ i 36 2 = nI (ct (fun t => V t ∧ ¬ A t ∧ B t) t) ∧ i 36 3 = nI (ct (fun t => V t ∧ ¬ A t ∧ ¬ B t) t)
set_option maxRecDepth 100000 in
theorem s_1480 (d : Nat) (X : XS) (i : Nat → Nat → Int32) (j : Nat → Nat → Int64) (a1 : Nat) (h1 : GO X a1) (a2 : Int32) (K : AM → Prop) (h : WP (d + 1) 1480 (9, [(0, .ref 2), (1, .ref a1), (2, .int a2), (3, .int (nI 0))], [], (mm X (s2 (s2 (s2 (s2 i 36 0 (nI 0)) 36 1 (nI 0)) 36 2 (nI 0)) 36 3 (nI 0)) j)) (qV K)) : WV (d + 1) 1480 [.ref 2, .ref a1, .int a2] (mm X i j) K := te_1480 d 2 a1 a2 (mm X i j) (qV K) ⟨rfl, ⟨rfl, (te_897 d 36 (mm X i j) _ ⟨rfl, ⟨rfl, ⟨rfl, (tc_897_15 d 36 (mm X (s2 (s2 (s2 i 36 0 (nI 0)) 36 1 (nI 0)) 36 2 (nI 0)) j) _ ⟨rfl, ⟨rfl, h⟩⟩)⟩⟩⟩)⟩⟩
set_option maxRecDepth 100000 in
theorem s_1480_9 (d : Nat) (X : XS) (i : Nat → Nat → Int32) (j : Nat → Nat → Int64) (v1 : Nat) (h1 : GO X v1) (v2 : Int32) (v3 : Int32) (Q : Option (Option Value) → AM → Prop) (h : (((i 31 2) ≤ v3 → Q (some none) (mm X i j)) ∧ (¬ ((i 31 2) ≤ v3) → (∃ (x2 : Int32), EvI d 265 [.ref v1, .int v3, .int (nI 0)] (mm X i j) x2 (mm X i j) ∧ ((¬ (x2 = v2) → WP (d + 1) 1480 (9, [(0, .ref 2), (1, .ref v1), (2, .int v2), (3, .int (v3 + (nI 1)))], [], (mm X i j)) Q) ∧ (x2 = v2 → ((i 31 2) ≤ (nI 240)) ∧ WP (d + 1) 1480 (9, [(0, .ref 2), (1, .ref v1), (2, .int v2), (3, .int (v3 + (nI 1)))], [], (mm X (tkI i (sOn (i 31 2) (i 32) v3) (sOn (i 31 2) (i 33) v3)) j)) Q)))))) : WP (d + 1) 1480 (9, [(0, .ref 2), (1, .ref v1), (2, .int v2), (3, .int v3)], [], mm X i j) Q := tc_1480_9 d 2 v1 v2 v3 (mm X i j) Q ⟨rfl, ⟨rfl, (te_771 d 31 (mm X i j) _ ⟨rfl, ⟨_, rfl, ⟨fun e1 => (h.1 (e1)), fun e1 => ⟨h1.1, (Exists.elim (h.2 (e1)) fun x2 h4 => EvI.use h4.1 ⟨fun e3 => (h4.2.1 (e3)), fun e3 => ⟨rfl, ⟨rfl, ⟨rfl, (p_772 d X i j v3 _ ⟨(h4.2.2 ((Classical.byContradiction e3))).1, ⟨rfl, ⟨rfl, (p_773 d X i j v3 _ ⟨(h4.2.2 ((Classical.byContradiction e3))).1, ⟨rfl, (p_898 d X i j (sOn (i 31 2) (i 32) v3) (sOn (i 31 2) (i 33) v3) _ (h4.2.2 ((Classical.byContradiction e3))).2)⟩⟩)⟩⟩⟩)⟩⟩⟩⟩)⟩⟩⟩⟩)⟩⟩
theorem c_1480 (d : Nat) (X : XS) (i i1 : Nat → Nat → Int32) (j : Nat → Nat → Int64) {n ng g w kn : Nat} {so : Nat → Int32} {A ca : Nat → Prop} (h0 : R0 X i n) (h2 : R2 X i ng) (k : Kp X i i1) (hL : LK X i1 ng n (i 44)) (hS : SV i1 kn so ca) (hkn : kn ≤ n) (hA : ∀ t, t < kn → (¬ so t = 0 ↔ A t)) (hg : g < ng) :
    ∃ i', EvV (d + 1) 1480 [.ref 2, .ref (xr X 17 g), .int (nI w)] (mm X i1 j) (mm X i' j) ∧ (∀ b, b ≠ 36 → i' b = i1 b) ∧ TL4 i' (wdP i n g w) A ca kn := by
  have hn := h0.2.1.1.2
  have hO := (h2.2.2.2 g hg).1
  refine EvV.ex (s_1480 d X i1 j _ hO _ _ ?_)
  refine lup kn (fun t (i2 : Nat → Nat → Int32) => (∀ b, b ≠ 36 → i2 b = i1 b) ∧ TL4 i2 (wdP i n g w) A ca t) (fun t i2 => (9, [(0, .ref 2), (1, .ref (xr X 17 g)), (2, .int (nI w)), (3, .int (nI t))], [], mm X i2 j)) ?_ ?_ 0 _ (Nat.zero_le _) ⟨fun b h2 => by rw [s2_ne h2, s2_ne h2, s2_ne h2, s2_ne h2], by rw [s2_ne2 (by decide), s2_ne2 (by decide), s2_ne2 (by decide), s2_self]; rfl, by rw [s2_ne2 (by decide), s2_ne2 (by decide), s2_self]; rfl, by rw [s2_ne2 (by decide), s2_self]; rfl, by rw [s2_self]; rfl⟩
  · rintro i2 ⟨g1, hT⟩
    exact s_1480_9 d X i2 j _ hO _ _ _ (br_t (by rw [g1 31 (by decide), hS.1]; exact Int32.le_refl _) (qV_of ⟨i2, rfl, g1, hT⟩))
  · rintro t i2 ht ⟨g1, c0, c1, c2, c3⟩ go
    have hS2 := hS.kp (g1 31 (by decide)) (g1 32 (by decide)) (g1 33 (by decide))
    obtain ⟨kk, hL2⟩ := LK.c36 h2 hL g1
    have hE := cwdv j hn h2 (k.tr kk) hL2 hg (t := t) (by omega) (nI 0)
    refine s_1480_9 d X i2 j _ hO _ _ _ (br_f (by rw [hS2.1]; exact nI_ge ht (by omega)) ⟨_, hE.up (by omega), ?_⟩)
    rw [propext (hS2.st ht), propext (hS2.cm ht), propext (hA t ht), nI_add]
    refine bq_c (fun v => go i2 ⟨g1, ?_, ?_, ?_, ?_⟩) (fun v => ⟨hS2.ok, go _ ⟨fun b hb => ?_, ?_, ?_, ?_, ?_⟩⟩)
    · rw [ct_f (p := fun t => wdP i n g w t ∧ A t ∧ ca t) fun u => v u.1]; exact c0
    · rw [ct_f (p := fun t => wdP i n g w t ∧ A t ∧ ¬ ca t) fun u => v u.1]; exact c1
    · rw [ct_f (p := fun t => wdP i n g w t ∧ ¬ A t ∧ ca t) fun u => v u.1]; exact c2
    · rw [ct_f (p := fun t => wdP i n g w t ∧ ¬ A t ∧ ¬ ca t) fun u => v u.1]; exact c3
    · unfold tkI; rw [s2_ne hb, s2_ne hb, s2_ne hb, s2_ne hb]; exact g1 b hb
    · unfold tkI
      rw [s2_ne2 (by decide), s2_ne2 (by decide), s2_ne2 (by decide), s2_self, c0, show bi (A t ∧ ca t) = bi (wdP i n g w t ∧ A t ∧ ca t) from bi_cg ⟨fun u => ⟨v, u⟩, fun u => u.2⟩]
      exact ct_bi (fun t => wdP i n g w t ∧ A t ∧ ca t) t
    · unfold tkI
      rw [s2_ne2 (by decide), s2_ne2 (by decide), s2_self, c1, show bi (A t ∧ ¬ ca t) = bi (wdP i n g w t ∧ A t ∧ ¬ ca t) from bi_cg ⟨fun u => ⟨v, u⟩, fun u => u.2⟩]
      exact ct_bi (fun t => wdP i n g w t ∧ A t ∧ ¬ ca t) t
    · unfold tkI
      rw [s2_ne2 (by decide), s2_self, c2, show bi (¬ A t ∧ ca t) = bi (wdP i n g w t ∧ ¬ A t ∧ ca t) from bi_cg ⟨fun u => ⟨v, u⟩, fun u => u.2⟩]
      exact ct_bi (fun t => wdP i n g w t ∧ ¬ A t ∧ ca t) t
    · unfold tkI
      rw [s2_self, c3, show bi (¬ A t ∧ ¬ ca t) = bi (wdP i n g w t ∧ ¬ A t ∧ ¬ ca t) from bi_cg ⟨fun u => ⟨v, u⟩, fun u => u.2⟩]
      exact ct_bi (fun t => wdP i n g w t ∧ ¬ A t ∧ ¬ ca t) t
/-- on the days of V the event leans on the sign neither way -/
noncomputable def evenP (V A B : Nat → Prop) (n : Nat) : Prop := nI (ct (fun t => V t ∧ A t ∧ B t) n) * nI (ct V n) = nI (ct (fun t => V t ∧ A t) n) * nI (ct (fun t => V t ∧ B t) n)
theorem sub_z (x y : Int32) : x - y = 0 ↔ x = y := ⟨fun h => by grind, fun h => by subst h; grind⟩
theorem TL4.lean {i : Nat → Nat → Int32} {V A B : Nat → Prop} {n : Nat} (h : TL4 i V A B n) : (((i 36 0) * ((((i 36 0) + (i 36 1)) + (i 36 2)) + (i 36 3))) - (((i 36 0) + (i 36 1)) * ((i 36 0) + (i 36 2)))) = 0 ↔ evenP V A B n := by
  obtain ⟨c0, c1, c2, c3⟩ := h
  have e1 : ct (fun t => V t ∧ A t) n = ct (fun t => V t ∧ A t ∧ B t) n + ct (fun t => V t ∧ A t ∧ ¬ B t) n := by
    rw [ct_split (fun t => V t ∧ A t) B n]; simp only [and_assoc]
  have e2 : ct (fun t => V t ∧ ¬ A t) n = ct (fun t => V t ∧ ¬ A t ∧ B t) n + ct (fun t => V t ∧ ¬ A t ∧ ¬ B t) n := by
    rw [ct_split (fun t => V t ∧ ¬ A t) B n]; simp only [and_assoc]
  have e3 : ct (fun t => V t ∧ B t) n = ct (fun t => V t ∧ A t ∧ B t) n + ct (fun t => V t ∧ ¬ A t ∧ B t) n := by
    rw [ct_split (fun t => V t ∧ B t) A n, ct_cong (p := fun t => (V t ∧ B t) ∧ A t) (q := fun t => V t ∧ A t ∧ B t) (fun t _ => ⟨fun u => ⟨u.1.1, u.2, u.1.2⟩, fun u => ⟨⟨u.1, u.2.2⟩, u.2.1⟩⟩), ct_cong (p := fun t => (V t ∧ B t) ∧ ¬ A t) (q := fun t => V t ∧ ¬ A t ∧ B t) (fun t _ => ⟨fun u => ⟨u.1.1, u.2, u.1.2⟩, fun u => ⟨⟨u.1, u.2.2⟩, u.2.1⟩⟩)]
  have e0 := ct_split V A n
  rw [c0, c1, c2, c3, nI_add, nI_add, nI_add, nI_add]
  unfold evenP
  rw [e0, e1, e2, e3, show ct (fun t => V t ∧ A t ∧ B t) n + ct (fun t => V t ∧ A t ∧ ¬ B t) n + (ct (fun t => V t ∧ ¬ A t ∧ B t) n + ct (fun t => V t ∧ ¬ A t ∧ ¬ B t) n) = ct (fun t => V t ∧ A t ∧ B t) n + ct (fun t => V t ∧ A t ∧ ¬ B t) n + ct (fun t => V t ∧ ¬ A t ∧ B t) n + ct (fun t => V t ∧ ¬ A t ∧ ¬ B t) n by omega]
  exact sub_z _ _
noncomputable def bsW (P : Nat → Prop) : Nat → Int32
  | 0 => nI 0
  | w + 1 => @ite _ (P w) (Classical.propDecidable _) (bsW P w) (bsW P w ||| shlI (nI 1) (nI w))
theorem bsW_y {P : Nat → Prop} {w : Nat} (h : P w) : bsW P (w + 1) = bsW P w := by rw [bsW, if_pos h]
theorem bsW_n {P : Nat → Prop} {w : Nat} (h : ¬ P w) : bsW P (w + 1) = bsW P w ||| shlI (nI 1) (nI w) := by rw [bsW, if_neg h]
set_option maxRecDepth 100000 in
theorem s_1431 (d : Nat) (X : XS) (i : Nat → Nat → Int32) (j : Nat → Nat → Int64) (a1 : Int32) (a2 : Int32) (a3 : Int32) (K : Int32 → AM → Prop) (h : (GLs X i) ∧ ((¬ ((nI 0) ≤ a2 ∧ a2 ≤ ((i 2 4) - (nI 1)))) → K (kI (-1)) (mm X i j)) ∧ (((nI 0) ≤ a2 ∧ a2 ≤ ((i 2 4) - (nI 1))) → (GO X (xr X 17 (a2.toNatClampNeg))) → (SGs X i) ∧ ((¬ ((nI 0) ≤ a1 ∧ a1 ≤ ((i 2 7) - (nI 1)))) → K (kI (-1)) (mm X i j)) ∧ (((nI 0) ≤ a1 ∧ a1 ≤ ((i 2 7) - (nI 1))) → (OO X (xr X 23 (a1.toNatClampNeg))) → ((¬ (((nI 1) ≤ a3 ∧ a3 ≤ (nI 3)) ∧ ((nI 1) ≤ (nI 1) ∧ (nI 1) ≤ (nI 9))) → K (kI (-1)) (mm X i j)) ∧ (((nI 1) ≤ a3 ∧ a3 ≤ (nI 3)) ∧ ((nI 1) ≤ (nI 1) ∧ (nI 1) ≤ (nI 9)) → (∃ (i17 : Nat → Nat → Int32), EvV (d + 4) 1476 [.ref 2, .ref 9, .int (shlI (nI 1) a1), .int a3, .int (nI 1)] (mm X i j) (mm X i17 j) ∧ WP (d + 5) 1431 (43, [(0, .ref 2), (4, .ref (xr X 17 (a2.toNatClampNeg))), (5, .int (nI 0)), (6, .int (nI 0))], [], (mm X i17 j)) (qI K))))))) : WI (d + 5) 1431 [.ref 2, .int a1, .int a2, .int a3] (mm X i j) K := te_1431 (d + 4) 2 a1 a2 a3 (mm X i j) (qI K) ⟨rfl, (p_1467 (d + 3) X i j a2 _ ⟨h.1, (fun h2 => ⟨fun _ => ⟨_, rfl, (h.2.1 h2)⟩, fun e3 => absurd rfl e3⟩), (fun h4 h5 => ⟨fun e6 => absurd e6 (nz_k (h5.1)), fun _ => ⟨rfl, (te_1471 (d + 3) 2 a1 a3 (nI 1) (mm X i j) _ ⟨rfl, (p_1468 (d + 2) X i j a1 _ ⟨(h.2.2 h4 h5).1, (fun h8 => ⟨fun _ => ⟨k0_01, ⟨_, rfl, ⟨fun e10 => absurd e10 (show ¬ (¬ (nI 0) = 0) by decide), fun _ => ⟨_, rfl, ((h.2.2 h4 h5).2.1 h8)⟩⟩⟩⟩, fun e9 => absurd rfl e9⟩), (fun h11 h12 => ⟨fun e13 => absurd e13 (nz_k (h12.1)), fun _ => (p_1464 (d + 2) X i j a3 (nI 1) _ ⟨fun e14 => ⟨k0_01, ⟨_, rfl, ⟨fun e15 => absurd e15 (show ¬ (¬ (nI 0) = 0) by decide), fun _ => ⟨_, rfl, (((h.2.2 h4 h5).2.2 h11 h12).1 ((bi_z e14)))⟩⟩⟩⟩, fun e14 => ⟨k1_01, ⟨_, rfl, ⟨fun _ => ⟨rfl, ⟨rfl, (Exists.elim (((h.2.2 h4 h5).2.2 h11 h12).2 ((bi_n e14))) fun i17 h18 => EvV.use h18.1 h18.2)⟩⟩, fun e16 => absurd (show ¬ (nI 1) = 0 by decide) e16⟩⟩⟩⟩)⟩)⟩)⟩)⟩⟩)⟩)⟩
set_option maxRecDepth 100000 in
theorem s_1431_43 (d : Nat) (X : XS) (i : Nat → Nat → Int32) (j : Nat → Nat → Int64) (v4 : Nat) (h4 : GO X v4) (v5 : Int32) (v6 : Int32) (Q : Option (Option Value) → AM → Prop) (h : (((nI 8) < v6 → Q (some (some (.int v5))) (mm X i j)) ∧ (¬ ((nI 8) < v6) → (∃ (i21 : Nat → Nat → Int32), EvV (d + 4) 1480 [.ref 2, .ref v4, .int v6] (mm X i j) (mm X i21 j) ∧ (((((i21 36 0) * ((((i21 36 0) + (i21 36 1)) + (i21 36 2)) + (i21 36 3))) - (((i21 36 0) + (i21 36 1)) * ((i21 36 0) + (i21 36 2)))) = 0 → WP (d + 5) 1431 (43, [(0, .ref 2), (4, .ref v4), (5, .int v5), (6, .int (v6 + (nI 1)))], [], (mm X i21 j)) Q) ∧ (¬ ((((i21 36 0) * ((((i21 36 0) + (i21 36 1)) + (i21 36 2)) + (i21 36 3))) - (((i21 36 0) + (i21 36 1)) * ((i21 36 0) + (i21 36 2)))) = 0) → WP (d + 5) 1431 (43, [(0, .ref 2), (4, .ref v4), (5, .int (v5 ||| (shlI (nI 1) v6))), (6, .int (v6 + (nI 1)))], [], (mm X i21 j)) Q)))))) : WP (d + 5) 1431 (43, [(0, .ref 2), (4, .ref v4), (5, .int v5), (6, .int v6)], [], mm X i j) Q := tc_1431_43 (d + 4) 2 v4 v5 v6 (mm X i j) Q ⟨fun e20 => (h.1 (e20)), fun e20 => ⟨rfl, (Exists.elim (h.2 (e20)) fun i21 h23 => EvV.use h23.1 ⟨rfl, ⟨rfl, (te_906 (d + 3) 36 (mm X i21 j) _ ⟨rfl, ⟨rfl, (te_905 (d + 3) 36 (mm X i21 j) _ ⟨rfl, ⟨rfl, ⟨rfl, ⟨rfl, ⟨_, rfl, ⟨rfl, (te_903 (d + 3) 36 (mm X i21 j) _ ⟨rfl, ⟨rfl, ⟨_, rfl, ⟨rfl, (te_904 (d + 3) 36 (mm X i21 j) _ ⟨rfl, ⟨rfl, ⟨_, rfl, ⟨_, rfl, ⟨fun e22 => (h23.2.1 (e22)), fun e22 => (h23.2.2 (e22))⟩⟩⟩⟩⟩)⟩⟩⟩⟩)⟩⟩⟩⟩⟩⟩)⟩⟩)⟩⟩)⟩⟩
set_option maxRecDepth 100000 in
theorem s_1598 (d : Nat) (X : XS) (i : Nat → Nat → Int32) (j : Nat → Nat → Int64) (a1 : Int32) (a2 : Int32) (a3 : Int32) (K : Int32 → AM → Prop) (h : ((¬ ((nI 0) ≤ a1 ∧ a1 ≤ ((i 42 14) - (nI 1))) → K (kI (-1)) (mm X (s2 i 42 36 (nI 0)) j)) ∧ ((nI 0) ≤ a1 ∧ a1 ≤ ((i 42 14) - (nI 1)) → ((¬ ((nI 0) ≤ a2 ∧ a2 ≤ ((i 42 7) - (nI 1))) → K (kI (-1)) (mm X (s2 i 42 36 (nI 0)) j)) ∧ ((nI 0) ≤ a2 ∧ a2 ≤ ((i 42 7) - (nI 1)) → ((((nI 1) ≤ a3 ∧ a3 ≤ (nI 3)) ∧ ((nI 1) ≤ (nI 1) ∧ (nI 1) ≤ (nI 9)) → (∃ (i4 : Nat → Nat → Int32), EvV (d + 261) 1589 [.ref 42, .int (shlI (nI 1) a1), .int a3, .int (nI 1)] (mm X (s2 i 42 36 (nI 0)) j) (mm X i4 j) ∧ WP (d + 262) 1598 (46, [(0, .ref 42), (1, .int a1), (2, .int a2), (4, .int (nI 0)), (5, .int (nI 0))], [], (mm X i4 j)) (qI K))) ∧ (¬ (((nI 1) ≤ a3 ∧ a3 ≤ (nI 3)) ∧ ((nI 1) ≤ (nI 1) ∧ (nI 1) ≤ (nI 9))) → K (kI (-1)) (mm X (s2 i 42 36 (nI 0)) j)))))))) : WI (d + 262) 1598 [.ref 42, .int a1, .int a2, .int a3] (mm X i j) K := te_1598 (d + 261) 42 a1 a2 a3 (mm X i j) (qI K) ⟨rfl, ⟨rfl, (te_1546 (d + 260) 42 a1 (mm X (s2 i 42 36 (nI 0)) j) _ ⟨rfl, (p_1538 (d + 260) X (s2 i 42 36 (nI 0)) j a1 (nI 0) ((i 42 14) - (nI 1)) _ ⟨(bi_01 _), ⟨_, rfl, ⟨fun e1 => ⟨_, rfl, (h.1 ((bi_z e1)))⟩, fun e1 => ⟨rfl, (te_1545 (d + 260) 42 a2 (mm X (s2 i 42 36 (nI 0)) j) _ ⟨rfl, (p_1538 (d + 260) X (s2 i 42 36 (nI 0)) j a2 (nI 0) ((i 42 7) - (nI 1)) _ ⟨(bi_01 _), ⟨_, rfl, ⟨fun e2 => ⟨_, rfl, ((h.2 ((bi_n e1))).1 ((bi_z e2)))⟩, fun e2 => (p_1588 (d + 260) X (s2 i 42 36 (nI 0)) j a3 (nI 1) _ ⟨fun e3 => ⟨rfl, (Exists.elim (((h.2 ((bi_n e1))).2 ((bi_n e2))).1 ((bi_n e3))) fun i4 h5 => EvV.use h5.1 h5.2)⟩, fun e3 => ⟨_, rfl, (((h.2 ((bi_n e1))).2 ((bi_n e2))).2 ((bi_nn e3)))⟩⟩)⟩⟩⟩)⟩)⟩⟩⟩⟩)⟩)⟩⟩
set_option maxRecDepth 100000 in
theorem s_1598_46 (d : Nat) (X : XS) (i : Nat → Nat → Int32) (j : Nat → Nat → Int64) (v1 : Int32) (v2 : Int32) (v4 : Int32) (v5 : Int32) (Q : Option (Option Value) → AM → Prop) (h : (((nI 8) < v5 → Q (some (some (.int v4))) (mm X i j)) ∧ (¬ ((nI 8) < v5) → WP (d + 262) 1598 (56, [(0, .ref 42), (1, .int v1), (2, .int v2), (4, .int v4), (5, .int v5), (6, .int (nI 0))], [], (mm X i j)) Q))) : WP (d + 262) 1598 (46, [(0, .ref 42), (1, .int v1), (2, .int v2), (4, .int v4), (5, .int v5)], [], mm X i j) Q := tc_1598_46 (d + 261) 42 v1 v2 v4 v5 (mm X i j) Q ⟨fun e7 => (h.1 (e7)), fun e7 => (h.2 (e7))⟩
set_option maxRecDepth 100000 in
theorem s_1598_56 (d : Nat) (X : XS) (i : Nat → Nat → Int32) (j : Nat → Nat → Int64) (v1 : Int32) (v2 : Int32) (v4 : Int32) (v5 : Int32) (v6 : Int32) (Q : Option (Option Value) → AM → Prop) (h : (((nI 4) ≤ v6 → WP (d + 262) 1598 (79, [(0, .ref 42), (1, .int v1), (2, .int v2), (4, .int v4), (5, .int v5), (6, .int (nI 0))], [], (mm X i j)) Q) ∧ (¬ ((nI 4) ≤ v6) → (vp_in v6 4) ∧ WP (d + 262) 1598 (56, [(0, .ref 42), (1, .int v1), (2, .int v2), (4, .int v4), (5, .int v5), (6, .int (v6 + (nI 1)))], [], (mm X (s2 i 74 ((v6).toNatClampNeg) (nI 0)) j)) Q))) : WP (d + 262) 1598 (56, [(0, .ref 42), (1, .int v1), (2, .int v2), (4, .int v4), (5, .int v5), (6, .int v6)], [], mm X i j) Q := tc_1598_56 (d + 261) 42 v1 v2 v4 v5 v6 (mm X i j) Q ⟨fun e8 => (h.1 (e8)), fun e8 => ⟨rfl, ⟨⟨rfl, (h.2 (e8)).1⟩, (h.2 (e8)).2⟩⟩⟩
set_option maxRecDepth 100000 in
theorem s_1598_79 (d : Nat) (X : XS) (i : Nat → Nat → Int32) (j : Nat → Nat → Int64) (v1 : Int32) (v2 : Int32) (v4 : Int32) (v5 : Int32) (v6 : Int32) (Q : Option (Option Value) → AM → Prop) (h : (((i 42 46) ≤ v6 → ((((i 74 1) * (i 74 3)) = ((i 74 0) * (i 74 2)) → WP (d + 262) 1598 (46, [(0, .ref 42), (1, .int v1), (2, .int v2), (4, .int v4), (5, .int (v5 + (nI 1)))], [], (mm X i j)) Q) ∧ (¬ (((i 74 1) * (i 74 3)) = ((i 74 0) * (i 74 2))) → WP (d + 262) 1598 (46, [(0, .ref 42), (1, .int v1), (2, .int v2), (4, .int (v4 ||| (shlI (nI 1) v5))), (5, .int (v5 + (nI 1)))], [], (mm X i j)) Q))) ∧ (¬ ((i 42 46) ≤ v6) → (vp_in (((nI 240) * v2) + v6) 960) ∧ (∃ (x11 : Int32), EvI (d + 260) 1564 [.ref 42, .int v2, .int (i 71 ((((nI 240) * v2) + v6).toNatClampNeg)), .int (nI 0)] (mm X i j) x11 (mm X i j) ∧ ((x11 = v5 → (vp_in v6 240) ∧ ((¬ (((shrI (i 72 ((v6).toNatClampNeg)) v1) &&& (nI 1)) = (nI 1)) → (((i 73 ((v6).toNatClampNeg)) = 0 → WP (d + 262) 1598 (79, [(0, .ref 42), (1, .int v1), (2, .int v2), (4, .int v4), (5, .int v5), (6, .int (v6 + (nI 1)))], [], (mm X (s2 (s2 (s2 (s2 i 74 0 ((i 74 0) + (nI 0))) 74 1 ((i 74 1) + (nI 0))) 74 2 ((i 74 2) + (nI 0))) 74 3 ((i 74 3) + (nI 1))) j)) Q) ∧ (¬ ((i 73 ((v6).toNatClampNeg)) = 0) → WP (d + 262) 1598 (79, [(0, .ref 42), (1, .int v1), (2, .int v2), (4, .int v4), (5, .int v5), (6, .int (v6 + (nI 1)))], [], (mm X (s2 (s2 (s2 (s2 i 74 0 ((i 74 0) + (nI 0))) 74 1 ((i 74 1) + (nI 0))) 74 2 ((i 74 2) + (nI 1))) 74 3 ((i 74 3) + (nI 1))) j)) Q))) ∧ (((shrI (i 72 ((v6).toNatClampNeg)) v1) &&& (nI 1)) = (nI 1) → (((i 73 ((v6).toNatClampNeg)) = 0 → WP (d + 262) 1598 (79, [(0, .ref 42), (1, .int v1), (2, .int v2), (4, .int v4), (5, .int v5), (6, .int (v6 + (nI 1)))], [], (mm X (s2 (s2 (s2 (s2 i 74 0 ((i 74 0) + (nI 1))) 74 1 ((i 74 1) + (nI 0))) 74 2 ((i 74 2) + (nI 0))) 74 3 ((i 74 3) + (nI 1))) j)) Q) ∧ (¬ ((i 73 ((v6).toNatClampNeg)) = 0) → WP (d + 262) 1598 (79, [(0, .ref 42), (1, .int v1), (2, .int v2), (4, .int v4), (5, .int v5), (6, .int (v6 + (nI 1)))], [], (mm X (s2 (s2 (s2 (s2 i 74 0 ((i 74 0) + (nI 1))) 74 1 ((i 74 1) + (nI 1))) 74 2 ((i 74 2) + (nI 1))) 74 3 ((i 74 3) + (nI 1))) j)) Q))))) ∧ (¬ (x11 = v5) → WP (d + 262) 1598 (79, [(0, .ref 42), (1, .int v1), (2, .int v2), (4, .int v4), (5, .int v5), (6, .int (v6 + (nI 1)))], [], (mm X i j)) Q)))))) : WP (d + 262) 1598 (79, [(0, .ref 42), (1, .int v1), (2, .int v2), (4, .int v4), (5, .int v5), (6, .int v6)], [], mm X i j) Q := tc_1598_79 (d + 261) 42 v1 v2 v4 v5 v6 (mm X i j) Q ⟨rfl, ⟨fun e9 => ⟨rfl, ⟨⟨rfl, (vpk 1 4 rfl)⟩, ⟨rfl, ⟨⟨rfl, (vpk 3 4 rfl)⟩, ⟨rfl, ⟨⟨rfl, (vpk 0 4 rfl)⟩, ⟨rfl, ⟨⟨rfl, (vpk 2 4 rfl)⟩, ⟨fun e10 => ((h.1 (e9)).1 (e10)), fun e10 => ((h.1 (e9)).2 (e10))⟩⟩⟩⟩⟩⟩⟩⟩⟩, fun e9 => ⟨rfl, (te_1567 (d + 260) 42 v2 v6 (mm X i j) _ ⟨rfl, ⟨⟨rfl, (h.2 (e9)).1⟩, ⟨rfl, (Exists.elim (h.2 (e9)).2 fun x11 h24 => EvI.use h24.1 ⟨_, rfl, ⟨fun e12 => ⟨rfl, ⟨⟨rfl, (vpk 0 4 rfl)⟩, ⟨rfl, (te_1590 (d + 261) 42 v1 v6 (mm X i j) _ ⟨rfl, ⟨⟨rfl, (h24.2.1 (e12)).1⟩, ⟨fun e13 => ⟨k0_01, ⟨_, rfl, ⟨fun _ => ⟨⟨rfl, (vpk 0 4 rfl)⟩, (tc_1598_127 (d + 261) 42 v1 v2 v4 v5 v6 (mm X (s2 i 74 0 ((i 74 0) + (nI 0))) j) _ ⟨rfl, ⟨⟨rfl, (vpk 1 4 rfl)⟩, ⟨rfl, (te_1590 (d + 261) 42 v1 v6 (mm X (s2 i 74 0 ((i 74 0) + (nI 0))) j) _ ⟨rfl, ⟨⟨rfl, (h24.2.1 (e12)).1⟩, ⟨fun _ => ⟨k0_01, ⟨_, rfl, ⟨fun _ => ⟨⟨rfl, (vpk 1 4 rfl)⟩, (tc_1598_161 (d + 261) 42 v1 v2 v4 v5 v6 (mm X (s2 (s2 i 74 0 ((i 74 0) + (nI 0))) 74 1 ((i 74 1) + (nI 0))) j) _ ⟨rfl, ⟨⟨rfl, (vpk 2 4 rfl)⟩, ⟨rfl, ⟨⟨(Or.inl rfl), (h24.2.1 (e12)).1⟩, ⟨fun e17 => ⟨⟨rfl, (vpk 2 4 rfl)⟩, (tc_1598_185 (d + 261) 42 v1 v2 v4 v5 v6 (mm X (s2 (s2 (s2 i 74 0 ((i 74 0) + (nI 0))) 74 1 ((i 74 1) + (nI 0))) 74 2 ((i 74 2) + (nI 0))) j) _ ⟨rfl, ⟨⟨rfl, (vpk 3 4 rfl)⟩, ⟨⟨rfl, (vpk 3 4 rfl)⟩, (tc_1598_195 (d + 261) 42 v1 v2 v4 v5 v6 (mm X (s2 (s2 (s2 (s2 i 74 0 ((i 74 0) + (nI 0))) 74 1 ((i 74 1) + (nI 0))) 74 2 ((i 74 2) + (nI 0))) 74 3 ((i 74 3) + (nI 1))) j) _ (((h24.2.1 (e12)).2.1 (e13)).1 (e17)))⟩⟩⟩)⟩, fun e17 => ⟨⟨rfl, (vpk 2 4 rfl)⟩, (tc_1598_185 (d + 261) 42 v1 v2 v4 v5 v6 (mm X (s2 (s2 (s2 i 74 0 ((i 74 0) + (nI 0))) 74 1 ((i 74 1) + (nI 0))) 74 2 ((i 74 2) + (nI 1))) j) _ ⟨rfl, ⟨⟨rfl, (vpk 3 4 rfl)⟩, ⟨⟨rfl, (vpk 3 4 rfl)⟩, (tc_1598_195 (d + 261) 42 v1 v2 v4 v5 v6 (mm X (s2 (s2 (s2 (s2 i 74 0 ((i 74 0) + (nI 0))) 74 1 ((i 74 1) + (nI 0))) 74 2 ((i 74 2) + (nI 1))) 74 3 ((i 74 3) + (nI 1))) j) _ (((h24.2.1 (e12)).2.1 (e13)).2 (e17)))⟩⟩⟩)⟩⟩⟩⟩⟩⟩)⟩, fun e16 => absurd (show (nI 0) = 0 by decide) e16⟩⟩⟩, fun e15 => absurd ((e13)) e15⟩⟩⟩)⟩⟩⟩)⟩, fun e14 => absurd (show (nI 0) = 0 by decide) e14⟩⟩⟩, fun e13 => ⟨k1_01, ⟨_, rfl, ⟨fun e18 => absurd e18 (show ¬ ((nI 1) = 0) by decide), fun _ => ⟨⟨rfl, (vpk 0 4 rfl)⟩, (tc_1598_127 (d + 261) 42 v1 v2 v4 v5 v6 (mm X (s2 i 74 0 ((i 74 0) + (nI 1))) j) _ ⟨rfl, ⟨⟨rfl, (vpk 1 4 rfl)⟩, ⟨rfl, (te_1590 (d + 261) 42 v1 v6 (mm X (s2 i 74 0 ((i 74 0) + (nI 1))) j) _ ⟨rfl, ⟨⟨rfl, (h24.2.1 (e12)).1⟩, ⟨fun e19 => absurd e19 (fun z => z ((Classical.byContradiction e13))), fun _ => ⟨k1_01, ⟨_, rfl, ⟨fun e20 => absurd e20 (show ¬ ((nI 1) = 0) by decide), fun _ => ⟨rfl, ⟨⟨(Or.inl rfl), (h24.2.1 (e12)).1⟩, ⟨fun e21 => ⟨⟨rfl, (vpk 1 4 rfl)⟩, (tc_1598_161 (d + 261) 42 v1 v2 v4 v5 v6 (mm X (s2 (s2 i 74 0 ((i 74 0) + (nI 1))) 74 1 ((i 74 1) + (nI 0))) j) _ ⟨rfl, ⟨⟨rfl, (vpk 2 4 rfl)⟩, ⟨rfl, ⟨⟨(Or.inl rfl), (h24.2.1 (e12)).1⟩, ⟨fun _ => ⟨⟨rfl, (vpk 2 4 rfl)⟩, (tc_1598_185 (d + 261) 42 v1 v2 v4 v5 v6 (mm X (s2 (s2 (s2 i 74 0 ((i 74 0) + (nI 1))) 74 1 ((i 74 1) + (nI 0))) 74 2 ((i 74 2) + (nI 0))) j) _ ⟨rfl, ⟨⟨rfl, (vpk 3 4 rfl)⟩, ⟨⟨rfl, (vpk 3 4 rfl)⟩, (tc_1598_195 (d + 261) 42 v1 v2 v4 v5 v6 (mm X (s2 (s2 (s2 (s2 i 74 0 ((i 74 0) + (nI 1))) 74 1 ((i 74 1) + (nI 0))) 74 2 ((i 74 2) + (nI 0))) 74 3 ((i 74 3) + (nI 1))) j) _ (((h24.2.1 (e12)).2.2 ((Classical.byContradiction e13))).1 (e21)))⟩⟩⟩)⟩, fun e22 => absurd ((e21)) e22⟩⟩⟩⟩⟩)⟩, fun e21 => ⟨⟨rfl, (vpk 1 4 rfl)⟩, (tc_1598_161 (d + 261) 42 v1 v2 v4 v5 v6 (mm X (s2 (s2 i 74 0 ((i 74 0) + (nI 1))) 74 1 ((i 74 1) + (nI 1))) j) _ ⟨rfl, ⟨⟨rfl, (vpk 2 4 rfl)⟩, ⟨rfl, ⟨⟨(Or.inl rfl), (h24.2.1 (e12)).1⟩, ⟨fun e23 => absurd e23 ((e21)), fun _ => ⟨⟨rfl, (vpk 2 4 rfl)⟩, (tc_1598_185 (d + 261) 42 v1 v2 v4 v5 v6 (mm X (s2 (s2 (s2 i 74 0 ((i 74 0) + (nI 1))) 74 1 ((i 74 1) + (nI 1))) 74 2 ((i 74 2) + (nI 1))) j) _ ⟨rfl, ⟨⟨rfl, (vpk 3 4 rfl)⟩, ⟨⟨rfl, (vpk 3 4 rfl)⟩, (tc_1598_195 (d + 261) 42 v1 v2 v4 v5 v6 (mm X (s2 (s2 (s2 (s2 i 74 0 ((i 74 0) + (nI 1))) 74 1 ((i 74 1) + (nI 1))) 74 2 ((i 74 2) + (nI 1))) 74 3 ((i 74 3) + (nI 1))) j) _ (((h24.2.1 (e12)).2.2 ((Classical.byContradiction e13))).2 (e21)))⟩⟩⟩)⟩⟩⟩⟩⟩⟩)⟩⟩⟩⟩⟩⟩⟩⟩⟩⟩)⟩⟩⟩)⟩⟩⟩⟩⟩⟩⟩)⟩⟩⟩, fun e12 => (tc_1598_195 (d + 261) 42 v1 v2 v4 v5 v6 (mm X i j) _ (h24.2.2 (e12)))⟩⟩)⟩⟩⟩)⟩⟩⟩
theorem k_22 (d : Nat) {X : XS} {i : Nat → Nat → Int32} {j : Nat → Nat → Int64} (h : Rel X i j) (a1 a2 a3 : Int32) {Kf : AM → Prop} (hK : Nx X Kf) : WI (d + 300) 1431 [.ref 2, .int a1, .int a2, .int a3] (mm X i j) (fun x1 M1 => WI (d + 300) 1598 [.ref 42, .int a1, .int a2, .int a3] M1 (fun x2 M2 => x1 = x2 ∧ Kf M2)) := by
  have ht := hK.th h
  have hrel := h
  obtain ⟨hx, ⟨⟨n, h0⟩, h1, ⟨ng, h2, no, h4⟩, ⟨tn, h3⟩, ⟨np, h5⟩, h6, ns, h7⟩, h8, hz⟩ := h

  have e1 := h2.2.1
  have e2 := h2.2.2.1
  have e3 := h4.2.1
  have e4 := h4.2.2.1
  have hno := h4.1
  have hng := h2.1
  have hn := h0.2.1.1.2
  refine s_1431 _ X i j _ _ _ _ ⟨h2.gl, ?_, ?_⟩
  · rw [e1]
    exact fun z => s_1598 _ X i j _ _ _ _ ⟨fun _ => ⟨rfl, ht⟩, fun _ => bq_t (by rw [e2]; exact z) ⟨rfl, ht⟩⟩
  rw [e1]
  intro z hO
  have z2 : nI 0 ≤ a2 ∧ a2 ≤ i 42 7 - nI 1 := by rw [e2]; exact z
  obtain ⟨g, hg, rfl⟩ := idx_of (by omega) z
  rw [tc_nI (by omega)] at hO ⊢
  refine ⟨h4.sg, ?_, ?_⟩
  · rw [e3]
    exact fun w => s_1598 _ X i j _ _ _ _ (bq_t (by rw [e4]; exact w) ⟨rfl, ht⟩)
  rw [e3]
  intro w hOO
  have w2 : nI 0 ≤ a1 ∧ a1 ≤ i 42 14 - nI 1 := by rw [e4]; exact w
  obtain ⟨s, hs, rfl⟩ := idx_of (by omega) w
  refine bq_c (fun y => s_1598 _ X i j _ _ _ _ (bq_f w2 (bq_f z2 (br_f y ⟨rfl, ht⟩)))) (fun y => ?_)
  obtain ⟨i1, hE1, f1, z1, r40, hL, hS⟩ := lov 0 X i j h0 h2 h4 hz (shlI (nI 1) (nI s)) a3 (q := 1) (by decide)
  refine ⟨i1, hE1.up (by omega), ?_⟩
  obtain ⟨A, hA⟩ : ∃ A, A = svP X i s := ⟨_, rfl⟩
  obtain ⟨ca, hca⟩ : ∃ ca, ca = caF i n a3 1 := ⟨_, rfl⟩
  obtain ⟨kn, hkn⟩ : ∃ kn, kn = n - 1 := ⟨_, rfl⟩
  rw [← hca, ← hkn] at hS
  obtain ⟨P, hP⟩ : ∃ P : Nat → Prop, P = fun v => evenP (wdP i n g v) A ca kn := ⟨_, rfl⟩
  refine lup 9 (fun v (z : Int32 × (Nat → Nat → Int32)) => z.1 = bsW P v ∧ ∀ b, b ≠ 36 → z.2 b = i1 b) (fun v z => (43, [(0, .ref 2), (4, .ref (xr X 17 g)), (5, .int z.1), (6, .int (nI v))], [], mm X z.2 j)) ?_ ?_ 0 (nI 0, i1) (Nat.zero_le _) ⟨rfl, fun _ _ => rfl⟩
  · rintro ⟨bw, i2⟩ ⟨hb, g1⟩
    dsimp only at hb g1 ⊢
    subst hb
    refine s_1431_43 _ X i2 j _ hO _ _ _ (br_t (by decide) (qI_of ?_))
    have F2 : FrC X i i2 := f1.tr (FrC_36 g1)
    have Z2 : RZ i2 := RZ_of z1 (g1 34 (by decide)) (g1 35 (by decide))
    have g42 : i2 42 = i 42 := F2 42 (Or.inl (show 0 < 10 by decide))
    refine s_1598 _ X i2 _ _ _ _ _ (bq_f (by rw [g42]; exact w2) (bq_f (by rw [g42]; exact z2) (br_t y ?_)))
    obtain ⟨i4, hE4, f4, h71, p46, -, -, p72, p73⟩ := prpv 0 X i (s2 i2 42 36 (nI 0)) j h0 h2 h4 (F2.kp.tr (FrR_th (X := X) (nI 0)).kp) (shlI (nI 1) (nI s)) a3 (q := 1) (by decide)
    rw [← hca, ← hkn] at p73
    rw [← hkn] at p46
    refine ⟨i4, hE4.up (by omega), ?_⟩
    have k4 : Kp X i i4 := F2.kp.tr ((FrR_th (nI 0)).tr f4.fr).kp
    refine lup 9 (fun v (z : Int32 × (Nat → Nat → Int32)) => z.1 = bsW P v ∧ ∀ b, b ≠ 74 → z.2 b = i4 b) (fun v z => (46, [(0, .ref 42), (1, .int (nI s)), (2, .int (nI g)), (4, .int z.1), (5, .int (nI v))], [], mm X z.2 j)) ?_ ?_ 0 (nI 0, i4) (Nat.zero_le _) ⟨rfl, fun _ _ => rfl⟩
    · rintro ⟨bw, i5⟩ ⟨hb, k1⟩
      dsimp only at hb k1 ⊢
      subst hb
      refine s_1598_46 _ X i5 j _ _ _ _ _ (br_t (by decide) (qI_of ⟨rfl, hK.k (fin_row hrel F2 Z2 (((FrR_th (nI 0)).tr f4.fr).tr (FrR_74 k1)) ?_)⟩))
      obtain ⟨L, l0, l1, l2, l3⟩ := h8
      refine ⟨L, l0, ?_, ?_, l3⟩
      · rw [k1 40 (by decide), f4.1 40 (show ¬ (48 : Nat) = 40 by decide) (by decide), s2_ne (show 40 ≠ 42 by decide), g1 40 (by decide), r40]; exact l1
      · rw [k1 42 (by decide), f4.2 35 (by decide), s2_ne2 (show 35 ≠ 36 by decide), g42]; exact l2
    · rintro v ⟨bw, i5⟩ hv ⟨hb, k1⟩ go
      dsimp only at hb k1 ⊢
      subst hb
      refine s_1598_46 _ X i5 j _ _ _ _ _ (br_f (fun y => by rw [nI_ltI (by omega) (by omega)] at y; omega) ?_)
      refine lup 4 (fun e (i6 : Nat → Nat → Int32) => (∀ b, b ≠ 74 → i6 b = i4 b) ∧ ∀ p, p < e → i6 74 p = nI 0) (fun e i6 => (56, [(0, .ref 42), (1, .int (nI s)), (2, .int (nI g)), (4, .int (bsW P v)), (5, .int (nI v)), (6, .int (nI e))], [], mm X i6 j)) ?_ ?_ 0 i5 (Nat.zero_le _) ⟨k1, fun p hp => absurd hp (by omega)⟩
      · rintro i6 ⟨l1, l2⟩
        refine s_1598_56 _ X i6 j _ _ _ _ _ _ (br_t (Int32.le_refl _) ?_)
        obtain ⟨V, hV⟩ : ∃ V, V = wdP i n g v := ⟨_, rfl⟩
        refine lup kn (fun t (i7 : Nat → Nat → Int32) => (∀ b, b ≠ 74 → i7 b = i4 b) ∧ i7 74 0 = nI (ct (fun t => V t ∧ A t) t) ∧ i7 74 1 = nI (ct (fun t => V t ∧ A t ∧ ca t) t) ∧ i7 74 2 = nI (ct (fun t => V t ∧ ca t) t) ∧ i7 74 3 = nI (ct V t)) (fun t i7 => (79, [(0, .ref 42), (1, .int (nI s)), (2, .int (nI g)), (4, .int (bsW P v)), (5, .int (nI v)), (6, .int (nI t))], [], mm X i7 j)) ?_ ?_ 0 i6 (Nat.zero_le _) ⟨l1, l2 0 (by decide), l2 1 (by decide), l2 2 (by decide), l2 3 (by decide)⟩
        · rintro i7 ⟨l1, d0, d1, d2, d3⟩
          refine s_1598_79 _ X i7 j _ _ _ _ _ _ (br_t (by rw [l1 42 (by decide), p46]; exact Int32.le_refl _) ?_)
          rw [d0, d1, d2, d3, nI_add]
          have eP : P v ↔ nI (ct (fun t => V t ∧ A t ∧ ca t) kn) * nI (ct V kn) = nI (ct (fun t => V t ∧ A t) kn) * nI (ct (fun t => V t ∧ ca t) kn) := by rw [hP, hV]; rfl
          rw [← propext eP]
          exact br_c (fun u => go (bsW P v, i7) ⟨(bsW_y u).symm, l1⟩) (fun u => go (bsW P v ||| shlI (nI 1) (nI v), i7) ⟨(bsW_n u).symm, l1⟩)
        · rintro t i7 htn ⟨l1, d0, d1, d2, d3⟩ go2
          have k7 : Kp X i i7 := k4.tr (FrR_74 (X := X) l1).kp
          have hE := rwd (n := n) j h2 k7 hg (t := t) (by rw [l1 71 (by decide)]; exact h71 g hg t (by omega)) (nI 0)
          refine s_1598_79 _ X i7 j _ _ _ _ _ _ (br_f (by rw [l1 42 (by decide), p46]; exact nI_ge htn (by omega)) ?_)
          rw [pk_mul, nI_add (240 * g) t, tc_nI (by omega), tc_nI (by omega), nI_add t 1, l1 72 (by decide), p72 t (by omega), propext (soF_r hno hs t), show svP X i s t = A t by rw [hA], l1 73 (by decide), p73 t htn, bi_eq0]
          refine ⟨vp_in_nI (by omega) (by decide), _, hE.up (by omega), ?_⟩
          have eV : WD i n g (nI 0) t = nI v ↔ V t := by rw [hV]; rfl
          rw [propext eV]
          have nx : ∀ x0 x1 x2 : Nat, V t → x0 = b01 (A t) → x1 = b01 (A t ∧ ca t) → x2 = b01 (ca t) → WP (d + 300) 1598 (79, [(0, .ref 42), (1, .int (nI s)), (2, .int (nI g)), (4, .int (bsW P v)), (5, .int (nI v)), (6, .int (nI (t + 1)))], [], mm X (s2 (s2 (s2 (s2 i7 74 0 (i7 74 0 + nI x0)) 74 1 (i7 74 1 + nI x1)) 74 2 (i7 74 2 + nI x2)) 74 3 (i7 74 3 + nI 1)) j) (qI fun x2 M2 => bsW P 9 = x2 ∧ Kf M2) := by
            rintro x0 x1 x2 vt rfl rfl rfl
            have bc : ∀ {p q : Prop}, (p ↔ q) → b01 p = b01 q := fun h => by rw [propext h]
            refine go2 _ ⟨fun b hb => by rw [s2_ne hb, s2_ne hb, s2_ne hb, s2_ne hb]; exact l1 b hb, ?_, ?_, ?_, ?_⟩
            · rw [s2_ne2 (by decide), s2_ne2 (by decide), s2_ne2 (by decide), s2_self, d0, bc (p := A t) (q := V t ∧ A t) ⟨fun u => ⟨vt, u⟩, fun u => u.2⟩]; exact ct_b (fun t => V t ∧ A t) t
            · rw [s2_ne2 (by decide), s2_ne2 (by decide), s2_self, d1, bc (p := A t ∧ ca t) (q := V t ∧ A t ∧ ca t) ⟨fun u => ⟨vt, u⟩, fun u => u.2⟩]; exact ct_b (fun t => V t ∧ A t ∧ ca t) t
            · rw [s2_ne2 (by decide), s2_self, d2, bc (p := ca t) (q := V t ∧ ca t) ⟨fun u => ⟨vt, u⟩, fun u => u.2⟩]; exact ct_b (fun t => V t ∧ ca t) t
            · rw [s2_self, d3, nI_add, ct_t vt]
          refine br_c (fun vt => ⟨vp_in_nI (by omega) (by decide), bq_c (fun a => br_c (fun b => ?_) (fun b => ?_)) (fun a => br_c (fun b => ?_) (fun b => ?_))⟩) (fun vt => go2 i7 ⟨l1, ?_, ?_, ?_, ?_⟩)
          · exact nx 0 0 0 vt (b01_f a).symm (b01_f fun u => a u.1).symm (b01_f b).symm
          · exact nx 0 0 1 vt (b01_f a).symm (b01_f fun u => a u.1).symm (b01_t (Classical.byContradiction b)).symm
          · exact nx 1 0 0 vt (b01_t a).symm (b01_f fun u => b u.2).symm (b01_f b).symm
          · exact nx 1 1 1 vt (b01_t a).symm (b01_t ⟨a, Classical.byContradiction b⟩).symm (b01_t (Classical.byContradiction b)).symm
          · rw [ct_f (p := fun t => V t ∧ A t) fun u => vt u.1]; exact d0
          · rw [ct_f (p := fun t => V t ∧ A t ∧ ca t) fun u => vt u.1]; exact d1
          · rw [ct_f (p := fun t => V t ∧ ca t) fun u => vt u.1]; exact d2
          · rw [ct_f vt]; exact d3
      · rintro e i6 he ⟨l1, l2⟩ go2
        refine s_1598_56 _ X i6 j _ _ _ _ _ _ (br_f (nI_ge he (by decide)) ⟨vp_in_nI he (by decide), ?_⟩)
        rw [tc_nI (by omega), nI_add]
        refine go2 _ ⟨fun b hb => by rw [s2_ne hb]; exact l1 b hb, fun p hp => ?_⟩
        by_cases h : p = e
        · subst h; exact s2_self _ _ _ _
        · rw [s2_ne2 h]; exact l2 p (by omega)
  · rintro v ⟨bw, i2⟩ hv ⟨hb, g1⟩ go
    dsimp only at hb g1 ⊢
    subst hb
    refine s_1431_43 _ X i2 j _ hO _ _ _ (br_f (fun y => by rw [nI_ltI (by omega) (by omega)] at y; omega) ?_)
    obtain ⟨kk, hL2⟩ := LK.c36 h2 hL g1
    have hS2 := hS.kp (g1 31 (by decide)) (g1 32 (by decide)) (g1 33 (by decide))
    obtain ⟨i3, hE3, l1, hT⟩ := c_1480 0 X i i2 j (w := v) (A := A) h0 h2 (f1.kp.tr kk) hL2 hS2 (by omega) (fun t ht => by rw [hA]; exact soF_c hno hs t) hg
    refine ⟨i3, hE3.up (by omega), ?_⟩
    have eP : P v ↔ evenP (wdP i n g v) A ca kn := by rw [hP]
    rw [propext hT.lean, ← propext eP, nI_add]
    exact br_c (fun u => go (bsW P v, i3) ⟨(bsW_y u).symm, fun b hb => (l1 b hb).trans (g1 b hb)⟩) (fun u => go (bsW P v ||| shlI (nI 1) (nI v), i3) ⟨(bsW_n u).symm, fun b hb => (l1 b hb).trans (g1 b hb)⟩)
