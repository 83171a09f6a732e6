/-! ===== days added: sheet ===== -/
def sht (k v : Int32) : Int32 := if k = 0 then v.toInt8.toInt32 else if k = nI 1 then v.toInt16.toInt32 else v
def clA (v : Int32) : Int32 := mxI (nI 0) (mnI (nI 999) v)
theorem clA_in (v : Int32) : ∃ m, m < 1000 ∧ clA v = nI m := by
  unfold clA mxI mnI
  by_cases h : v < nI 999
  · rw [if_pos h]
    by_cases h2 : nI 0 < v
    · rw [if_pos h2]
      obtain ⟨g, hg, e⟩ := of_rng (m := 999) (by decide) ⟨Int32.le_of_lt h2, Int32.le_of_lt h⟩
      exact ⟨g, by omega, e⟩
    · rw [if_neg h2]; exact ⟨0, by decide, rfl⟩
  · rw [if_neg h, if_pos (by decide)]; exact ⟨999, by decide, rfl⟩
theorem dy_add {X : XS} {o n : Nat} {i : Nat → Nat → Int32} {w a k : Nat → Int32} {p q r : Nat} (e0 : xr X o 0 = p) (e1 : xr X o 1 = q) (e2 : xr X o 2 = r) (hd : p ≠ q ∧ p ≠ r ∧ q ≠ r ∧ o ≠ p ∧ o ≠ q ∧ o ≠ r) (h : DY X o i n w a k) (hn : n < 240) {vw va vk : Int32} (hw : w n = vw) (ha : a n = va) (hk : k n = vk) :
    DY X o (s2 (s2 (s2 (s2 i p n vw) q n va) r n vk) o 3 (nI n + nI 1)) (n + 1) w a k := by
  obtain ⟨d1, d2, d3, d4, d5, d6⟩ := hd
  refine ⟨⟨by rw [s2_self, nI_add], by omega⟩, fun t ht => ?_⟩
  have hh := h.2 t
  rw [e0, e1, e2] at hh ⊢
  rw [s2_ne (Ne.symm d4), s2_ne (Ne.symm d5), s2_ne (Ne.symm d6), s2_ne d2, s2_ne d1, s2_ne d3, s2_same, s2_same, s2_same, s2_ne (Ne.symm d1), s2_ne (Ne.symm d3), s2_ne (Ne.symm d2)]
  by_cases e : t = n
  · subst e; rw [if_pos rfl, if_pos rfl, if_pos rfl]; exact ⟨hw.symm, ha.symm, hk.symm⟩
  · rw [if_neg e, if_neg e, if_neg e]; exact hh (by omega)
def DR (i : Nat → Nat → Int32) (n : Nat) (w a k : Nat → Int32) : Prop := (i 42 0 = nI n ∧ n ≤ 240) ∧ ∀ t, t < n → i 43 t = w t ∧ i 44 t = a t ∧ i 45 t = k t
theorem dr_add {n : Nat} {i : Nat → Nat → Int32} {w a k : Nat → Int32} (h : DR i n w a k) (hn : n < 240) {vw va vk : Int32} (hw : w n = vw) (ha : a n = va) (hk : k n = vk) :
    DR (s2 (s2 (s2 (s2 i 43 n vw) 44 n va) 45 n vk) 42 0 (nI n + nI 1)) (n + 1) w a k := by
  refine ⟨⟨by rw [s2_self, nI_add], by omega⟩, fun t ht => ?_⟩
  have hh := h.2 t
  rw [s2_ne (show 43 ≠ 42 by decide), s2_ne (show 43 ≠ 45 by decide), s2_ne (show 43 ≠ 44 by decide), s2_ne (show 44 ≠ 42 by decide), s2_ne (show 44 ≠ 45 by decide), s2_ne (show 45 ≠ 42 by decide), s2_same, s2_same, s2_same, s2_ne (show 44 ≠ 43 by decide), s2_ne (show 45 ≠ 44 by decide), s2_ne (show 45 ≠ 43 by decide)]
  by_cases e : t = n
  · subst e; rw [if_pos rfl, if_pos rfl, if_pos rfl]; exact ⟨hw.symm, ha.symm, hk.symm⟩
  · rw [if_neg e, if_neg e, if_neg e]; exact hh (by omega)
/-- days added to both; the drawn number may have changed -/
theorem Rel.dys {X : XS} {i i2 : Nat → Nat → Int32} {j : Nat → Nat → Int64} {n : Nat} (h : Rel X i j) (f : ∀ b, b ≠ 3 → b ≠ 9 → b ≠ 10 → b ≠ 11 → b ≠ 12 → b ≠ 42 → b ≠ 43 → b ≠ 44 → b ≠ 45 → i2 b = i b) (f42 : ∀ k, k ≠ 0 → k ≠ 6 → k ≠ 36 → i2 42 k = i 42 k) (e3 : i2 3 2 = i2 42 6)
    {w a k : Nat → Int32} (hc : DY X 9 i2 n w a k) (hr : DR i2 n w a k) (hw : ∀ t, t < n → (∃ m, m < 4 ∧ w t = nI m) ∧ ∃ m, m < 1000 ∧ a t = nI m) : Rel X i2 j := by
  obtain ⟨hx, ⟨⟨n0, h0⟩, h1, ⟨ng, h2, no, h4⟩, ⟨tn, h3⟩, ⟨np, h5⟩, h6, ns, h7⟩, h8, hz⟩ := h
  have g : Ag X (upN [3, 9, 10, 11, 12, 43, 44, 45]) (fun _ => False) (upN [0, 6, 36]) (fun _ => false) i i2 := by
    refine ⟨fun b hb he h42 _ => ?_, fun b hb _ => f b (by omega) (by omega) (by omega) (by omega) (by omega) (by omega) (by omega) (by omega) (by omega), fun k hk => ?_, fun k _ => by rw [f 2 (by decide) (by decide) (by decide) (by decide) (by decide) (by decide) (by decide) (by decide) (by decide)]⟩
    · have q := upN_ne he
      exact f b (q 3 (by simp)) (q 9 (by simp)) (q 10 (by simp)) (q 11 (by simp)) (q 12 (by simp)) h42 (q 43 (by simp)) (q 44 (by simp)) (q 45 (by simp))
    · have q := upN_ne hk
      exact f42 k (q 0 (by simp)) (q 6 (by simp)) (q 36 (by simp))
  refine ⟨hx, ⟨⟨n, ?_⟩, ?_, ⟨ng, h2.ag g rfl no_T, no, h4.ag g rfl no_T⟩, ⟨tn, h3.ag g rfl⟩, ⟨np, h5.ag g rfl no_T⟩, h6.ag g rfl, ns, h7.ag g rfl⟩, h8.ag g rfl, hz.ag g rfl⟩
  · refine ⟨hr.1.1, ⟨hc.1, fun t ht => ?_⟩, fun t ht => ?_⟩
    · obtain ⟨b1, b2, b3⟩ := hr.2 t ht
      rw [b1, b2, b3]; exact hc.2 t ht
    · obtain ⟨b1, b2, b3⟩ := hr.2 t ht
      rw [b1, b2]; exact hw t ht
  · obtain ⟨-, r2⟩ := h1
    refine ⟨e3, ?_⟩
    rw [g.f 4 rfl, g.f 5 rfl, g.f 6 rfl, g.f 7 rfl, g.f 8 rfl, g.f 46 rfl, g.f 47 rfl, g.f 66 rfl, g.f 67 rfl, g.f 68 rfl]
    exact r2
theorem sht_c {k v : Int32} {K : Int32 → Prop} (h : K (sht k v)) : ((¬ (k = 0) → ((¬ (k = nI 1) → K v) ∧ (k = nI 1 → K v.toInt16.toInt32))) ∧ (k = 0 → K v.toInt8.toInt32)) := by
  unfold sht at h
  refine ⟨fun z => ?_, fun z => by rw [if_pos z] at h; exact h⟩
  rw [if_neg z] at h
  exact ⟨fun y => by rw [if_neg y] at h; exact h, fun y => by rw [if_pos y] at h; exact h⟩
set_option maxRecDepth 100000 in
theorem s_1410 (d : Nat) (X : XS) (i : Nat → Nat → Int32) (j : Nat → Nat → Int64) (a1 : Int32) (a2 : Int32) (a3 : Int32) (a4 : Int32) (a5 : Int32) (K : Int32 → AM → Prop) (h : ((¬ ((nI 0) ≤ a1 ∧ a1 ≤ (nI 3)) → K (kI (-1)) (mm X i j)) ∧ ((nI 0) ≤ a1 ∧ a1 ≤ (nI 3) → ((¬ ((nI 0) ≤ a5 ∧ a5 ≤ (nI 3)) → K (kI (-1)) (mm X i j)) ∧ ((nI 0) ≤ a5 ∧ a5 ≤ (nI 3) → ((a2 ≤ (nI 40) → ((a1 = (nI 3) → K (kI (-3)) (mm X i j)) ∧ (¬ (a1 = (nI 3)) → ((((i 9 3) + a2) ≤ (nI 240) → ((0 ≤ a2 → WP (d + 2) 1410 (65, [(0, .ref 2), (1, .int a1), (2, .int a2), (3, .int a3), (4, .int a4), (5, .int a5), (6, .int (nI 0))], [], (mm X i j)) (qI K)) ∧ (¬ (0 ≤ a2) → K (kI (-2)) (mm X i j)))) ∧ (¬ (((i 9 3) + a2) ≤ (nI 240)) → K (kI (-1)) (mm X i j)))))) ∧ (¬ (a2 ≤ (nI 40)) → K (kI (-1)) (mm X i j)))))))) : WI (d + 2) 1410 [.ref 2, .int a1, .int a2, .int a3, .int a4, .int a5] (mm X i j) K := te_1410 (d + 1) 2 a1 a2 a3 a4 a5 (mm X i j) (qI K) (p_1462 (d + 1) X i j a1 (nI 0) (nI 3) _ ⟨fun e1 => ⟨_, rfl, (h.1 ((bi_z e1)))⟩, fun e1 => (p_1463 d X i j a5 _ ⟨fun e2 => ⟨_, rfl, ((h.2 ((bi_n e1))).1 ((bi_z e2)))⟩, fun e2 => ⟨fun e3 => ⟨fun e4 => ⟨fun e5 => absurd e5 (fun z => z (e4)), fun _ => ⟨_, rfl, ((((h.2 ((bi_n e1))).2 ((bi_n e2))).1 (e3)).1 (e4))⟩⟩, fun e4 => ⟨rfl, ⟨rfl, (te_129 (d + 1) 9 (mm X i j) _ ⟨rfl, ⟨_, rfl, ⟨fun e6 => ⟨fun _ => ⟨fun e8 => ((((((h.2 ((bi_n e1))).2 ((bi_n e2))).1 (e3)).2 (e4)).1 (e6)).1 (e8)), fun e8 => ⟨_, rfl, ((((((h.2 ((bi_n e1))).2 ((bi_n e2))).1 (e3)).2 (e4)).1 (e6)).2 (e8))⟩⟩, fun e7 => absurd ((e4)) e7⟩, fun e6 => ⟨_, rfl, (((((h.2 ((bi_n e1))).2 ((bi_n e2))).1 (e3)).2 (e4)).2 (e6))⟩⟩⟩⟩)⟩⟩⟩, fun e3 => ⟨_, rfl, (((h.2 ((bi_n e1))).2 ((bi_n e2))).2 (e3))⟩⟩⟩)⟩)
set_option maxRecDepth 100000 in
theorem s_1410_65 (d : Nat) (X : XS) (i : Nat → Nat → Int32) (j : Nat → Nat → Int64) (v1 : Int32) (v2 : Int32) (v3 : Int32) (v4 : Int32) (v5 : Int32) (v6 : Int32) (Q : Option (Option Value) → AM → Prop) (h : ((v2 ≤ v6 → Q (some (some (.int (i 9 3)))) (mm X i j)) ∧ (¬ (v2 ≤ v6) → ((¬ (v1 = 0) → ((¬ (v1 = (nI 1)) → (((nI 240) ≤ (i 9 3) → WP (d + 2) 1410 (65, [(0, .ref 2), (1, .int v1), (2, .int v2), (3, .int v3), (4, .int v4), (5, .int v5), (6, .int (v6 + (nI 1)))], [], (mm X i j)) Q) ∧ (¬ ((nI 240) ≤ (i 9 3)) → (vp_in (i 9 3) 240) ∧ WP (d + 2) 1410 (65, [(0, .ref 2), (1, .int v1), (2, .int v2), (3, .int v3), (4, .int v4), (5, .int v5), (6, .int (v6 + (nI 1)))], [], (mm X (s2 (s2 (s2 (s2 i 10 ((i 9 3).toNatClampNeg) v5) 11 ((i 9 3).toNatClampNeg) (mxI (nI 0) (mnI (nI 999) (v3 + (v6 * v4))))) 12 ((i 9 3).toNatClampNeg) (nI 0)) 9 3 ((i 9 3) + (nI 1))) j)) Q))) ∧ (v1 = (nI 1) → (((nI 240) ≤ (i 9 3) → WP (d + 2) 1410 (65, [(0, .ref 2), (1, .int v1), (2, .int v2), (3, .int v3), (4, .int v4), (5, .int v5), (6, .int (v6 + (nI 1)))], [], (mm X i j)) Q) ∧ (¬ ((nI 240) ≤ (i 9 3)) → (vp_in (i 9 3) 240) ∧ WP (d + 2) 1410 (65, [(0, .ref 2), (1, .int v1), (2, .int v2), (3, .int v3), (4, .int v4), (5, .int v5), (6, .int (v6 + (nI 1)))], [], (mm X (s2 (s2 (s2 (s2 i 10 ((i 9 3).toNatClampNeg) v5) 11 ((i 9 3).toNatClampNeg) (mxI (nI 0) (mnI (nI 999) ((v3 + (v6 * v4)).toInt16.toInt32)))) 12 ((i 9 3).toNatClampNeg) (nI 0)) 9 3 ((i 9 3) + (nI 1))) j)) Q))))) ∧ (v1 = 0 → (((nI 240) ≤ (i 9 3) → WP (d + 2) 1410 (65, [(0, .ref 2), (1, .int v1), (2, .int v2), (3, .int v3), (4, .int v4), (5, .int v5), (6, .int (v6 + (nI 1)))], [], (mm X i j)) Q) ∧ (¬ ((nI 240) ≤ (i 9 3)) → (vp_in (i 9 3) 240) ∧ WP (d + 2) 1410 (65, [(0, .ref 2), (1, .int v1), (2, .int v2), (3, .int v3), (4, .int v4), (5, .int v5), (6, .int (v6 + (nI 1)))], [], (mm X (s2 (s2 (s2 (s2 i 10 ((i 9 3).toNatClampNeg) v5) 11 ((i 9 3).toNatClampNeg) (mxI (nI 0) (mnI (nI 999) ((v3 + (v6 * v4)).toInt8.toInt32)))) 12 ((i 9 3).toNatClampNeg) (nI 0)) 9 3 ((i 9 3) + (nI 1))) j)) Q))))))) : WP (d + 2) 1410 (65, [(0, .ref 2), (1, .int v1), (2, .int v2), (3, .int v3), (4, .int v4), (5, .int v5), (6, .int v6)], [], mm X i j) Q := tc_1410_65 (d + 1) 2 v1 v2 v3 v4 v5 v6 (mm X i j) Q ⟨fun e9 => ⟨rfl, ⟨rfl, (te_129 (d + 1) 9 (mm X i j) _ ⟨rfl, ⟨_, rfl, (h.1 (e9))⟩⟩)⟩⟩, fun e9 => ⟨rfl, (te_1466 (d + 1) v1 (v3 + (v6 * v4)) (mm X i j) _ ⟨fun e10 => ⟨fun e11 => ⟨_, rfl, (te_1465 (d + 1) (v3 + (v6 * v4)) (mm X i j) _ ⟨_, rfl, ⟨rfl, (te_131 (d + 1) 9 v5 (mxI (nI 0) (mnI (nI 999) (v3 + (v6 * v4)))) (nI 0) (mm X i j) _ ⟨rfl, ⟨fun e12 => ⟨rfl, ((((h.2 (e9)).1 (e10)).1 (e11)).1 (e12))⟩, fun e12 => ⟨rfl, ⟨rfl, ⟨⟨rfl, ((((h.2 (e9)).1 (e10)).1 (e11)).2 (e12)).1⟩, ⟨rfl, ⟨rfl, ⟨⟨rfl, ((((h.2 (e9)).1 (e10)).1 (e11)).2 (e12)).1⟩, ⟨rfl, ⟨rfl, ⟨⟨rfl, ((((h.2 (e9)).1 (e10)).1 (e11)).2 (e12)).1⟩, (tc_131_40 (d + 1) 9 (mm X (s2 (s2 (s2 i 10 ((i 9 3).toNatClampNeg) v5) 11 ((i 9 3).toNatClampNeg) (mxI (nI 0) (mnI (nI 999) (v3 + (v6 * v4))))) 12 ((i 9 3).toNatClampNeg) (nI 0)) j) _ ⟨rfl, ⟨rfl, ⟨rfl, ((((h.2 (e9)).1 (e10)).1 (e11)).2 (e12)).2⟩⟩⟩)⟩⟩⟩⟩⟩⟩⟩⟩⟩⟩⟩)⟩⟩)⟩, fun e11 => ⟨_, rfl, (te_1465 (d + 1) ((v3 + (v6 * v4)).toInt16.toInt32) (mm X i j) _ ⟨_, rfl, ⟨rfl, (te_131 (d + 1) 9 v5 (mxI (nI 0) (mnI (nI 999) ((v3 + (v6 * v4)).toInt16.toInt32))) (nI 0) (mm X i j) _ ⟨rfl, ⟨fun e13 => ⟨rfl, ((((h.2 (e9)).1 (e10)).2 ((Classical.byContradiction e11))).1 (e13))⟩, fun e13 => ⟨rfl, ⟨rfl, ⟨⟨rfl, ((((h.2 (e9)).1 (e10)).2 ((Classical.byContradiction e11))).2 (e13)).1⟩, ⟨rfl, ⟨rfl, ⟨⟨rfl, ((((h.2 (e9)).1 (e10)).2 ((Classical.byContradiction e11))).2 (e13)).1⟩, ⟨rfl, ⟨rfl, ⟨⟨rfl, ((((h.2 (e9)).1 (e10)).2 ((Classical.byContradiction e11))).2 (e13)).1⟩, (tc_131_40 (d + 1) 9 (mm X (s2 (s2 (s2 i 10 ((i 9 3).toNatClampNeg) v5) 11 ((i 9 3).toNatClampNeg) (mxI (nI 0) (mnI (nI 999) ((v3 + (v6 * v4)).toInt16.toInt32)))) 12 ((i 9 3).toNatClampNeg) (nI 0)) j) _ ⟨rfl, ⟨rfl, ⟨rfl, ((((h.2 (e9)).1 (e10)).2 ((Classical.byContradiction e11))).2 (e13)).2⟩⟩⟩)⟩⟩⟩⟩⟩⟩⟩⟩⟩⟩⟩)⟩⟩)⟩⟩, fun e10 => ⟨_, rfl, (te_1465 (d + 1) ((v3 + (v6 * v4)).toInt8.toInt32) (mm X i j) _ ⟨_, rfl, ⟨rfl, (te_131 (d + 1) 9 v5 (mxI (nI 0) (mnI (nI 999) ((v3 + (v6 * v4)).toInt8.toInt32))) (nI 0) (mm X i j) _ ⟨rfl, ⟨fun e14 => ⟨rfl, (((h.2 (e9)).2 ((Classical.byContradiction e10))).1 (e14))⟩, fun e14 => ⟨rfl, ⟨rfl, ⟨⟨rfl, (((h.2 (e9)).2 ((Classical.byContradiction e10))).2 (e14)).1⟩, ⟨rfl, ⟨rfl, ⟨⟨rfl, (((h.2 (e9)).2 ((Classical.byContradiction e10))).2 (e14)).1⟩, ⟨rfl, ⟨rfl, ⟨⟨rfl, (((h.2 (e9)).2 ((Classical.byContradiction e10))).2 (e14)).1⟩, (tc_131_40 (d + 1) 9 (mm X (s2 (s2 (s2 i 10 ((i 9 3).toNatClampNeg) v5) 11 ((i 9 3).toNatClampNeg) (mxI (nI 0) (mnI (nI 999) ((v3 + (v6 * v4)).toInt8.toInt32)))) 12 ((i 9 3).toNatClampNeg) (nI 0)) j) _ ⟨rfl, ⟨rfl, ⟨rfl, (((h.2 (e9)).2 ((Classical.byContradiction e10))).2 (e14)).2⟩⟩⟩)⟩⟩⟩⟩⟩⟩⟩⟩⟩⟩⟩)⟩⟩)⟩⟩)⟩⟩
set_option maxRecDepth 100000 in
theorem s_1550 (d : Nat) (X : XS) (i : Nat → Nat → Int32) (j : Nat → Nat → Int64) (a1 : Int32) (a2 : Int32) (a3 : Int32) (a4 : Int32) (a5 : Int32) (K : Int32 → AM → Prop) (h : ((¬ ((nI 0) ≤ a1 ∧ a1 ≤ (nI 3)) → K (kI (-1)) (mm X (s2 i 42 36 (nI 0)) j)) ∧ ((nI 0) ≤ a1 ∧ a1 ≤ (nI 3) → ((¬ ((nI 0) ≤ a5 ∧ a5 ≤ (nI 3)) → K (kI (-1)) (mm X (s2 i 42 36 (nI 0)) j)) ∧ ((nI 0) ≤ a5 ∧ a5 ≤ (nI 3) → (((nI 40) < a2 → K (kI (-1)) (mm X (s2 i 42 36 (nI 0)) j)) ∧ (¬ ((nI 40) < a2) → (((nI 3) ≤ a1 → ((¬ (a1 = (nI 3)) → ((0 ≤ a2 → WP (d + 2) 1550 (68, [(0, .ref 42), (1, .int a1), (2, .int a2), (4, .int a4), (5, .int a5), (6, .int a3), (7, .int (nI 0))], [], (mm X (s2 i 42 36 (nI 0)) j)) (qI K)) ∧ (¬ (0 ≤ a2) → K (kI (-2)) (mm X (s2 i 42 36 (nI 0)) j)))) ∧ (a1 = (nI 3) → K (kI (-3)) (mm X (s2 i 42 36 (nI 0)) j)))) ∧ (¬ ((nI 3) ≤ a1) → ((((i 42 0) + a2) ≤ (nI 240) → ((¬ (a1 = (nI 3)) → ((0 ≤ a2 → WP (d + 2) 1550 (68, [(0, .ref 42), (1, .int a1), (2, .int a2), (4, .int a4), (5, .int a5), (6, .int a3), (7, .int (nI 0))], [], (mm X (s2 i 42 36 (nI 0)) j)) (qI K)) ∧ (¬ (0 ≤ a2) → K (kI (-2)) (mm X (s2 i 42 36 (nI 0)) j)))) ∧ (a1 = (nI 3) → K (kI (-3)) (mm X (s2 i 42 36 (nI 0)) j)))) ∧ (¬ (((i 42 0) + a2) ≤ (nI 240)) → K (kI (-1)) (mm X (s2 i 42 36 (nI 0)) j)))))))))))) : WI (d + 2) 1550 [.ref 42, .int a1, .int a2, .int a3, .int a4, .int a5] (mm X i j) K := te_1550 (d + 1) 42 a1 a2 a3 a4 a5 (mm X i j) (qI K) ⟨rfl, (p_1538 (d + 1) X (s2 i 42 36 (nI 0)) j a1 (nI 0) (nI 3) _ ⟨fun e1 => ⟨_, rfl, (h.1 ((bi_z e1)))⟩, fun e1 => (p_1544 d X (s2 i 42 36 (nI 0)) j a5 _ ⟨fun e2 => ⟨_, rfl, ((h.2 ((bi_n e1))).1 ((bi_z e2)))⟩, fun e2 => ⟨fun e3 => ⟨_, rfl, (((h.2 ((bi_n e1))).2 ((bi_n e2))).1 (e3))⟩, fun e3 => ⟨fun e4 => (tc_1550_47 (d + 1) 42 a1 a2 a3 a4 a5 (mm X (s2 i 42 36 (nI 0)) j) _ ⟨fun e5 => ⟨fun e6 => ((((((h.2 ((bi_n e1))).2 ((bi_n e2))).2 (e3)).1 (e4)).1 (e5)).1 (e6)), fun e6 => ⟨_, rfl, ((((((h.2 ((bi_n e1))).2 ((bi_n e2))).2 (e3)).1 (e4)).1 (e5)).2 (e6))⟩⟩, fun e5 => ⟨_, rfl, (((((h.2 ((bi_n e1))).2 ((bi_n e2))).2 (e3)).1 (e4)).2 ((Classical.byContradiction e5)))⟩⟩), fun e4 => ⟨rfl, ⟨fun e7 => (tc_1550_47 (d + 1) 42 a1 a2 a3 a4 a5 (mm X (s2 i 42 36 (nI 0)) j) _ ⟨fun e8 => ⟨fun e9 => (((((((h.2 ((bi_n e1))).2 ((bi_n e2))).2 (e3)).2 (e4)).1 (e7)).1 (e8)).1 (e9)), fun e9 => ⟨_, rfl, (((((((h.2 ((bi_n e1))).2 ((bi_n e2))).2 (e3)).2 (e4)).1 (e7)).1 (e8)).2 (e9))⟩⟩, fun e8 => ⟨_, rfl, ((((((h.2 ((bi_n e1))).2 ((bi_n e2))).2 (e3)).2 (e4)).1 (e7)).2 ((Classical.byContradiction e8)))⟩⟩), fun e7 => ⟨_, rfl, (((((h.2 ((bi_n e1))).2 ((bi_n e2))).2 (e3)).2 (e4)).2 (e7))⟩⟩⟩⟩⟩⟩)⟩)⟩
set_option maxRecDepth 100000 in
theorem s_1550_68 (d : Nat) (X : XS) (i : Nat → Nat → Int32) (j : Nat → Nat → Int64) (v1 : Int32) (v2 : Int32) (v4 : Int32) (v5 : Int32) (v6 : Int32) (v7 : Int32) (Q : Option (Option Value) → AM → Prop) (h : ((v2 ≤ v7 → Q (some (some (.int (i 42 0)))) (mm X i j)) ∧ (¬ (v2 ≤ v7) → ((¬ (v1 = 0) → ((¬ (v1 = (nI 1)) → (vp_in (i 42 0) 240) ∧ WP (d + 2) 1550 (68, [(0, .ref 42), (1, .int v1), (2, .int v2), (4, .int v4), (5, .int v5), (6, .int (v6 + v4)), (7, .int (v7 + (nI 1)))], [], (mm X (s2 (s2 (s2 (s2 i 43 ((i 42 0).toNatClampNeg) v5) 44 ((i 42 0).toNatClampNeg) (mxI (nI 0) (mnI (nI 999) v6))) 45 ((i 42 0).toNatClampNeg) (nI 0)) 42 0 ((i 42 0) + (nI 1))) j)) Q) ∧ (v1 = (nI 1) → (vp_in (i 42 0) 240) ∧ WP (d + 2) 1550 (68, [(0, .ref 42), (1, .int v1), (2, .int v2), (4, .int v4), (5, .int v5), (6, .int (v6 + v4)), (7, .int (v7 + (nI 1)))], [], (mm X (s2 (s2 (s2 (s2 i 43 ((i 42 0).toNatClampNeg) v5) 44 ((i 42 0).toNatClampNeg) (mxI (nI 0) (mnI (nI 999) (v6.toInt16.toInt32)))) 45 ((i 42 0).toNatClampNeg) (nI 0)) 42 0 ((i 42 0) + (nI 1))) j)) Q))) ∧ (v1 = 0 → (vp_in (i 42 0) 240) ∧ WP (d + 2) 1550 (68, [(0, .ref 42), (1, .int v1), (2, .int v2), (4, .int v4), (5, .int v5), (6, .int (v6 + v4)), (7, .int (v7 + (nI 1)))], [], (mm X (s2 (s2 (s2 (s2 i 43 ((i 42 0).toNatClampNeg) v5) 44 ((i 42 0).toNatClampNeg) (mxI (nI 0) (mnI (nI 999) (v6.toInt8.toInt32)))) 45 ((i 42 0).toNatClampNeg) (nI 0)) 42 0 ((i 42 0) + (nI 1))) j)) Q))))) : WP (d + 2) 1550 (68, [(0, .ref 42), (1, .int v1), (2, .int v2), (4, .int v4), (5, .int v5), (6, .int v6), (7, .int v7)], [], mm X i j) Q := tc_1550_68 (d + 1) 42 v1 v2 v4 v5 v6 v7 (mm X i j) Q ⟨fun e10 => ⟨rfl, (h.1 (e10))⟩, fun e10 => ⟨fun e11 => ⟨fun e12 => (tc_1550_99 (d + 1) 42 v1 v2 v4 v5 v6 v7 v6 (mm X i j) _ ⟨rfl, (te_1548 (d + 1) 42 v5 (mxI (nI 0) (mnI (nI 999) v6)) (nI 0) (mm X i j) _ ⟨rfl, ⟨rfl, ⟨⟨rfl, (((h.2 (e10)).1 (e11)).1 (e12)).1⟩, ⟨rfl, ⟨rfl, ⟨⟨rfl, (((h.2 (e10)).1 (e11)).1 (e12)).1⟩, ⟨rfl, ⟨rfl, ⟨⟨rfl, (((h.2 (e10)).1 (e11)).1 (e12)).1⟩, (tc_1548_30 (d + 1) 42 (mm X (s2 (s2 (s2 i 43 ((i 42 0).toNatClampNeg) v5) 44 ((i 42 0).toNatClampNeg) (mxI (nI 0) (mnI (nI 999) v6))) 45 ((i 42 0).toNatClampNeg) (nI 0)) j) _ ⟨rfl, ⟨rfl, ⟨rfl, (((h.2 (e10)).1 (e11)).1 (e12)).2⟩⟩⟩)⟩⟩⟩⟩⟩⟩⟩⟩⟩)⟩), fun e12 => (tc_1550_99 (d + 1) 42 v1 v2 v4 v5 v6 v7 (v6.toInt16.toInt32) (mm X i j) _ ⟨rfl, (te_1548 (d + 1) 42 v5 (mxI (nI 0) (mnI (nI 999) (v6.toInt16.toInt32))) (nI 0) (mm X i j) _ ⟨rfl, ⟨rfl, ⟨⟨rfl, (((h.2 (e10)).1 (e11)).2 ((Classical.byContradiction e12))).1⟩, ⟨rfl, ⟨rfl, ⟨⟨rfl, (((h.2 (e10)).1 (e11)).2 ((Classical.byContradiction e12))).1⟩, ⟨rfl, ⟨rfl, ⟨⟨rfl, (((h.2 (e10)).1 (e11)).2 ((Classical.byContradiction e12))).1⟩, (tc_1548_30 (d + 1) 42 (mm X (s2 (s2 (s2 i 43 ((i 42 0).toNatClampNeg) v5) 44 ((i 42 0).toNatClampNeg) (mxI (nI 0) (mnI (nI 999) (v6.toInt16.toInt32)))) 45 ((i 42 0).toNatClampNeg) (nI 0)) j) _ ⟨rfl, ⟨rfl, ⟨rfl, (((h.2 (e10)).1 (e11)).2 ((Classical.byContradiction e12))).2⟩⟩⟩)⟩⟩⟩⟩⟩⟩⟩⟩⟩)⟩)⟩, fun e11 => (tc_1550_99 (d + 1) 42 v1 v2 v4 v5 v6 v7 (v6.toInt8.toInt32) (mm X i j) _ ⟨rfl, (te_1548 (d + 1) 42 v5 (mxI (nI 0) (mnI (nI 999) (v6.toInt8.toInt32))) (nI 0) (mm X i j) _ ⟨rfl, ⟨rfl, ⟨⟨rfl, ((h.2 (e10)).2 ((Classical.byContradiction e11))).1⟩, ⟨rfl, ⟨rfl, ⟨⟨rfl, ((h.2 (e10)).2 ((Classical.byContradiction e11))).1⟩, ⟨rfl, ⟨rfl, ⟨⟨rfl, ((h.2 (e10)).2 ((Classical.byContradiction e11))).1⟩, (tc_1548_30 (d + 1) 42 (mm X (s2 (s2 (s2 i 43 ((i 42 0).toNatClampNeg) v5) 44 ((i 42 0).toNatClampNeg) (mxI (nI 0) (mnI (nI 999) (v6.toInt8.toInt32)))) 45 ((i 42 0).toNatClampNeg) (nI 0)) j) _ ⟨rfl, ⟨rfl, ⟨rfl, ((h.2 (e10)).2 ((Classical.byContradiction e11))).2⟩⟩⟩)⟩⟩⟩⟩⟩⟩⟩⟩⟩)⟩)⟩⟩
theorem k_1 (d : Nat) {X : XS} {i : Nat → Nat → Int32} {j : Nat → Nat → Int64} (h : Rel X i j) (a1 a2 a3 a4 a5 : Int32) {Kf : AM → Prop} (hK : Nx X Kf) : WI (d + 300) 1410 [.ref 2, .int a1, .int a2, .int a3, .int a4, .int a5] (mm X i j) (fun x1 M1 => WI (d + 300) 1550 [.ref 42, .int a1, .int a2, .int a3, .int a4, .int a5] M1 (fun x2 M2 => x1 = x2 ∧ Kf M2)) := by
  have ht := hK.th h
  have hrel := h
  obtain ⟨hx, ⟨⟨n, h0⟩, h1, ⟨ng, h2, no, h4⟩, ⟨tn, h3⟩, ⟨np, h5⟩, h6, ns, h7⟩, h8, hz⟩ := h
  obtain ⟨e2, hD, hw⟩ := h0
  have e1 := hD.1.1
  have hn := hD.1.2
  refine s_1410 _ X i j a1 a2 a3 a4 a5 _ (bq_c (fun z => s_1550 _ X i j _ _ _ _ _ _ (bq_t z ⟨rfl, ht⟩)) (fun z => bq_c (fun y => s_1550 _ X i j _ _ _ _ _ _ (bq_f z (bq_t y ⟨rfl, ht⟩))) (fun y => br_c (fun w => br_c (fun u => ?_) (fun u => ?_)) (fun w => s_1550 _ X i j _ _ _ _ _ _ (bq_f z (bq_f y (br_t (Int32.not_le.mp w) ⟨rfl, ht⟩)))))))
  · exact s_1550 _ X i j _ _ _ _ _ _ (bq_f z (bq_f y (br_f (Int32.not_lt.mpr w) (br_t (by rw [u]; exact Int32.le_refl _) (bq_f u ⟨rfl, ht⟩)))))
  have u3 : ¬ nI 3 ≤ a1 := by
    obtain ⟨g, hg, rfl⟩ := of_rng (by decide) z
    exact nI_ge (by have : g ≠ 3 := fun e => u (by rw [e]); omega) (by decide)
  rw [e1]
  refine br_c (fun v => br_c (fun t0 => ?_) (fun t0 => s_1550 _ X i j _ _ _ _ _ _ (bq_f z (bq_f y (br_f (Int32.not_lt.mpr w) (br_f u3 (by rw [e2]; exact br_t v (bq_t u (br_f t0 ⟨rfl, ht⟩))))))))) (fun v => s_1550 _ X i j _ _ _ _ _ _ (bq_f z (bq_f y (br_f (Int32.not_lt.mpr w) (br_f u3 (by rw [e2]; exact br_f v ⟨rfl, ht⟩))))))
  obtain ⟨m, hm, rfl⟩ := of_rng (m := 40) (by decide) ⟨t0, w⟩
  have hnm : n + m ≤ 240 := by
    have v := v
    rw [nI_add] at v
    exact (nI_leI (by omega) (by decide)).mp v
  obtain ⟨V, hV⟩ : ∃ V : Nat → Int32, V = fun e => a3 + nI e * a4 := ⟨_, rfl⟩
  obtain ⟨W, hW⟩ : ∃ W : Nat → Int32, W = fun t => if t < n then i 43 t else a5 := ⟨_, rfl⟩
  obtain ⟨A, hA⟩ : ∃ A : Nat → Int32, A = fun t => if t < n then i 44 t else clA (sht a1 (V (t - n))) := ⟨_, rfl⟩
  obtain ⟨S, hS⟩ : ∃ S : Nat → Int32, S = fun t => if t < n then i 45 t else nI 0 := ⟨_, rfl⟩
  have W0 : ∀ t, t < n → W t = i 43 t ∧ A t = i 44 t ∧ S t = i 45 t := fun t ht => by rw [hW, hA, hS]; exact ⟨if_pos ht, if_pos ht, if_pos ht⟩
  have W1 : ∀ e, W (n + e) = a5 ∧ A (n + e) = clA (sht a1 (V e)) ∧ S (n + e) = nI 0 := fun e => by
    rw [hW, hA, hS]
    have q : ¬ n + e < n := by omega
    refine ⟨if_neg q, ?_, if_neg q⟩
    try dsimp only
    rw [if_neg q, show n + e - n = e by omega]
  refine lup m (fun e (i1 : Nat → Nat → Int32) => DY X 9 i1 (n + e) W A S ∧ ∀ b, b ≠ 9 → b ≠ 10 → b ≠ 11 → b ≠ 12 → i1 b = i b) (fun e i1 => (65, [(0, .ref 2), (1, .int a1), (2, .int (nI m)), (3, .int a3), (4, .int a4), (5, .int a5), (6, .int (nI e))], [], mm X i1 j)) ?_ ?_ 0 i (Nat.zero_le _) ⟨⟨⟨e1, hn⟩, fun t ht => ?_⟩, fun _ _ _ _ _ => rfl⟩
  · rintro i1 ⟨hc, f1⟩
    try dsimp only
    refine s_1410_65 _ X i1 j _ _ _ _ _ _ _ (br_t (Int32.le_refl _) (qI_of ?_))
    have f42 : i1 42 = i 42 := f1 42 (by decide) (by decide) (by decide) (by decide)
    refine s_1550 _ X i1 j _ _ _ _ _ _ (bq_f z (bq_f y (br_f (Int32.not_lt.mpr w) (br_f u3 ?_))))
    rw [f42, e2]
    refine br_t v (bq_t u (br_t t0 ?_))
    have e0 : V 0 = a3 := by rw [hV]; show a3 + nI 0 * a4 = a3; rw [nI_0]; grind
    rw [← e0]
    refine lup m (fun e (i2 : Nat → Nat → Int32) => DR i2 (n + e) W A S ∧ (∀ b, b ≠ 42 → b ≠ 43 → b ≠ 44 → b ≠ 45 → i2 b = i1 b) ∧ ∀ k, k ≠ 0 → k ≠ 36 → i2 42 k = i 42 k) (fun e i2 => (68, [(0, .ref 42), (1, .int a1), (2, .int (nI m)), (4, .int a4), (5, .int a5), (6, .int (V e)), (7, .int (nI e))], [], mm X i2 j)) ?_ ?_ 0 (s2 i1 42 36 (nI 0)) (Nat.zero_le _) ⟨⟨⟨by rw [s2_ne2 (by decide), f42]; exact e2, hn⟩, fun t ht => ?_⟩, fun b hb _ _ _ => s2_ne hb, fun k _ hk => by rw [s2_ne2 hk, f42]⟩
    · rintro i2 ⟨hr, f2, g2⟩
      try dsimp only
      refine s_1550_68 _ X i2 j _ _ _ _ _ _ _ (br_t (Int32.le_refl _) (qI_of ⟨?_, hK.k ?_⟩))
      · rw [hc.1.1, hr.1.1]
      · refine hrel.dys (n := n + m) (fun b _ b9 b10 b11 b12 b42 b43 b44 b45 => by rw [f2 b b42 b43 b44 b45, f1 b b9 b10 b11 b12]) (fun k k0 _ k36 => g2 k k0 k36) ?_ (w := W) (a := A) (k := S) ?_ hr (fun t ht => ?_)
        · rw [f2 3 (by decide) (by decide) (by decide) (by decide), f1 3 (by decide) (by decide) (by decide) (by decide), g2 6 (by decide) (by decide)]; exact h1.1
        · exact hc.kp (f2 9 (by decide) (by decide) (by decide) (by decide)) (f2 10 (by decide) (by decide) (by decide) (by decide)) (f2 11 (by decide) (by decide) (by decide) (by decide)) (f2 12 (by decide) (by decide) (by decide) (by decide))
        · by_cases q : t < n
          · obtain ⟨b1, b2, -⟩ := W0 t q
            rw [b1, b2]; exact hw t q
          · obtain ⟨b1, b2, -⟩ := W1 (t - n)
            rw [show n + (t - n) = t by omega] at b1 b2
            obtain ⟨g, hg, eg⟩ := of_rng (by decide) y
            obtain ⟨c, hc, ec⟩ := clA_in (sht a1 (V (t - n)))
            exact ⟨⟨g, by omega, b1.trans eg⟩, c, hc, b2.trans ec⟩
    · rintro e i2 he ⟨hr, f2, g2⟩ go
      try dsimp only
      have q0 := hr.1.1
      have hV1 : V e + a4 = V (e + 1) := by rw [hV]; show a3 + nI e * a4 + a4 = a3 + nI (e + 1) * a4; rw [nI_succ]; grind
      refine s_1550_68 _ X i2 j _ _ _ _ _ _ _ (br_f (nI_ge he (by omega)) ?_)
      rw [q0, tc_nI (by omega), hV1, nI_add e 1]
      obtain ⟨b1, b2, b3⟩ := W1 e
      refine sht_c (K := fun v => vp_in (nI (n + e)) 240 ∧ WP (d + 300) 1550 (68, [(0, .ref 42), (1, .int a1), (2, .int (nI m)), (4, .int a4), (5, .int a5), (6, .int (V (e + 1))), (7, .int (nI (e + 1)))], [], mm X (s2 (s2 (s2 (s2 i2 43 (n + e) a5) 44 (n + e) (mxI (nI 0) (mnI (nI 999) v))) 45 (n + e) (nI 0)) 42 0 (nI (n + e) + nI 1)) j) _) ⟨vp_in_nI (by omega) (by decide), ?_⟩
      refine go _ ⟨dr_add hr (by omega) b1 b2 b3, fun b c42 c43 c44 c45 => ?_, fun k k0 k36 => ?_⟩
      · rw [s2_ne c42, s2_ne c45, s2_ne c44, s2_ne c43]; exact f2 b c42 c43 c44 c45
      · rw [s2_ne2 k0, s2_ne (by decide), s2_ne (by decide), s2_ne (by decide)]; exact g2 k k0 k36
    · rw [s2_ne (show 43 ≠ 42 by decide), s2_ne (show 44 ≠ 42 by decide), s2_ne (show 45 ≠ 42 by decide), f1 43 (by decide) (by decide) (by decide) (by decide), f1 44 (by decide) (by decide) (by decide) (by decide), f1 45 (by decide) (by decide) (by decide) (by decide)]
      obtain ⟨b1, b2, b3⟩ := W0 t ht
      exact ⟨b1.symm, b2.symm, b3.symm⟩
  · rintro e i1 he ⟨hc, f1⟩ go
    try dsimp only
    have q0 := hc.1.1
    refine s_1410_65 _ X i1 j _ _ _ _ _ _ _ (br_f (nI_ge he (by omega)) ?_)
    rw [q0, tc_nI (by omega), nI_add e 1]
    obtain ⟨b1, b2, b3⟩ := W1 e
    rw [show a3 + nI e * a4 = V e by rw [hV]]
    refine sht_c (K := fun v => ((nI 240 ≤ nI (n + e) → _) ∧ (¬ (nI 240 ≤ nI (n + e)) → vp_in (nI (n + e)) 240 ∧ WP (d + 300) 1410 (65, [(0, .ref 2), (1, .int a1), (2, .int (nI m)), (3, .int a3), (4, .int a4), (5, .int a5), (6, .int (nI (e + 1)))], [], mm X (s2 (s2 (s2 (s2 i1 10 (n + e) a5) 11 (n + e) (mxI (nI 0) (mnI (nI 999) v))) 12 (n + e) (nI 0)) 9 3 (nI (n + e) + nI 1)) j) _))) (br_f (nI_ge (by omega) (by decide)) ⟨vp_in_nI (by omega) (by decide), ?_⟩)
    refine go _ ⟨dy_add (p := 10) (q := 11) (r := 12) rfl rfl rfl ⟨by decide, by decide, by decide, by decide, by decide, by decide⟩ hc (by omega) b1 b2 b3, fun b c9 c10 c11 c12 => ?_⟩
    rw [s2_ne c9, s2_ne c12, s2_ne c11, s2_ne c10]; exact f1 b c9 c10 c11 c12
  · rw [(W0 t ht).1, (W0 t ht).2.1, (W0 t ht).2.2]; exact hD.2 t ht
