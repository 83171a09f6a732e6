/-! ===== omen: the reference's, and new cells ===== -/
theorem pbad_one {t : Nat → Nat} {n N w w' : Nat} (h : PBAD t n N w) (h' : PBAD t n N w') : w = w' := by
  obtain ⟨h1, s1, h2, h3, -⟩ := h
  obtain ⟨g1, s2', g2, g3, -⟩ := h'
  have a : ¬ w < w' := fun z => scn_no h2 (h3 (by omega)) g2 z
  have b : ¬ w' < w := fun z => scn_no g2 (g3 (by omega)) h2 z
  omega
theorem good_bad {t : Nat → Nat} {n w dg : Nat} {c0 wt : List Nat} {m : Nat → Bool} (h40 : n ≤ 40) (hs : scn t n = some (c0, wt, m, 0, dg, false)) (h : PBAD t n (min n 40) w) : False := by
  obtain ⟨h1, s1, h2, h3, h4⟩ := h
  by_cases wn : w < n
  · exact scn_no h2 (h3 (by omega)) hs wn
  · have : w = n := by omega
    subst this
    rw [hs] at h2
    injection h2 with e
    subst e
    rcases h4 (by omega) with h | h | h
    · omega
    · cases h
    · exact absurd (show 0 < 0 from h) (by decide)
def th0 (c : Int32) : Int32 := if c.toInt < 1000 then c else nI 0
theorem th0_N (v : Nat) (h : v < 1000) : th0 (nI v) = nI v := by
  unfold th0
  rw [if_pos (by rw [nI_toInt (by omega)]; omega)]
theorem th0_L (b : Nat) (h : b < 256) : th0 (nI (1000 + b)) = nI 0 := by
  unfold th0
  rw [if_neg (by rw [nI_toInt (by omega)]; omega)]
theorem sb_nar : ∀ b, b < 256 → bnar 22 (sb b) = sb b := by decide +kernel
def FrO (t : Nat → Nat) (no n : Nat) (i i' : Nat → Nat → Int32) : Prop := (∀ b, b ≠ 42 → b ≠ 54 → i' b = i b) ∧ (∀ k, k < 36 → k ≠ 33 → i' 42 k = i 42 k) ∧ i' 42 33 = nI 0 ∧ (∀ q, q < 40 * no → i' 54 q = i 54 q) ∧ (∀ q, q < min n 40 → i' 54 (40 * no + q) = sb (t q))
set_option maxRecDepth 100000 in
theorem s_1585 (d : Nat) (X : XS) (i : Nat → Nat → Int32) (j : Nat → Nat → Int64) (a1 : Int32) (K : Int32 → AM → Prop) (h : ((¬ ((nI 0) ≤ a1 ∧ a1 ≤ ((i 42 7) - (nI 1))) → K (kI (-100)) (mm X (s2 (s2 i 42 36 (nI 0)) 42 33 (nI 0)) j)) ∧ ((nI 0) ≤ a1 ∧ a1 ≤ ((i 42 7) - (nI 1)) → ((¬ ((i 42 14) = (nI 10)) → WP (d + 260) 1585 (48, [(0, .ref 42), (1, .int a1), (2, .int (i 42 33)), (3, .int (nI 0))], [], (mm X (s2 (s2 (s2 i 42 36 (nI 0)) 42 33 (nI 0)) 42 38 ((nI 40) * (i 42 14))) j)) (qI K)) ∧ ((i 42 14) = (nI 10) → K (kI (-100)) (mm X (s2 (s2 i 42 36 (nI 0)) 42 33 (nI 0)) j)))))) : WI (d + 260) 1585 [.ref 42, .int a1] (mm X i j) K := te_1585 (d + 259) 42 a1 (mm X i j) (qI K) ⟨rfl, ⟨rfl, ⟨rfl, ⟨rfl, (te_1545 (d + 258) 42 a1 (mm X (s2 (s2 i 42 36 (nI 0)) 42 33 (nI 0)) j) _ ⟨rfl, (p_1538 (d + 258) X (s2 (s2 i 42 36 (nI 0)) 42 33 (nI 0)) j a1 (nI 0) ((i 42 7) - (nI 1)) _ ⟨(bi_01 _), ⟨_, rfl, ⟨fun e1 => ⟨_, rfl, (h.1 ((bi_z e1)))⟩, fun e1 => ⟨rfl, ⟨fun e2 => ⟨rfl, ⟨rfl, (tc_1585_46 (d + 259) 42 a1 (i 42 33) (mm X (s2 (s2 (s2 i 42 36 (nI 0)) 42 33 (nI 0)) 42 38 ((nI 40) * (i 42 14))) j) _ ((h.2 ((bi_n e1))).1 (e2)))⟩⟩, fun e2 => ⟨_, rfl, ((h.2 ((bi_n e1))).2 ((Classical.byContradiction e2)))⟩⟩⟩⟩⟩⟩)⟩)⟩⟩⟩⟩
set_option maxRecDepth 100000 in
theorem s_1585_48 (d : Nat) (X : XS) (i : Nat → Nat → Int32) (j : Nat → Nat → Int64) (v1 : Int32) (v2 : Int32) (v3 : Int32) (Q : Option (Option Value) → AM → Prop) (h : ((v2 ≤ v3 → (∃ (x5 : Int32), ∃ (i4 : Nat → Nat → Int32), EvI (d + 259) 1578 [.ref 42, .int (nI 0)] (mm X (s2 (s2 (s2 (s2 i 42 39 v2) 42 40 (nI 0)) 42 41 (kI (-1))) 42 42 (kI (-1))) j) x5 (mm X i4 j) ∧ ((¬ ((i4 42 41) = (kI (-1))) → Q (some (some (.int ((kI (-1)) - (i4 42 41))))) (mm X i4 j)) ∧ ((i4 42 41) = (kI (-1)) → (((i4 42 39) ≤ (i4 42 40) → (vp_in (i4 42 14) 10) ∧ Q (some (some (.int (((i4 42 14) + (nI 1)) - (nI 1))))) (mm X (s2 (s2 (s2 i4 55 ((i4 42 14).toNatClampNeg) v2) 56 ((i4 42 14).toNatClampNeg) v1) 42 14 ((i4 42 14) + (nI 1))) j)) ∧ (¬ ((i4 42 39) ≤ (i4 42 40)) → ((¬ ((i4 42 40) = (kI (-1))) → Q (some (some (.int ((kI (-1)) - (i4 42 40))))) (mm X (s2 i4 42 41 (i4 42 40)) j)) ∧ ((i4 42 40) = (kI (-1)) → (vp_in (i4 42 14) 10) ∧ Q (some (some (.int (((i4 42 14) + (nI 1)) - (nI 1))))) (mm X (s2 (s2 (s2 (s2 i4 42 41 (i4 42 40)) 55 ((i4 42 14).toNatClampNeg) v2) 56 ((i4 42 14).toNatClampNeg) v1) 42 14 ((i4 42 14) + (nI 1))) j))))))))) ∧ (¬ (v2 ≤ v3) → (((nI 40) ≤ v3 → (∃ (x24 : Int32), ∃ (i23 : Nat → Nat → Int32), EvI (d + 259) 1578 [.ref 42, .int (nI 0)] (mm X (s2 (s2 (s2 (s2 i 42 39 v2) 42 40 (nI 0)) 42 41 (kI (-1))) 42 42 (kI (-1))) j) x24 (mm X i23 j) ∧ ((¬ ((i23 42 41) = (kI (-1))) → Q (some (some (.int ((kI (-1)) - (i23 42 41))))) (mm X i23 j)) ∧ ((i23 42 41) = (kI (-1)) → (((i23 42 39) ≤ (i23 42 40) → (vp_in (i23 42 14) 10) ∧ Q (some (some (.int (((i23 42 14) + (nI 1)) - (nI 1))))) (mm X (s2 (s2 (s2 i23 55 ((i23 42 14).toNatClampNeg) v2) 56 ((i23 42 14).toNatClampNeg) v1) 42 14 ((i23 42 14) + (nI 1))) j)) ∧ (¬ ((i23 42 39) ≤ (i23 42 40)) → ((¬ ((i23 42 40) = (kI (-1))) → Q (some (some (.int ((kI (-1)) - (i23 42 40))))) (mm X (s2 i23 42 41 (i23 42 40)) j)) ∧ ((i23 42 40) = (kI (-1)) → (vp_in (i23 42 14) 10) ∧ Q (some (some (.int (((i23 42 14) + (nI 1)) - (nI 1))))) (mm X (s2 (s2 (s2 (s2 i23 42 41 (i23 42 40)) 55 ((i23 42 14).toNatClampNeg) v2) 56 ((i23 42 14).toNatClampNeg) v1) 42 14 ((i23 42 14) + (nI 1))) j))))))))) ∧ (¬ ((nI 40) ≤ v3) → (vp_in v3 60) ∧ (vp_in ((i 42 38) + v3) 400) ∧ WP (d + 260) 1585 (48, [(0, .ref 42), (1, .int v1), (2, .int v2), (3, .int (v3 + (nI 1)))], [], (mm X (s2 i 54 (((i 42 38) + v3).toNatClampNeg) (bnar 22 (i 69 ((v3).toNatClampNeg)))) j)) Q))))) : WP (d + 260) 1585 (48, [(0, .ref 42), (1, .int v1), (2, .int v2), (3, .int v3)], [], mm X i j) Q := tc_1585_48 (d + 259) 42 v1 v2 v3 (mm X i j) Q ⟨fun e3 => ⟨rfl, (tc_1585_87 (d + 259) 42 v1 v2 (mm X (s2 i 42 39 v2) j) _ ⟨rfl, ⟨rfl, (tc_1585_97 (d + 259) 42 v1 v2 (mm X (s2 (s2 (s2 i 42 39 v2) 42 40 (nI 0)) 42 41 (kI (-1))) j) _ ⟨rfl, ⟨rfl, (Exists.elim (h.1 (e3)) fun x5 h19 => Exists.elim h19 fun i4 h20 => EvI.use h20.1 ⟨rfl, (te_1576 (d + 259) 42 (mm X i4 j) _ ⟨rfl, ⟨fun e6 => ⟨k0_01, ⟨_, rfl, ⟨fun _ => (tc_1585_130 (d + 259) 42 v1 v2 (mm X i4 j) _ ⟨rfl, (te_1576 (d + 259) 42 (mm X i4 j) _ ⟨rfl, ⟨fun _ => ⟨k0_01, ⟨_, rfl, ⟨fun e9 => absurd e9 (show ¬ (¬ (nI 0) = 0) by decide), fun _ => ⟨rfl, (h20.2.1 (e6))⟩⟩⟩⟩, fun e8 => absurd ((e6)) e8⟩⟩)⟩), fun e7 => absurd (show (nI 0) = 0 by decide) e7⟩⟩⟩, fun e6 => ⟨k1_01, ⟨_, rfl, ⟨fun e10 => absurd e10 (show ¬ ((nI 1) = 0) by decide), fun _ => ⟨rfl, ⟨rfl, ⟨fun e11 => (tc_1585_130 (d + 259) 42 v1 v2 (mm X i4 j) _ ⟨rfl, (te_1576 (d + 259) 42 (mm X i4 j) _ ⟨rfl, ⟨fun e12 => absurd e12 (fun z => z ((Classical.byContradiction e6))), fun _ => ⟨k1_01, ⟨_, rfl, ⟨fun _ => ⟨rfl, ⟨rfl, ⟨⟨rfl, ((h20.2.2 ((Classical.byContradiction e6))).1 (e11)).1⟩, ⟨rfl, ⟨rfl, ⟨⟨rfl, ((h20.2.2 ((Classical.byContradiction e6))).1 (e11)).1⟩, (tc_1585_164 (d + 259) 42 (mm X (s2 (s2 i4 55 ((i4 42 14).toNatClampNeg) v2) 56 ((i4 42 14).toNatClampNeg) v1) j) _ ⟨rfl, ⟨rfl, ⟨rfl, ((h20.2.2 ((Classical.byContradiction e6))).1 (e11)).2⟩⟩⟩)⟩⟩⟩⟩⟩⟩, fun e13 => absurd (show ¬ (nI 1) = 0 by decide) e13⟩⟩⟩⟩⟩)⟩), fun e11 => ⟨rfl, (te_1577 (d + 258) 42 (mm X i4 j) _ ⟨rfl, (te_1576 (d + 258) 42 (mm X i4 j) _ ⟨rfl, ⟨fun e14 => absurd e14 (fun z => z ((Classical.byContradiction e6))), fun _ => ⟨k1_01, ⟨_, rfl, ⟨fun e15 => absurd e15 (show ¬ ((nI 1) = 0) by decide), fun _ => ⟨rfl, ⟨rfl, ⟨rfl, (tc_1585_130 (d + 259) 42 v1 v2 (mm X (s2 i4 42 41 (i4 42 40)) j) _ ⟨rfl, (te_1576 (d + 259) 42 (mm X (s2 i4 42 41 (i4 42 40)) j) _ ⟨rfl, ⟨fun e16 => ⟨k0_01, ⟨_, rfl, ⟨fun e17 => absurd e17 (show ¬ (¬ (nI 0) = 0) by decide), fun _ => ⟨rfl, (((h20.2.2 ((Classical.byContradiction e6))).2 (e11)).1 (e16))⟩⟩⟩⟩, fun e16 => ⟨k1_01, ⟨_, rfl, ⟨fun _ => ⟨rfl, ⟨rfl, ⟨⟨rfl, (((h20.2.2 ((Classical.byContradiction e6))).2 (e11)).2 ((Classical.byContradiction e16))).1⟩, ⟨rfl, ⟨rfl, ⟨⟨rfl, (((h20.2.2 ((Classical.byContradiction e6))).2 (e11)).2 ((Classical.byContradiction e16))).1⟩, (tc_1585_164 (d + 259) 42 (mm X (s2 (s2 (s2 i4 42 41 (i4 42 40)) 55 ((i4 42 14).toNatClampNeg) v2) 56 ((i4 42 14).toNatClampNeg) v1) j) _ ⟨rfl, ⟨rfl, ⟨rfl, (((h20.2.2 ((Classical.byContradiction e6))).2 (e11)).2 ((Classical.byContradiction e16))).2⟩⟩⟩)⟩⟩⟩⟩⟩⟩, fun e18 => absurd (show ¬ (nI 1) = 0 by decide) e18⟩⟩⟩⟩⟩)⟩)⟩⟩⟩⟩⟩⟩⟩⟩)⟩)⟩⟩⟩⟩⟩⟩⟩⟩⟩)⟩)⟩⟩)⟩⟩)⟩, fun e3 => ⟨fun e22 => ⟨rfl, (tc_1585_87 (d + 259) 42 v1 v2 (mm X (s2 i 42 39 v2) j) _ ⟨rfl, ⟨rfl, (tc_1585_97 (d + 259) 42 v1 v2 (mm X (s2 (s2 (s2 i 42 39 v2) 42 40 (nI 0)) 42 41 (kI (-1))) j) _ ⟨rfl, ⟨rfl, (Exists.elim ((h.2 (e3)).1 (e22)) fun x24 h38 => Exists.elim h38 fun i23 h39 => EvI.use h39.1 ⟨rfl, (te_1576 (d + 259) 42 (mm X i23 j) _ ⟨rfl, ⟨fun e25 => ⟨k0_01, ⟨_, rfl, ⟨fun _ => (tc_1585_130 (d + 259) 42 v1 v2 (mm X i23 j) _ ⟨rfl, (te_1576 (d + 259) 42 (mm X i23 j) _ ⟨rfl, ⟨fun _ => ⟨k0_01, ⟨_, rfl, ⟨fun e28 => absurd e28 (show ¬ (¬ (nI 0) = 0) by decide), fun _ => ⟨rfl, (h39.2.1 (e25))⟩⟩⟩⟩, fun e27 => absurd ((e25)) e27⟩⟩)⟩), fun e26 => absurd (show (nI 0) = 0 by decide) e26⟩⟩⟩, fun e25 => ⟨k1_01, ⟨_, rfl, ⟨fun e29 => absurd e29 (show ¬ ((nI 1) = 0) by decide), fun _ => ⟨rfl, ⟨rfl, ⟨fun e30 => (tc_1585_130 (d + 259) 42 v1 v2 (mm X i23 j) _ ⟨rfl, (te_1576 (d + 259) 42 (mm X i23 j) _ ⟨rfl, ⟨fun e31 => absurd e31 (fun z => z ((Classical.byContradiction e25))), fun _ => ⟨k1_01, ⟨_, rfl, ⟨fun _ => ⟨rfl, ⟨rfl, ⟨⟨rfl, ((h39.2.2 ((Classical.byContradiction e25))).1 (e30)).1⟩, ⟨rfl, ⟨rfl, ⟨⟨rfl, ((h39.2.2 ((Classical.byContradiction e25))).1 (e30)).1⟩, (tc_1585_164 (d + 259) 42 (mm X (s2 (s2 i23 55 ((i23 42 14).toNatClampNeg) v2) 56 ((i23 42 14).toNatClampNeg) v1) j) _ ⟨rfl, ⟨rfl, ⟨rfl, ((h39.2.2 ((Classical.byContradiction e25))).1 (e30)).2⟩⟩⟩)⟩⟩⟩⟩⟩⟩, fun e32 => absurd (show ¬ (nI 1) = 0 by decide) e32⟩⟩⟩⟩⟩)⟩), fun e30 => ⟨rfl, (te_1577 (d + 258) 42 (mm X i23 j) _ ⟨rfl, (te_1576 (d + 258) 42 (mm X i23 j) _ ⟨rfl, ⟨fun e33 => absurd e33 (fun z => z ((Classical.byContradiction e25))), fun _ => ⟨k1_01, ⟨_, rfl, ⟨fun e34 => absurd e34 (show ¬ ((nI 1) = 0) by decide), fun _ => ⟨rfl, ⟨rfl, ⟨rfl, (tc_1585_130 (d + 259) 42 v1 v2 (mm X (s2 i23 42 41 (i23 42 40)) j) _ ⟨rfl, (te_1576 (d + 259) 42 (mm X (s2 i23 42 41 (i23 42 40)) j) _ ⟨rfl, ⟨fun e35 => ⟨k0_01, ⟨_, rfl, ⟨fun e36 => absurd e36 (show ¬ (¬ (nI 0) = 0) by decide), fun _ => ⟨rfl, (((h39.2.2 ((Classical.byContradiction e25))).2 (e30)).1 (e35))⟩⟩⟩⟩, fun e35 => ⟨k1_01, ⟨_, rfl, ⟨fun _ => ⟨rfl, ⟨rfl, ⟨⟨rfl, (((h39.2.2 ((Classical.byContradiction e25))).2 (e30)).2 ((Classical.byContradiction e35))).1⟩, ⟨rfl, ⟨rfl, ⟨⟨rfl, (((h39.2.2 ((Classical.byContradiction e25))).2 (e30)).2 ((Classical.byContradiction e35))).1⟩, (tc_1585_164 (d + 259) 42 (mm X (s2 (s2 (s2 i23 42 41 (i23 42 40)) 55 ((i23 42 14).toNatClampNeg) v2) 56 ((i23 42 14).toNatClampNeg) v1) j) _ ⟨rfl, ⟨rfl, ⟨rfl, (((h39.2.2 ((Classical.byContradiction e25))).2 (e30)).2 ((Classical.byContradiction e35))).2⟩⟩⟩)⟩⟩⟩⟩⟩⟩, fun e37 => absurd (show ¬ (nI 1) = 0 by decide) e37⟩⟩⟩⟩⟩)⟩)⟩⟩⟩⟩⟩⟩⟩⟩)⟩)⟩⟩⟩⟩⟩⟩⟩⟩⟩)⟩)⟩⟩)⟩⟩)⟩, fun e22 => ⟨rfl, ⟨rfl, ⟨rfl, ⟨⟨(Or.inr rfl), ((h.2 (e3)).2 (e22)).1⟩, ⟨⟨(Or.inr rfl), ((h.2 (e3)).2 (e22)).2.1⟩, ((h.2 (e3)).2 (e22)).2.2⟩⟩⟩⟩⟩⟩⟩
theorem c_1585 (d : Nat) (X : XS) (i : Nat → Nat → Int32) (j : Nat → Nat → Int64) {t : Nat → Nat} {n no : Nat} (hn : n ≤ 60) (hno : no < 10) (e33 : i 42 33 = nI n) (e14 : i 42 14 = nI no) (h69 : ∀ q, q < n → t q < 256 ∧ i 69 q = sb (t q)) (a1 : Int32) (hr : nI 0 ≤ a1 ∧ a1 ≤ i 42 7 - nI 1) {K : Int32 → AM → Prop}
    (hgood : n ≤ 40 → (∃ c0 w m dg, scn t n = some (c0, w, m, 0, dg, false)) → ∀ i', FrO t no n i i' → K (nI no + nI 1 - nI 1) (mm X (s2 (s2 (s2 i' 55 no (nI n)) 56 no a1) 42 14 (nI no + nI 1)) j))
    (hbad : ∀ w, PBAD t n (min n 40) w → ∀ i', FrO t no n i i' → K (kI (-1) - nI w) (mm X i' j)) : WI (d + 260) 1585 [.ref 42, .int a1] (mm X i j) K := by
  refine s_1585 d X i j a1 K (bq_f hr ?_)
  rw [e14, e33]
  refine bq_t (fun e => by have := (nI_eq (by omega) (by decide)).mp e; omega) ?_
  rw [pk_mul]
  obtain ⟨iA, hA⟩ : ∃ iA, iA = s2 (s2 (s2 i 42 36 (nI 0)) 42 33 (nI 0)) 42 38 (nI (40 * no)) := ⟨_, rfl⟩
  rw [← hA]
  have fA : ∀ b, b ≠ 42 → iA b = i b := fun b hb => by rw [hA, s2_ne hb, s2_ne hb, s2_ne hb]
  have gA : ∀ k, k < 36 → k ≠ 33 → iA 42 k = i 42 k := fun k hk h33 => by rw [hA, s2_ne2 (by omega), s2_ne2 h33, s2_ne2 (by omega)]
  have A33 : iA 42 33 = nI 0 := by rw [hA, s2_ne2 (by decide), s2_self]
  have A38 : iA 42 38 = nI (40 * no) := by rw [hA, s2_self]
  obtain ⟨N, hN⟩ : ∃ N, N = min n 40 := ⟨_, rfl⟩
  rw [← hN] at hbad
  refine lup N (fun e (i2 : Nat → Nat → Int32) => (∀ b, b ≠ 54 → i2 b = iA b) ∧ (∀ q, q < 40 * no → i2 54 q = i 54 q) ∧ ∀ q, q < e → i2 54 (40 * no + q) = sb (t q)) (fun e i2 => (48, [(0, .ref 42), (1, .int a1), (2, .int (nI n)), (3, .int (nI e))], [], mm X i2 j)) ?_ ?_ 0 iA (Nat.zero_le _) ⟨fun _ _ => rfl, fun q _ => by rw [fA 54 (by decide)], fun q hq => absurd hq (by omega)⟩
  · rintro i2 ⟨f2, l2, r2⟩
    try dsimp only
    obtain ⟨i0, hi0⟩ : ∃ i0, i0 = s2 (s2 (s2 (s2 i2 42 39 (nI n)) 42 40 (nI 0)) 42 41 (kI (-1))) 42 42 (kI (-1)) := ⟨_, rfl⟩
    have f0 : ∀ b, b ≠ 42 → i0 b = i2 b := fun b hb => by rw [hi0, s2_ne hb, s2_ne hb, s2_ne hb, s2_ne hb]
    have g0 : ∀ k, k < 39 → i0 42 k = iA 42 k := fun k hk => by rw [hi0, s2_ne2 (by omega), s2_ne2 (by omega), s2_ne2 (by omega), s2_ne2 (by omega), f2 42 (by decide)]
    have v39 : i0 42 39 = nI n := by rw [hi0, s2_ne2 (by decide), s2_ne2 (by decide), s2_ne2 (by decide), s2_self]
    have v40 : i0 42 40 = nI 0 := by rw [hi0, s2_ne2 (by decide), s2_ne2 (by decide), s2_self]
    have v41 : i0 42 41 = kI (-1) := by rw [hi0, s2_ne2 (by decide), s2_self]
    have v42 : i0 42 42 = kI (-1) := by rw [hi0, s2_self]
    have hT : TXT i0 no n t := ⟨hno, hn, by rw [g0 38 (by decide)]; exact A38, v39, fun q hq => ⟨(h69 q (by omega)).1, by rw [f0 54 (by decide)]; exact r2 q (by omega)⟩⟩
    have hL : LETS X i0 j th0 := fun b hb hl i1 p w hs => ⟨fun z => absurd v42 z, fun _ => th0_L b hb⟩
    have FO : ∀ i4 p w, StP i0 i4 p w → ∀ i5 : Nat → Nat → Int32, (∀ b, b ≠ 42 → i5 b = i4 b) → (∀ k, k < 36 → i5 42 k = i4 42 k) → FrO t no n i i5 := by
      intro i4 p w hs i5 h1 h2
      refine ⟨fun b b42 b54 => by rw [h1 b b42, hs.1 b b42, f0 b b42, f2 b b54, fA b b42], fun k k36 k33 => by rw [h2 k k36, hs.2.1 k (by omega) (by omega), g0 k (by omega), gA k k36 k33], by rw [h2 33 (by decide), hs.2.1 33 (by decide) (by decide), g0 33 (by decide)]; exact A33, fun q hq => by rw [h1 54 (by decide), hs.1 54 (by decide), f0 54 (by decide)]; exact l2 q hq, fun q hq => by rw [h1 54 (by decide), hs.1 54 (by decide), f0 54 (by decide)]; exact r2 q (by omega)⟩
    obtain ⟨x, i4, hE, hR⟩ := (pt_all (X := X) (j := j) hT hN th0_N hL (N - 0) 0 rfl (Nat.zero_le _)).2.2.2.2 [] [] (fun _ => false) 0 0 [] i0 rfl (fun _ => by decide) rfl (by decide) (fun _ => rfl) ⟨fun _ _ => rfl, fun _ _ _ => rfl, v40, v41⟩
    have fin : ∃ (x5 : Int32) (i4 : Nat → Nat → Int32), EvI (d + 259) 1578 [.ref 42, .int (nI 0)] (mm X i0 j) x5 (mm X i4 j) ∧ ((¬ ((i4 42 41) = (kI (-1))) → qI K (some (some (.int ((kI (-1)) - (i4 42 41))))) (mm X i4 j)) ∧ ((i4 42 41) = (kI (-1)) → (((i4 42 39) ≤ (i4 42 40) → (vp_in (i4 42 14) 10) ∧ qI K (some (some (.int (((i4 42 14) + (nI 1)) - (nI 1))))) (mm X (s2 (s2 (s2 i4 55 ((i4 42 14).toNatClampNeg) (nI n)) 56 ((i4 42 14).toNatClampNeg) a1) 42 14 ((i4 42 14) + (nI 1))) j)) ∧ (¬ ((i4 42 39) ≤ (i4 42 40)) → ((¬ ((i4 42 40) = (kI (-1))) → qI K (some (some (.int ((kI (-1)) - (i4 42 40))))) (mm X (s2 i4 42 41 (i4 42 40)) j)) ∧ ((i4 42 40) = (kI (-1)) → (vp_in (i4 42 14) 10) ∧ qI K (some (some (.int (((i4 42 14) + (nI 1)) - (nI 1))))) (mm X (s2 (s2 (s2 (s2 i4 42 41 (i4 42 40)) 55 ((i4 42 14).toNatClampNeg) (nI n)) 56 ((i4 42 14).toNatClampNeg) a1) 42 14 ((i4 42 14) + (nI 1))) j))))))) := by
      refine ⟨x, i4, hE.up (by omega), ?_⟩
      rcases hR with ⟨p', h1, h2, h3, c1, pre, m1, dg1, g1, g2, g3, g4, g5, g6, g7⟩ | ⟨p', w, h1, h2, h3⟩
      · have E39 : i4 42 39 = nI n := (h3.2.1 39 (by decide) (by decide)).trans v39
        have E40 : i4 42 40 = nI p' := h3.2.2.1
        have E14 : i4 42 14 = nI no := by rw [h3.2.1 14 (by decide) (by decide), g0 14 (by decide), gA 14 (by decide) (by decide)]; exact e14
        refine bq_f h3.2.2.2 ?_
        rw [E39, E40, E14, tc_nI (by omega)]
        refine br_c (fun z => ?_) (fun z => bq_t (nIm1 (by omega)) (qI_of (hbad p' ⟨h2, _, g1, fun pN => ?_, fun e => Or.inl ?_⟩ _ (FO i4 _ _ h3 _ (fun b hb => s2_ne hb) (fun k hk => s2_ne2 (by omega))))))
        · have np : n ≤ p' := (nI_leI (by omega) (by omega)).mp z
          have pn : p' = n := by omega
          subst pn
          exact ⟨vp_in_nI (by omega) (by decide), qI_of (hgood (by omega) ⟨_, _, _, _, g1⟩ _ (FO i4 _ _ h3 _ (fun _ _ => rfl) (fun _ _ => rfl)))⟩
        · obtain ⟨s1, s2', s3, s4⟩ := g7 pN
          obtain ⟨s5, s6⟩ := s1 (by decide)
          exact tk_none (fun h => g6 pN h) (fun _ => rfl) ⟨s5, s6, s3 (by decide), s4 (by decide)⟩ (s2' (by decide))
        · have : ¬ n ≤ p' := fun h => z (nI_le h (by omega))
          omega
      · have E41 : i4 42 41 = nI w := h2.2.2.2
        rw [E41]
        have := h3.1
        exact bq_t (nIm1 (by omega)) (qI_of (hbad w h3 _ (FO i4 _ _ h2 _ (fun _ _ => rfl) (fun _ _ => rfl))))
    refine s_1585_48 d X i2 j _ _ _ _ ?_
    rw [← hi0]
    by_cases z : n ≤ 40
    · have : N = n := by omega
      rw [this]
      exact br_t (Int32.le_refl _) fin
    · have : N = 40 := by omega
      rw [this]
      exact br_f (nI_ge (by omega) (by omega)) (br_t (Int32.le_refl _) fin)
  · rintro e i2 he ⟨f2, l2, r2⟩ go
    try dsimp only
    refine s_1585_48 d X i2 j _ _ _ _ (br_f (nI_ge (by omega) (by omega)) (br_f (nI_ge (by omega) (by decide)) ?_))
    obtain ⟨b256, e69⟩ := h69 e (by omega)
    rw [f2 42 (by decide), A38, nI_add, tc_nI (by omega), tc_nI (by omega), f2 69 (by decide), fA 69 (by decide), e69, sb_nar _ b256, nI_add]
    refine ⟨vp_in_nI (by omega) (by decide), vp_in_nI (by omega) (by decide), go _ ⟨fun b hb => by rw [s2_ne hb]; exact f2 b hb, fun q hq => by rw [s2_ne2 (by omega)]; exact l2 q hq, fun q hq => ?_⟩⟩
    rw [s2_same]
    by_cases z : q = e
    · subst z; rw [if_pos rfl]
    · rw [if_neg (by omega)]; exact r2 q (by omega)
/-! ===== new cells of a sign ===== -/
theorem c_1029 (d : Nat) (X : XS) (i : Nat → Nat → Int32) (j : Nat → Nat → Int64) (hx : 76 ≤ xn X) {c : Nat} (hc : c ≤ 40) (e : i 18 3 = nI c) (t : Nat) {K : Nat → AM → Prop}
    (h : ∀ i', (∀ b, b ≠ xn X + 2 → i' b = i b) → (∀ q, q < c → i' (xn X + 2) q = i 20 q) → K (xn X + 2) (mm (XN X 20 c c t) i' (zN X j 0))) : WR d 1029 [.ref 18] (mm X i j) K := by
  have e3 : gi (mm X i j) 18 3 = nI c := e
  have m0 : nw (mm X i j) 20 c c = mm (XN X 20 c c t) (zN X i 0) (zN X j 0) := nw_mm hx t i j
  refine te_1029 d 18 (mm X i j) _ ⟨rfl, ?_⟩
  rw [e3, tc_nI (by omega), m0]
  have g3 : gi (mm (XN X 20 c c t) (zN X i 0) (zN X j 0)) 18 3 = nI c := by
    show zN X i 0 18 3 = nI c
    rw [zN_ne (by omega)]; exact e
  rw [g3, tc_nI (by omega)]
  have kN : kd (mm (XN X 20 c c t) (zN X i 0) (zN X j 0)) (nn (mm X i j) + 2) = 20 := by
    show xk (XN X 20 c c t) (xn X + 2) = 20
    rw [xk_N hx]; simp [u1]
  have lN' : ln (mm (XN X 20 c c t) (zN X i 0) (zN X j 0)) (nn (mm X i j) + 2) = c := by
    show xl (XN X 20 c c t) (xn X + 2) = c
    rw [xl_N hx]; simp [u1]
  refine ⟨⟨nI_pos (by omega), by omega⟩, rfl, rfl, ⟨⟨rfl, kN⟩, ⟨by decide, by decide, nI_pos (by omega)⟩, ?_, ?_⟩, _, rfl, ?_⟩
  · show (kI 0).toNatClampNeg + c ≤ 40
    rw [show (kI 0).toNatClampNeg = 0 by decide]; omega
  · rw [lN', show (kI 0).toNatClampNeg = 0 by decide]; omega
  · refine h (u1 (zN X i 0) (xn X + 2) _) (fun b hb => ?_) (fun q hq => ?_)
    · have : u1 (zN X i 0) (xn X + 2) (va_cpy (gi (mm (XN X 20 c c t) (zN X i 0) (zN X j 0)) (gr (mm (XN X 20 c c t) (zN X i 0) (zN X j 0)) 18 2)) (gi (mm (XN X 20 c c t) (zN X i 0) (zN X j 0)) (nn (mm X i j) + 2)) (kI 0).toNatClampNeg (kI 0).toNatClampNeg c) b = zN X i 0 b := by simp [u1, hb]
      exact this.trans (zN_ne hb)
    · have : u1 (zN X i 0) (xn X + 2) (va_cpy (gi (mm (XN X 20 c c t) (zN X i 0) (zN X j 0)) (gr (mm (XN X 20 c c t) (zN X i 0) (zN X j 0)) 18 2)) (gi (mm (XN X 20 c c t) (zN X i 0) (zN X j 0)) (nn (mm X i j) + 2)) (kI 0).toNatClampNeg (kI 0).toNatClampNeg c) (xn X + 2) = va_cpy (gi (mm (XN X 20 c c t) (zN X i 0) (zN X j 0)) (gr (mm (XN X 20 c c t) (zN X i 0) (zN X j 0)) 18 2)) (gi (mm (XN X 20 c c t) (zN X i 0) (zN X j 0)) (nn (mm X i j) + 2)) (kI 0).toNatClampNeg (kI 0).toNatClampNeg c := by simp [u1]
      rw [this, show (kI 0).toNatClampNeg = 0 by decide, pk_cpy_in (Nat.zero_le _) (by omega)]
      show zN X i 0 20 (0 + (q - 0)) = i 20 q
      rw [zN_ne (by omega), Nat.zero_add, Nat.sub_zero]
theorem c_384 (d : Nat) (X : XS) (i : Nat → Nat → Int32) (j : Nat → Nat → Int64) {N G C c : Nat} (hx : 76 ≤ xn X) (hN : 77 < N) (hlt : N ≤ xn X + 1) (hk : xk X N = 4) (hCl : C ≤ xn X + 1) (hCk : xk X C = 20) (hCc : xl X C = c) (hc : c ≤ 40) (t : Nat) {K : AM → Prop}
    (h : ∀ X' i' j', (∀ X0 i0, NX X0 → xn X0 + 2 ≤ N → Old X0 X i0 i → Old X0 X' i0 i') → (∀ b, b < xn X + 2 → xk X' b = xk X b ∧ xl X' b = xl X b ∧ xt X' b = xt X b ∧ i' b = i b ∧ j' b = j b) → (∀ b, b < xn X + 2 → b ≠ N → xr X' b = xr X b) → xn X' = xn X + 1 → xu X' = xu X + c → (∀ b, xn X' + 2 ≤ b → xt X' b = xt X b) →
      xr X' N 0 = G → xr X' N 1 = C → xr X' N 2 = xn X + 2 → (xk X' (xn X + 2) = 20 ∧ xl X' (xn X + 2) = c ∧ xt X' (xn X + 2) = t) → K (mm X' i' j')) :
    WV d 384 [.ref N, .ref G, .ref C] (mm X i j) K := by
  obtain ⟨XA, hXA⟩ : ∃ XA, XA = XR (XR X N 0 G) N 1 C := ⟨_, rfl⟩
  have m1 : sr (sr (mm X i j) N 0 G) N 1 C = mm XA i j := by rw [srR (RAd hN), srR (RAd hN), hXA]
  have kA : xk XA = xk X := by rw [hXA]; rfl
  have lA : xl XA = xl X := by rw [hXA]; rfl
  have tA : xt XA = xt X := by rw [hXA]; rfl
  have nA : xn XA = xn X := by rw [hXA]; rfl
  have uA : xu XA = xu X := by rw [hXA]; rfl
  have rA : ∀ b, b ≠ N → xr XA b = xr X b := fun b hb => by rw [hXA, xrRne hb, xrRne hb]
  have rA0 : xr XA N 0 = G := by rw [hXA, xrRo (RAd hN) (by decide), xrRk (RAd hN)]
  have rA1 : xr XA N 1 = C := by rw [hXA, xrRk (RAd hN)]
  have hxA : 76 ≤ xn XA := by omega
  obtain ⟨XB, hXB⟩ : ∃ XB, XB = XR (XN XA 20 c c t) N 2 (xn X + 2) := ⟨_, rfl⟩
  have kB : xk XB = u1 (xk X) (xn X + 2) 20 := by rw [hXB, xk_R, xk_N hxA, kA, nA]
  have lB : xl XB = u1 (xl X) (xn X + 2) c := by rw [hXB, xl_R, xl_N hxA, lA, nA]
  have tB : xt XB = u1 (xt X) (xn X + 2) t := by rw [hXB, xt_R, xt_N hxA, tA, nA]
  have nB : xn XB = xn X + 1 := by rw [hXB]; show xn XA + 1 = _; omega
  have uB : xu XB = xu X + c := by rw [hXB]; show xu XA + c = _; omega
  have m2 : sr (nw (mm XA i j) 20 c c) N 2 (nn (mm XA i j) + 2) = mm XB (zN XA i 0) (zN XA j 0) := by
    show sr (nw (mm XA i j) 20 c c) N 2 (xn XA + 2) = _
    rw [nw_mm hxA t, srR (RAd hN), hXB, nA]
  have eN : ∀ q, u1 (xr XA) (xn XA + 2) (fun _ => 0) N q = xr XA N q := fun q => by simp [u1, show ¬ N = xn XA + 2 by omega]
  have lC : Int32.ofNat (ln (mm XA i j) C) = nI c := by
    show nI (xl XA C) = nI c
    rw [lA, hCc]
  refine te_384 d N G C _ _ ⟨by omega, hk, ?_, ?_⟩
  · show xk X N = 4; exact hk
  rw [m1, lC, tc_nI (by omega), m2]
  have kC : kd (mm XA i j) C = 20 := by show xk XA C = 20; rw [kA]; exact hCk
  rw [kC]
  refine ⟨⟨by decide, by decide, fun z => absurd z.1 (by decide)⟩, ⟨nI_pos (by omega), by omega⟩, ?_, rfl, h XB _ _ ?_ ?_ ?_ nB uB ?_ ?_ ?_ ?_ ⟨?_, ?_, ?_⟩⟩
  · show u1 (xk XA) (xn XA + 2) 20 N = 4
    unfold u1; rw [if_neg (by omega), kA]; exact hk
  · intro X0 i0 h0 hn0 o
    have oA : Old X0 XA i0 i := by rw [hXA]; exact (o.rf' h0 (by omega) _ _).rf' h0 (by omega) _ _
    rw [hXB]
    exact (oA.nw' h0 (by omega) 20 c c t).rf' h0 (by omega) _ _
  · intro b hb
    rw [kB, lB, tB, zN_ne (by omega), zN_ne (by omega)]
    unfold u1
    rw [if_neg (by omega), if_neg (by omega), if_neg (by omega)]
    exact ⟨rfl, rfl, rfl, rfl, rfl⟩
  · intro b hb hne
    rw [hXB, xrRne hne, xr_N hxA]
    unfold u1
    rw [if_neg (by omega)]; exact rA b hne
  · intro b hb
    rw [tB]
    unfold u1
    rw [if_neg (by omega)]
  · rw [hXB, xrRo (RAd hN) (by decide), xr_N hxA, eN]; exact rA0
  · rw [hXB, xrRo (RAd hN) (by decide), xr_N hxA, eN]; exact rA1
  · rw [hXB, xrRk (RAd hN)]
  · rw [kB]; simp [u1]
  · rw [lB]; simp [u1]
  · rw [tB]; simp [u1]
