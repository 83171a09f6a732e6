/-! ===== drum, cry ===== -/
theorem ct_lt {A : Nat → Prop} {u : Nat} (ha : A u) : ∀ {t}, u < t → ct A u < ct A t
  | 0, h => absurd h (by omega)
  | t + 1, h => by
    by_cases e : u = t
    · subst e; rw [ct_t ha]; omega
    · have := ct_lt ha (t := t) (by omega)
      by_cases hb : A t
      · rw [ct_t hb]; omega
      · rw [ct_f hb]; exact this
theorem lat_1 {A ca : Nat → Prop} : ∀ {v r : Nat}, (lat A ca 0 v r).1 = min r (ct A v)
  | 0, r => by show 0 = _; rw [show ct A 0 = 0 from rfl]; omega
  | v + 1, r => by
    by_cases ha : A v
    · rw [ct_t ha]
      by_cases hr : r = 0
      · rw [lat_e ha (Or.inr hr)]; omega
      · rw [lat_y ha (by omega), lat_1]; dsimp only; omega
    · rw [lat_n ha, ct_f ha, lat_1]
theorem WT.cg {i i' : Nat → Nat → Int32} {A ca : Nat → Prop} {t : Nat} (h : WT i A ca t) (e : i' 37 2 = i 37 2) (e1 : i' 38 = i 38) (e2 : i' 39 = i 39) : WT i' A ca t := by
  unfold WT; rw [e, e1, e2]; exact h
theorem WT.no {i : Nat → Nat → Int32} {A ca : Nat → Prop} {t : Nat} (h : WT i A ca t) (ha : ¬ A t) : WT i A ca (t + 1) := by
  refine ⟨by rw [ct_f ha]; exact h.1, fun u hu hA => h.2 u ?_ hA⟩
  by_cases e : u = t
  · subst e; exact absurd hA ha
  · omega
theorem WT.nt {i : Nat → Nat → Int32} {A ca : Nat → Prop} {t : Nat} {x : Int32} (h : WT i A ca t) (ht : t < 240) (ha : A t) (hx : x = bi (ca t)) : WT (s2 (s2 (s2 i 38 (i 37 2).toNatClampNeg (nI t)) 39 (i 37 2).toNatClampNeg x) 37 2 (i 37 2 + nI 1)) A ca (t + 1) := by
  have hc : ct A t ≤ t := ct_le _ _
  have hk : (i 37 2).toNatClampNeg = ct A t := by rw [h.1, tc_nI (by omega)]
  rw [hk]
  refine ⟨by rw [s2_self, h.1, nI_add, ct_t ha], fun u hu hA => ?_⟩
  rw [s2_ne (show 38 ≠ 37 by decide), s2_ne (show 38 ≠ 39 by decide), s2_ne (show 39 ≠ 37 by decide)]
  by_cases e : u = t
  · subst e
    rw [s2_self, s2_self]
    exact ⟨rfl, hx⟩
  · have := ct_lt hA (t := t) (by omega)
    rw [s2_ne2 (by omega), s2_ne2 (by omega), s2_ne (show 39 ≠ 38 by decide)]
    exact h.2 u (by omega) hA
/-- the first of the days before n, else -2 -/
noncomputable def fs (P : Nat → Prop) : Nat → Int32
  | 0 => kI (-2)
  | n + 1 => @ite _ (fs P n = kI (-2) ∧ P n) (Classical.propDecidable _) (nI n) (fs P n)
theorem n2_ne {n : Nat} (h : n < 2 ^ 31) : ¬ nI n = kI (-2) := fun e => by
  have e := congrArg Int32.toInt e
  rw [nI_toInt h] at e
  have : (kI (-2)).toInt = -2 := by decide
  omega
theorem fs_y {P : Nat → Prop} {n : Nat} (h : fs P n = kI (-2)) (h2 : P n) : fs P (n + 1) = nI n := by rw [fs, if_pos ⟨h, h2⟩]
theorem fs_n {P : Nat → Prop} {n : Nat} (h : ¬ (fs P n = kI (-2) ∧ P n)) : fs P (n + 1) = fs P n := by rw [fs, if_neg h]
theorem fs_none {P : Nat → Prop} : ∀ {n : Nat}, n ≤ 240 → (fs P n = kI (-2) ↔ ∀ t, t < n → ¬ P t)
  | 0, _ => ⟨fun _ t h => absurd h (by omega), fun _ => rfl⟩
  | n + 1, hn => by
    have ih := fs_none (P := P) (n := n) (by omega)
    by_cases h : fs P n = kI (-2) ∧ P n
    · rw [fs_y h.1 h.2]
      exact ⟨fun e => absurd e (n2_ne (by omega)), fun q => absurd h.2 (q n (by omega))⟩
    · rw [fs_n h]
      refine ⟨fun e t ht hp => ?_, fun q => ih.mpr fun t ht => q t (by omega)⟩
      by_cases et : t = n
      · subst et; exact h ⟨e, hp⟩
      · exact ih.mp e t (by omega) hp
/-- unheeded on day t: m times were, and less than q of them it came -/
def UH (A ca : Nat → Prop) (m q t : Nat) : Prop := A t ∧ m ≤ ct A t ∧ (lat A ca 0 t m).2 < q
set_option maxRecDepth 100000 in
theorem s_1620 (d : Nat) (X : XS) (i : Nat → Nat → Int32) (j : Nat → Nat → Int64) (a1 : Int32) (a2 : Int32) (a3 : Int32) (K : AM → Prop) (h : WP (d + 2) 1620 (9, [(0, .ref 42), (1, .int a1), (2, .int a2), (3, .int a3), (4, .int (nI 0))], [], (mm X (s2 i 42 51 (kI (-2))) j)) (qV K)) : WV (d + 2) 1620 [.ref 42, .int a1, .int a2, .int a3] (mm X i j) K := te_1620 (d + 1) 42 a1 a2 a3 (mm X i j) (qV K) ⟨rfl, h⟩
set_option maxRecDepth 100000 in
theorem s_1620_9 (d : Nat) (X : XS) (i : Nat → Nat → Int32) (j : Nat → Nat → Int64) (v1 : Int32) (v2 : Int32) (v3 : Int32) (v4 : Int32) (Q : Option (Option Value) → AM → Prop) (h : (((nI 4) ≤ v4 → WP (d + 2) 1620 (32, [(0, .ref 42), (1, .int v1), (2, .int v2), (3, .int v3), (4, .int (nI 0))], [], (mm X i j)) Q) ∧ (¬ ((nI 4) ≤ v4) → (vp_in v4 4) ∧ WP (d + 2) 1620 (9, [(0, .ref 42), (1, .int v1), (2, .int v2), (3, .int v3), (4, .int (v4 + (nI 1)))], [], (mm X (s2 i 74 ((v4).toNatClampNeg) (nI 0)) j)) Q))) : WP (d + 2) 1620 (9, [(0, .ref 42), (1, .int v1), (2, .int v2), (3, .int v3), (4, .int v4)], [], mm X i j) Q := tc_1620_9 (d + 1) 42 v1 v2 v3 v4 (mm X i j) Q ⟨fun e1 => (h.1 (e1)), fun e1 => ⟨rfl, ⟨⟨rfl, (h.2 (e1)).1⟩, (h.2 (e1)).2⟩⟩⟩
set_option maxRecDepth 100000 in
theorem s_1620_32 (d : Nat) (X : XS) (i : Nat → Nat → Int32) (j : Nat → Nat → Int64) (v1 : Int32) (v2 : Int32) (v3 : Int32) (v4 : Int32) (Q : Option (Option Value) → AM → Prop) (h : (((i 42 46) ≤ v4 → Q (some none) (mm X i j)) ∧ (¬ ((i 42 46) ≤ v4) → (vp_in v4 240) ∧ ((¬ (((shrI (i 72 ((v4).toNatClampNeg)) v1) &&& (nI 1)) = (nI 1)) → WP (d + 2) 1620 (32, [(0, .ref 42), (1, .int v1), (2, .int v2), (3, .int v3), (4, .int (v4 + (nI 1)))], [], (mm X i j)) Q) ∧ (((shrI (i 72 ((v4).toNatClampNeg)) v1) &&& (nI 1)) = (nI 1) → (∃ (i6 : Nat → Nat → Int32), EvV (d + 1) 1615 [.ref 42, .int v1, .int v2, .int (nI 0), .int v4] (mm X (s2 (s2 i 42 49 (nI 0)) 42 50 (nI 0)) j) (mm X i6 j) ∧ (((i6 42 49) < v2 → (((i6 73 ((v4).toNatClampNeg)) = 0 → WP (d + 2) 1620 (32, [(0, .ref 42), (1, .int v1), (2, .int v2), (3, .int v3), (4, .int (v4 + (nI 1)))], [], (mm X (s2 (s2 (s2 i6 74 0 ((i6 74 0) + (nI 1))) 74 1 ((i6 74 1) + (nI 1))) 74 2 ((i6 74 2) + (nI 0))) j)) Q) ∧ (¬ ((i6 73 ((v4).toNatClampNeg)) = 0) → WP (d + 2) 1620 (32, [(0, .ref 42), (1, .int v1), (2, .int v2), (3, .int v3), (4, .int (v4 + (nI 1)))], [], (mm X (s2 (s2 (s2 i6 74 0 ((i6 74 0) + (nI 1))) 74 1 ((i6 74 1) + (nI 0))) 74 2 ((i6 74 2) + (nI 0))) j)) Q))) ∧ (¬ ((i6 42 49) < v2) → (((i6 42 50) < v3 → ((¬ ((i6 42 51) = (kI (-2))) → (((i6 73 ((v4).toNatClampNeg)) = 0 → WP (d + 2) 1620 (32, [(0, .ref 42), (1, .int v1), (2, .int v2), (3, .int v3), (4, .int (v4 + (nI 1)))], [], (mm X (s2 (s2 (s2 i6 74 0 ((i6 74 0) + (nI 1))) 74 1 ((i6 74 1) + (nI 1))) 74 2 ((i6 74 2) + (nI 0))) j)) Q) ∧ (¬ ((i6 73 ((v4).toNatClampNeg)) = 0) → WP (d + 2) 1620 (32, [(0, .ref 42), (1, .int v1), (2, .int v2), (3, .int v3), (4, .int (v4 + (nI 1)))], [], (mm X (s2 (s2 (s2 i6 74 0 ((i6 74 0) + (nI 1))) 74 1 ((i6 74 1) + (nI 0))) 74 2 ((i6 74 2) + (nI 1))) j)) Q))) ∧ ((i6 42 51) = (kI (-2)) → (((i6 73 ((v4).toNatClampNeg)) = 0 → WP (d + 2) 1620 (32, [(0, .ref 42), (1, .int v1), (2, .int v2), (3, .int v3), (4, .int (v4 + (nI 1)))], [], (mm X (s2 (s2 (s2 (s2 i6 42 51 v4) 74 0 ((i6 74 0) + (nI 1))) 74 1 ((i6 74 1) + (nI 1))) 74 2 ((i6 74 2) + (nI 0))) j)) Q) ∧ (¬ ((i6 73 ((v4).toNatClampNeg)) = 0) → WP (d + 2) 1620 (32, [(0, .ref 42), (1, .int v1), (2, .int v2), (3, .int v3), (4, .int (v4 + (nI 1)))], [], (mm X (s2 (s2 (s2 (s2 i6 42 51 v4) 74 0 ((i6 74 0) + (nI 1))) 74 1 ((i6 74 1) + (nI 0))) 74 2 ((i6 74 2) + (nI 1))) j)) Q))))) ∧ (¬ ((i6 42 50) < v3) → (((i6 73 ((v4).toNatClampNeg)) = 0 → WP (d + 2) 1620 (32, [(0, .ref 42), (1, .int v1), (2, .int v2), (3, .int v3), (4, .int (v4 + (nI 1)))], [], (mm X (s2 (s2 (s2 i6 74 0 ((i6 74 0) + (nI 1))) 74 1 ((i6 74 1) + (nI 1))) 74 2 ((i6 74 2) + (nI 0))) j)) Q) ∧ (¬ ((i6 73 ((v4).toNatClampNeg)) = 0) → WP (d + 2) 1620 (32, [(0, .ref 42), (1, .int v1), (2, .int v2), (3, .int v3), (4, .int (v4 + (nI 1)))], [], (mm X (s2 (s2 (s2 i6 74 0 ((i6 74 0) + (nI 1))) 74 1 ((i6 74 1) + (nI 0))) 74 2 ((i6 74 2) + (nI 0))) j)) Q)))))))))))) : WP (d + 2) 1620 (32, [(0, .ref 42), (1, .int v1), (2, .int v2), (3, .int v3), (4, .int v4)], [], mm X i j) Q := tc_1620_32 (d + 1) 42 v1 v2 v3 v4 (mm X i j) Q ⟨rfl, ⟨fun e2 => (h.1 (e2)), fun e2 => ⟨rfl, (te_1590 (d + 1) 42 v1 v4 (mm X i j) _ ⟨rfl, ⟨⟨rfl, (h.2 (e2)).1⟩, ⟨fun e3 => ⟨k0_01, ⟨_, rfl, ⟨fun e4 => absurd e4 (show ¬ (¬ (nI 0) = 0) by decide), fun _ => (tc_1620_179 (d + 1) 42 v1 v2 v3 v4 (mm X i j) _ ((h.2 (e2)).2.1 (e3)))⟩⟩⟩, fun e3 => ⟨k1_01, ⟨_, rfl, ⟨fun _ => ⟨rfl, ⟨rfl, ⟨rfl, (Exists.elim ((h.2 (e2)).2.2 ((Classical.byContradiction e3))) fun i6 h29 => EvV.use h29.1 ⟨rfl, ⟨fun e7 => (tc_1620_89 (d + 1) 42 v1 v2 v3 v4 (mm X i6 j) _ (tc_1620_96 (d + 1) 42 v1 v2 v3 v4 (nI 1) (mm X i6 j) _ ⟨fun _ => (tc_1620_116 (d + 1) 42 v1 v2 v3 v4 (nI 1) (mm X i6 j) _ ⟨rfl, ⟨⟨rfl, (vpk 0 4 rfl)⟩, ⟨⟨rfl, (vpk 0 4 rfl)⟩, ⟨rfl, ⟨⟨rfl, (vpk 1 4 rfl)⟩, ⟨rfl, ⟨⟨(Or.inl rfl), (h.2 (e2)).1⟩, ⟨fun e9 => ⟨⟨rfl, (vpk 1 4 rfl)⟩, (tc_1620_150 (d + 1) 42 v1 v2 v3 v4 (nI 1) (mm X (s2 (s2 i6 74 0 ((i6 74 0) + (nI 1))) 74 1 ((i6 74 1) + (nI 1))) j) _ ⟨rfl, ⟨⟨rfl, (vpk 2 4 rfl)⟩, ⟨fun _ => ⟨⟨rfl, (vpk 2 4 rfl)⟩, (tc_1620_179 (d + 1) 42 v1 v2 v3 v4 (mm X (s2 (s2 (s2 i6 74 0 ((i6 74 0) + (nI 1))) 74 1 ((i6 74 1) + (nI 1))) 74 2 ((i6 74 2) + (nI 0))) j) _ ((h29.2.1 (e7)).1 (e9)))⟩, fun e10 => absurd (show ¬ (nI 1) = 0 by decide) e10⟩⟩⟩)⟩, fun e9 => ⟨⟨rfl, (vpk 1 4 rfl)⟩, (tc_1620_150 (d + 1) 42 v1 v2 v3 v4 (nI 1) (mm X (s2 (s2 i6 74 0 ((i6 74 0) + (nI 1))) 74 1 ((i6 74 1) + (nI 0))) j) _ ⟨rfl, ⟨⟨rfl, (vpk 2 4 rfl)⟩, ⟨fun _ => ⟨⟨rfl, (vpk 2 4 rfl)⟩, (tc_1620_179 (d + 1) 42 v1 v2 v3 v4 (mm X (s2 (s2 (s2 i6 74 0 ((i6 74 0) + (nI 1))) 74 1 ((i6 74 1) + (nI 0))) 74 2 ((i6 74 2) + (nI 0))) j) _ ((h29.2.1 (e7)).2 (e9)))⟩, fun e11 => absurd (show ¬ (nI 1) = 0 by decide) e11⟩⟩⟩)⟩⟩⟩⟩⟩⟩⟩⟩⟩), fun e8 => absurd (show ¬ (nI 1) = 0 by decide) e8⟩)), fun e7 => ⟨rfl, ⟨fun e12 => (tc_1620_96 (d + 1) 42 v1 v2 v3 v4 (nI 0) (mm X i6 j) _ ⟨fun e13 => absurd e13 (show ¬ (¬ (nI 0) = 0) by decide), fun _ => ⟨rfl, ⟨fun e14 => (tc_1620_116 (d + 1) 42 v1 v2 v3 v4 (nI 0) (mm X i6 j) _ ⟨rfl, ⟨⟨rfl, (vpk 0 4 rfl)⟩, ⟨⟨rfl, (vpk 0 4 rfl)⟩, ⟨rfl, ⟨⟨rfl, (vpk 1 4 rfl)⟩, ⟨rfl, ⟨⟨(Or.inl rfl), (h.2 (e2)).1⟩, ⟨fun e15 => ⟨⟨rfl, (vpk 1 4 rfl)⟩, (tc_1620_150 (d + 1) 42 v1 v2 v3 v4 (nI 0) (mm X (s2 (s2 i6 74 0 ((i6 74 0) + (nI 1))) 74 1 ((i6 74 1) + (nI 1))) j) _ ⟨rfl, ⟨⟨rfl, (vpk 2 4 rfl)⟩, ⟨fun e16 => absurd e16 (show ¬ (¬ (nI 0) = 0) by decide), fun _ => ⟨rfl, ⟨⟨(Or.inl rfl), (h.2 (e2)).1⟩, ⟨fun _ => ⟨⟨rfl, (vpk 2 4 rfl)⟩, (tc_1620_179 (d + 1) 42 v1 v2 v3 v4 (mm X (s2 (s2 (s2 i6 74 0 ((i6 74 0) + (nI 1))) 74 1 ((i6 74 1) + (nI 1))) 74 2 ((i6 74 2) + (nI 0))) j) _ ((((h29.2.2 (e7)).1 (e12)).1 (e14)).1 (e15)))⟩, fun e17 => absurd ((e15)) e17⟩⟩⟩⟩⟩⟩)⟩, fun e15 => ⟨⟨rfl, (vpk 1 4 rfl)⟩, (tc_1620_150 (d + 1) 42 v1 v2 v3 v4 (nI 0) (mm X (s2 (s2 i6 74 0 ((i6 74 0) + (nI 1))) 74 1 ((i6 74 1) + (nI 0))) j) _ ⟨rfl, ⟨⟨rfl, (vpk 2 4 rfl)⟩, ⟨fun e18 => absurd e18 (show ¬ (¬ (nI 0) = 0) by decide), fun _ => ⟨rfl, ⟨⟨(Or.inl rfl), (h.2 (e2)).1⟩, ⟨fun e19 => absurd e19 ((e15)), fun _ => ⟨⟨rfl, (vpk 2 4 rfl)⟩, (tc_1620_179 (d + 1) 42 v1 v2 v3 v4 (mm X (s2 (s2 (s2 i6 74 0 ((i6 74 0) + (nI 1))) 74 1 ((i6 74 1) + (nI 0))) 74 2 ((i6 74 2) + (nI 1))) j) _ ((((h29.2.2 (e7)).1 (e12)).1 (e14)).2 (e15)))⟩⟩⟩⟩⟩⟩⟩)⟩⟩⟩⟩⟩⟩⟩⟩⟩), fun e14 => ⟨rfl, (tc_1620_116 (d + 1) 42 v1 v2 v3 v4 (nI 0) (mm X (s2 i6 42 51 v4) j) _ ⟨rfl, ⟨⟨rfl, (vpk 0 4 rfl)⟩, ⟨⟨rfl, (vpk 0 4 rfl)⟩, ⟨rfl, ⟨⟨rfl, (vpk 1 4 rfl)⟩, ⟨rfl, ⟨⟨(Or.inl rfl), (h.2 (e2)).1⟩, ⟨fun e20 => ⟨⟨rfl, (vpk 1 4 rfl)⟩, (tc_1620_150 (d + 1) 42 v1 v2 v3 v4 (nI 0) (mm X (s2 (s2 (s2 i6 42 51 v4) 74 0 ((i6 74 0) + (nI 1))) 74 1 ((i6 74 1) + (nI 1))) j) _ ⟨rfl, ⟨⟨rfl, (vpk 2 4 rfl)⟩, ⟨fun e21 => absurd e21 (show ¬ (¬ (nI 0) = 0) by decide), fun _ => ⟨rfl, ⟨⟨(Or.inl rfl), (h.2 (e2)).1⟩, ⟨fun _ => ⟨⟨rfl, (vpk 2 4 rfl)⟩, (tc_1620_179 (d + 1) 42 v1 v2 v3 v4 (mm X (s2 (s2 (s2 (s2 i6 42 51 v4) 74 0 ((i6 74 0) + (nI 1))) 74 1 ((i6 74 1) + (nI 1))) 74 2 ((i6 74 2) + (nI 0))) j) _ ((((h29.2.2 (e7)).1 (e12)).2 ((Classical.byContradiction e14))).1 (e20)))⟩, fun e22 => absurd ((e20)) e22⟩⟩⟩⟩⟩⟩)⟩, fun e20 => ⟨⟨rfl, (vpk 1 4 rfl)⟩, (tc_1620_150 (d + 1) 42 v1 v2 v3 v4 (nI 0) (mm X (s2 (s2 (s2 i6 42 51 v4) 74 0 ((i6 74 0) + (nI 1))) 74 1 ((i6 74 1) + (nI 0))) j) _ ⟨rfl, ⟨⟨rfl, (vpk 2 4 rfl)⟩, ⟨fun e23 => absurd e23 (show ¬ (¬ (nI 0) = 0) by decide), fun _ => ⟨rfl, ⟨⟨(Or.inl rfl), (h.2 (e2)).1⟩, ⟨fun e24 => absurd e24 ((e20)), fun _ => ⟨⟨rfl, (vpk 2 4 rfl)⟩, (tc_1620_179 (d + 1) 42 v1 v2 v3 v4 (mm X (s2 (s2 (s2 (s2 i6 42 51 v4) 74 0 ((i6 74 0) + (nI 1))) 74 1 ((i6 74 1) + (nI 0))) 74 2 ((i6 74 2) + (nI 1))) j) _ ((((h29.2.2 (e7)).1 (e12)).2 ((Classical.byContradiction e14))).2 (e20)))⟩⟩⟩⟩⟩⟩⟩)⟩⟩⟩⟩⟩⟩⟩⟩⟩)⟩⟩⟩⟩), fun e12 => (tc_1620_89 (d + 1) 42 v1 v2 v3 v4 (mm X i6 j) _ (tc_1620_96 (d + 1) 42 v1 v2 v3 v4 (nI 1) (mm X i6 j) _ ⟨fun _ => (tc_1620_116 (d + 1) 42 v1 v2 v3 v4 (nI 1) (mm X i6 j) _ ⟨rfl, ⟨⟨rfl, (vpk 0 4 rfl)⟩, ⟨⟨rfl, (vpk 0 4 rfl)⟩, ⟨rfl, ⟨⟨rfl, (vpk 1 4 rfl)⟩, ⟨rfl, ⟨⟨(Or.inl rfl), (h.2 (e2)).1⟩, ⟨fun e26 => ⟨⟨rfl, (vpk 1 4 rfl)⟩, (tc_1620_150 (d + 1) 42 v1 v2 v3 v4 (nI 1) (mm X (s2 (s2 i6 74 0 ((i6 74 0) + (nI 1))) 74 1 ((i6 74 1) + (nI 1))) j) _ ⟨rfl, ⟨⟨rfl, (vpk 2 4 rfl)⟩, ⟨fun _ => ⟨⟨rfl, (vpk 2 4 rfl)⟩, (tc_1620_179 (d + 1) 42 v1 v2 v3 v4 (mm X (s2 (s2 (s2 i6 74 0 ((i6 74 0) + (nI 1))) 74 1 ((i6 74 1) + (nI 1))) 74 2 ((i6 74 2) + (nI 0))) j) _ (((h29.2.2 (e7)).2 (e12)).1 (e26)))⟩, fun e27 => absurd (show ¬ (nI 1) = 0 by decide) e27⟩⟩⟩)⟩, fun e26 => ⟨⟨rfl, (vpk 1 4 rfl)⟩, (tc_1620_150 (d + 1) 42 v1 v2 v3 v4 (nI 1) (mm X (s2 (s2 i6 74 0 ((i6 74 0) + (nI 1))) 74 1 ((i6 74 1) + (nI 0))) j) _ ⟨rfl, ⟨⟨rfl, (vpk 2 4 rfl)⟩, ⟨fun _ => ⟨⟨rfl, (vpk 2 4 rfl)⟩, (tc_1620_179 (d + 1) 42 v1 v2 v3 v4 (mm X (s2 (s2 (s2 i6 74 0 ((i6 74 0) + (nI 1))) 74 1 ((i6 74 1) + (nI 0))) 74 2 ((i6 74 2) + (nI 0))) j) _ (((h29.2.2 (e7)).2 (e12)).2 (e26)))⟩, fun e28 => absurd (show ¬ (nI 1) = 0 by decide) e28⟩⟩⟩)⟩⟩⟩⟩⟩⟩⟩⟩⟩), fun e25 => absurd (show ¬ (nI 1) = 0 by decide) e25⟩))⟩⟩⟩⟩)⟩⟩⟩, fun e5 => absurd (show ¬ (nI 1) = 0 by decide) e5⟩⟩⟩⟩⟩⟩)⟩⟩⟩
theorem c_1620 (d : Nat) (X : XS) (i : Nat → Nat → Int32) (j : Nat → Nat → Int64) {A ca : Nat → Prop} {s kn m q : Nat} (hk : kn ≤ 240) (hm : m < 2 ^ 30) (hq : q < 2 ^ 30) (e46 : i 42 46 = nI kn) (hA : ∀ v, v < kn → (shrI (i 72 v) (nI s) &&& nI 1 = nI 1 ↔ A v)) (hc : ∀ v, v < kn → i 73 v = bi (ca v)) :
    ∃ i', EvV (d + 2) 1620 [.ref 42, .int (nI s), .int (nI m), .int (nI q)] (mm X i j) (mm X i' j) ∧ (∀ b, b ≠ 42 → b ≠ 74 → i' b = i b) ∧ (∀ k, k ≠ 49 → k ≠ 50 → k ≠ 51 → i' 42 k = i 42 k) ∧ i' 42 51 = fs (UH A ca m q) kn ∧ i' 74 0 = nI (ct A kn) ∧ i' 74 1 = nI (ct (fun t => A t ∧ ¬ ca t) kn) ∧ i' 74 2 = nI (ct (fun t => UH A ca m q t ∧ ca t) kn) := by
  refine EvV.ex (s_1620 d X i j _ _ _ _ ?_)
  refine lup 4 (fun e (i1 : Nat → Nat → Int32) => (∀ b, b ≠ 42 → b ≠ 74 → i1 b = i b) ∧ (∀ k, k ≠ 49 → k ≠ 50 → k ≠ 51 → i1 42 k = i 42 k) ∧ i1 42 51 = kI (-2) ∧ (∀ p, p < e → i1 74 p = nI 0)) (fun e i1 => (9, [(0, .ref 42), (1, .int (nI s)), (2, .int (nI m)), (3, .int (nI q)), (4, .int (nI e))], [], mm X i1 j)) ?_ ?_ 0 _ (Nat.zero_le _) ⟨fun b h1 h2 => s2_ne h1, fun k h1 h2 h3 => s2_ne2 h3, s2_self _ _ _ _, fun p h => absurd h (by omega)⟩
  · rintro i1 ⟨g1, g2, g3, g4⟩
    refine s_1620_9 d X i1 j _ _ _ _ _ (br_t (Int32.le_refl _) ?_)
    refine lup kn (fun t (i1 : Nat → Nat → Int32) => (∀ b, b ≠ 42 → b ≠ 74 → i1 b = i b) ∧ (∀ k, k ≠ 49 → k ≠ 50 → k ≠ 51 → i1 42 k = i 42 k) ∧ i1 42 51 = fs (UH A ca m q) t ∧ i1 74 0 = nI (ct A t) ∧ i1 74 1 = nI (ct (fun t => A t ∧ ¬ ca t) t) ∧ i1 74 2 = nI (ct (fun t => UH A ca m q t ∧ ca t) t)) (fun t i1 => (32, [(0, .ref 42), (1, .int (nI s)), (2, .int (nI m)), (3, .int (nI q)), (4, .int (nI t))], [], mm X i1 j)) ?_ ?_ 0 i1 (Nat.zero_le _) ⟨g1, g2, g3, g4 0 (by decide), g4 1 (by decide), g4 2 (by decide)⟩
    · rintro i2 ⟨g1, g2, g3, g4, g5, g6⟩
      exact s_1620_32 d X i2 j _ _ _ _ _ (br_t (by rw [g2 46 (by decide) (by decide) (by decide), e46]; exact Int32.le_refl _) (qV_of ⟨i2, rfl, g1, g2, g3, g4, g5, g6⟩))
    · rintro t i2 ht ⟨g1, g2, g3, g4, g5, g6⟩ go
      refine s_1620_32 d X i2 j _ _ _ _ _ (br_f (by rw [g2 46 (by decide) (by decide) (by decide), e46]; exact nI_ge ht (by omega)) ⟨vp_in_nI (by omega) (by decide), ?_⟩)
      rw [tc_nI (by omega), g1 72 (by decide) (by decide), propext (hA t ht), nI_add]
      refine bq_c (fun ha => go i2 ⟨g1, g2, ?_, ?_, ?_, ?_⟩) (fun ha => ?_)
      · rw [fs_n (fun w => ha w.2.1)]; exact g3
      · rw [ct_f ha]; exact g4
      · rw [ct_f (p := fun t => A t ∧ ¬ ca t) (fun w => ha w.1)]; exact g5
      · rw [ct_f (p := fun t => UH A ca m q t ∧ ca t) (fun w => ha w.1.1)]; exact g6
      obtain ⟨i6, hE, f1, f2, f3, f4⟩ := c_1615 0 X (s2 (s2 i2 42 49 (nI 0)) 42 50 (nI 0)) j (A := A) (ca := ca) (s := s) (t := t) (m := m) (f := 0) (by omega) hm (by decide) (fun v hv => by rw [s2_ne (show 72 ≠ 42 by decide), s2_ne (show 72 ≠ 42 by decide), g1 72 (by decide) (by decide)]; exact hA v (by omega)) (fun v hv => by rw [s2_ne (show 73 ≠ 42 by decide), s2_ne (show 73 ≠ 42 by decide), g1 73 (by decide) (by decide)]; exact hc v (by omega))
      refine ⟨i6, hE.up (by omega), ?_⟩
      rw [s2_ne2 (by decide), s2_self, nI_add, Nat.zero_add] at f3
      rw [s2_self, nI_add, Nat.zero_add] at f4
      have cl : ct A t ≤ t := ct_le _ _
      have el : (lat A ca 0 t m).2 ≤ (lat A ca 0 t m).1 := by
        have : ∀ v r, (lat A ca 0 v r).2 ≤ (lat A ca 0 v r).1 := fun v => by
          induction v with
          | zero => exact fun _ => Nat.le_refl _
          | succ v ih =>
            intro r
            by_cases h : A v
            · by_cases h0 : r = 0
              · rw [lat_e h (Or.inr h0)]; exact Nat.le_refl _
              · rw [lat_y h (by omega)]
                have := ih (r - 1)
                by_cases hcv : ca v
                · rw [b01_t hcv]; dsimp only; omega
                · rw [b01_f hcv]; dsimp only; omega
            · rw [lat_n h]; exact ih r
        exact this t m
      have l1 := lat_1 (A := A) (ca := ca) (v := t) (r := m)
      rw [f3, f4, f1 73 (by decide), s2_ne (show 73 ≠ 42 by decide), s2_ne (show 73 ≠ 42 by decide), g1 73 (by decide) (by decide), hc t ht, bi_eq0, nI_ltI (by omega) (by omega), nI_ltI (by omega) (by omega)]
      have h74 : i6 74 = i2 74 := by rw [f1 74 (by decide), s2_ne (show 74 ≠ 42 by decide), s2_ne (show 74 ≠ 42 by decide)]
      have h51 : i6 42 51 = fs (UH A ca m q) t := by rw [f2 51 (by decide) (by decide), s2_ne2 (by decide), s2_ne2 (by decide)]; exact g3
      have r1 : ∀ b, b ≠ 42 → b ≠ 74 → i6 b = i b := fun b h1 h2 => by rw [f1 b h1, s2_ne h1, s2_ne h1]; exact g1 b h1 h2
      have r2 : ∀ k, k ≠ 49 → k ≠ 50 → k ≠ 51 → i6 42 k = i 42 k := fun k h1 h2 h3 => by rw [f2 k h1 h2, s2_ne2 h2, s2_ne2 h1]; exact g2 k h1 h2 h3
      have nx : ∀ i7 x y, (∀ b, b ≠ 42 → i7 b = i6 b) → (∀ k, k ≠ 51 → i7 42 k = i6 42 k) → i7 42 51 = fs (UH A ca m q) (t + 1) → x = b01 (A t ∧ ¬ ca t) → y = b01 (UH A ca m q t ∧ ca t) → WP (d + 2) 1620 (32, [(0, .ref 42), (1, .int (nI s)), (2, .int (nI m)), (3, .int (nI q)), (4, .int (nI (t + 1)))], [], mm X (s2 (s2 (s2 i7 74 0 (i6 74 0 + nI 1)) 74 1 (i6 74 1 + nI x)) 74 2 (i6 74 2 + nI y)) j) (qV fun M2 => ∃ i', M2 = mm X i' j ∧ (∀ b, b ≠ 42 → b ≠ 74 → i' b = i b) ∧ (∀ k, k ≠ 49 → k ≠ 50 → k ≠ 51 → i' 42 k = i 42 k) ∧ i' 42 51 = fs (UH A ca m q) kn ∧ i' 74 0 = nI (ct A kn) ∧ i' 74 1 = nI (ct (fun t => A t ∧ ¬ ca t) kn) ∧ i' 74 2 = nI (ct (fun t => UH A ca m q t ∧ ca t) kn)) := by
        intro i7 x y k1 k2 k3 hx hy
        refine go _ ⟨fun b h1 h2 => by rw [s2_ne h2, s2_ne h2, s2_ne h2, k1 b h1]; exact r1 b h1 h2, fun k h1 h2 h3 => by rw [s2_ne (show 42 ≠ 74 by decide), s2_ne (show 42 ≠ 74 by decide), s2_ne (show 42 ≠ 74 by decide), k2 k h3]; exact r2 k h1 h2 h3, by rw [s2_ne (show 42 ≠ 74 by decide), s2_ne (show 42 ≠ 74 by decide), s2_ne (show 42 ≠ 74 by decide)]; exact k3, ?_, ?_, ?_⟩
        · rw [s2_ne2 (by decide), s2_ne2 (by decide), s2_self, h74, g4, nI_add, ct_t ha]
        · rw [s2_ne2 (by decide), s2_self, h74, g5, nI_add, hx]
          by_cases w : A t ∧ ¬ ca t
          · rw [b01_t w, ct_t (p := fun t => A t ∧ ¬ ca t) w]
          · rw [b01_f w, ct_f (p := fun t => A t ∧ ¬ ca t) w]; rfl
        · rw [s2_self, h74, g6, nI_add, hy]
          by_cases w : UH A ca m q t ∧ ca t
          · rw [b01_t w, ct_t (p := fun t => UH A ca m q t ∧ ca t) w]
          · rw [b01_f w, ct_f (p := fun t => UH A ca m q t ∧ ca t) w]; rfl
      have n0 := nx i6 0 0 (fun _ _ => rfl) (fun _ _ => rfl)
      have n1 := nx i6 0 1 (fun _ _ => rfl) (fun _ _ => rfl)
      have n2 := nx i6 1 0 (fun _ _ => rfl) (fun _ _ => rfl)
      have f51 : ∀ b, b ≠ 42 → (s2 i6 42 51 (nI t)) b = i6 b := fun b hb => s2_ne hb
      have f51k : ∀ k, k ≠ 51 → (s2 i6 42 51 (nI t)) 42 k = i6 42 k := fun k hk => s2_ne2 hk
      have nn : ¬ UH A ca m q t → i6 42 51 = fs (UH A ca m q) (t + 1) := fun w => by rw [fs_n (fun u => w u.2)]; exact h51
      have hd : ∀ P : Prop, ¬ UH A ca m q t → b01 (UH A ca m q t ∧ P) = 0 := fun P w => b01_f fun u => w u.1
      refine br_c (fun y1 => br_c (fun z => ?_) (fun z => ?_)) (fun y1 => br_c (fun y2 => bq_c (fun y3 => br_c (fun z => ?_) (fun z => ?_)) (fun y3 => br_c (fun z => ?_) (fun z => ?_))) (fun y2 => br_c (fun z => ?_) (fun z => ?_)))
      · have w : ¬ UH A ca m q t := fun w => by have := w.2.1; omega
        exact n2 (nn w) (b01_t ⟨ha, z⟩).symm (hd _ w).symm
      · have w : ¬ UH A ca m q t := fun w => by have := w.2.1; omega
        exact n0 (nn w) (b01_f (fun u => z u.2)).symm (hd _ w).symm
      · have w : UH A ca m q t := ⟨ha, by omega, y2⟩
        rw [h51] at y3
        exact n2 (by rw [fs_n (fun u => y3 u.1)]; exact h51) (b01_t ⟨ha, z⟩).symm (b01_f (fun u => z u.2)).symm
      · have w : UH A ca m q t := ⟨ha, by omega, y2⟩
        rw [h51] at y3
        exact n1 (by rw [fs_n (fun u => y3 u.1)]; exact h51) (b01_f (fun u => z u.2)).symm (b01_t ⟨w, Classical.byContradiction z⟩).symm
      · have w : UH A ca m q t := ⟨ha, by omega, y2⟩
        rw [h51] at y3
        exact nx _ 1 0 f51 f51k (by rw [s2_self, fs_y y3 w]) (b01_t ⟨ha, z⟩).symm (b01_f (fun u => z u.2)).symm
      · have w : UH A ca m q t := ⟨ha, by omega, y2⟩
        rw [h51] at y3
        exact nx _ 0 1 f51 f51k (by rw [s2_self, fs_y y3 w]) (b01_f (fun u => z u.2)).symm (b01_t ⟨w, Classical.byContradiction z⟩).symm
      · have w : ¬ UH A ca m q t := fun w => y2 w.2.2
        exact n2 (nn w) (b01_t ⟨ha, z⟩).symm (hd _ w).symm
      · have w : ¬ UH A ca m q t := fun w => y2 w.2.2
        exact n0 (nn w) (b01_f (fun u => z u.2)).symm (hd _ w).symm
  · rintro e i1 he ⟨g1, g2, g3, g4⟩ go
    refine s_1620_9 d X i1 j _ _ _ _ _ (br_f (nI_ge he (by decide)) ⟨vp_in_nI he (by decide), ?_⟩)
    rw [tc_nI (by omega), nI_add]
    refine go _ ⟨fun b h1 h2 => by rw [s2_ne h2]; exact g1 b h1 h2, fun k h1 h2 h3 => by rw [s2_ne (show 42 ≠ 74 by decide)]; exact g2 k h1 h2 h3, by rw [s2_ne (show 42 ≠ 74 by decide)]; exact g3, fun p hp => ?_⟩
    by_cases h : p = e
    · subst h; exact s2_self _ _ _ _
    · rw [s2_ne2 h]; exact g4 p (by omega)
