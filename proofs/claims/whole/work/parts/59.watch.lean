/-! ===== the latest times ===== -/
theorem EvV.ex {d y : Nat} {as : List Value} {M : AM} {X : XS} {j : Nat → Nat → Int64} {P : (Nat → Nat → Int32) → Prop} (main : WV d y as M (fun M2 => ∃ i', M2 = mm X i' j ∧ P i')) : ∃ i', EvV d y as M (mm X i' j) ∧ P i' := by
  obtain ⟨n1, ⟨r, M2⟩, h1, h2, i', h3, h4⟩ := main
  dsimp only at h2 h3
  subst h2; subst h3
  exact ⟨i', ⟨n1, _, h1, rfl, rfl⟩, h4⟩
theorem EvI.ex {d y : Nat} {as : List Value} {M : AM} {X : XS} {x : Int32} {j : Nat → Nat → Int64} {P : (Nat → Nat → Int32) → Prop} (main : WI d y as M (fun x' M2 => ∃ i', x' = x ∧ M2 = mm X i' j ∧ P i')) : ∃ i', EvI d y as M x (mm X i' j) ∧ P i' := by
  obtain ⟨n1, ⟨r, M2⟩, h1, x', h2, i', h3, h4, h5⟩ := main
  dsimp only at h2 h3 h4
  subst h2; subst h3; subst h4
  exact ⟨i', ⟨n1, _, h1, _, rfl, rfl, rfl⟩, h5⟩
theorem pm1 (x : Int32) : x + kI (-1) = x - nI 1 := by
  rw [show kI (-1) = -(nI 1) by decide]; grind
theorem pd1 {v : Nat} (h : v < 2 ^ 30) : nI (v + 1) - nI 1 = nI v := pk_sub (a := v + 1) (b := 1) (by omega)
theorem m1_lt {f : Nat} (h : f < 2 ^ 31) : nI 0 - nI 1 < nI f := by
  rw [lt_i, nI_toInt h]
  have : (nI 0 - nI 1).toInt = -1 := by decide
  omega
noncomputable def b01 (P : Prop) : Nat := @ite _ P (Classical.propDecidable _) 1 0
theorem b01_t {P : Prop} (h : P) : b01 P = 1 := by unfold b01; rw [if_pos h]
theorem b01_f {P : Prop} (h : ¬ P) : b01 P = 0 := by unfold b01; rw [if_neg h]
/-- the latest times before v, back to f, r of them at most; and how often it came -/
noncomputable def lat (A ca : Nat → Prop) (f : Nat) : Nat → Nat → Nat × Nat
  | 0, _ => (0, 0)
  | v + 1, r => @ite _ (A v) (Classical.propDecidable _) (if v < f ∨ r = 0 then (0, 0) else ((lat A ca f v (r - 1)).1 + 1, (lat A ca f v (r - 1)).2 + b01 (ca v))) (lat A ca f v r)
section lats
variable {A ca : Nat → Prop} {f : Nat}
theorem lat_n {v r : Nat} (h : ¬ A v) : lat A ca f (v + 1) r = lat A ca f v r := by rw [lat, if_neg h]
theorem lat_e {v r : Nat} (h : A v) (h2 : v < f ∨ r = 0) : lat A ca f (v + 1) r = (0, 0) := by rw [lat, if_pos h, if_pos h2]
theorem lat_y {v r : Nat} (h : A v) (h2 : ¬ (v < f ∨ r = 0)) : lat A ca f (v + 1) r = ((lat A ca f v (r - 1)).1 + 1, (lat A ca f v (r - 1)).2 + b01 (ca v)) := by rw [lat, if_pos h, if_neg h2]
theorem lat_lo : ∀ {v r : Nat}, v ≤ f → lat A ca f v r = (0, 0)
  | 0, _, _ => rfl
  | v + 1, r, h => by
    by_cases ha : A v
    · exact lat_e ha (Or.inl (by omega))
    · rw [lat_n ha]; exact lat_lo (by omega)
theorem lat_0 : ∀ {v : Nat}, lat A ca f v 0 = (0, 0)
  | 0 => rfl
  | v + 1 => by
    by_cases ha : A v
    · exact lat_e ha (Or.inr rfl)
    · rw [lat_n ha]; exact lat_0
theorem lat_cap : ∀ {v r r' : Nat}, ct A v ≤ r → ct A v ≤ r' → lat A ca f v r = lat A ca f v r'
  | 0, _, _, _, _ => rfl
  | v + 1, r, r', h, h' => by
    by_cases ha : A v
    · rw [ct_t ha] at h h'
      by_cases hf : v < f
      · rw [lat_e ha (Or.inl hf), lat_e ha (Or.inl hf)]
      · rw [lat_y ha (by omega), lat_y ha (by omega), lat_cap (v := v) (r := r - 1) (r' := r' - 1) (by omega) (by omega)]
    · rw [ct_f ha] at h h'
      rw [lat_n ha, lat_n ha]; exact lat_cap h h'
end lats
/-- what the watch noted of the days before t -/
def WT (i : Nat → Nat → Int32) (A ca : Nat → Prop) (t : Nat) : Prop := i 37 2 = nI (ct A t) ∧ ∀ u, u < t → A u → i 38 (ct A u) = nI u ∧ i 39 (ct A u) = bi (ca u)
theorem addz (x : Int32) : x + nI 0 = x := by rw [nI0]; grind
theorem addA (x : Int32) (a b : Nat) : x + nI a + nI b = x + nI (a + b) := by rw [← nI_add]; grind
set_option maxRecDepth 100000 in
theorem s_1285 (d : Nat) (X : XS) (i : Nat → Nat → Int32) (j : Nat → Nat → Int64) (a1 : Int32) (a2 : Int32) (K : AM → Prop) (h : WP d 1285 (19, [(0, .ref 37), (2, .int a2), (3, .int (mxI (nI 0) ((i 37 2) - a1))), (4, .int ((i 37 2) - (nI 1)))], [], (mm X i j)) (qV K)) : WV d 1285 [.ref 37, .int a1, .int a2] (mm X i j) K := te_1285 d 37 a1 a2 (mm X i j) (qV K) ⟨rfl, ⟨rfl, h⟩⟩
set_option maxRecDepth 100000 in
theorem s_1285_19 (d : Nat) (X : XS) (i : Nat → Nat → Int32) (j : Nat → Nat → Int64) (v2 : Int32) (v3 : Int32) (v4 : Int32) (Q : Option (Option Value) → AM → Prop) (h : ((v4 < v3 → Q (some none) (mm X i j)) ∧ (¬ (v4 < v3) → (vp_in v4 240) ∧ (((i 38 ((v4).toNatClampNeg)) < v2 → Q (some none) (mm X i j)) ∧ (¬ ((i 38 ((v4).toNatClampNeg)) < v2) → (((i 39 ((v4).toNatClampNeg)) = 0 → WP d 1285 (19, [(0, .ref 37), (2, .int v2), (3, .int v3), (4, .int (v4 + (kI (-1))))], [], (mm X (s2 (s2 i 37 3 ((i 37 3) + (nI 1))) 37 4 ((i 37 4) + (nI 0))) j)) Q) ∧ (¬ ((i 39 ((v4).toNatClampNeg)) = 0) → WP d 1285 (19, [(0, .ref 37), (2, .int v2), (3, .int v3), (4, .int (v4 + (kI (-1))))], [], (mm X (s2 (s2 i 37 3 ((i 37 3) + (nI 1))) 37 4 ((i 37 4) + (nI 1))) j)) Q))))))) : WP d 1285 (19, [(0, .ref 37), (2, .int v2), (3, .int v3), (4, .int v4)], [], mm X i j) Q := tc_1285_19 d 37 v2 v3 v4 (mm X i j) Q ⟨fun e1 => (h.1 (e1)), fun e1 => ⟨rfl, ⟨⟨rfl, (h.2 (e1)).1⟩, ⟨fun e2 => ((h.2 (e1)).2.1 (e2)), fun e2 => ⟨rfl, ⟨rfl, ⟨rfl, ⟨rfl, ⟨⟨(Or.inl rfl), (h.2 (e1)).1⟩, ⟨fun e3 => ⟨rfl, (tc_1285_70 d 37 v2 v3 v4 (mm X (s2 (s2 i 37 3 ((i 37 3) + (nI 1))) 37 4 ((i 37 4) + (nI 0))) j) _ (((h.2 (e1)).2.2 (e2)).1 (e3)))⟩, fun e3 => ⟨rfl, (tc_1285_70 d 37 v2 v3 v4 (mm X (s2 (s2 i 37 3 ((i 37 3) + (nI 1))) 37 4 ((i 37 4) + (nI 1))) j) _ (((h.2 (e1)).2.2 (e2)).2 (e3)))⟩⟩⟩⟩⟩⟩⟩⟩⟩⟩⟩
theorem c_1285 (d : Nat) (X : XS) (i : Nat → Nat → Int32) (j : Nat → Nat → Int64) {A ca : Nat → Prop} {t m f : Nat} (ht : t ≤ 240) (hm : m < 2 ^ 30) (hf : f < 2 ^ 30) (hW : WT i A ca t) :
    ∃ i', EvV d 1285 [.ref 37, .int (nI m), .int (nI f)] (mm X i j) (mm X i' j) ∧ (∀ b, b ≠ 37 → i' b = i b) ∧ (∀ k, k ≠ 3 → k ≠ 4 → i' 37 k = i 37 k) ∧ i' 37 3 = i 37 3 + nI (lat A ca f t m).1 ∧ i' 37 4 = i 37 4 + nI (lat A ca f t m).2 := by
  refine EvV.ex ?_
  obtain ⟨w1, w2⟩ := hW
  have cl : ∀ v, ct A v ≤ v := fun v => ct_le _ _
  have key : ∀ v, v ≤ t → ∀ i1 : Nat → Nat → Int32, (∀ b, b ≠ 37 → i1 b = i b) → (∀ k, k ≠ 3 → k ≠ 4 → i1 37 k = i 37 k) → ∀ L, L ≤ 240 → WP d 1285 (19, [(0, .ref 37), (2, .int (nI f)), (3, .int (nI L)), (4, .int (nI (ct A v) - nI 1))], [], mm X i1 j) (qV fun M2 => ∃ i', M2 = mm X i' j ∧ (∀ b, b ≠ 37 → i' b = i b) ∧ (∀ k, k ≠ 3 → k ≠ 4 → i' 37 k = i 37 k) ∧ i' 37 3 = i1 37 3 + nI (lat A ca f v (ct A v - L)).1 ∧ i' 37 4 = i1 37 4 + nI (lat A ca f v (ct A v - L)).2) := by
    intro v
    induction v with
    | zero =>
      intro _ i1 g1 g2 L hL
      refine s_1285_19 d X i1 j _ _ _ _ (br_t (m1_lt (by omega)) (qV_of ⟨i1, rfl, g1, g2, ?_, ?_⟩))
      · exact (addz _).symm
      · exact (addz _).symm
    | succ v ih =>
      intro hv i1 g1 g2 L hL
      have c1 := cl v
      by_cases ha : A v
      · rw [ct_t ha, pd1 (by omega)]
        have done : ct A v + 1 - L = 0 ∨ v < f → ∃ i', mm X i1 j = mm X i' j ∧ (∀ b, b ≠ 37 → i' b = i b) ∧ (∀ k, k ≠ 3 → k ≠ 4 → i' 37 k = i 37 k) ∧ i' 37 3 = i1 37 3 + nI (lat A ca f (v + 1) (ct A v + 1 - L)).1 ∧ i' 37 4 = i1 37 4 + nI (lat A ca f (v + 1) (ct A v + 1 - L)).2 := fun h => by
          rw [lat_e ha (by omega)]
          exact ⟨i1, rfl, g1, g2, (addz _).symm, (addz _).symm⟩
        refine s_1285_19 d X i1 j _ _ _ _ ?_
        rw [nI_ltI (by omega) (by omega)]
        refine br_c (fun y => qV_of (done (by omega))) (fun y => ⟨vp_in_nI (by omega) (by decide), ?_⟩)
        obtain ⟨e1, e2⟩ := w2 v (by omega) ha
        rw [tc_nI (by omega), g1 38 (by decide), g1 39 (by decide), e1, e2, nI_ltI (by omega) (by omega), bi_eq0, pm1]
        refine br_c (fun z => qV_of (done (by omega))) (fun z => ?_)
        have ly := lat_y (ca := ca) (f := f) (r := ct A v + 1 - L) ha (by omega)
        rw [show ct A v + 1 - L - 1 = ct A v - L by omega] at ly
        have go := fun e => ih (by omega) (s2 (s2 i1 37 3 (i1 37 3 + nI 1)) 37 4 (i1 37 4 + nI e)) (fun b hb => by rw [s2_ne hb, s2_ne hb]; exact g1 b hb) (fun k h3 h4 => by rw [s2_ne2 h4, s2_ne2 h3]; exact g2 k h3 h4) L hL
        rw [ly]
        have e3 : ∀ e, (s2 (s2 i1 37 3 (i1 37 3 + nI 1)) 37 4 (i1 37 4 + nI e)) 37 3 = i1 37 3 + nI 1 := fun e => by rw [s2_ne2 (by decide), s2_self]
        have e4 : ∀ e, (s2 (s2 i1 37 3 (i1 37 3 + nI 1)) 37 4 (i1 37 4 + nI e)) 37 4 = i1 37 4 + nI e := fun e => s2_self _ _ _ _
        refine br_c (fun q => ?_) (fun q => ?_)
        · have g := go 0
          rw [e3, e4, addA, addA, Nat.add_comm 1, Nat.zero_add] at g
          rw [b01_f q, Nat.add_zero]
          exact g
        · have g := go 1
          rw [e3, e4, addA, addA, Nat.add_comm 1, Nat.add_comm 1] at g
          rw [b01_t (Classical.byContradiction q)]
          exact g
      · rw [ct_f ha, lat_n ha]
        exact ih (by omega) i1 g1 g2 L hL
  refine s_1285 d X i j _ _ _ ?_
  rw [w1, mx_sub (by have := cl t; omega) (by omega)]
  have c1 := cl t
  have := key t (Nat.le_refl _) i (fun _ _ => rfl) (fun _ _ _ => rfl) (ct A t - m) (by omega)
  have e : lat A ca f t (ct A t - (ct A t - m)) = lat A ca f t m := by
    by_cases h : m ≤ ct A t
    · rw [show ct A t - (ct A t - m) = m by omega]
    · exact lat_cap (by omega) (by omega)
  rw [e] at this
  exact this
set_option maxRecDepth 100000 in
theorem s_1615 (d : Nat) (X : XS) (i : Nat → Nat → Int32) (j : Nat → Nat → Int64) (a1 : Int32) (a2 : Int32) (a3 : Int32) (a4 : Int32) (K : AM → Prop) (h : WP (d + 1) 1615 (9, [(0, .ref 42), (1, .int a1), (2, .int a2), (3, .int a3), (5, .int (nI 0)), (6, .int (a4 - (nI 1)))], [], (mm X i j)) (qV K)) : WV (d + 1) 1615 [.ref 42, .int a1, .int a2, .int a3, .int a4] (mm X i j) K := te_1615 d 42 a1 a2 a3 a4 (mm X i j) (qV K) h
set_option maxRecDepth 100000 in
theorem s_1615_9 (d : Nat) (X : XS) (i : Nat → Nat → Int32) (j : Nat → Nat → Int64) (v1 : Int32) (v2 : Int32) (v3 : Int32) (v5 : Int32) (v6 : Int32) (Q : Option (Option Value) → AM → Prop) (h : ((v6 < v3 → Q (some none) (mm X (s2 i 42 49 ((i 42 49) + v5)) j)) ∧ (¬ (v6 < v3) → ((v2 ≤ v5 → Q (some none) (mm X (s2 i 42 49 ((i 42 49) + v5)) j)) ∧ (¬ (v2 ≤ v5) → (vp_in v6 240) ∧ ((¬ (((shrI (i 72 ((v6).toNatClampNeg)) v1) &&& (nI 1)) = (nI 1)) → WP (d + 1) 1615 (9, [(0, .ref 42), (1, .int v1), (2, .int v2), (3, .int v3), (5, .int v5), (6, .int (v6 + (kI (-1))))], [], (mm X i j)) Q) ∧ (((shrI (i 72 ((v6).toNatClampNeg)) v1) &&& (nI 1)) = (nI 1) → (((i 73 ((v6).toNatClampNeg)) = 0 → WP (d + 1) 1615 (9, [(0, .ref 42), (1, .int v1), (2, .int v2), (3, .int v3), (5, .int (v5 + (nI 1))), (6, .int (v6 + (kI (-1))))], [], (mm X (s2 i 42 50 ((i 42 50) + (nI 0))) j)) Q) ∧ (¬ ((i 73 ((v6).toNatClampNeg)) = 0) → WP (d + 1) 1615 (9, [(0, .ref 42), (1, .int v1), (2, .int v2), (3, .int v3), (5, .int (v5 + (nI 1))), (6, .int (v6 + (kI (-1))))], [], (mm X (s2 i 42 50 ((i 42 50) + (nI 1))) j)) Q))))))))) : WP (d + 1) 1615 (9, [(0, .ref 42), (1, .int v1), (2, .int v2), (3, .int v3), (5, .int v5), (6, .int v6)], [], mm X i j) Q := tc_1615_9 d 42 v1 v2 v3 v5 v6 (mm X i j) Q ⟨fun e1 => ⟨rfl, ⟨rfl, (h.1 (e1))⟩⟩, fun e1 => ⟨fun e2 => ⟨rfl, ⟨rfl, ((h.2 (e1)).1 (e2))⟩⟩, fun e2 => ⟨rfl, (te_1590 d 42 v1 v6 (mm X i j) _ ⟨rfl, ⟨⟨rfl, ((h.2 (e1)).2 (e2)).1⟩, ⟨fun e3 => ⟨k0_01, ⟨_, rfl, ⟨fun e4 => absurd e4 (show ¬ (¬ (nI 0) = 0) by decide), fun _ => (tc_1615_61 d 42 v1 v2 v3 v5 v6 (mm X i j) _ (((h.2 (e1)).2 (e2)).2.1 (e3)))⟩⟩⟩, fun e3 => ⟨k1_01, ⟨_, rfl, ⟨fun _ => ⟨rfl, ⟨rfl, ⟨⟨(Or.inl rfl), ((h.2 (e1)).2 (e2)).1⟩, ⟨fun e6 => ⟨rfl, (tc_1615_61 d 42 v1 v2 v3 (v5 + (nI 1)) v6 (mm X (s2 i 42 50 ((i 42 50) + (nI 0))) j) _ ((((h.2 (e1)).2 (e2)).2.2 ((Classical.byContradiction e3))).1 (e6)))⟩, fun e6 => ⟨rfl, (tc_1615_61 d 42 v1 v2 v3 (v5 + (nI 1)) v6 (mm X (s2 i 42 50 ((i 42 50) + (nI 1))) j) _ ((((h.2 (e1)).2 (e2)).2.2 ((Classical.byContradiction e3))).2 (e6)))⟩⟩⟩⟩⟩, fun e5 => absurd (show ¬ (nI 1) = 0 by decide) e5⟩⟩⟩⟩⟩⟩)⟩⟩⟩
theorem c_1615 (d : Nat) (X : XS) (i : Nat → Nat → Int32) (j : Nat → Nat → Int64) {A ca : Nat → Prop} {s t m f : Nat} (ht : t ≤ 240) (hm : m < 2 ^ 30) (hf : f < 2 ^ 30) (hA : ∀ v, v < t → (shrI (i 72 v) (nI s) &&& nI 1 = nI 1 ↔ A v)) (hc : ∀ v, v < t → i 73 v = bi (ca v)) :
    ∃ i', EvV (d + 1) 1615 [.ref 42, .int (nI s), .int (nI m), .int (nI f), .int (nI t)] (mm X i j) (mm X i' j) ∧ (∀ b, b ≠ 42 → i' b = i b) ∧ (∀ k, k ≠ 49 → k ≠ 50 → i' 42 k = i 42 k) ∧ i' 42 49 = i 42 49 + nI (lat A ca f t m).1 ∧ i' 42 50 = i 42 50 + nI (lat A ca f t m).2 := by
  refine EvV.ex ?_
  have key : ∀ v, v ≤ t → ∀ i1 : Nat → Nat → Int32, (∀ b, b ≠ 42 → i1 b = i b) → (∀ k, k ≠ 49 → k ≠ 50 → i1 42 k = i 42 k) → i1 42 49 = i 42 49 → ∀ q, q ≤ m → WP (d + 1) 1615 (9, [(0, .ref 42), (1, .int (nI s)), (2, .int (nI m)), (3, .int (nI f)), (5, .int (nI q)), (6, .int (nI v - nI 1))], [], mm X i1 j) (qV fun M2 => ∃ i', M2 = mm X i' j ∧ (∀ b, b ≠ 42 → i' b = i b) ∧ (∀ k, k ≠ 49 → k ≠ 50 → i' 42 k = i 42 k) ∧ i' 42 49 = i 42 49 + nI (q + (lat A ca f v (m - q)).1) ∧ i' 42 50 = i1 42 50 + nI (lat A ca f v (m - q)).2) := by
    intro v
    induction v with
    | zero =>
      intro _ i1 g1 g2 g3 q hq
      refine s_1615_9 d X i1 j _ _ _ _ _ _ (br_t (m1_lt (by omega)) (qV_of ⟨_, rfl, fun b hb => by rw [s2_ne hb]; exact g1 b hb, fun k h1 h2 => by rw [s2_ne2 h1]; exact g2 k h1 h2, ?_, ?_⟩))
      · rw [s2_self, g3]; rfl
      · rw [s2_ne2 (by decide)]; exact (addz _).symm
    | succ v ih =>
      intro hv i1 g1 g2 g3 q hq
      have done : lat A ca f (v + 1) (m - q) = (0, 0) → ∃ i', mm X (s2 i1 42 49 (i1 42 49 + nI q)) j = mm X i' j ∧ (∀ b, b ≠ 42 → i' b = i b) ∧ (∀ k, k ≠ 49 → k ≠ 50 → i' 42 k = i 42 k) ∧ i' 42 49 = i 42 49 + nI (q + (lat A ca f (v + 1) (m - q)).1) ∧ i' 42 50 = i1 42 50 + nI (lat A ca f (v + 1) (m - q)).2 := fun h => by
        rw [h]
        refine ⟨_, rfl, fun b hb => by rw [s2_ne hb]; exact g1 b hb, fun k h1 h2 => by rw [s2_ne2 h1]; exact g2 k h1 h2, ?_, ?_⟩
        · rw [s2_self, g3]; rfl
        · rw [s2_ne2 (by decide)]; exact (addz _).symm
      rw [pd1 (by omega)]
      refine s_1615_9 d X i1 j _ _ _ _ _ _ ?_
      rw [nI_ltI (by omega) (by omega), nI_leI (by omega) (by omega)]
      refine br_c (fun y => qV_of (done ?_)) (fun y => br_c (fun z => qV_of (done ?_)) (fun z => ⟨vp_in_nI (by omega) (by decide), ?_⟩))
      · by_cases ha : A v
        · exact lat_e ha (Or.inl y)
        · rw [lat_n ha]; exact lat_lo (by omega)
      · rw [show m - q = 0 by omega]; exact lat_0
      · rw [tc_nI (by omega), g1 72 (by decide), g1 73 (by decide), propext (hA v (by omega)), hc v (by omega), bi_eq0, pm1, nI_add]
        refine bq_c (fun ha => ?_) (fun ha => ?_)
        · rw [lat_n ha]
          exact ih (by omega) i1 g1 g2 g3 q hq
        · have go := fun e => ih (by omega) (s2 i1 42 50 (i1 42 50 + nI e)) (fun b hb => by rw [s2_ne hb]; exact g1 b hb) (fun k h3 h4 => by rw [s2_ne2 h4]; exact g2 k h3 h4) (by rw [s2_ne2 (by decide)]; exact g3) (q + 1) (by omega)
          have e4 : ∀ e, (s2 i1 42 50 (i1 42 50 + nI e)) 42 50 = i1 42 50 + nI e := fun e => s2_self _ _ _ _
          rw [lat_y ha (by omega), show m - q - 1 = m - (q + 1) by omega, ← Nat.add_assoc, Nat.add_right_comm q _ 1]
          refine br_c (fun w => ?_) (fun w => ?_)
          · have g := go 0
            rw [e4, addA, Nat.zero_add] at g
            rw [b01_f w, Nat.add_zero]
            exact g
          · have g := go 1
            rw [e4, addA, Nat.add_comm 1] at g
            rw [b01_t (Classical.byContradiction w)]
            exact g
  refine s_1615 d X i j _ _ _ _ _ ?_
  have := key t (Nat.le_refl _) i (fun _ _ => rfl) (fun _ _ _ => rfl) rfl 0 (Nat.zero_le _)
  rw [Nat.sub_zero, Nat.zero_add] at this
  exact this
