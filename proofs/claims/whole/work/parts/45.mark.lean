/-! ===== mark ===== -/
set_option maxRecDepth 100000 in
theorem s_259 (d : Nat) (X : XS) (i : Nat → Nat → Int32) (j : Nat → Nat → Int64) (a0 : Nat) (h0 : GO X a0) (a1 : Int32) (K : Int32 → AM → Prop) (h : WP d 259 (2, [(0, .ref a0), (1, .int a1), (2, .int (nI 0))], [], (mm X i j)) (qI K)) : WI d 259 [.ref a0, .int a1] (mm X i j) K := te_259 d a0 a1 (mm X i j) (qI K) h
set_option maxRecDepth 100000 in
theorem s_259_2 (d : Nat) (X : XS) (i : Nat → Nat → Int32) (j : Nat → Nat → Int64) (v0 : Nat) (h0 : GO X v0) (v1 : Int32) (v2 : Int32) (Q : Option (Option Value) → AM → Prop) (h : (((i v0 5) ≤ v2 → (((i v0 5) < (nI 8) → (vp_in (i v0 5) 8) ∧ Q (some (some (.int (nI 1)))) (mm X (s2 (s2 i (xr X v0 4) ((i v0 5).toNatClampNeg) v1) v0 5 (((s2 i (xr X v0 4) ((i v0 5).toNatClampNeg) v1) v0 5) + (nI 1))) j)) ∧ (¬ ((i v0 5) < (nI 8)) → Q (some (some (.int (nI 0)))) (mm X i j)))) ∧ (¬ ((i v0 5) ≤ v2) → (vp_in v2 8) ∧ ((¬ ((i (xr X v0 4) ((v2).toNatClampNeg)) = v1) → WP d 259 (2, [(0, .ref v0), (1, .int v1), (2, .int (v2 + (nI 1)))], [], (mm X i j)) Q) ∧ ((i (xr X v0 4) ((v2).toNatClampNeg)) = v1 → Q (some (some (.int (nI 0)))) (mm X i j)))))) : WP d 259 (2, [(0, .ref v0), (1, .int v1), (2, .int v2)], [], mm X i j) Q := tc_259_2 d v0 v1 v2 (mm X i j) Q ⟨h0.1, ⟨fun e1 => ⟨h0.1, ⟨fun e2 => ⟨h0.1, ⟨h0.1, ⟨⟨h0.2.1.1, (vin_of h0.2.1.2 ((h.1 (e1)).1 (e2)).1)⟩, ⟨h0.1, ⟨h0.1, ⟨k1_01, ((h.1 (e1)).1 (e2)).2⟩⟩⟩⟩⟩⟩, fun e2 => ⟨k0_01, ((h.1 (e1)).2 (e2))⟩⟩⟩, fun e1 => ⟨h0.1, ⟨⟨h0.2.1.1, (vin_of h0.2.1.2 (h.2 (e1)).1)⟩, ⟨fun e3 => ((h.2 (e1)).2.1 (e3)), fun e3 => ⟨k0_01, ((h.2 (e1)).2.2 ((Classical.byContradiction e3)))⟩⟩⟩⟩⟩⟩
theorem c_259 (d : Nat) (X : XS) (i : Nat → Nat → Int32) (j : Nat → Nat → Int64) (g : Nat) (hg : GO X g) (n4 : xr X g 4 ≠ g) {mc : Nat} (hm : mc ≤ 8) (e : i g 5 = nI mc) (v : Int32) :
    ((∃ q, q < mc ∧ i (xr X g 4) q = v) ∨ mc = 8 → EvI d 259 [.ref g, .int v] (mm X i j) (bi False) (mm X i j)) ∧
    (¬ (∃ q, q < mc ∧ i (xr X g 4) q = v) ∧ mc < 8 → EvI d 259 [.ref g, .int v] (mm X i j) (bi True) (mm X (s2 (s2 i (xr X g 4) mc v) g 5 (nI (mc + 1))) j)) := by
  constructor
  · intro hc
    refine s_259 d X i j g hg v _ ?_
    refine lup mc (fun t (_ : Unit) => ∀ q, q < t → ¬ i (xr X g 4) q = v) (fun t _ => (2, [(0, .ref g), (1, .int v), (2, .int (nI t))], [], mm X i j)) ?_ ?_ 0 () (Nat.zero_le _) (fun q h => absurd h (by omega))
    · intro _ hJ
      refine s_259_2 d X i j g hg _ _ _ (br_t (by rw [e]; exact Int32.le_refl _) ?_)
      have h8 : mc = 8 := by
        rcases hc with ⟨q, hq, eq⟩ | h
        · exact absurd eq (hJ q hq)
        · exact h
      exact br_f (by rw [e, h8]; exact nI_nlt (Nat.le_refl _) (by decide)) (qI_of ⟨e_f id, rfl⟩)
    · intro t _ ht hJ go
      refine s_259_2 d X i j g hg _ _ _ (br_f (by rw [e]; exact nI_ge ht (by omega)) ⟨vp_in_nI (by omega) (by decide), ?_⟩)
      rw [tc_nI (by omega), nI_add]
      refine bq_c (fun z => go () fun q hq => ?_) (fun z => qI_of ⟨e_f id, rfl⟩)
      by_cases h : q = t
      · subst h; exact z
      · exact hJ q (by omega)
  · rintro ⟨hc, h8⟩
    refine s_259 d X i j g hg v _ ?_
    refine lup mc (fun t (_ : Unit) => True) (fun t _ => (2, [(0, .ref g), (1, .int v), (2, .int (nI t))], [], mm X i j)) ?_ ?_ 0 () (Nat.zero_le _) trivial
    · intro _ _
      refine s_259_2 d X i j g hg _ _ _ (br_t (by rw [e]; exact Int32.le_refl _) ?_)
      rw [s2_ne n4.symm, e, tc_nI (by omega), nI_add]
      exact br_t (nI_lt h8 (by decide)) ⟨vp_in_nI h8 (by decide), qI_of ⟨e_t trivial, rfl⟩⟩
    · intro t _ ht _ go
      refine s_259_2 d X i j g hg _ _ _ (br_f (by rw [e]; exact nI_ge ht (by omega)) ⟨vp_in_nI (by omega) (by decide), ?_⟩)
      rw [tc_nI (by omega), nI_add]
      exact bq_c (fun z => go () trivial) (fun z => absurd ⟨t, ht, z⟩ hc)
set_option maxRecDepth 100000 in
theorem s_1560 (d : Nat) (X : XS) (i : Nat → Nat → Int32) (j : Nat → Nat → Int64) (a1 : Int32) (a2 : Int32) (K : Int32 → AM → Prop) (h : ((¬ ((nI 0) ≤ a1 ∧ a1 ≤ ((i 42 7) - (nI 1))) → K (kI (-1)) (mm X (s2 i 42 36 (nI 0)) j)) ∧ ((nI 0) ≤ a1 ∧ a1 ≤ ((i 42 7) - (nI 1)) → ((¬ ((kI (-999)) ≤ a2 ∧ a2 ≤ (nI 999)) → K (kI (-1)) (mm X (s2 i 42 36 (nI 0)) j)) ∧ ((kI (-999)) ≤ a2 ∧ a2 ≤ (nI 999) → (vp_in a1 4) ∧ ((¬ ((i 53 ((a1).toNatClampNeg)) = (nI 8)) → WP (d + 2) 1560 (41, [(0, .ref 42), (1, .int a1), (2, .int a2), (3, .int (nI 0))], [], (mm X (s2 i 42 36 (nI 0)) j)) (qI K)) ∧ ((i 53 ((a1).toNatClampNeg)) = (nI 8) → K (kI (-1)) (mm X (s2 i 42 36 (nI 0)) j)))))))) : WI (d + 2) 1560 [.ref 42, .int a1, .int a2] (mm X i j) K := te_1560 (d + 1) 42 a1 a2 (mm X i j) (qI K) ⟨rfl, ⟨rfl, (te_1545 d 42 a1 (mm X (s2 i 42 36 (nI 0)) j) _ ⟨rfl, (p_1538 d X (s2 i 42 36 (nI 0)) j a1 (nI 0) ((i 42 7) - (nI 1)) _ ⟨(bi_01 _), ⟨_, rfl, ⟨fun e1 => ⟨_, rfl, (h.1 ((bi_z e1)))⟩, fun e1 => (p_1538 (d + 1) X (s2 i 42 36 (nI 0)) j a2 (kI (-999)) (nI 999) _ ⟨fun e2 => ⟨_, rfl, ((h.2 ((bi_n e1))).1 ((bi_z e2)))⟩, fun e2 => ⟨rfl, ⟨⟨rfl, ((h.2 ((bi_n e1))).2 ((bi_n e2))).1⟩, ⟨fun e3 => (((h.2 ((bi_n e1))).2 ((bi_n e2))).2.1 (e3)), fun e3 => ⟨_, rfl, (((h.2 ((bi_n e1))).2 ((bi_n e2))).2.2 ((Classical.byContradiction e3)))⟩⟩⟩⟩⟩)⟩⟩⟩)⟩)⟩⟩
set_option maxRecDepth 100000 in
theorem s_1560_41 (d : Nat) (X : XS) (i : Nat → Nat → Int32) (j : Nat → Nat → Int64) (v1 : Int32) (v2 : Int32) (v3 : Int32) (Q : Option (Option Value) → AM → Prop) (h : (vp_in v1 4) ∧ (((i 53 ((v1).toNatClampNeg)) ≤ v3 → (vp_in (((nI 8) * v1) + (i 53 ((v1).toNatClampNeg))) 32) ∧ Q (some (some (.int ((s2 (s2 i 52 ((((nI 8) * v1) + (i 53 ((v1).toNatClampNeg))).toNatClampNeg) v2) 53 ((v1).toNatClampNeg) ((i 53 ((v1).toNatClampNeg)) + (nI 1))) 53 ((v1).toNatClampNeg))))) (mm X (s2 (s2 i 52 ((((nI 8) * v1) + (i 53 ((v1).toNatClampNeg))).toNatClampNeg) v2) 53 ((v1).toNatClampNeg) ((i 53 ((v1).toNatClampNeg)) + (nI 1))) j)) ∧ (¬ ((i 53 ((v1).toNatClampNeg)) ≤ v3) → (vp_in (((nI 8) * v1) + v3) 32) ∧ ((¬ ((i 52 ((((nI 8) * v1) + v3).toNatClampNeg)) = v2) → WP (d + 2) 1560 (41, [(0, .ref 42), (1, .int v1), (2, .int v2), (3, .int (v3 + (nI 1)))], [], (mm X i j)) Q) ∧ ((i 52 ((((nI 8) * v1) + v3).toNatClampNeg)) = v2 → Q (some (some (.int (kI (-1))))) (mm X i j)))))) : WP (d + 2) 1560 (41, [(0, .ref 42), (1, .int v1), (2, .int v2), (3, .int v3)], [], mm X i j) Q := tc_1560_41 (d + 1) 42 v1 v2 v3 (mm X i j) Q ⟨rfl, ⟨⟨rfl, h.1⟩, ⟨fun e4 => ⟨rfl, ⟨rfl, ⟨⟨rfl, h.1⟩, ⟨⟨rfl, (h.2.1 (e4)).1⟩, ⟨rfl, ⟨⟨rfl, h.1⟩, ⟨⟨rfl, h.1⟩, ⟨rfl, ⟨⟨rfl, h.1⟩, (h.2.1 (e4)).2⟩⟩⟩⟩⟩⟩⟩⟩⟩, fun e4 => ⟨rfl, ⟨⟨rfl, (h.2.2 (e4)).1⟩, ⟨fun e5 => ((h.2.2 (e4)).2.1 (e5)), fun e5 => ((h.2.2 (e4)).2.2 ((Classical.byContradiction e5)))⟩⟩⟩⟩⟩⟩
theorem c_1560 (d : Nat) (X : XS) (i : Nat → Nat → Int32) (j : Nat → Nat → Int64) {g mc : Nat} (hg : g < 4) (hng : i 42 7 = nI 4 ∨ nI 0 ≤ nI g ∧ nI g ≤ i 42 7 - nI 1) (hr : nI 0 ≤ nI g ∧ nI g ≤ i 42 7 - nI 1) (hm : mc ≤ 8) (e : i 53 g = nI mc) (v : Int32) (hv : kI (-999) ≤ v ∧ v ≤ nI 999) :
    ((∃ q, q < mc ∧ i 52 (8 * g + q) = v) ∨ mc = 8 → EvI (d + 2) 1560 [.ref 42, .int (nI g), .int v] (mm X i j) (kI (-1)) (mm X (s2 i 42 36 (nI 0)) j)) ∧
    (¬ (∃ q, q < mc ∧ i 52 (8 * g + q) = v) ∧ mc < 8 → EvI (d + 2) 1560 [.ref 42, .int (nI g), .int v] (mm X i j) (nI (mc + 1)) (mm X (s2 (s2 (s2 i 42 36 (nI 0)) 52 (8 * g + mc) v) 53 g (nI (mc + 1))) j)) := by
  have e' : (s2 i 42 36 (nI 0)) 53 g = nI mc := by rw [s2_ne (show 53 ≠ 42 by decide)]; exact e
  have e52 : (s2 i 42 36 (nI 0)) 52 = i 52 := s2_ne (by decide)
  constructor
  · intro hc
    refine s_1560 d X i j _ _ _ (bq_f hr (bq_f hv ⟨vp_in_nI hg (by decide), ?_⟩))
    rw [tc_nI (by omega), e]
    refine bq_c (fun z8 => ?_) (fun _ => ⟨rfl, rfl⟩)
    have hlt : ∃ q, q < mc ∧ i 52 (8 * g + q) = v := by
      rcases hc with h | h
      · exact h
      · exact absurd (by rw [h]) z8
    refine lup mc (fun t (_ : Unit) => ∀ q, q < t → ¬ i 52 (8 * g + q) = v) (fun t _ => (41, [(0, .ref 42), (1, .int (nI g)), (2, .int v), (3, .int (nI t))], [], mm X (s2 i 42 36 (nI 0)) j)) ?_ ?_ 0 () (Nat.zero_le _) (fun q h => absurd h (by omega))
    · intro _ hJ
      obtain ⟨q, hq, eq⟩ := hlt
      exact absurd eq (hJ q hq)
    · intro t _ ht hJ go
      refine s_1560_41 d X _ j _ _ _ _ ⟨vp_in_nI hg (by decide), ?_⟩
      rw [tc_nI (by omega), e']
      refine br_f (nI_ge ht (by omega)) ?_
      rw [pk_mul, nI_add (8 * g) t, tc_nI (by omega), e52, nI_add]
      refine ⟨vp_in_nI (by omega) (by decide), bq_c (fun z => go () fun q hq => ?_) (fun z => qI_of ⟨rfl, rfl⟩)⟩
      by_cases h : q = t
      · subst h; exact z
      · exact hJ q (by omega)
  · rintro ⟨hc, h8⟩
    refine s_1560 d X i j _ _ _ (bq_f hr (bq_f hv ⟨vp_in_nI hg (by decide), ?_⟩))
    rw [tc_nI (by omega), e]
    refine bq_t (nnI (by omega) (by omega) (by decide)) ?_
    refine lup mc (fun t (_ : Unit) => True) (fun t _ => (41, [(0, .ref 42), (1, .int (nI g)), (2, .int v), (3, .int (nI t))], [], mm X (s2 i 42 36 (nI 0)) j)) ?_ ?_ 0 () (Nat.zero_le _) trivial
    · intro _ _
      refine s_1560_41 d X _ j _ _ _ _ ⟨vp_in_nI hg (by decide), ?_⟩
      rw [tc_nI (by omega), e', pk_mul, nI_add (8 * g) mc, tc_nI (by omega), nI_add, s2_self]
      exact br_t (Int32.le_refl _) ⟨vp_in_nI (by omega) (by decide), qI_of ⟨rfl, rfl⟩⟩
    · intro t _ ht _ go
      refine s_1560_41 d X _ j _ _ _ _ ⟨vp_in_nI hg (by decide), ?_⟩
      rw [tc_nI (by omega), e']
      refine br_f (nI_ge ht (by omega)) ?_
      rw [pk_mul, nI_add (8 * g) t, tc_nI (by omega), e52, nI_add]
      exact ⟨vp_in_nI (by omega) (by decide), bq_c (fun z => go () trivial) (fun z => absurd ⟨t, ht, z⟩ hc)⟩
set_option maxRecDepth 100000 in
theorem s_1418 (d : Nat) (X : XS) (i : Nat → Nat → Int32) (j : Nat → Nat → Int64) (a1 : Int32) (a2 : Int32) (K : Int32 → AM → Prop) (h : (GLs X i) ∧ ((¬ ((nI 0) ≤ a1 ∧ a1 ≤ ((i 2 4) - (nI 1)))) → K (kI (-1)) (mm X i j)) ∧ (((nI 0) ≤ a1 ∧ a1 ≤ ((i 2 4) - (nI 1))) → (GO X (xr X 17 (a1.toNatClampNeg))) → (((kI (-999)) ≤ a2 ∧ a2 ≤ (nI 999) → (∃ (P10 : Prop), ∃ (i8 : Nat → Nat → Int32), ∃ (j9 : Nat → Nat → Int64), EvI (d + 1) 259 [.ref (xr X 17 (a1.toNatClampNeg)), .int a2] (mm X i j) (bi P10) (mm X i8 j9) ∧ ((¬ (P10) → K (kI (-1)) (mm X i8 j9)) ∧ (P10 → K (i8 (xr X 17 (a1.toNatClampNeg)) 5) (mm X i8 j9))))) ∧ (¬ ((kI (-999)) ≤ a2 ∧ a2 ≤ (nI 999)) → K (kI (-1)) (mm X i j))))) : WI (d + 2) 1418 [.ref 2, .int a1, .int a2] (mm X i j) K := te_1418 (d + 1) 2 a1 a2 (mm X i j) (qI K) ⟨rfl, (p_1467 d X i j a1 _ ⟨h.1, (fun h2 => ⟨fun _ => ⟨_, rfl, (h.2.1 h2)⟩, fun e3 => absurd rfl e3⟩), (fun h4 h5 => ⟨fun e6 => absurd e6 (nz_k (h5.1)), fun _ => (p_1462 (d + 1) X i j a2 (kI (-999)) (nI 999) _ ⟨fun e7 => ⟨h5.1, (Exists.elim ((h.2.2 h4 h5).1 ((bi_n e7))) fun P10 h12 => Exists.elim h12 fun i8 h13 => Exists.elim h13 fun j9 h14 => EvI.use h14.1 ⟨fun e11 => ⟨_, rfl, (h14.2.1 ((bi_z e11)))⟩, fun e11 => ⟨h5.1, (te_258 (d + 1) (xr X 17 (a1.toNatClampNeg)) (mm X i8 j9) _ ⟨h5.1, ⟨_, rfl, ⟨_, rfl, (h14.2.2 ((bi_n e11)))⟩⟩⟩)⟩⟩)⟩, fun e7 => ⟨_, rfl, ((h.2.2 h4 h5).2 ((bi_nn e7)))⟩⟩)⟩)⟩)⟩
theorem k_9 (d : Nat) {X : XS} {i : Nat → Nat → Int32} {j : Nat → Nat → Int64} (h : Rel X i j) (a1 a2 : Int32) {Kf : AM → Prop} (hK : Nx X Kf) : WI (d + 300) 1418 [.ref 2, .int a1, .int a2] (mm X i j) (fun x1 M1 => WI (d + 300) 1560 [.ref 42, .int a1, .int a2] M1 (fun x2 M2 => x1 = x2 ∧ Kf M2)) := by
  have ht := hK.th h
  obtain ⟨hx, ⟨⟨n, h0⟩, h1, ⟨ng, h2, no, h4⟩, ⟨tn, h3⟩, ⟨np, h5⟩, h6, ns, h7⟩, h8, hz⟩ := h
  have e1 := h2.2.1
  have e2 := h2.2.2.1
  have hng := h2.1
  refine s_1418 _ X i j a1 a2 _ ⟨h2.gl, ?_, ?_⟩
  · rw [e1]
    intro z
    exact s_1560 _ X i j _ _ _ (bq_t (by rw [e2]; exact z) ⟨rfl, ht⟩)
  · rw [e1]
    intro z hP
    refine ⟨fun hv => ?_, fun hv => s_1560 _ X i j _ _ _ (bq_f (by rw [e2]; exact z) (bq_t hv ⟨rfl, ht⟩))⟩
    have z2 : nI 0 ≤ a1 ∧ a1 ≤ i 42 7 - nI 1 := by rw [e2]; exact z
    obtain ⟨p, hp, rfl⟩ := idx_of (by omega) z
    have hpp := h2.2.2.2 p hp
    have tG := hpp.2.1.2.1
    have tM := hpp.2.1.2.2.1
    rw [tc_nI (by omega)] at hP ⊢
    obtain ⟨m1, m2, m3, m4⟩ := h2.mc hp
    have nMG : xr X (xr X 17 p) 4 ≠ xr X 17 p := fun e => by rw [e, tG] at tM; omega
    have hA := c_259 (d + 299) X i j (xr X 17 p) hP nMG m1 m2 a2
    have hB := c_1560 (d + 298) X i j (by omega) (Or.inr z2) z2 m1 m3 a2 hv
    have hcs : (∃ q, q < mcN i p ∧ i (xr X (xr X 17 p) 4) q = a2) ↔ (∃ q, q < mcN i p ∧ i 52 (8 * p + q) = a2) := ⟨fun ⟨q, hq, e⟩ => ⟨q, hq, by rw [← m4 q hq]; exact e⟩, fun ⟨q, hq, e⟩ => ⟨q, hq, by rw [m4 q hq]; exact e⟩⟩
    rw [hcs] at hA
    by_cases hc : (∃ q, q < mcN i p ∧ i 52 (8 * p + q) = a2) ∨ mcN i p = 8
    · exact ⟨False, i, j, hA.1 hc, fun _ => (hB.1 hc).use ⟨rfl, ht⟩, fun q => absurd q id⟩
    · have hc' : ¬ (∃ q, q < mcN i p ∧ i 52 (8 * p + q) = a2) ∧ mcN i p < 8 := ⟨fun q => hc (Or.inl q), by have := fun q => hc (Or.inr q); omega⟩
      have n42 : 42 ≠ xr X 17 p := (ne42 (X := X) (by omega)).symm
      refine ⟨True, _, j, hA.2 hc', fun q => absurd trivial q, fun _ => ?_⟩
      rw [s2_self]
      have big : ∀ b, 50 ≤ xt X b → ∀ c, c ≤ 77 → c ≠ b := fun b hb c hc e => by have := xt_big hb; omega
      have bG := big (xr X 17 p) (by omega)
      have bM := big (xr X (xr X 17 p) 4) (by omega)
      have cG : ∀ c, c ≤ 77 → (s2 (s2 i (xr X (xr X 17 p) 4) (mcN i p) a2) (xr X 17 p) 5 (nI (mcN i p + 1))) c = i c := fun c hc => by rw [s2_ne (bG c hc), s2_ne (bM c hc)]
      have hB2 := (c_1560 (d + 298) X (s2 (s2 i (xr X (xr X 17 p) 4) (mcN i p) a2) (xr X 17 p) 5 (nI (mcN i p + 1))) j (g := p) (mc := mcN i p) (by omega) (Or.inr (by rw [cG 42 (by decide)]; exact z2)) (by rw [cG 42 (by decide)]; exact z2) m1 (by rw [cG 53 (by decide)]; exact m3) a2 hv).2 (by rw [cG 52 (by decide)]; exact hc')
      refine hB2.use ⟨rfl, hK.k ?_⟩
      have g := Ag.tr (Ag.tr (Ag.dy (X := X) (i := i) tM (by omega) (mcN i p) a2) (Ag.dy (X := X) tG (by omega) 5 (nI (mcN i p + 1)))) (Ag.wr (X := X) [(42, 36, nI 0), (52, 8 * p + mcN i p, a2), (53, p, nI (mcN i p + 1))] rfl)
      refine ⟨hx, ⟨⟨n, h0.ag g rfl⟩, h1.ag g rfl, ⟨ng, ?_, no, h4.ag g rfl (fun t _ q => by rcases q with (q | q) | q <;> omega)⟩, ⟨tn, h3.ag g rfl⟩, ⟨np, h5.ag g rfl (fun t _ q => by rcases q with (q | q) | q <;> omega)⟩, h6.ag g rfl, ns, h7.ag g rfl⟩, h8.ag g rfl, hz.ag g rfl⟩
      clear g hB2
      obtain ⟨i', hi'⟩ : ∃ i', i' = s2 (s2 (s2 (s2 (s2 i (xr X (xr X 17 p) 4) (mcN i p) a2) (xr X 17 p) 5 (nI (mcN i p + 1))) 42 36 (nI 0)) 52 (8 * p + mcN i p) a2) 53 p (nI (mcN i p + 1)) := ⟨_, rfl⟩
      rw [← hi']
      have f : ∀ b, b ≠ 42 → b ≠ 52 → b ≠ 53 → b ≠ xr X 17 p → b ≠ xr X (xr X 17 p) 4 → i' b = i b := fun b h42 h52 h53 hb hb2 => by rw [hi', s2_ne h53, s2_ne h52, s2_ne h42, s2_ne hb, s2_ne hb2]
      have fx : ∀ b, b ≤ 77 → b ≠ 42 → b ≠ 52 → b ≠ 53 → i' b = i b := fun b hb h42 h52 h53 => f b h42 h52 h53 (bG b hb) (bM b hb)
      have f42 : i' 42 7 = i 42 7 := by rw [hi', s2_ne (show 42 ≠ 53 by decide), s2_ne (show 42 ≠ 52 by decide), s2_ne2 (show 7 ≠ 36 by decide), cG 42 (by decide)]
      have f52 : ∀ q, i' 52 q = if q = 8 * p + mcN i p then a2 else i 52 q := fun q => by rw [hi', s2_ne (show 52 ≠ 53 by decide), s2_same, s2_ne (show 52 ≠ 42 by decide), cG 52 (by decide)]
      have f53 : ∀ q, i' 53 q = if q = p then nI (mcN i p + 1) else i 53 q := fun q => by rw [hi', s2_same, s2_ne (show 53 ≠ 52 by decide), s2_ne (show 53 ≠ 42 by decide), cG 53 (by decide)]
      have fP : ∀ q, i' (xr X 17 p) q = if q = 5 then nI (mcN i p + 1) else i (xr X 17 p) q := fun q => by rw [hi', s2_ne (bG 53 (by decide)).symm, s2_ne (bG 52 (by decide)).symm, s2_ne (bG 42 (by decide)).symm, s2_same, s2_ne nMG.symm]
      have fM : ∀ q, i' (xr X (xr X 17 p) 4) q = if q = mcN i p then a2 else i (xr X (xr X 17 p) 4) q := fun q => by rw [hi', s2_ne (bM 53 (by decide)).symm, s2_ne (bM 52 (by decide)).symm, s2_ne (bM 42 (by decide)).symm, s2_ne nMG, s2_same]
      refine ⟨hng, by rw [fx 2 (by decide) (by decide) (by decide) (by decide)]; exact e1, by rw [f42]; exact e2, fun p' hp' => ?_⟩
      have hh := h2.2.2.2 p' hp'
      rw [fx 48 (by decide) (by decide) (by decide) (by decide), fx 49 (by decide) (by decide) (by decide) (by decide), fx 50 (by decide) (by decide) (by decide) (by decide), fx 51 (by decide) (by decide) (by decide) (by decide), f53]
      by_cases e : p' = p
      · subst e
        rw [fP, fP, fP, fP, fP]
        refine ⟨hh.1, hh.2.1, by simpa using hh.2.2.1, hh.2.2.2.1, mcN i p' + 1, by omega, by simp, by simp, fun q hq => ?_⟩
        rw [fM, f52]
        by_cases eq : q = mcN i p'
        · subst eq; simp
        · rw [if_neg eq, if_neg (by omega)]; exact m4 q (by omega)
      · have t1 := hh.2.1.2.1
        have t2 := hh.2.1.2.2.1
        have hp4 := hh.2.1.1
        rw [f (xr X 17 p') (ne42 (X := X) (by omega)) (big _ (by omega) 52 (by decide)).symm (big _ (by omega) 53 (by decide)).symm (fun e' => by rw [e', tG] at t1; omega) (fun e' => by rw [e', tM] at t1; omega), if_neg e]
        rw [f (xr X (xr X 17 p') 4) (ne42 (X := X) (by omega)) (big _ (by omega) 52 (by decide)).symm (big _ (by omega) 53 (by decide)).symm (fun e' => by rw [e', tG] at t2; omega) (fun e' => by rw [e', tM] at t2; omega)]
        refine ⟨hh.1, hh.2.1, hh.2.2.1, hh.2.2.2.1, ?_⟩
        obtain ⟨mc, q1, q2, q3, q4⟩ := hh.2.2.2.2
        refine ⟨mc, q1, q2, q3, fun q hq => ?_⟩
        rw [f52, if_neg (by omega)]; exact q4 q hq
