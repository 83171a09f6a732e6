/-! ===== persons, coins ===== -/
def rcI (a e c l s : Int32) : Int32 := if a = 0 then (if e = 0 then nI 0 else l) else c + (if e = 0 then nI 0 else s)
noncomputable def dcI (P E : Prop) (c l s : Int32) : Int32 := rcI (bi P) (bi E) c l s
set_option maxRecDepth 100000 in
theorem s_1602 (d : Nat) (X : XS) (i : Nat → Nat → Int32) (j : Nat → Nat → Int64) (a1 : Int32) (a2 : Int32) (a3 : Int32) (K : Int32 → AM → Prop) (h : ((a2 = 0 → ((a3 = 0 → K (nI 0) (mm X i j)) ∧ (¬ (a3 = 0) → (vp_in a1 6) ∧ K (i 58 ((a1).toNatClampNeg)) (mm X i j)))) ∧ (¬ (a2 = 0) → (vp_in a1 6) ∧ ((a3 = 0 → K ((i 57 ((a1).toNatClampNeg)) + (nI 0)) (mm X i j)) ∧ (¬ (a3 = 0) → K ((i 57 ((a1).toNatClampNeg)) + (i 59 ((a1).toNatClampNeg))) (mm X i j)))))) : WI d 1602 [.ref 42, .int a1, .int a2, .int a3] (mm X i j) K := te_1602 d 42 a1 a2 a3 (mm X i j) (qI K) ⟨fun e1 => ⟨fun e2 => ⟨_, rfl, ((h.1 (e1)).1 (e2))⟩, fun e2 => ⟨rfl, ⟨⟨rfl, ((h.1 (e1)).2 (e2)).1⟩, ⟨_, rfl, ((h.1 (e1)).2 (e2)).2⟩⟩⟩⟩, fun e1 => ⟨rfl, ⟨⟨rfl, (h.2 (e1)).1⟩, ⟨fun e3 => ⟨_, rfl, ((h.2 (e1)).2.1 (e3))⟩, fun e3 => ⟨rfl, ⟨⟨rfl, (h.2 (e1)).1⟩, ⟨_, rfl, ((h.2 (e1)).2.2 (e3))⟩⟩⟩⟩⟩⟩⟩
theorem p_1602 (d : Nat) (X : XS) (i : Nat → Nat → Int32) (j : Nat → Nat → Int64) (a1 a2 a3 : Int32) (K : Int32 → AM → Prop) (h : vp_in a1 6 ∧ K (rcI a2 a3 (i 57 a1.toNatClampNeg) (i 58 a1.toNatClampNeg) (i 59 a1.toNatClampNeg)) (mm X i j)) : WI d 1602 [.ref 42, .int a1, .int a2, .int a3] (mm X i j) K := by
  obtain ⟨h1, h2⟩ := h
  unfold rcI at h2
  refine s_1602 d X i j a1 a2 a3 K (br_c (fun z => br_c (fun y => ?_) (fun y => ⟨h1, ?_⟩)) (fun z => ⟨h1, br_c (fun y => ?_) (fun y => ?_)⟩))
  · rw [if_pos z, if_pos y] at h2; exact h2
  · rw [if_pos z, if_neg y] at h2; exact h2
  · rw [if_neg z, if_pos y] at h2; exact h2
  · rw [if_neg z, if_neg y] at h2; exact h2
theorem nI0 : nI 0 = 0 := rfl
theorem nI1 : nI 1 = 1 := rfl
theorem coI_s (P E : Prop) (c l s m e : Int32) : coI P c l s m e + dcI P E c l s = coI P c l s (m + 1) (e + bi E) := by
  unfold coI dcI rcI
  by_cases hP : P <;> by_cases hE : E
  · rw [if_pos hP, if_pos hP, bi_t hP, bi_t hE, if_neg (by decide), if_neg (by decide)]; grind
  · rw [if_pos hP, if_pos hP, bi_t hP, bi_f hE, if_neg (by decide), if_pos rfl, nI0]; grind
  · rw [if_neg hP, if_neg hP, bi_f hP, bi_t hE, if_pos rfl, if_neg (by decide)]; grind
  · rw [if_neg hP, if_neg hP, bi_f hP, bi_f hE, if_pos rfl, if_pos rfl, nI0]; grind
theorem coI_0 (P : Prop) (c l s : Int32) : coI P c l s (nI 0) (nI 0) = 0 := by
  unfold coI
  split <;> (rw [nI0]; grind)
/-- np persons, the class's as the reference's -/
def R5 (X : XS) (i : Nat → Nat → Int32) (np : Nat) : Prop := np ≤ 6 ∧ i 2 9 = nI np ∧ i 42 18 = nI np ∧ ∀ p, p < np → PO X (xr X 24 p) ∧ xt X (xr X 24 p) = 90 + p ∧
  (i (xr X 24 p) 0 = i 57 p ∧ i (xr X 24 p) 1 = i 58 p ∧ i (xr X 24 p) 2 = i 59 p ∧ i (xr X 24 p) 3 = i 60 p ∧ i (xr X 24 p) 4 = i 61 p) ∧
  (∃ c l s st : Nat, c < 100 ∧ l < 1000 ∧ s < 1000 ∧ st < 240 ∧ i 57 p = nI c ∧ i 58 p = nI l ∧ i 59 p = nI s ∧ i 60 p = nI st) ∧ shrI (i 61 p) (nI p) &&& nI 1 = 0
theorem R5.ps {X : XS} {i : Nat → Nat → Int32} {np : Nat} (h : R5 X i np) : PSs X i := ⟨np, h.1, h.2.1, fun p hp => (h.2.2.2 p hp).1⟩
theorem R5.kp {X : XS} {i i' : Nat → Nat → Int32} {np : Nat} (h : R5 X i np) (k : Kp X i i') : R5 X i' np := by
  refine ⟨h.1, by rw [xt_c k 2 0 rfl rfl (by decide)]; exact h.2.1, by rw [k.2 18 (by decide)]; exact h.2.2.1, fun p hp => ?_⟩
  have hh := h.2.2.2 p hp
  have e1 : i' (xr X 24 p) = i (xr X 24 p) := k.1 _ (by have := hh.2.1; omega) (ne42 (X := X) (by have := hh.2.1; omega))
  rw [e1, xt_c k 57 0 rfl rfl (by decide), xt_c k 58 0 rfl rfl (by decide), xt_c k 59 0 rfl rfl (by decide), xt_c k 60 0 rfl rfl (by decide), xt_c k 61 0 rfl rfl (by decide)]
  exact hh
/-! the reference's sums -/
set_option maxRecDepth 100000 in
theorem s_1603 (d : Nat) (X : XS) (i : Nat → Nat → Int32) (j : Nat → Nat → Int64) (a1 : Int32) (a2 : Int32) (a3 : Int32) (a4 : Int32) (K : Int32 → AM → Prop) (h : WP (d + 1) 1603 (6, [(0, .ref 42), (1, .int a1), (2, .int a2), (4, .int a4), (5, .int (nI 0)), (6, .int a3)], [], (mm X i j)) (qI K)) : WI (d + 1) 1603 [.ref 42, .int a1, .int a2, .int a3, .int a4] (mm X i j) K := te_1603 d 42 a1 a2 a3 a4 (mm X i j) (qI K) h
set_option maxRecDepth 100000 in
theorem s_1603_6 (d : Nat) (X : XS) (i : Nat → Nat → Int32) (j : Nat → Nat → Int64) (v1 : Int32) (v2 : Int32) (v4 : Int32) (v5 : Int32) (v6 : Int32) (Q : Option (Option Value) → AM → Prop) (h : ((v4 ≤ v6 → Q (some (some (.int v5))) (mm X i j)) ∧ (¬ (v4 ≤ v6) → (vp_in v6 240) ∧ (vp_in v1 6) ∧ WP (d + 1) 1603 (6, [(0, .ref 42), (1, .int v1), (2, .int v2), (4, .int v4), (5, .int (v5 + (rcI v2 (i 73 ((v6).toNatClampNeg)) (i 57 (v1.toNatClampNeg)) (i 58 (v1.toNatClampNeg)) (i 59 (v1.toNatClampNeg))))), (6, .int (v6 + (nI 1)))], [], (mm X i j)) Q))) : WP (d + 1) 1603 (6, [(0, .ref 42), (1, .int v1), (2, .int v2), (4, .int v4), (5, .int v5), (6, .int v6)], [], mm X i j) Q := tc_1603_6 d 42 v1 v2 v4 v5 v6 (mm X i j) Q ⟨fun e1 => (h.1 (e1)), fun e1 => ⟨rfl, ⟨⟨(Or.inl rfl), (h.2 (e1)).1⟩, ⟨rfl, (p_1602 d X i j v1 v2 (i 73 ((v6).toNatClampNeg)) _ ⟨(h.2 (e1)).2.1, (h.2 (e1)).2.2⟩)⟩⟩⟩⟩
theorem c_1603 (d : Nat) (X : XS) (i : Nat → Nat → Int32) (j : Nat → Nat → Int64) {p u v : Nat} {P : Prop} {A : Int32} (hp : p < 6) (hA : A = bi P) (huv : u ≤ v) (hv : v ≤ 240) {ca : Nat → Prop} (hc : ∀ t, t < v → i 73 t = bi (ca t)) :
    EvI (d + 1) 1603 [.ref 42, .int (nI p), .int A, .int (nI u), .int (nI v)] (mm X i j) (coI P (i 57 p) (i 58 p) (i 59 p) (nI (v - u)) (nI (ct ca v) - nI (ct ca u))) (mm X i j) := by
  subst hA
  refine s_1603 d X i j _ _ _ _ _ ?_
  refine lup v (fun t (q : Int32) => u ≤ t ∧ q = coI P (i 57 p) (i 58 p) (i 59 p) (nI (t - u)) (nI (ct ca t) - nI (ct ca u))) (fun t q => (6, [(0, .ref 42), (1, .int (nI p)), (2, .int (bi P)), (4, .int (nI v)), (5, .int q), (6, .int (nI t))], [], mm X i j)) ?_ ?_ u _ huv ⟨Nat.le_refl _, ?_⟩
  · rintro q ⟨h1, h2⟩
    exact s_1603_6 d X i j _ _ _ _ _ _ (br_t (Int32.le_refl _) (qI_of ⟨h2, rfl⟩))
  · rintro t q ht ⟨h1, h2⟩ go
    refine s_1603_6 d X i j _ _ _ _ _ _ (br_f (nI_ge ht (by omega)) ⟨vp_in_nI (by omega) (by decide), vp_in_nI (by omega) (by decide), ?_⟩)
    rw [tc_nI (by omega), tc_nI (by omega), hc t ht, nI_add]
    refine go _ ⟨by omega, ?_⟩
    rw [h2]
    refine (coI_s P (ca t) _ _ _ _ _).trans ?_
    rw [nI_1, show t - u + 1 = t + 1 - u by omega, ← ct_bi ca t]
    congr 1
    grind
  · rw [Nat.sub_self, show nI (ct ca u) - nI (ct ca u) = nI 0 by rw [nI0]; grind, coI_0]
    rfl
set_option maxRecDepth 100000 in
theorem s_1604 (d : Nat) (X : XS) (i : Nat → Nat → Int32) (j : Nat → Nat → Int64) (a1 : Int32) (a2 : Int32) (a3 : Int32) (K : Int32 → AM → Prop) (h : (∃ (x1 : Int32), EvI (d + 1) 1603 [.ref 42, .int a1, .int (nI 1), .int a2, .int a3] (mm X i j) x1 (mm X i j) ∧ (∃ (x2 : Int32), EvI (d + 1) 1603 [.ref 42, .int a1, .int (nI 0), .int a2, .int a3] (mm X i j) x2 (mm X i j) ∧ ((x2 ≤ x1 → K (nI 0) (mm X i j)) ∧ (¬ (x2 ≤ x1) → K (nI 1) (mm X i j)))))) : WI (d + 2) 1604 [.ref 42, .int a1, .int a2, .int a3] (mm X i j) K := te_1604 (d + 1) 42 a1 a2 a3 (mm X i j) (qI K) ⟨rfl, (Exists.elim h fun x1 h6 => EvI.use h6.1 ⟨rfl, (Exists.elim h6.2 fun x2 h4 => EvI.use h4.1 ⟨fun e3 => ⟨k0_01, ⟨_, rfl, (h4.2.1 (e3))⟩⟩, fun e3 => ⟨k1_01, ⟨_, rfl, (h4.2.2 (e3))⟩⟩⟩)⟩)⟩
theorem c_1604 (d : Nat) (X : XS) (i : Nat → Nat → Int32) (j : Nat → Nat → Int64) {p u v : Nat} (hp : p < 6) (huv : u ≤ v) (hv : v ≤ 240) {ca : Nat → Prop} (hc : ∀ t, t < v → i 73 t = bi (ca t)) :
    EvI (d + 2) 1604 [.ref 42, .int (nI p), .int (nI u), .int (nI v)] (mm X i j) (bi (saP (i 57 p) (i 58 p) (i 59 p) (nI (v - u)) (nI (ct ca v) - nI (ct ca u)))) (mm X i j) := by
  refine s_1604 d X i j _ _ _ _ ⟨_, c_1603 d X i j (P := True) hp (bi_t trivial).symm huv hv hc, _, c_1603 d X i j (P := False) hp (bi_f id).symm huv hv hc, ?_⟩
  unfold coI
  rw [if_pos trivial, if_neg id]
  exact br_c (fun z => ⟨e_f (Int32.not_lt.mpr z), rfl⟩) (fun z => ⟨e_t (Int32.not_le.mp z), rfl⟩)
/-- days on which the signs of bits stood as v says; those of them on which it came -/
noncomputable def mS (so : Nat → Int32) (bits v : Int32) (n : Nat) : Nat := ct (fun t => so t &&& bits = v) n
noncomputable def eS (so : Nat → Int32) (ca : Nat → Prop) (bits v : Int32) (n : Nat) : Nat := ct (fun t => so t &&& bits = v ∧ ca t) n
/-- does it act, when the signs stand so -/
def abP (c l s : Int32) (so : Nat → Int32) (ca : Nat → Prop) (bits v : Int32) (n : Nat) : Prop := (0 < mS so bits v n ∧ saP c l s (nI (mS so bits v n)) (nI (eS so ca bits v n))) ∨ (mS so bits v n = 0 ∧ saP c l s (nI n) (nI (ct ca n)))
set_option maxRecDepth 100000 in
theorem s_1606 (d : Nat) (X : XS) (i : Nat → Nat → Int32) (j : Nat → Nat → Int64) (a1 : Int32) (a2 : Int32) (a3 : Int32) (a4 : Int32) (K : Int32 → AM → Prop) (h : WP (d + 3) 1606 (12, [(0, .ref 42), (1, .int a1), (2, .int a2), (3, .int a3), (4, .int a4), (5, .int (nI 0)), (6, .int (nI 0)), (7, .int (nI 0)), (8, .int (nI 0))], [], (mm X i j)) (qI K)) : WI (d + 3) 1606 [.ref 42, .int a1, .int a2, .int a3, .int a4] (mm X i j) K := te_1606 (d + 2) 42 a1 a2 a3 a4 (mm X i j) (qI K) h
set_option maxRecDepth 100000 in
theorem s_1606_12 (d : Nat) (X : XS) (i : Nat → Nat → Int32) (j : Nat → Nat → Int64) (v1 : Int32) (v2 : Int32) (v3 : Int32) (v4 : Int32) (v5 : Int32) (v6 : Int32) (v7 : Int32) (v8 : Int32) (Q : Option (Option Value) → AM → Prop) (h : ((v4 ≤ v8 → ((v7 = 0 → (∃ (x3 : Int32), EvI (d + 1) 1603 [.ref 42, .int v1, .int (nI 1), .int (nI 0), .int v4] (mm X i j) x3 (mm X i j) ∧ (∃ (x4 : Int32), EvI (d + 1) 1603 [.ref 42, .int v1, .int (nI 0), .int (nI 0), .int v4] (mm X i j) x4 (mm X i j) ∧ ((x4 ≤ x3 → Q (some (some (.int (nI 0)))) (mm X i j)) ∧ (¬ (x4 ≤ x3) → Q (some (some (.int (nI 1)))) (mm X i j)))))) ∧ (¬ (v7 = 0) → ((v6 ≤ v5 → Q (some (some (.int (nI 0)))) (mm X i j)) ∧ (¬ (v6 ≤ v5) → Q (some (some (.int (nI 1)))) (mm X i j)))))) ∧ (¬ (v4 ≤ v8) → (vp_in v8 240) ∧ ((((i 72 ((v8).toNatClampNeg)) &&& v2) = v3 → (vp_in v1 6) ∧ WP (d + 3) 1606 (12, [(0, .ref 42), (1, .int v1), (2, .int v2), (3, .int v3), (4, .int v4), (5, .int (v5 + (rcI (nI 1) (i 73 ((v8).toNatClampNeg)) (i 57 (v1.toNatClampNeg)) (i 58 (v1.toNatClampNeg)) (i 59 (v1.toNatClampNeg))))), (6, .int (v6 + (rcI (nI 0) (i 73 ((v8).toNatClampNeg)) (i 57 (v1.toNatClampNeg)) (i 58 (v1.toNatClampNeg)) (i 59 (v1.toNatClampNeg))))), (7, .int (nI 1)), (8, .int (v8 + (nI 1)))], [], (mm X i j)) Q) ∧ (¬ (((i 72 ((v8).toNatClampNeg)) &&& v2) = v3) → WP (d + 3) 1606 (12, [(0, .ref 42), (1, .int v1), (2, .int v2), (3, .int v3), (4, .int v4), (5, .int v5), (6, .int v6), (7, .int v7), (8, .int (v8 + (nI 1)))], [], (mm X i j)) Q))))) : WP (d + 3) 1606 (12, [(0, .ref 42), (1, .int v1), (2, .int v2), (3, .int v3), (4, .int v4), (5, .int v5), (6, .int v6), (7, .int v7), (8, .int v8)], [], mm X i j) Q := tc_1606_12 (d + 2) 42 v1 v2 v3 v4 v5 v6 v7 v8 (mm X i j) Q ⟨fun e1 => ⟨fun e2 => ⟨rfl, (te_1604 (d + 1) 42 v1 (nI 0) v4 (mm X i j) _ ⟨rfl, (Exists.elim ((h.1 (e1)).1 (e2)) fun x3 h8 => EvI.use h8.1 ⟨rfl, (Exists.elim h8.2 fun x4 h6 => EvI.use h6.1 ⟨fun e5 => ⟨k0_01, ⟨_, rfl, ⟨k0_01, (h6.2.1 (e5))⟩⟩⟩, fun e5 => ⟨k1_01, ⟨_, rfl, ⟨k1_01, (h6.2.2 (e5))⟩⟩⟩⟩)⟩)⟩)⟩, fun e2 => ⟨fun e10 => ⟨k0_01, (((h.1 (e1)).2 (e2)).1 (e10))⟩, fun e10 => ⟨k1_01, (((h.1 (e1)).2 (e2)).2 (e10))⟩⟩⟩, fun e1 => ⟨rfl, ⟨⟨rfl, (h.2 (e1)).1⟩, ⟨fun e11 => ⟨rfl, ⟨⟨(Or.inl rfl), (h.2 (e1)).1⟩, ⟨rfl, (p_1602 (d + 2) X i j v1 (nI 1) (i 73 ((v8).toNatClampNeg)) _ ⟨((h.2 (e1)).2.1 (e11)).1, ⟨rfl, ⟨⟨(Or.inl rfl), (h.2 (e1)).1⟩, ⟨rfl, (p_1602 (d + 2) X i j v1 (nI 0) (i 73 ((v8).toNatClampNeg)) _ ⟨((h.2 (e1)).2.1 (e11)).1, ((h.2 (e1)).2.1 (e11)).2⟩)⟩⟩⟩⟩)⟩⟩⟩, fun e11 => ((h.2 (e1)).2.2 (e11))⟩⟩⟩⟩
theorem c_1606 (d : Nat) (X : XS) (i : Nat → Nat → Int32) (j : Nat → Nat → Int64) {p n : Nat} (hp : p < 6) (hn : n ≤ 240) {so : Nat → Int32} {ca : Nat → Prop} (hs : ∀ t, t < n → i 72 t = so t) (hc : ∀ t, t < n → i 73 t = bi (ca t)) (bits v : Int32) :
    EvI (d + 3) 1606 [.ref 42, .int (nI p), .int bits, .int v, .int (nI n)] (mm X i j) (bi (abP (i 57 p) (i 58 p) (i 59 p) so ca bits v n)) (mm X i j) := by
  refine s_1606 d X i j _ _ _ _ _ ?_
  refine lup n (fun t (q : Int32 × Int32 × Int32) => q.1 = coI True (i 57 p) (i 58 p) (i 59 p) (nI (mS so bits v t)) (nI (eS so ca bits v t)) ∧ q.2.1 = coI False (i 57 p) (i 58 p) (i 59 p) (nI (mS so bits v t)) (nI (eS so ca bits v t)) ∧ q.2.2 = bi (0 < mS so bits v t))
    (fun t q => (12, [(0, .ref 42), (1, .int (nI p)), (2, .int bits), (3, .int v), (4, .int (nI n)), (5, .int q.1), (6, .int q.2.1), (7, .int q.2.2), (8, .int (nI t))], [], mm X i j)) ?_ ?_ 0 (nI 0, nI 0, nI 0) (Nat.zero_le _) ⟨(coI_0 _ _ _ _).symm, (coI_0 _ _ _ _).symm, (bi_f (by show ¬ 0 < 0; decide)).symm⟩
  · rintro ⟨q1, q2, q3⟩ ⟨h1, h2, h3⟩
    dsimp only at h1 h2 h3 ⊢
    refine s_1606_12 d X i j _ _ _ _ _ _ _ _ _ (br_t (Int32.le_refl _) (br_c (fun z => ?_) (fun z => ?_)))
    · rw [h3, bi_eq0] at z
      refine ⟨_, c_1603 _ X i j (P := True) hp (bi_t trivial).symm (Nat.zero_le _) hn hc, _, c_1603 _ X i j (P := False) hp (bi_f id).symm (Nat.zero_le _) hn hc, ?_⟩
      unfold coI
      rw [if_pos trivial, if_neg id, Nat.sub_zero, show nI (ct ca n) - nI (ct ca 0) = nI (ct ca n) by show nI (ct ca n) - 0 = _; grind]
      refine br_c (fun y => qI_of ⟨e_f ?_, rfl⟩) (fun y => qI_of ⟨e_t (Or.inr ⟨by omega, Int32.not_le.mp y⟩), rfl⟩)
      rintro (⟨q, -⟩ | ⟨-, q⟩)
      · exact z q
      · exact absurd y (Int32.not_le.mpr q)
    · rw [h3, bi_eq0] at z
      have z := Classical.byContradiction z
      rw [h1, h2]
      unfold coI
      rw [if_pos trivial, if_neg id]
      refine br_c (fun y => qI_of ⟨e_f ?_, rfl⟩) (fun y => qI_of ⟨e_t (Or.inl ⟨z, Int32.not_le.mp y⟩), rfl⟩)
      rintro (⟨-, q⟩ | ⟨q, -⟩)
      · exact absurd y (Int32.not_le.mpr q)
      · omega
  · rintro t ⟨q1, q2, q3⟩ ht ⟨h1, h2, h3⟩ go
    dsimp only at h1 h2 h3 ⊢
    refine s_1606_12 d X i j _ _ _ _ _ _ _ _ _ (br_f (nI_ge ht (by omega)) ⟨vp_in_nI (by omega) (by decide), br_c (fun z => ⟨vp_in_nI (by omega) (by decide), ?_⟩) (fun z => ?_)⟩)
    · rw [tc_nI (by omega), hs t ht] at z
      rw [tc_nI (by omega), tc_nI (by omega), hc t ht, nI_add]
      have em : mS so bits v (t + 1) = mS so bits v t + 1 := ct_t (p := fun t => so t &&& bits = v) z
      have ee : nI (eS so ca bits v (t + 1)) = nI (eS so ca bits v t) + bi (ca t) := by
        rw [show bi (ca t) = bi (so t &&& bits = v ∧ ca t) from bi_cg ⟨fun y => ⟨z, y⟩, fun y => y.2⟩]
        exact (ct_bi (fun t => so t &&& bits = v ∧ ca t) t).symm
      refine go (_, _, _) ⟨?_, ?_, ?_⟩
      · dsimp only
        rw [h1, show nI 1 = bi True from (bi_t trivial).symm]
        refine (coI_s True (ca t) _ _ _ _ _).trans ?_
        rw [nI_1, em, ee]
      · dsimp only
        rw [h2, show nI 0 = bi False from (bi_f id).symm]
        refine (coI_s False (ca t) _ _ _ _ _).trans ?_
        rw [nI_1, em, ee]
      · dsimp only
        exact e_t (by omega)
    · rw [tc_nI (by omega), hs t ht] at z
      rw [nI_add]
      have em : mS so bits v (t + 1) = mS so bits v t := ct_f (p := fun t => so t &&& bits = v) z
      have ee : eS so ca bits v (t + 1) = eS so ca bits v t := ct_f (p := fun t => so t &&& bits = v ∧ ca t) (fun y => z y.1)
      exact go (_, _, _) ⟨by dsimp only; rw [em, ee]; exact h1, by dsimp only; rw [em, ee]; exact h2, by dsimp only; rw [em]; exact h3⟩
/-- coins by signs, day by day; how many sets stood -/
noncomputable def byS (c l s : Int32) (so : Nat → Int32) (ca : Nat → Prop) (bits : Int32) (n : Nat) : Nat → Int32 := sm (fun t => dcI (abP c l s so ca bits (so t &&& bits) n) (ca t) c l s)
def fst1 (so : Nat → Int32) (bits : Int32) (t : Nat) : Prop := ∀ u, u < t → ¬ so u &&& bits = so t &&& bits
set_option maxRecDepth 100000 in
theorem s_1607 (d : Nat) (X : XS) (i : Nat → Nat → Int32) (j : Nat → Nat → Int64) (a1 : Int32) (a2 : Int32) (K : Int32 → AM → Prop) (h : WP (d + 4) 1607 (10, [(0, .ref 42), (1, .int a1), (2, .int a2), (3, .int (nI 0)), (4, .int (nI 0))], [], (mm X (s2 i 42 48 (nI 0)) j)) (qI K)) : WI (d + 4) 1607 [.ref 42, .int a1, .int a2] (mm X i j) K := te_1607 (d + 3) 42 a1 a2 (mm X i j) (qI K) ⟨rfl, h⟩
set_option maxRecDepth 100000 in
theorem s_1607_10 (d : Nat) (X : XS) (i : Nat → Nat → Int32) (j : Nat → Nat → Int64) (v1 : Int32) (v2 : Int32) (v3 : Int32) (v4 : Int32) (Q : Option (Option Value) → AM → Prop) (h : (((i 42 46) ≤ v4 → Q (some (some (.int v3))) (mm X i j)) ∧ (¬ ((i 42 46) ≤ v4) → (vp_in v4 240) ∧ (∃ (P2 : Prop), EvI (d + 3) 1606 [.ref 42, .int v1, .int v2, .int ((i 72 ((v4).toNatClampNeg)) &&& v2), .int (i 42 46)] (mm X i j) (bi P2) (mm X i j) ∧ (vp_in v1 6) ∧ WP (d + 4) 1607 (59, [(0, .ref 42), (1, .int v1), (2, .int v2), (3, .int (v3 + (rcI (bi P2) (i 73 ((v4).toNatClampNeg)) (i 57 (v1.toNatClampNeg)) (i 58 (v1.toNatClampNeg)) (i 59 (v1.toNatClampNeg))))), (4, .int v4), (5, .int (nI 1)), (6, .int (nI 0))], [], (mm X i j)) Q)))) : WP (d + 4) 1607 (10, [(0, .ref 42), (1, .int v1), (2, .int v2), (3, .int v3), (4, .int v4)], [], mm X i j) Q := tc_1607_10 (d + 3) 42 v1 v2 v3 v4 (mm X i j) Q ⟨rfl, ⟨fun e1 => (h.1 (e1)), fun e1 => ⟨rfl, ⟨⟨rfl, (h.2 (e1)).1⟩, ⟨rfl, ⟨rfl, (Exists.elim (h.2 (e1)).2 fun P2 h3 => EvI.use h3.1 ⟨rfl, ⟨⟨(Or.inl rfl), (h.2 (e1)).1⟩, ⟨rfl, (p_1602 (d + 3) X i j v1 (bi P2) (i 73 ((v4).toNatClampNeg)) _ ⟨h3.2.1, h3.2.2⟩)⟩⟩⟩)⟩⟩⟩⟩⟩⟩
set_option maxRecDepth 100000 in
theorem s_1607_59 (d : Nat) (X : XS) (i : Nat → Nat → Int32) (j : Nat → Nat → Int64) (v1 : Int32) (v2 : Int32) (v3 : Int32) (v4 : Int32) (v5 : Int32) (v6 : Int32) (Q : Option (Option Value) → AM → Prop) (h : ((v4 ≤ v6 → ((v5 = 0 → WP (d + 4) 1607 (10, [(0, .ref 42), (1, .int v1), (2, .int v2), (3, .int v3), (4, .int (v4 + (nI 1)))], [], (mm X (s2 i 42 48 ((i 42 48) + (nI 0))) j)) Q) ∧ (¬ (v5 = 0) → WP (d + 4) 1607 (10, [(0, .ref 42), (1, .int v1), (2, .int v2), (3, .int v3), (4, .int (v4 + (nI 1)))], [], (mm X (s2 i 42 48 ((i 42 48) + (nI 1))) j)) Q))) ∧ (¬ (v4 ≤ v6) → ((v5 = 0 → WP (d + 4) 1607 (59, [(0, .ref 42), (1, .int v1), (2, .int v2), (3, .int v3), (4, .int v4), (5, .int (nI 0)), (6, .int (v6 + (nI 1)))], [], (mm X i j)) Q) ∧ (¬ (v5 = 0) → (vp_in v6 240) ∧ (vp_in v4 240) ∧ ((((i 72 ((v6).toNatClampNeg)) &&& v2) = ((i 72 ((v4).toNatClampNeg)) &&& v2) → WP (d + 4) 1607 (59, [(0, .ref 42), (1, .int v1), (2, .int v2), (3, .int v3), (4, .int v4), (5, .int (nI 0)), (6, .int (v6 + (nI 1)))], [], (mm X i j)) Q) ∧ (¬ (((i 72 ((v6).toNatClampNeg)) &&& v2) = ((i 72 ((v4).toNatClampNeg)) &&& v2)) → WP (d + 4) 1607 (59, [(0, .ref 42), (1, .int v1), (2, .int v2), (3, .int v3), (4, .int v4), (5, .int (nI 1)), (6, .int (v6 + (nI 1)))], [], (mm X i j)) Q))))))) : WP (d + 4) 1607 (59, [(0, .ref 42), (1, .int v1), (2, .int v2), (3, .int v3), (4, .int v4), (5, .int v5), (6, .int v6)], [], mm X i j) Q := tc_1607_59 (d + 3) 42 v1 v2 v3 v4 v5 v6 (mm X i j) Q ⟨fun e5 => ⟨rfl, ⟨fun e6 => ⟨rfl, (tc_1607_124 (d + 3) 42 v1 v2 v3 v4 (mm X (s2 i 42 48 ((i 42 48) + (nI 0))) j) _ ((h.1 (e5)).1 (e6)))⟩, fun e6 => ⟨rfl, (tc_1607_124 (d + 3) 42 v1 v2 v3 v4 (mm X (s2 i 42 48 ((i 42 48) + (nI 1))) j) _ ((h.1 (e5)).2 (e6)))⟩⟩⟩, fun e5 => ⟨fun e7 => (tc_1607_99 (d + 3) 42 v1 v2 v3 v4 (nI 0) v6 (mm X i j) _ ((h.2 (e5)).1 (e7))), fun e7 => ⟨rfl, ⟨⟨rfl, ((h.2 (e5)).2 (e7)).1⟩, ⟨rfl, ⟨⟨rfl, ((h.2 (e5)).2 (e7)).2.1⟩, ⟨fun e8 => (tc_1607_99 (d + 3) 42 v1 v2 v3 v4 (nI 0) v6 (mm X i j) _ (((h.2 (e5)).2 (e7)).2.2.1 (e8))), fun e8 => (tc_1607_99 (d + 3) 42 v1 v2 v3 v4 (nI 1) v6 (mm X i j) _ (((h.2 (e5)).2 (e7)).2.2.2 (e8)))⟩⟩⟩⟩⟩⟩⟩
theorem c_1607 (d : Nat) (X : XS) (i : Nat → Nat → Int32) (j : Nat → Nat → Int64) {p n : Nat} (hp : p < 6) (hn : n ≤ 240) {so : Nat → Int32} {ca : Nat → Prop} (h46 : i 42 46 = nI n) (hs : ∀ t, t < n → i 72 t = so t) (hc : ∀ t, t < n → i 73 t = bi (ca t)) (bits : Int32) :
    EvI (d + 4) 1607 [.ref 42, .int (nI p), .int bits] (mm X i j) (byS (i 57 p) (i 58 p) (i 59 p) so ca bits n n) (mm X (s2 i 42 48 (nI (ct (fst1 so bits) n))) j) := by
  refine s_1607 d X i j _ _ _ ?_
  have e57 : ∀ v, (s2 i 42 48 v) 57 = i 57 := fun v => s2_ne (by decide)
  have e58 : ∀ v, (s2 i 42 48 v) 58 = i 58 := fun v => s2_ne (by decide)
  have e59 : ∀ v, (s2 i 42 48 v) 59 = i 59 := fun v => s2_ne (by decide)
  have e72 : ∀ v, (s2 i 42 48 v) 72 = i 72 := fun v => s2_ne (by decide)
  have e73 : ∀ v, (s2 i 42 48 v) 73 = i 73 := fun v => s2_ne (by decide)
  have e46 : ∀ v, (s2 i 42 48 v) 42 46 = i 42 46 := fun v => s2_ne2 (by decide)
  have e48 : ∀ v, (s2 i 42 48 v) 42 48 = v := fun v => s2_self _ _ _ _
  have e22 : ∀ v w, s2 (s2 i 42 48 v) 42 48 w = s2 i 42 48 w := fun v w => by
    funext a b
    simp only [s2_ap]
    split <;> rfl
  refine lup n (fun t (q : Int32) => q = byS (i 57 p) (i 58 p) (i 59 p) so ca bits n t) (fun t q => (10, [(0, .ref 42), (1, .int (nI p)), (2, .int bits), (3, .int q), (4, .int (nI t))], [], mm X (s2 i 42 48 (nI (ct (fst1 so bits) t))) j)) ?_ ?_ 0 _ (Nat.zero_le _) rfl
  · intro q hq
    exact s_1607_10 d X _ j _ _ _ _ _ (br_t (by rw [e46, h46]; exact Int32.le_refl _) (qI_of ⟨hq, rfl⟩))
  · intro t q ht hq go
    refine s_1607_10 d X _ j _ _ _ _ _ (br_f (by rw [e46, h46]; exact nI_ge ht (by omega)) ⟨vp_in_nI (by omega) (by decide), ?_⟩)
    have hcall := c_1606 d X (s2 i 42 48 (nI (ct (fst1 so bits) t))) j hp hn (so := so) (ca := ca) (fun t ht => by rw [e72]; exact hs t ht) (fun t ht => by rw [e73]; exact hc t ht) bits (so t &&& bits)
    rw [e46, h46, e72, tc_nI (by omega), hs t ht]
    refine ⟨_, hcall, ?_⟩
    rw [e57, e58, e59, e73, tc_nI (by omega), hc t ht]
    refine ⟨vp_in_nI (by omega) (by decide), ?_⟩
    have inner : ∀ x, x = byS (i 57 p) (i 58 p) (i 59 p) so ca bits n (t + 1) → WP (d + 4) 1607 (59, [(0, .ref 42), (1, .int (nI p)), (2, .int bits), (3, .int x), (4, .int (nI t)), (5, .int (nI 1)), (6, .int (nI 0))], [], mm X (s2 i 42 48 (nI (ct (fst1 so bits) t))) j) (qI (fun x' M2 => x' = byS (i 57 p) (i 58 p) (i 59 p) so ca bits n n ∧ M2 = mm X (s2 i 42 48 (nI (ct (fst1 so bits) n))) j)) := by
      intro x hx
      refine lup t (fun u (q : Int32) => q = bi (∀ v, v < u → ¬ so v &&& bits = so t &&& bits)) (fun u q => (59, [(0, .ref 42), (1, .int (nI p)), (2, .int bits), (3, .int x), (4, .int (nI t)), (5, .int q), (6, .int (nI u))], [], mm X (s2 i 42 48 (nI (ct (fst1 so bits) t))) j)) ?_ ?_ 0 _ (Nat.zero_le _) (e_t fun v h => absurd h (by omega))
      · intro q hq
        refine s_1607_59 d X _ j _ _ _ _ _ _ _ (br_t (Int32.le_refl _) ?_)
        rw [e48, e22, e22, nI_add, nI_add, nI_add]
        refine br_c (fun z => ?_) (fun z => ?_)
        · rw [hq, bi_eq0] at z
          have := go x hx
          rw [ct_f (p := fst1 so bits) z] at this
          exact this
        · rw [hq, bi_eq0] at z
          have := go x hx
          rw [ct_t (p := fst1 so bits) (Classical.byContradiction z)] at this
          exact this
      · intro u q hu hq go2
        refine s_1607_59 d X _ j _ _ _ _ _ _ _ (br_f (nI_ge hu (by omega)) ?_)
        rw [nI_add, e72, tc_nI (by omega), tc_nI (by omega), hs t ht, hs u (by omega)]
        refine br_c (fun z => go2 _ ?_) (fun z => ⟨vp_in_nI (by omega) (by decide), vp_in_nI (by omega) (by decide), br_c (fun y => go2 _ ?_) (fun y => go2 _ ?_)⟩)
        · rw [hq, bi_eq0] at z
          exact e_f fun h => z fun v hv => h v (by omega)
        · exact e_f fun h => h u (by omega) y
        · rw [hq, bi_eq0] at z
          refine e_t fun v hv => ?_
          by_cases h : v = u
          · subst h; exact y
          · exact Classical.byContradiction z v (by omega)
    refine inner _ ?_
    rw [hq]
    rfl
