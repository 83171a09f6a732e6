/-! ===== few ===== -/
def pcI (a0 : Int32) : Int32 := ((((((((a0 - ((ushI a0 (nI 1)) &&& (Int32.ofNat 1431655765))) &&& (Int32.ofNat 858993459)) + ((ushI (a0 - ((ushI a0 (nI 1)) &&& (Int32.ofNat 1431655765))) (nI 2)) &&& (Int32.ofNat 858993459))) + (ushI (((a0 - ((ushI a0 (nI 1)) &&& (Int32.ofNat 1431655765))) &&& (Int32.ofNat 858993459)) + ((ushI (a0 - ((ushI a0 (nI 1)) &&& (Int32.ofNat 1431655765))) (nI 2)) &&& (Int32.ofNat 858993459))) (nI 4))) &&& (Int32.ofNat 252645135)) + (ushI (((((a0 - ((ushI a0 (nI 1)) &&& (Int32.ofNat 1431655765))) &&& (Int32.ofNat 858993459)) + ((ushI (a0 - ((ushI a0 (nI 1)) &&& (Int32.ofNat 1431655765))) (nI 2)) &&& (Int32.ofNat 858993459))) + (ushI (((a0 - ((ushI a0 (nI 1)) &&& (Int32.ofNat 1431655765))) &&& (Int32.ofNat 858993459)) + ((ushI (a0 - ((ushI a0 (nI 1)) &&& (Int32.ofNat 1431655765))) (nI 2)) &&& (Int32.ofNat 858993459))) (nI 4))) &&& (Int32.ofNat 252645135)) (nI 8))) + (ushI ((((((a0 - ((ushI a0 (nI 1)) &&& (Int32.ofNat 1431655765))) &&& (Int32.ofNat 858993459)) + ((ushI (a0 - ((ushI a0 (nI 1)) &&& (Int32.ofNat 1431655765))) (nI 2)) &&& (Int32.ofNat 858993459))) + (ushI (((a0 - ((ushI a0 (nI 1)) &&& (Int32.ofNat 1431655765))) &&& (Int32.ofNat 858993459)) + ((ushI (a0 - ((ushI a0 (nI 1)) &&& (Int32.ofNat 1431655765))) (nI 2)) &&& (Int32.ofNat 858993459))) (nI 4))) &&& (Int32.ofNat 252645135)) + (ushI (((((a0 - ((ushI a0 (nI 1)) &&& (Int32.ofNat 1431655765))) &&& (Int32.ofNat 858993459)) + ((ushI (a0 - ((ushI a0 (nI 1)) &&& (Int32.ofNat 1431655765))) (nI 2)) &&& (Int32.ofNat 858993459))) + (ushI (((a0 - ((ushI a0 (nI 1)) &&& (Int32.ofNat 1431655765))) &&& (Int32.ofNat 858993459)) + ((ushI (a0 - ((ushI a0 (nI 1)) &&& (Int32.ofNat 1431655765))) (nI 2)) &&& (Int32.ofNat 858993459))) (nI 4))) &&& (Int32.ofNat 252645135)) (nI 8))) (nI 16))) &&& (nI 63))
set_option maxRecDepth 100000 in
theorem s_1792 (d : Nat) (X : XS) (i : Nat → Nat → Int32) (j : Nat → Nat → Int64) (a0 : Int32) (K : Int32 → AM → Prop) (h : K ((((((((a0 - ((ushI a0 (nI 1)) &&& (Int32.ofNat 1431655765))) &&& (Int32.ofNat 858993459)) + ((ushI (a0 - ((ushI a0 (nI 1)) &&& (Int32.ofNat 1431655765))) (nI 2)) &&& (Int32.ofNat 858993459))) + (ushI (((a0 - ((ushI a0 (nI 1)) &&& (Int32.ofNat 1431655765))) &&& (Int32.ofNat 858993459)) + ((ushI (a0 - ((ushI a0 (nI 1)) &&& (Int32.ofNat 1431655765))) (nI 2)) &&& (Int32.ofNat 858993459))) (nI 4))) &&& (Int32.ofNat 252645135)) + (ushI (((((a0 - ((ushI a0 (nI 1)) &&& (Int32.ofNat 1431655765))) &&& (Int32.ofNat 858993459)) + ((ushI (a0 - ((ushI a0 (nI 1)) &&& (Int32.ofNat 1431655765))) (nI 2)) &&& (Int32.ofNat 858993459))) + (ushI (((a0 - ((ushI a0 (nI 1)) &&& (Int32.ofNat 1431655765))) &&& (Int32.ofNat 858993459)) + ((ushI (a0 - ((ushI a0 (nI 1)) &&& (Int32.ofNat 1431655765))) (nI 2)) &&& (Int32.ofNat 858993459))) (nI 4))) &&& (Int32.ofNat 252645135)) (nI 8))) + (ushI ((((((a0 - ((ushI a0 (nI 1)) &&& (Int32.ofNat 1431655765))) &&& (Int32.ofNat 858993459)) + ((ushI (a0 - ((ushI a0 (nI 1)) &&& (Int32.ofNat 1431655765))) (nI 2)) &&& (Int32.ofNat 858993459))) + (ushI (((a0 - ((ushI a0 (nI 1)) &&& (Int32.ofNat 1431655765))) &&& (Int32.ofNat 858993459)) + ((ushI (a0 - ((ushI a0 (nI 1)) &&& (Int32.ofNat 1431655765))) (nI 2)) &&& (Int32.ofNat 858993459))) (nI 4))) &&& (Int32.ofNat 252645135)) + (ushI (((((a0 - ((ushI a0 (nI 1)) &&& (Int32.ofNat 1431655765))) &&& (Int32.ofNat 858993459)) + ((ushI (a0 - ((ushI a0 (nI 1)) &&& (Int32.ofNat 1431655765))) (nI 2)) &&& (Int32.ofNat 858993459))) + (ushI (((a0 - ((ushI a0 (nI 1)) &&& (Int32.ofNat 1431655765))) &&& (Int32.ofNat 858993459)) + ((ushI (a0 - ((ushI a0 (nI 1)) &&& (Int32.ofNat 1431655765))) (nI 2)) &&& (Int32.ofNat 858993459))) (nI 4))) &&& (Int32.ofNat 252645135)) (nI 8))) (nI 16))) &&& (nI 63)) (mm X i j)) : WI d 1792 [.int a0] (mm X i j) K := te_1792 d a0 (mm X i j) (qI K) ⟨_, rfl, h⟩
theorem p_1792 (d : Nat) (X : XS) (i : Nat → Nat → Int32) (j : Nat → Nat → Int64) (a0 : Int32) (K : Int32 → AM → Prop) (h : K (pcI a0) (mm X i j)) : WI d 1792 [.int a0] (mm X i j) K := s_1792 d X i j a0 K h
/-- how many bits -/
def cnt (b : Nat) : Nat := (pcI (nI b)).toInt.toNat
set_option maxRecDepth 100000 in
theorem pc10 : ∀ b, b < 1024 → pcI (nI b) = nI (cnt b) ∧ cnt b ≤ 10 ∧ (0 < b → 0 < cnt b) := by decide
theorem shl11 : ∀ s, s < 11 → shlI (nI 1) (nI s) = nI (2 ^ s) := by decide
/-- c is the best: greatest A, least r -/
def BestI (A : Nat → Int32) (r : Nat → Nat) (P : Nat → Prop) (c : Nat) : Prop := P c ∧ ∀ e, P e → A e < A c ∨ (A e = A c ∧ r c ≤ r e)
theorem lt_i {a b : Int32} : a < b ↔ a.toInt < b.toInt := Int32.lt_iff_toInt_lt
theorem eq_i {a b : Int32} : a = b ↔ a.toInt = b.toInt := Int32.toInt_inj.symm
theorem best_new {A : Nat → Int32} {r : Nat → Nat} {P P' : Nat → Prop} {c b : Nat} (h : BestI A r P c) (hP : ∀ e, P' e ↔ P e ∨ e = b) (hb : A c < A b ∨ (A c = A b ∧ r b ≤ r c)) : BestI A r P' b := by
  refine ⟨(hP b).mpr (Or.inr rfl), fun e he => ?_⟩
  rcases (hP e).mp he with h1 | rfl
  · have := h.2 e h1
    rw [lt_i, eq_i] at this hb ⊢
    omega
  · exact Or.inr ⟨rfl, Nat.le_refl _⟩
theorem best_old {A : Nat → Int32} {r : Nat → Nat} {P P' : Nat → Prop} {c b : Nat} (h : BestI A r P c) (hP : ∀ e, P' e ↔ P e ∨ e = b) (hb : A b < A c ∨ (A b = A c ∧ r c ≤ r b)) : BestI A r P' c := by
  refine ⟨(hP c).mpr (Or.inl h.1), fun e he => ?_⟩
  rcases (hP e).mp he with h1 | rfl
  · exact h.2 e h1
  · exact hb
theorem best_fst {A : Nat → Int32} {r : Nat → Nat} {P P' : Nat → Prop} {b : Nat} (h : ∀ e, ¬ P e) (hP : ∀ e, P' e ↔ P e ∨ e = b) : BestI A r P' b := by
  refine ⟨(hP b).mpr (Or.inr rfl), fun e he => ?_⟩
  rcases (hP e).mp he with h1 | rfl
  · exact absurd h1 (h e)
  · exact Or.inr ⟨rfl, Nat.le_refl _⟩
theorem best_cg {A : Nat → Int32} {r : Nat → Nat} {P P' : Nat → Prop} {c : Nat} (h : BestI A r P c) (hP : ∀ e, P' e ↔ P e) : BestI A r P' c := ⟨(hP c).mpr h.1, fun e he => h.2 e ((hP e).mp he)⟩
theorem best_one {A : Nat → Int32} {r : Nat → Nat} {P : Nat → Prop} {b c : Nat} (h : BestI A r P b) (h' : BestI A r P c) (hr : r b = r c → b = c) : b = c := by
  have h1 := h.2 c h'.1
  have h2 := h'.2 b h.1
  rw [lt_i, eq_i] at h1 h2
  exact hr (by omega)
def rkC (b : Nat) : Nat := 1024 * cnt b + b
/-- what is kept while seeking the best -/
def Sk (A : Nat → Int32) (P : Nat → Prop) (w v : Int32) : Prop := (w = nI 0 ∧ v = nI 0 ∧ ∀ e, ¬ P e) ∨ ∃ c, 0 < c ∧ c < 1024 ∧ w = nI c ∧ v = A c ∧ BestI A rkC P c
theorem Sk.cg {A : Nat → Int32} {P P' : Nat → Prop} {w v : Int32} (h : Sk A P w v) (hP : ∀ e, P' e ↔ P e) : Sk A P' w v := by
  rcases h with ⟨h1, h2, h3⟩ | ⟨c, h1, h2, h3, h4, h5⟩
  · exact Or.inl ⟨h1, h2, fun e he => h3 e ((hP e).mp he)⟩
  · exact Or.inr ⟨c, h1, h2, h3, h4, best_cg h5 hP⟩
theorem Sk.z {A : Nat → Int32} {P : Nat → Prop} {w v : Int32} (h : Sk A P w v) (hw : w = 0) : ∀ e, ¬ P e := by
  rcases h with ⟨h1, h2, h3⟩ | ⟨c, h1, h2, h3, h4, h5⟩
  · exact h3
  · rw [h3] at hw; exact absurd ((nIz (by omega)).mp hw) (by omega)
theorem Sk.nz {A : Nat → Int32} {P : Nat → Prop} {w v : Int32} (h : Sk A P w v) (hw : ¬ w = 0) : ∃ c, 0 < c ∧ c < 1024 ∧ w = nI c ∧ v = A c ∧ BestI A rkC P c := by
  rcases h with ⟨h1, h2, h3⟩ | h
  · exact absurd h1 hw
  · exact h
theorem Sk.fst {A : Nat → Int32} {P P' : Nat → Prop} {w v : Int32} {b : Nat} (h : Sk A P w v) (hw : w = 0) (h0 : 0 < b) (h1 : b < 1024) (hP : ∀ e, P' e ↔ P e ∨ e = b) : Sk A P' (nI b) (A b) := Or.inr ⟨b, h0, h1, rfl, rfl, best_fst (h.z hw) hP⟩
theorem Sk.one {A : Nat → Int32} {P : Nat → Prop} {w v w' v' : Int32} (h : Sk A P w v) (h' : Sk A P w' v') : w = w' ∧ v = v' := by
  rcases h with ⟨h1, h2, h3⟩ | ⟨c, h1, h2, h3, h4, h5⟩ <;> rcases h' with ⟨g1, g2, g3⟩ | ⟨c', g1, g2, g3, g4, g5⟩
  · exact ⟨h1.trans g1.symm, h2.trans g2.symm⟩
  · exact absurd g5.1 (h3 _)
  · exact absurd h5.1 (g3 _)
  · have := best_one h5 g5 (fun e => by unfold rkC at e; omega)
    subst this
    exact ⟨h3.trans g3.symm, h4.trans g4.symm⟩
set_option maxRecDepth 100000 in
theorem s_1437 (d : Nat) (X : XS) (i : Nat → Nat → Int32) (j : Nat → Nat → Int64) (a1 : Int32) (a2 : Int32) (a3 : Int32) (a4 : Int32) (a5 : Int32) (K : Int32 → AM → Prop) (h : (PSs X i) ∧ ((¬ ((nI 0) ≤ a1 ∧ a1 ≤ ((i 2 9) - (nI 1)))) → K (kI (-1)) (mm X i j)) ∧ (((nI 0) ≤ a1 ∧ a1 ≤ ((i 2 9) - (nI 1))) → (PO X (xr X 24 (a1.toNatClampNeg))) → ((¬ ((nI 1) ≤ a2 ∧ a2 ≤ (nI 3)) → K (kI (-1)) (mm X i j)) ∧ ((nI 1) ≤ a2 ∧ a2 ≤ (nI 3) → ((¬ ((nI 0) ≤ a3 ∧ a3 ≤ (nI 999)) → K (kI (-1)) (mm X i j)) ∧ ((nI 0) ≤ a3 ∧ a3 ≤ (nI 999) → ((((nI 1) ≤ a4 ∧ a4 ≤ (nI 3)) ∧ ((nI 1) ≤ a5 ∧ a5 ≤ (nI 9)) → ((¬ ((i 2 7) = 0) → (∃ (i11 : Nat → Nat → Int32), EvV (d + 4) 1476 [.ref 2, .ref 9, .int ((shlI (nI 1) (i 2 7)) - (nI 1)), .int a4, .int a5] (mm X i j) (mm X i11 j) ∧ (∃ (x12 : Int32), EvI (d + 4) 776 [.ref 31, .ref (xr X 24 (a1.toNatClampNeg))] (mm X i11 j) x12 (mm X i11 j) ∧ WP (d + 5) 1437 (97, [(0, .ref 2), (2, .int a2), (3, .int a3), (6, .ref (xr X 24 (a1.toNatClampNeg))), (7, .int (shlI (nI 1) (i 2 7))), (8, .int x12), (9, .int (nI 0)), (10, .int (nI 0)), (11, .int (nI 1))], [], (mm X i11 j)) (qI K)))) ∧ ((i 2 7) = 0 → K (kI (-1)) (mm X i j)))) ∧ (¬ (((nI 1) ≤ a4 ∧ a4 ≤ (nI 3)) ∧ ((nI 1) ≤ a5 ∧ a5 ≤ (nI 9))) → K (kI (-1)) (mm X i j))))))))) : WI (d + 5) 1437 [.ref 2, .int a1, .int a2, .int a3, .int a4, .int a5] (mm X i j) K := te_1437 (d + 4) 2 a1 a2 a3 a4 a5 (mm X i j) (qI K) ⟨rfl, (p_1469 (d + 3) X i j a1 _ ⟨h.1, (fun h2 => ⟨fun _ => ⟨_, rfl, (h.2.1 h2)⟩, fun e3 => absurd rfl e3⟩), (fun h4 h5 => ⟨fun e6 => absurd e6 (nz_k (h5)), fun _ => (p_1462 (d + 4) X i j a2 (nI 1) (nI 3) _ ⟨fun e7 => ⟨_, rfl, ((h.2.2 h4 h5).1 ((bi_z e7)))⟩, fun e7 => (p_1462 (d + 4) X i j a3 (nI 0) (nI 999) _ ⟨fun e8 => ⟨_, rfl, (((h.2.2 h4 h5).2 ((bi_n e7))).1 ((bi_z e8)))⟩, fun e8 => (p_1464 (d + 3) X i j a4 a5 _ ⟨fun e9 => ⟨rfl, ⟨fun e10 => ⟨rfl, ⟨rfl, ⟨rfl, (Exists.elim (((((h.2.2 h4 h5).2 ((bi_n e7))).2 ((bi_n e8))).1 ((bi_n e9))).1 (e10)) fun i11 h15 => EvV.use h15.1 ⟨rfl, ⟨rfl, (Exists.elim h15.2 fun x12 h13 => EvI.use h13.1 h13.2)⟩⟩)⟩⟩⟩, fun e10 => ⟨_, rfl, (((((h.2.2 h4 h5).2 ((bi_n e7))).2 ((bi_n e8))).1 ((bi_n e9))).2 ((Classical.byContradiction e10)))⟩⟩⟩, fun e9 => ⟨_, rfl, ((((h.2.2 h4 h5).2 ((bi_n e7))).2 ((bi_n e8))).2 ((bi_nn e9)))⟩⟩)⟩)⟩)⟩)⟩)⟩
set_option maxRecDepth 100000 in
theorem s_1437_97 (d : Nat) (X : XS) (i : Nat → Nat → Int32) (j : Nat → Nat → Int64) (v2 : Int32) (v3 : Int32) (v6 : Nat) (h6 : PO X v6) (v7 : Int32) (v8 : Int32) (v9 : Int32) (v10 : Int32) (v11 : Int32) (Q : Option (Option Value) → AM → Prop) (h : ((v7 ≤ v11 → Q (some (some (.int v10))) (mm X (s2 (s2 i 40 1 (nI 0)) 40 1 (nI 1)) (s2 j 41 0 (v9.toInt64)))) ∧ (¬ (v7 ≤ v11) → (((pcI v11) ≤ v2 → (∃ (x21 : Int32), ∃ (i20 : Nat → Nat → Int32), EvI (d + 4) 781 [.ref 31, .ref v6, .int v11] (mm X i j) x21 (mm X i20 j) ∧ ((v9 = 0 → WP (d + 5) 1437 (97, [(0, .ref 2), (2, .int v2), (3, .int v3), (6, .ref v6), (7, .int v7), (8, .int v8), (9, .int v11), (10, .int ((v8 - x21) - (v3 * (pcI v11)))), (11, .int (v11 + (nI 1)))], [], (mm X i20 j)) Q) ∧ (¬ (v9 = 0) → ((v10 < ((v8 - x21) - (v3 * (pcI v11))) → WP (d + 5) 1437 (97, [(0, .ref 2), (2, .int v2), (3, .int v3), (6, .ref v6), (7, .int v7), (8, .int v8), (9, .int v11), (10, .int ((v8 - x21) - (v3 * (pcI v11)))), (11, .int (v11 + (nI 1)))], [], (mm X i20 j)) Q) ∧ (¬ (v10 < ((v8 - x21) - (v3 * (pcI v11)))) → ((¬ (((v8 - x21) - (v3 * (pcI v11))) = v10) → WP (d + 5) 1437 (97, [(0, .ref 2), (2, .int v2), (3, .int v3), (6, .ref v6), (7, .int v7), (8, .int v8), (9, .int v9), (10, .int v10), (11, .int (v11 + (nI 1)))], [], (mm X i20 j)) Q) ∧ (((v8 - x21) - (v3 * (pcI v11))) = v10 → (((pcI v9) ≤ (pcI v11) → WP (d + 5) 1437 (97, [(0, .ref 2), (2, .int v2), (3, .int v3), (6, .ref v6), (7, .int v7), (8, .int v8), (9, .int v9), (10, .int v10), (11, .int (v11 + (nI 1)))], [], (mm X i20 j)) Q) ∧ (¬ ((pcI v9) ≤ (pcI v11)) → WP (d + 5) 1437 (97, [(0, .ref 2), (2, .int v2), (3, .int v3), (6, .ref v6), (7, .int v7), (8, .int v8), (9, .int v11), (10, .int ((v8 - x21) - (v3 * (pcI v11)))), (11, .int (v11 + (nI 1)))], [], (mm X i20 j)) Q)))))))))) ∧ (¬ ((pcI v11) ≤ v2) → WP (d + 5) 1437 (97, [(0, .ref 2), (2, .int v2), (3, .int v3), (6, .ref v6), (7, .int v7), (8, .int v8), (9, .int v9), (10, .int v10), (11, .int (v11 + (nI 1)))], [], (mm X i j)) Q))))) : WP (d + 5) 1437 (97, [(0, .ref 2), (2, .int v2), (3, .int v3), (6, .ref v6), (7, .int v7), (8, .int v8), (9, .int v9), (10, .int v10), (11, .int v11)], [], mm X i j) Q := tc_1437_97 (d + 4) 2 v2 v3 v6 v7 v8 v9 v10 v11 (mm X i j) Q ⟨fun e17 => ⟨rfl, ⟨rfl, (te_641 (d + 4) 40 (mm X i j) _ ⟨rfl, ⟨rfl, ⟨rfl, ⟨rfl, (te_642 (d + 4) 40 (v9.toInt64) (mm X (s2 i 40 1 (nI 0)) j) _ ⟨rfl, ⟨fun e18 => absurd e18 (show ¬ ((nI 20) ≤ (nI 0)) by decide), fun _ => ⟨rfl, ⟨rfl, ⟨⟨rfl, (vpk 0 20 rfl)⟩, ⟨rfl, ⟨rfl, ⟨rfl, (h.1 (e17))⟩⟩⟩⟩⟩⟩⟩⟩)⟩⟩⟩⟩)⟩⟩, fun e17 => (p_1792 (d + 4) X i j v11 _ ⟨fun e19 => ⟨rfl, ⟨rfl, (Exists.elim ((h.2 (e17)).1 (e19)) fun x21 h26 => Exists.elim h26 fun i20 h27 => EvI.use h27.1 ⟨fun e22 => (tc_1437_170 (d + 4) 2 v2 v3 v6 v7 v8 v11 ((v8 - x21) - (v3 * (pcI v11))) (mm X i20 j) _ (tc_1437_178 (d + 4) 2 v2 v3 v6 v7 v8 v11 ((v8 - x21) - (v3 * (pcI v11))) v11 (mm X i20 j) _ (h27.2.1 (e22)))), fun e22 => ⟨fun e23 => (tc_1437_170 (d + 4) 2 v2 v3 v6 v7 v8 v11 ((v8 - x21) - (v3 * (pcI v11))) (mm X i20 j) _ (tc_1437_178 (d + 4) 2 v2 v3 v6 v7 v8 v11 ((v8 - x21) - (v3 * (pcI v11))) v11 (mm X i20 j) _ ((h27.2.2 (e22)).1 (e23)))), fun e23 => ⟨fun e24 => (tc_1437_178 (d + 4) 2 v2 v3 v6 v7 v8 v9 v10 v11 (mm X i20 j) _ (((h27.2.2 (e22)).2 (e23)).1 (e24))), fun e24 => (p_1792 (d + 4) X i20 j v9 _ ⟨fun e25 => (tc_1437_178 (d + 4) 2 v2 v3 v6 v7 v8 v9 v10 v11 (mm X i20 j) _ ((((h27.2.2 (e22)).2 (e23)).2 ((Classical.byContradiction e24))).1 (e25))), fun e25 => (tc_1437_170 (d + 4) 2 v2 v3 v6 v7 v8 v11 ((v8 - x21) - (v3 * (pcI v11))) (mm X i20 j) _ (tc_1437_178 (d + 4) 2 v2 v3 v6 v7 v8 v11 ((v8 - x21) - (v3 * (pcI v11))) v11 (mm X i20 j) _ ((((h27.2.2 (e22)).2 (e23)).2 ((Classical.byContradiction e24))).2 (e25))))⟩)⟩⟩⟩)⟩⟩, fun e19 => (tc_1437_178 (d + 4) 2 v2 v3 v6 v7 v8 v9 v10 v11 (mm X i j) _ ((h.2 (e17)).2 (e19)))⟩)⟩
set_option maxRecDepth 100000 in
theorem s_1611 (d : Nat) (X : XS) (i : Nat → Nat → Int32) (j : Nat → Nat → Int64) (a1 : Int32) (a2 : Int32) (a3 : Int32) (a4 : Int32) (a5 : Int32) (K : Int32 → AM → Prop) (h : ((¬ ((nI 0) ≤ a1 ∧ a1 ≤ ((i 42 18) - (nI 1))) → K (kI (-1)) (mm X (s2 i 42 36 (nI 0)) j)) ∧ ((nI 0) ≤ a1 ∧ a1 ≤ ((i 42 18) - (nI 1)) → ((¬ ((nI 1) ≤ a2 ∧ a2 ≤ (nI 3)) → K (kI (-1)) (mm X (s2 i 42 36 (nI 0)) j)) ∧ ((nI 1) ≤ a2 ∧ a2 ≤ (nI 3) → ((¬ ((nI 0) ≤ a3 ∧ a3 ≤ (nI 999)) → K (kI (-1)) (mm X (s2 i 42 36 (nI 0)) j)) ∧ ((nI 0) ≤ a3 ∧ a3 ≤ (nI 999) → ((¬ (((nI 1) ≤ a4 ∧ a4 ≤ (nI 3)) ∧ ((nI 1) ≤ a5 ∧ a5 ≤ (nI 9))) → K (kI (-1)) (mm X (s2 i 42 36 (nI 0)) j)) ∧ (((nI 1) ≤ a4 ∧ a4 ≤ (nI 3)) ∧ ((nI 1) ≤ a5 ∧ a5 ≤ (nI 9)) → ((¬ ((i 42 14) = 0) → (∃ (i6 : Nat → Nat → Int32), EvV (d + 261) 1589 [.ref 42, .int ((shlI (nI 1) (i 42 14)) - (nI 1)), .int a4, .int a5] (mm X (s2 i 42 36 (nI 0)) j) (mm X i6 j) ∧ WP (d + 262) 1611 (77, [(0, .ref 42), (1, .int a1), (2, .int a2), (3, .int a3), (6, .int (nI 0)), (7, .int (nI 0)), (8, .int (nI 1))], [], (mm X i6 j)) (qI K))) ∧ ((i 42 14) = 0 → K (kI (-1)) (mm X (s2 i 42 36 (nI 0)) j)))))))))))) : WI (d + 262) 1611 [.ref 42, .int a1, .int a2, .int a3, .int a4, .int a5] (mm X i j) K := te_1611 (d + 261) 42 a1 a2 a3 a4 a5 (mm X i j) (qI K) ⟨rfl, ⟨rfl, (te_1547 (d + 260) 42 a1 (mm X (s2 i 42 36 (nI 0)) j) _ ⟨rfl, (p_1538 (d + 260) X (s2 i 42 36 (nI 0)) j a1 (nI 0) ((i 42 18) - (nI 1)) _ ⟨(bi_01 _), ⟨_, rfl, ⟨fun e1 => ⟨_, rfl, (h.1 ((bi_z e1)))⟩, fun e1 => (p_1538 (d + 261) X (s2 i 42 36 (nI 0)) j a2 (nI 1) (nI 3) _ ⟨fun e2 => ⟨_, rfl, ((h.2 ((bi_n e1))).1 ((bi_z e2)))⟩, fun e2 => (p_1538 (d + 261) X (s2 i 42 36 (nI 0)) j a3 (nI 0) (nI 999) _ ⟨fun e3 => ⟨_, rfl, (((h.2 ((bi_n e1))).2 ((bi_n e2))).1 ((bi_z e3)))⟩, fun e3 => (p_1588 (d + 260) X (s2 i 42 36 (nI 0)) j a4 a5 _ ⟨fun e4 => ⟨_, rfl, ((((h.2 ((bi_n e1))).2 ((bi_n e2))).2 ((bi_n e3))).1 ((bi_z e4)))⟩, fun e4 => ⟨rfl, ⟨fun e5 => ⟨rfl, ⟨rfl, (Exists.elim (((((h.2 ((bi_n e1))).2 ((bi_n e2))).2 ((bi_n e3))).2 ((bi_n e4))).1 (e5)) fun i6 h7 => EvV.use h7.1 h7.2)⟩⟩, fun e5 => ⟨_, rfl, (((((h.2 ((bi_n e1))).2 ((bi_n e2))).2 ((bi_n e3))).2 ((bi_n e4))).2 ((Classical.byContradiction e5)))⟩⟩⟩⟩)⟩)⟩)⟩⟩⟩)⟩)⟩⟩
set_option maxRecDepth 100000 in
theorem s_1611_77 (d : Nat) (X : XS) (i : Nat → Nat → Int32) (j : Nat → Nat → Int64) (v1 : Int32) (v2 : Int32) (v3 : Int32) (v6 : Int32) (v7 : Int32) (v8 : Int32) (Q : Option (Option Value) → AM → Prop) (h : ((v2 < v8 → Q (some (some (.int v6))) (mm X (s2 (s2 i 42 35 (nI 0)) 42 35 (nI 1)) (s2 j 70 0 (v7.toInt64)))) ∧ (¬ (v2 < v8) → WP (d + 262) 1611 (86, [(0, .ref 42), (1, .int v1), (2, .int v2), (3, .int v3), (6, .int v6), (7, .int v7), (8, .int v8), (9, .int (nI 1))], [], (mm X i j)) Q))) : WP (d + 262) 1611 (77, [(0, .ref 42), (1, .int v1), (2, .int v2), (3, .int v3), (6, .int v6), (7, .int v7), (8, .int v8)], [], mm X i j) Q := tc_1611_77 (d + 261) 42 v1 v2 v3 v6 v7 v8 (mm X i j) Q ⟨fun e9 => ⟨rfl, ⟨rfl, (te_1540 (d + 261) 42 (v7.toInt64) (mm X (s2 i 42 35 (nI 0)) j) _ ⟨rfl, ⟨rfl, ⟨⟨rfl, (vpk 0 32 rfl)⟩, ⟨rfl, ⟨rfl, ⟨rfl, (h.1 (e9))⟩⟩⟩⟩⟩⟩)⟩⟩, fun e9 => (h.2 (e9))⟩
set_option maxRecDepth 100000 in
theorem s_1611_86 (d : Nat) (X : XS) (i : Nat → Nat → Int32) (j : Nat → Nat → Int64) (v1 : Int32) (v2 : Int32) (v3 : Int32) (v6 : Int32) (v7 : Int32) (v8 : Int32) (v9 : Int32) (Q : Option (Option Value) → AM → Prop) (h : (((shlI (nI 1) (i 42 14)) ≤ v9 → WP (d + 262) 1611 (77, [(0, .ref 42), (1, .int v1), (2, .int v2), (3, .int v3), (6, .int v6), (7, .int v7), (8, .int (v8 + (nI 1)))], [], (mm X i j)) Q) ∧ (¬ ((shlI (nI 1) (i 42 14)) ≤ v9) → (((pcI v9) = v8 → (∃ (x12 : Int32), EvI (d + 259) 1603 [.ref 42, .int v1, .int (nI 1), .int (nI 0), .int (i 42 46)] (mm X i j) x12 (mm X i j) ∧ (∃ (x13 : Int32), EvI (d + 259) 1603 [.ref 42, .int v1, .int (nI 0), .int (nI 0), .int (i 42 46)] (mm X i j) x13 (mm X i j) ∧ ((x13 ≤ x12 → (∃ (x15 : Int32), EvI (d + 260) 1603 [.ref 42, .int v1, .int (nI 0), .int (nI 0), .int (i 42 46)] (mm X i j) x15 (mm X i j) ∧ (∃ (x17 : Int32), ∃ (i16 : Nat → Nat → Int32), EvI (d + 260) 1607 [.ref 42, .int v1, .int v9] (mm X i j) x17 (mm X i16 j) ∧ ((v7 = 0 → WP (d + 262) 1611 (86, [(0, .ref 42), (1, .int v1), (2, .int v2), (3, .int v3), (6, .int ((x15 - x17) - (v3 * v8))), (7, .int v9), (8, .int v8), (9, .int (v9 + (nI 1)))], [], (mm X i16 j)) Q) ∧ (¬ (v7 = 0) → ((v6 < ((x15 - x17) - (v3 * v8)) → WP (d + 262) 1611 (86, [(0, .ref 42), (1, .int v1), (2, .int v2), (3, .int v3), (6, .int ((x15 - x17) - (v3 * v8))), (7, .int v9), (8, .int v8), (9, .int (v9 + (nI 1)))], [], (mm X i16 j)) Q) ∧ (¬ (v6 < ((x15 - x17) - (v3 * v8))) → WP (d + 262) 1611 (86, [(0, .ref 42), (1, .int v1), (2, .int v2), (3, .int v3), (6, .int v6), (7, .int v7), (8, .int v8), (9, .int (v9 + (nI 1)))], [], (mm X i16 j)) Q))))))) ∧ (¬ (x13 ≤ x12) → (∃ (x25 : Int32), EvI (d + 260) 1603 [.ref 42, .int v1, .int (nI 1), .int (nI 0), .int (i 42 46)] (mm X i j) x25 (mm X i j) ∧ (∃ (x27 : Int32), ∃ (i26 : Nat → Nat → Int32), EvI (d + 260) 1607 [.ref 42, .int v1, .int v9] (mm X i j) x27 (mm X i26 j) ∧ ((v7 = 0 → WP (d + 262) 1611 (86, [(0, .ref 42), (1, .int v1), (2, .int v2), (3, .int v3), (6, .int ((x25 - x27) - (v3 * v8))), (7, .int v9), (8, .int v8), (9, .int (v9 + (nI 1)))], [], (mm X i26 j)) Q) ∧ (¬ (v7 = 0) → ((v6 < ((x25 - x27) - (v3 * v8)) → WP (d + 262) 1611 (86, [(0, .ref 42), (1, .int v1), (2, .int v2), (3, .int v3), (6, .int ((x25 - x27) - (v3 * v8))), (7, .int v9), (8, .int v8), (9, .int (v9 + (nI 1)))], [], (mm X i26 j)) Q) ∧ (¬ (v6 < ((x25 - x27) - (v3 * v8))) → WP (d + 262) 1611 (86, [(0, .ref 42), (1, .int v1), (2, .int v2), (3, .int v3), (6, .int v6), (7, .int v7), (8, .int v8), (9, .int (v9 + (nI 1)))], [], (mm X i26 j)) Q))))))))))) ∧ (¬ ((pcI v9) = v8) → WP (d + 262) 1611 (86, [(0, .ref 42), (1, .int v1), (2, .int v2), (3, .int v3), (6, .int v6), (7, .int v7), (8, .int v8), (9, .int (v9 + (nI 1)))], [], (mm X i j)) Q))))) : WP (d + 262) 1611 (86, [(0, .ref 42), (1, .int v1), (2, .int v2), (3, .int v3), (6, .int v6), (7, .int v7), (8, .int v8), (9, .int v9)], [], mm X i j) Q := tc_1611_86 (d + 261) 42 v1 v2 v3 v6 v7 v8 v9 (mm X i j) Q ⟨rfl, ⟨fun e10 => (h.1 (e10)), fun e10 => (p_1792 (d + 261) X i j v9 _ ⟨fun e11 => ⟨rfl, (te_1608 (d + 260) 42 v1 v9 (mm X i j) _ ⟨rfl, ⟨rfl, (te_1604 (d + 259) 42 v1 (nI 0) (i 42 46) (mm X i j) _ ⟨rfl, (Exists.elim ((h.2 (e10)).1 (e11)) fun x12 h37 => EvI.use h37.1 ⟨rfl, (Exists.elim h37.2 fun x13 h35 => EvI.use h35.1 ⟨fun e14 => ⟨k0_01, ⟨_, rfl, ⟨rfl, ⟨rfl, (Exists.elim (h35.2.1 (e14)) fun x15 h23 => EvI.use h23.1 ⟨rfl, (Exists.elim h23.2 fun x17 h20 => Exists.elim h20 fun i16 h21 => EvI.use h21.1 ⟨_, rfl, ⟨fun e18 => (tc_1611_147 (d + 261) 42 v1 v2 v3 ((x15 - x17) - (v3 * v8)) v9 v8 v9 (mm X i16 j) _ (h21.2.1 (e18))), fun e18 => ⟨fun e19 => (tc_1611_147 (d + 261) 42 v1 v2 v3 ((x15 - x17) - (v3 * v8)) v9 v8 v9 (mm X i16 j) _ ((h21.2.2 (e18)).1 (e19))), fun e19 => (tc_1611_147 (d + 261) 42 v1 v2 v3 v6 v7 v8 v9 (mm X i16 j) _ ((h21.2.2 (e18)).2 (e19)))⟩⟩⟩)⟩)⟩⟩⟩⟩, fun e14 => ⟨k1_01, ⟨_, rfl, ⟨rfl, ⟨rfl, (Exists.elim (h35.2.2 (e14)) fun x25 h33 => EvI.use h33.1 ⟨rfl, (Exists.elim h33.2 fun x27 h30 => Exists.elim h30 fun i26 h31 => EvI.use h31.1 ⟨_, rfl, ⟨fun e28 => (tc_1611_147 (d + 261) 42 v1 v2 v3 ((x25 - x27) - (v3 * v8)) v9 v8 v9 (mm X i26 j) _ (h31.2.1 (e28))), fun e28 => ⟨fun e29 => (tc_1611_147 (d + 261) 42 v1 v2 v3 ((x25 - x27) - (v3 * v8)) v9 v8 v9 (mm X i26 j) _ ((h31.2.2 (e28)).1 (e29))), fun e29 => (tc_1611_147 (d + 261) 42 v1 v2 v3 v6 v7 v8 v9 (mm X i26 j) _ ((h31.2.2 (e28)).2 (e29)))⟩⟩⟩)⟩)⟩⟩⟩⟩⟩)⟩)⟩)⟩⟩)⟩, fun e11 => (tc_1611_147 (d + 261) 42 v1 v2 v3 v6 v7 v8 v9 (mm X i j) _ ((h.2 (e10)).2 (e11)))⟩)⟩⟩
theorem k_28 (d : Nat) {X : XS} {i : Nat → Nat → Int32} {j : Nat → Nat → Int64} (h : Rel X i j) (a1 a2 a3 a4 a5 : Int32) {Kf : AM → Prop} (hK : Nx X Kf) : WI (d + 300) 1437 [.ref 2, .int a1, .int a2, .int a3, .int a4, .int a5] (mm X i j) (fun x1 M1 => WI (d + 300) 1611 [.ref 42, .int a1, .int a2, .int a3, .int a4, .int a5] M1 (fun x2 M2 => x1 = x2 ∧ Kf M2)) := by
  have ht := hK.th h
  have hrel := h
  obtain ⟨hx, ⟨⟨n, h0⟩, h1, ⟨ng, h2, no, h4⟩, ⟨tn, h3⟩, ⟨np, h5⟩, h6, ns, h7⟩, h8, hz⟩ := h
  have e1 := h5.2.1
  have e2 := h5.2.2.1
  have hnp := h5.1
  have hn := h0.2.1.1.2
  refine s_1437 _ X i j a1 a2 a3 a4 a5 _ ⟨h5.ps, ?_, ?_⟩
  · rw [e1]
    exact fun z => s_1611 _ X i j _ _ _ _ _ _ (bq_t (by rw [e2]; exact z) ⟨rfl, ht⟩)
  rw [e1]
  intro z hO
  have z2 : nI 0 ≤ a1 ∧ a1 ≤ i 42 18 - nI 1 := by rw [e2]; exact z
  obtain ⟨p, hp, rfl⟩ := idx_of (by omega) z
  rw [tc_nI (by omega)] at hO ⊢
  obtain ⟨-, hPT, ⟨q0, q1, q2, q3, q4⟩, ⟨c, l, s, st, hc, hl, hs, hst, b0, b1, b2, b3⟩, b4⟩ := h5.2.2.2 p hp

  have g2 : i 2 7 = i 42 14 := by rw [h4.2.1, h4.2.2.1]
  refine bq_c (fun y => s_1611 _ X i j _ _ _ _ _ _ (bq_f z2 (bq_t y ⟨rfl, ht⟩))) (fun y => ?_)
  refine bq_c (fun x => s_1611 _ X i j _ _ _ _ _ _ (bq_f z2 (bq_f y (bq_t x ⟨rfl, ht⟩)))) (fun x => ?_)
  refine br_c (fun v => ?_) (fun v => s_1611 _ X i j _ _ _ _ _ _ (bq_f z2 (bq_f y (bq_f x (bq_t v ⟨rfl, ht⟩)))))
  refine bq_c (fun u => ?_) (fun u => s_1611 _ X i j _ _ _ _ _ _ (bq_f z2 (bq_f y (bq_f x (bq_f v (bq_f (by rw [← g2]; exact u) ⟨rfl, ht⟩))))))
  have hno := h4.1
  have u2 : 0 < no := by
    refine Nat.pos_of_ne_zero fun e => u ?_
    rw [h4.2.1, e]; rfl
  obtain ⟨z8, hz8, rfl⟩ := of_rng (by decide) ⟨Int32.le_trans (by decide) y.1, y.2⟩
  have hz1 : 1 ≤ z8 := (nI_leI (by decide) (by omega)).mp y.1
  obtain ⟨q, hq1, hq, rfl⟩ := ev_rng (by decide) v.2
  obtain ⟨T, hT⟩ : ∃ T, T = 2 ^ no := ⟨_, rfl⟩
  have hT1 : T ≤ 1024 := by rw [hT]; exact Nat.pow_le_pow_right (by decide) hno (n := 2)
  have hT0 : 1 ≤ T := by rw [hT]; exact Nat.pow_pos (by decide)
  have hsh : shlI (nI 1) (i 2 7) = nI T := by rw [h4.2.1, shl11 no (by omega), hT]
  have hsh2 : shlI (nI 1) (i 42 14) = nI T := by rw [← g2]; exact hsh
  rw [hsh]
  obtain ⟨i1, hE1, f1, z1, r40, hL, hS⟩ := lov 0 X i j h0 h2 h4 hz (nI T - nI 1) a4 hq
  refine ⟨i1, hE1.up (by omega), ?_⟩
  have hPn := xtNe hPT
  have hB : SB (n - q) (soF X i no (nI T - nI 1)) := soF_B h4.1 _
  obtain ⟨ca, hca⟩ : ∃ ca, ca = caF i n a4 q := ⟨_, rfl⟩
  obtain ⟨so, hso⟩ : ∃ so, so = soF X i no (nI T - nI 1) := ⟨_, rfl⟩
  rw [← hca, ← hso] at hS
  rw [← hso] at hB
  have hE2 := c_776 0 X i1 j _ hO hS
  rw [kpP f1.kp hPT, q0, q1, q2] at hE2
  refine ⟨_, hE2.up (by omega), ?_⟩
  obtain ⟨BL, hBL⟩ : ∃ BL, BL = blC (i 57 p) (i 58 p) (i 59 p) ca (n - q) := ⟨_, rfl⟩
  rw [← hBL]
  obtain ⟨A, hA⟩ : ∃ A : Nat → Int32, A = fun b => BL - byS (i 57 p) (i 58 p) (i 59 p) so ca (nI b) (n - q) (n - q) - a3 * nI (cnt b) := ⟨_, rfl⟩
  have hAb : ∀ b, BL - byS (i 57 p) (i 58 p) (i 59 p) so ca (nI b) (n - q) (n - q) - a3 * nI (cnt b) = A b := fun b => by rw [hA]
  refine lup T (fun b (z : Int32 × Int32 × (Nat → Nat → Int32)) => 1 ≤ b ∧ Sk A (fun e => 0 < e ∧ e < b ∧ cnt e ≤ z8) z.1 z.2.1 ∧ (∀ b, b ≠ 31 → b ≠ 34 → b ≠ 35 → z.2.2 b = i1 b) ∧ (∀ k, k ≠ 5 → z.2.2 31 k = i1 31 k) ∧ RZ z.2.2) (fun b z => (97, [(0, .ref 2), (2, .int (nI z8)), (3, .int a3), (6, .ref (xr X 24 p)), (7, .int (nI T)), (8, .int BL), (9, .int z.1), (10, .int z.2.1), (11, .int (nI b))], [], mm X z.2.2 j)) ?_ ?_ 1 (nI 0, nI 0, i1) hT0 ⟨Nat.le_refl _, Or.inl ⟨rfl, rfl, fun e he => by omega⟩, fun _ _ _ _ => rfl, fun _ _ => rfl, z1⟩
  · rintro ⟨w, vv, i2⟩ ⟨-, hk, g31, g5, z3⟩
    dsimp only at hk g31 g5 z3 ⊢
    refine s_1437_97 _ X i2 j _ _ _ hO _ _ _ _ _ _ (br_t (Int32.le_refl _) (qI_of ?_))
    obtain ⟨i3, hi3⟩ : ∃ i3, i3 = s2 (s2 i2 40 1 (nI 0)) 40 1 (nI 1) := ⟨_, rfl⟩
    rw [← hi3]
    have f3 : ∀ b, b ≠ 40 → i3 b = i2 b := fun b hb => by rw [hi3, s2_ne hb, s2_ne hb]
    obtain ⟨j3, hj3⟩ : ∃ j3, j3 = s2 j 41 0 w.toInt64 := ⟨_, rfl⟩
    rw [← hj3]
    have F2 : FrC X i i2 := f1.tr (FrC_sv g31)
    have F : FrC X i i3 := F2.tr (FrC_40 f3)
    have Z : RZ i3 := RZ_of z3 (f3 34 (by decide)) (f3 35 (by decide))
    have g42 : i3 42 = i 42 := F 42 (Or.inl (show 0 < 10 by decide))
    refine s_1611 _ X i3 j3 _ _ _ _ _ _ (bq_f (by rw [g42]; exact z2) (bq_f y (bq_f x (bq_f v (bq_t (by rw [g42, ← g2]; exact u) ?_)))))
    obtain ⟨i4, hE4, f4, -, p46, -, -, p72, p73⟩ := prpv 0 X i (s2 i3 42 36 (nI 0)) j3 h0 h2 h4 (F.kp.tr (FrR_th (X := X) (nI 0)).kp) (nI T - nI 1) a4 hq
    rw [← hca] at p73
    rw [← hso] at p72
    rw [g42, hsh2]
    refine ⟨i4, hE4.up (by omega), ?_⟩
    have k4 : Kp X i i4 := F.kp.tr ((FrR_th (nI 0)).tr f4.fr).kp
    obtain ⟨w57, w58, w59, -, -⟩ := p57 k4
    have e414 : i4 42 14 = i 42 14 := k4.2 14 (by decide)
    refine lup (z8 + 1) (fun s (z : Int32 × Int32 × (Nat → Nat → Int32)) => 1 ≤ s ∧ Sk A (fun e => 0 < e ∧ e < T ∧ cnt e < s) z.1 z.2.1 ∧ (∀ b, b ≠ 42 → z.2.2 b = i4 b) ∧ (∀ k, k ≠ 48 → z.2.2 42 k = i4 42 k)) (fun s z => (77, [(0, .ref 42), (1, .int (nI p)), (2, .int (nI z8)), (3, .int a3), (6, .int z.2.1), (7, .int z.1), (8, .int (nI s))], [], mm X z.2.2 j3)) ?_ ?_ 1 (nI 0, nI 0, i4) (by omega) ⟨Nat.le_refl _, Or.inl ⟨rfl, rfl, fun e he => ?_⟩, fun _ _ => rfl, fun _ _ => rfl⟩
    · rintro ⟨w', v', i5⟩ ⟨-, hk', g5', g48⟩
      dsimp only at hk' g5' g48 ⊢
      refine s_1611_77 _ X i5 j3 _ _ _ _ _ _ _ (br_t ((nI_ltI (by omega) (by omega)).mpr (Nat.lt_succ_self _)) (qI_of ?_))
      obtain ⟨ew, ev⟩ := Sk.one hk (hk'.cg (fun e => ⟨fun h => ⟨h.1, h.2.1, by omega⟩, fun h => ⟨h.1, h.2.1, by omega⟩⟩))
      refine ⟨ev, ?_⟩
      rw [← ew]
      refine hK.k (fin_row hrel F Z (((FrR_th (nI 0)).tr f4.fr).tr (FrR_42 (fun b hb => by rw [s2_ne hb, s2_ne hb]; exact g5' b hb) (fun k hk => by rw [s2_ne2 (by omega), s2_ne2 (by omega)]; exact g48 k (by omega)))) (r8_of 1 (by decide) ?_ (s2_self _ _ _ _) ?_))
      · rw [s2_ne (show 40 ≠ 42 by decide), s2_ne (show 40 ≠ 42 by decide), g5' 40 (by decide), f4.1 40 (show ¬ (48 : Nat) = 40 by decide) (by decide), s2_ne (show 40 ≠ 42 by decide), hi3, s2_self]
      · intro t ht
        have : t = 0 := by omega
        subst this
        rw [hj3]
        simp [s2_ap]
    · rintro s ⟨w', v', i5⟩ hs ⟨hs1, hk', g5', g48⟩ go
      dsimp only at hk' g5' g48 ⊢
      refine s_1611_77 _ X i5 j3 _ _ _ _ _ _ _ (br_f (fun e => by rw [nI_ltI (by omega) (by omega)] at e; omega) ?_)
      refine lup T (fun b (z : Int32 × Int32 × (Nat → Nat → Int32)) => 1 ≤ b ∧ Sk A (fun e => 0 < e ∧ e < T ∧ (cnt e < s ∨ (cnt e = s ∧ e < b))) z.1 z.2.1 ∧ (∀ b, b ≠ 42 → z.2.2 b = i4 b) ∧ (∀ k, k ≠ 48 → z.2.2 42 k = i4 42 k)) (fun b z => (86, [(0, .ref 42), (1, .int (nI p)), (2, .int (nI z8)), (3, .int a3), (6, .int z.2.1), (7, .int z.1), (8, .int (nI s)), (9, .int (nI b))], [], mm X z.2.2 j3)) ?_ ?_ 1 (w', v', i5) hT0 ⟨Nat.le_refl _, hk'.cg (fun e => ⟨fun h => ⟨h.1, h.2.1, by omega⟩, fun h => ⟨h.1, h.2.1, by omega⟩⟩), g5', g48⟩
      · rintro ⟨w5, v5, i6⟩ ⟨-, hk5, h5', h48⟩
        dsimp only at hk5 h5' h48 ⊢
        refine s_1611_86 _ X i6 j3 _ _ _ _ _ _ _ _ (br_t (by rw [h48 14 (by decide), e414, hsh2]; exact Int32.le_refl _) ?_)
        rw [nI_add]
        exact go (w5, v5, i6) ⟨by omega, hk5.cg (fun e => ⟨fun h => ⟨h.1, h.2.1, by omega⟩, fun h => ⟨h.1, h.2.1, by omega⟩⟩), h5', h48⟩
      · rintro b ⟨w5, v5, i6⟩ hb ⟨hb1, hk5, h5', h48⟩ go2
        dsimp only at hk5 h5' h48 ⊢
        obtain ⟨hp1, hp2, hp3⟩ := pc10 b (by omega)
        refine s_1611_86 _ X i6 j3 _ _ _ _ _ _ _ _ (br_f (by rw [h48 14 (by decide), e414, hsh2]; exact nI_ge hb (by omega)) ?_)
        rw [nI_add, hp1, nI_eq (by omega) (by omega), h48 46 (by decide), p46]
        refine br_c (fun m => ?_) (fun m => go2 (w5, v5, i6) ⟨by omega, hk5.cg (fun e => ⟨fun h => ⟨h.1, h.2.1, ?_⟩, fun h => ⟨h.1, h.2.1, by omega⟩⟩), h5', h48⟩)
        · have c1 := cb_1603 0 X i6 j3 (p := p) (kn := n - q) (ca := ca) (by omega) bT (by omega) (fun t ht => by rw [h5' 73 (by decide)]; exact p73 t ht)
          have c2 := cb_1603 0 X i6 j3 (p := p) (kn := n - q) (ca := ca) (by omega) bF (by omega) (fun t ht => by rw [h5' 73 (by decide)]; exact p73 t ht)
          have c3 := c_1607 0 X i6 j3 (p := p) (n := n - q) (so := so) (ca := ca) (by omega) (by omega) (by rw [h48 46 (by decide)]; exact p46) (fun t ht => by rw [h5' 72 (by decide)]; exact p72 t (by omega)) (fun t ht => by rw [h5' 73 (by decide)]; exact p73 t ht) (nI b)
          rw [h5' 57 (by decide), h5' 58 (by decide), h5' 59 (by decide), w57, w58, w59] at c1 c2 c3
          refine ⟨_, c1.up (by omega), _, c2.up (by omega), ?_⟩
          rw [saN]
          obtain ⟨i7, hi7⟩ : ∃ i7, i7 = s2 i6 42 48 (nI (ct (fst1 so (nI b)) (n - q))) := ⟨_, rfl⟩
          rw [← hi7] at c3
          have g7 : ∀ b, b ≠ 42 → i7 b = i4 b := fun b hb => by rw [hi7, s2_ne hb]; exact h5' b hb
          have g78 : ∀ k, k ≠ 48 → i7 42 k = i4 42 k := fun k hk => by rw [hi7, s2_ne2 hk]; exact h48 k hk
          have hP : ∀ e, (0 < e ∧ e < T ∧ (cnt e < s ∨ (cnt e = s ∧ e < b + 1))) ↔ (0 < e ∧ e < T ∧ (cnt e < s ∨ (cnt e = s ∧ e < b))) ∨ e = b := fun e => by
            refine ⟨fun h => ?_, fun h => ?_⟩
            · by_cases he : e = b
              · exact Or.inr he
              · exact Or.inl ⟨h.1, h.2.1, by omega⟩
            · rcases h with h | h
              · exact ⟨h.1, h.2.1, by omega⟩
              · subst h; exact ⟨by omega, hb, by omega⟩
          have go3 : ∀ w v, Sk A (fun e => 0 < e ∧ e < T ∧ (cnt e < s ∨ (cnt e = s ∧ e < b + 1))) w v → _ := fun w v h => go2 (w, v, i7) ⟨by omega, h, g7, g78⟩
          dsimp only at go3
          refine br_c (fun m2 => ⟨_, c2.up (by omega), _, _, c3.up (by omega), ?_⟩) (fun m2 => ⟨_, c1.up (by omega), _, _, c3.up (by omega), ?_⟩)
          rw [← blF m2]
          rotate_left
          rw [← blT (Classical.byContradiction m2)]
          all_goals
            rw [← hBL, ← m, hAb, m]
            refine br_c (fun k0 => go3 _ _ (hk5.fst k0 (by omega) (by omega) hP)) (fun k0 => ?_)
            obtain ⟨cc, hc1, hc2, hc3, hc4, hc5⟩ := hk5.nz k0
            have hcc := hc5.1
            refine br_c (fun k1 => go3 _ _ (Or.inr ⟨b, by omega, by omega, rfl, rfl, best_new hc5 hP (Or.inl (by rw [← hc4]; exact k1))⟩)) (fun k1 => go3 _ _ (Or.inr ⟨cc, hc1, hc2, hc3, hc4, best_old hc5 hP ?_⟩))
            rw [hc4, lt_i] at k1
            rw [lt_i, eq_i]
            unfold rkC
            omega
        · by_cases he : e = b
          · subst he; omega
          · omega
    · have := (pc10 e (by omega)).2.2 he.1
      omega
  · rintro b ⟨w, vv, i2⟩ hb ⟨hb1, hk, g31, g5, z3⟩ go
    dsimp only at hk g31 g5 z3 ⊢
    obtain ⟨hp1, hp2, hp3⟩ := pc10 b (by omega)
    refine s_1437_97 _ X i2 j _ _ _ hO _ _ _ _ _ _ (br_f (nI_ge hb (by omega)) ?_)
    rw [nI_add, hp1, nI_leI (by omega) (by omega)]
    refine br_c (fun m => ?_) (fun m => go (w, vv, i2) ⟨by omega, hk.cg (fun e => ⟨fun h => ⟨h.1, ?_, h.2.2⟩, fun h => ⟨h.1, by omega, h.2.2⟩⟩), g31, g5, z3⟩)
    · have hS2 : SV i2 (n - q) so ca := ⟨by rw [g5 2 (by decide)]; exact hS.1, hS.2.1, fun t ht => by rw [g31 32 (by decide) (by decide) (by decide), g31 33 (by decide) (by decide) (by decide)]; exact hS.2.2 t ht⟩
      obtain ⟨i3, hE3, g31', g5', g55', z3'⟩ := c_781 0 X i2 j _ hO (by omega) hS2 hB z3 (nI b)
      rw [g31 _ (by omega) (by omega) (by omega), kpP f1.kp hPT, q0, q1, q2] at hE3
      refine ⟨_, i3, hE3.up (by omega), ?_⟩
      rw [hAb]
      have hP : ∀ e, (0 < e ∧ e < b + 1 ∧ cnt e ≤ z8) ↔ (0 < e ∧ e < b ∧ cnt e ≤ z8) ∨ e = b := fun e => by
        refine ⟨fun h => ?_, fun h => ?_⟩
        · by_cases he : e = b
          · exact Or.inr he
          · exact Or.inl ⟨h.1, by omega, h.2.2⟩
        · rcases h with h | h
          · exact ⟨h.1, by omega, h.2.2⟩
          · subst h; exact ⟨by omega, by omega, m⟩
      have go3 : ∀ w v, Sk A (fun e => 0 < e ∧ e < b + 1 ∧ cnt e ≤ z8) w v → _ := fun w v h => go (w, v, i3) ⟨by omega, h, fun b h1 h2 h3 => (g31' b h1 h2 h3).trans (g31 b h1 h2 h3), fun k hk => (g5' k hk).trans (g5 k hk), z3'⟩
      dsimp only at go3
      refine br_c (fun k0 => go3 _ _ (hk.fst k0 (by omega) (by omega) hP)) (fun k0 => ?_)
      obtain ⟨cc, hc1, hc2, hc3, hc4, hc5⟩ := hk.nz k0
      have hcc := hc5.1
      dsimp only at hcc
      refine br_c (fun k1 => go3 _ _ (Or.inr ⟨b, by omega, by omega, rfl, rfl, best_new hc5 hP (Or.inl (by rw [← hc4]; exact k1))⟩)) (fun k1 => ?_)
      refine bq_c (fun k2 => go3 _ _ (Or.inr ⟨cc, hc1, hc2, hc3, hc4, best_old hc5 hP ?_⟩)) (fun k2 => ?_)
      · rw [hc4, lt_i] at k1
        rw [hc4, eq_i] at k2
        rw [lt_i, eq_i]
        omega
      · rw [hc3, (pc10 cc hc2).1, nI_leI (by have := (pc10 cc hc2).2.1; omega) (by omega)]
        rw [hc4] at k2
        refine br_c (fun k3 => go3 _ _ (Or.inr ⟨cc, hc1, hc2, rfl, hc4, best_old hc5 hP (Or.inr ⟨k2, ?_⟩)⟩)) (fun k3 => go3 _ _ (Or.inr ⟨b, by omega, by omega, rfl, rfl, best_new hc5 hP (Or.inr ⟨k2.symm, ?_⟩)⟩))
        · unfold rkC; omega
        · unfold rkC; omega
    · by_cases he : e = b
      · subst he; exact absurd h.2.2 m
      · omega
