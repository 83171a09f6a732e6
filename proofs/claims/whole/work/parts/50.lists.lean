/-! ===== rows of days: fails, differ, fields ===== -/
def RWc (i : Nat → Nat → Int32) (j : Nat → Nat → Int64) (L : List Nat) : Prop := i 40 1 = nI (min 20 L.length) ∧ ∀ q, q < min 20 L.length → j 41 q = (nI (L.getD q 0)).toInt64
def RWr (i : Nat → Nat → Int32) (j : Nat → Nat → Int64) (L : List Nat) : Prop := i 42 35 = nI (min 20 L.length) ∧ ∀ q, q < min 20 L.length → j 70 q = (nI (L.getD q 0)).toInt64
theorem getD_l {L : List Nat} {d q : Nat} (h : q < L.length) : (L ++ [d]).getD q 0 = L.getD q 0 := by
  simp [List.getD_eq_getElem?_getD, List.getElem?_append_left h]
theorem getD_e (L : List Nat) (d : Nat) : (L ++ [d]).getD L.length 0 = d := by
  simp [List.getD_eq_getElem?_getD]
theorem RWc.full {i : Nat → Nat → Int32} {j : Nat → Nat → Int64} {L : List Nat} (h : RWc i j L) (hl : 20 ≤ L.length) (d : Nat) : RWc i j (L ++ [d]) := by
  obtain ⟨h1, h2⟩ := h
  have e : min 20 (L ++ [d]).length = min 20 L.length := by rw [List.length_append]; simp; omega
  refine ⟨by rw [e]; exact h1, fun q hq => ?_⟩
  rw [e] at hq
  rw [getD_l (by omega)]; exact h2 q hq
theorem RWr.full {i : Nat → Nat → Int32} {j : Nat → Nat → Int64} {L : List Nat} (h : RWr i j L) (hl : 20 ≤ L.length) (d : Nat) : RWr i j (L ++ [d]) := by
  obtain ⟨h1, h2⟩ := h
  have e : min 20 (L ++ [d]).length = min 20 L.length := by rw [List.length_append]; simp; omega
  refine ⟨by rw [e]; exact h1, fun q hq => ?_⟩
  rw [e] at hq
  rw [getD_l (by omega)]; exact h2 q hq
theorem RWc.add {i : Nat → Nat → Int32} {j : Nat → Nat → Int64} {L : List Nat} (h : RWc i j L) (hl : L.length < 20) (d : Nat) : RWc (s2 i 40 1 (nI (L.length + 1))) (s2 j 41 L.length (nI d).toInt64) (L ++ [d]) := by
  obtain ⟨h1, h2⟩ := h
  have e : min 20 (L ++ [d]).length = L.length + 1 := by rw [List.length_append]; simp; omega
  refine ⟨by rw [e]; exact s2_self _ _ _ _, fun q hq => ?_⟩
  rw [e] at hq
  by_cases hq2 : q = L.length
  · subst hq2; rw [s2_self, getD_e]
  · rw [s2_ne2 hq2, getD_l (by omega)]; exact h2 q (by omega)
theorem RWr.add {i : Nat → Nat → Int32} {j : Nat → Nat → Int64} {L : List Nat} (h : RWr i j L) (hl : L.length < 20) (d : Nat) : RWr (s2 i 42 35 (nI (L.length + 1))) (s2 j 70 L.length (nI d).toInt64) (L ++ [d]) := by
  obtain ⟨h1, h2⟩ := h
  have e : min 20 (L ++ [d]).length = L.length + 1 := by rw [List.length_append]; simp; omega
  refine ⟨by rw [e]; exact s2_self _ _ _ _, fun q hq => ?_⟩
  rw [e] at hq
  by_cases hq2 : q = L.length
  · subst hq2; rw [s2_self, getD_e]
  · rw [s2_ne2 hq2, getD_l (by omega)]; exact h2 q (by omega)
theorem RW8 {i : Nat → Nat → Int32} {j : Nat → Nat → Int64} {L : List Nat} (hc : RWc i j L) (hr : RWr i j L) : R8 i j := ⟨min 20 L.length, by omega, hc.1, hr.1, fun q hq => (hc.2 q hq).trans (hr.2 q hq).symm⟩
theorem RWc.ln {i : Nat → Nat → Int32} {j : Nat → Nat → Int64} {L : List Nat} (h : RWc i j L) : (20 ≤ L.length → nI 20 ≤ i 40 1) ∧ (L.length < 20 → ¬ nI 20 ≤ i 40 1 ∧ i 40 1 = nI L.length) := by
  refine ⟨fun hl => ?_, fun hl => ?_⟩
  · rw [h.1, show min 20 L.length = 20 by omega]; exact Int32.le_refl _
  · rw [h.1, show min 20 L.length = L.length by omega]; exact ⟨nI_ge hl (by decide), rfl⟩
theorem RWr.ln {i : Nat → Nat → Int32} {j : Nat → Nat → Int64} {L : List Nat} (h : RWr i j L) (hl : L.length < 20) : i 42 35 = nI L.length := by
  rw [h.1, show min 20 L.length = L.length by omega]
noncomputable def LM (p : Nat → Prop) : Nat → List Nat
  | 0 => []
  | t + 1 => @ite _ (p t) (Classical.propDecidable _) (LM p t ++ [t]) (LM p t)
theorem LM_t {p : Nat → Prop} {t : Nat} (h : p t) : LM p (t + 1) = LM p t ++ [t] := by rw [LM, if_pos h]
theorem LM_f {p : Nat → Prop} {t : Nat} (h : ¬ p t) : LM p (t + 1) = LM p t := by rw [LM, if_neg h]
theorem LM_le (p : Nat → Prop) : ∀ t, (LM p t).length ≤ t
  | 0 => Nat.le_refl _
  | t + 1 => by
    have := LM_le p t
    by_cases h : p t
    · rw [LM_t h, List.length_append]; simp; omega
    · rw [LM_f h]; omega
/-- the class's part of a step that adds a day -/
theorem stC {d y : Nat} {X : XS} {i : Nat → Nat → Int32} {j : Nat → Nat → Int64} {L : List Nat} {t : Nat} {Q : Option (Option Value) → AM → Prop} {cf : (Nat → Nat → Int32) → (Nat → Nat → Int64) → Cf} (h : RWc i j L)
    (k : ∀ i' j', (∀ b, b ≠ 40 → i' b = i b) → (∀ b, b ≠ 41 → j' b = j b) → RWc i' j' (L ++ [t]) → WP d y (cf i' j') Q) :
    ((nI 20 ≤ i 40 1 → WP d y (cf i j) Q) ∧ (¬ nI 20 ≤ i 40 1 → vp_in (i 40 1) 20 ∧ WP d y (cf (s2 i 40 1 (i 40 1 + nI 1)) (s2 j 41 (i 40 1).toNatClampNeg (nI t).toInt64)) Q)) := by
  by_cases hl : 20 ≤ L.length
  · exact br_t (h.ln.1 hl) (k i j (fun _ _ => rfl) (fun _ _ => rfl) (h.full hl t))
  · obtain ⟨h1, h2⟩ := h.ln.2 (by omega)
    refine br_f h1 ?_
    rw [h2, tc_nI (by omega), nI_add]
    exact ⟨vp_in_nI (by omega) (by decide), k _ _ (fun b hb => s2_ne hb) (fun b hb => s2_ne hb) (h.add (by omega) t)⟩
/-- the reference's -/
theorem stR {d y : Nat} {i : Nat → Nat → Int32} {j : Nat → Nat → Int64} {L : List Nat} {t : Nat} {Q : Option (Option Value) → AM → Prop} {cf : (Nat → Nat → Int32) → (Nat → Nat → Int64) → Cf} (h : RWr i j L) (hL : L.length < 2 ^ 30)
    (k : ∀ i' j', (∀ b, b ≠ 42 → i' b = i b) → (∀ k, k ≠ 35 → i' 42 k = i 42 k) → (∀ b, b ≠ 70 → j' b = j b) → RWr i' j' (L ++ [t]) → WP d y (cf i' j') Q) :
    ((nI 20 ≤ nI L.length → WP d y (cf i j) Q) ∧ (¬ nI 20 ≤ nI L.length → vp_in (i 42 35) 32 ∧ WP d y (cf (s2 i 42 35 (i 42 35 + nI 1)) (s2 j 70 (i 42 35).toNatClampNeg (nI t).toInt64)) Q)) := by
  by_cases hl : 20 ≤ L.length
  · exact br_t (nI_le hl (by omega)) (k i j (fun _ _ => rfl) (fun _ _ => rfl) (fun _ _ => rfl) (h.full hl t))
  · refine br_f (nI_ge (by omega) (by decide)) ?_
    rw [h.ln (by omega), tc_nI (by omega), nI_add]
    exact ⟨vp_in_nI (by omega) (by decide), k _ _ (fun b hb => s2_ne hb) (fun k hk => s2_ne2 hk) (fun b hb => s2_ne hb) (h.add (by omega) t)⟩
theorem RWc0 {i : Nat → Nat → Int32} {j : Nat → Nat → Int64} (h : i 40 1 = nI 0) : RWc i j [] := ⟨h, fun q hq => absurd hq (by simp)⟩
theorem RWr0 {i : Nat → Nat → Int32} {j : Nat → Nat → Int64} (h : i 42 35 = nI 0) : RWr i j [] := ⟨h, fun q hq => absurd hq (by simp)⟩
theorem RWc.kp {i i' : Nat → Nat → Int32} {j j' : Nat → Nat → Int64} {L : List Nat} (h : RWc i j L) (e : i' 40 1 = i 40 1) (e2 : j' 41 = j 41) : RWc i' j' L := by
  unfold RWc at h ⊢; rw [e, e2]; exact h
set_option maxRecDepth 100000 in
theorem s_1430 (d : Nat) (X : XS) (i : Nat → Nat → Int32) (j : Nat → Nat → Int64) (a1 : Int32) (a2 : Int32) (a3 : Int32) (K : Int32 → AM → Prop) (h : (SGs X i) ∧ ((¬ ((nI 0) ≤ a1 ∧ a1 ≤ ((i 2 7) - (nI 1)))) → K (kI (-1)) (mm X i j)) ∧ (((nI 0) ≤ a1 ∧ a1 ≤ ((i 2 7) - (nI 1))) → (OO X (xr X 23 (a1.toNatClampNeg))) → ((¬ (((nI 1) ≤ a2 ∧ a2 ≤ (nI 3)) ∧ ((nI 1) ≤ a3 ∧ a3 ≤ (nI 9))) → K (kI (-1)) (mm X i j)) ∧ (((nI 1) ≤ a2 ∧ a2 ≤ (nI 3)) ∧ ((nI 1) ≤ a3 ∧ a3 ≤ (nI 9)) → (∃ (i11 : Nat → Nat → Int32), EvV (d + 4) 1476 [.ref 2, .ref 9, .int (shlI (nI 1) a1), .int a2, .int a3] (mm X i j) (mm X i11 j) ∧ WP (d + 5) 1430 (38, [(0, .ref 2), (4, .int (nI 0)), (5, .int (nI 0))], [], (mm X (s2 i11 40 1 (nI 0)) j)) (qI K)))))) : WI (d + 5) 1430 [.ref 2, .int a1, .int a2, .int a3] (mm X i j) K := te_1430 (d + 4) 2 a1 a2 a3 (mm X i j) (qI K) ⟨rfl, (te_1471 (d + 3) 2 a1 a2 a3 (mm X i j) _ ⟨rfl, (p_1468 (d + 2) X i j a1 _ ⟨h.1, (fun h2 => ⟨fun _ => ⟨k0_01, ⟨_, rfl, ⟨fun e4 => absurd e4 (show ¬ (¬ (nI 0) = 0) by decide), fun _ => ⟨_, rfl, (h.2.1 h2)⟩⟩⟩⟩, fun e3 => absurd rfl e3⟩), (fun h5 h6 => ⟨fun e7 => absurd e7 (nz_k (h6.1)), fun _ => (p_1464 (d + 2) X i j a2 a3 _ ⟨fun e8 => ⟨k0_01, ⟨_, rfl, ⟨fun e9 => absurd e9 (show ¬ (¬ (nI 0) = 0) by decide), fun _ => ⟨_, rfl, ((h.2.2 h5 h6).1 ((bi_z e8)))⟩⟩⟩⟩, fun e8 => ⟨k1_01, ⟨_, rfl, ⟨fun _ => ⟨rfl, ⟨rfl, (Exists.elim ((h.2.2 h5 h6).2 ((bi_n e8))) fun i11 h12 => EvV.use h12.1 ⟨rfl, ⟨rfl, (te_641 (d + 4) 40 (mm X i11 j) _ ⟨rfl, ⟨rfl, h12.2⟩⟩)⟩⟩)⟩⟩, fun e10 => absurd (show ¬ (nI 1) = 0 by decide) e10⟩⟩⟩⟩)⟩)⟩)⟩)⟩
set_option maxRecDepth 100000 in
theorem s_1430_38 (d : Nat) (X : XS) (i : Nat → Nat → Int32) (j : Nat → Nat → Int64) (v4 : Int32) (v5 : Int32) (Q : Option (Option Value) → AM → Prop) (h : (((i 31 2) ≤ v5 → Q (some (some (.int v4))) (mm X i j)) ∧ (¬ ((i 31 2) ≤ v5) → ((i 31 2) ≤ (nI 240)) ∧ ((¬ (sOn (i 31 2) (i 32) v5) → WP (d + 5) 1430 (38, [(0, .ref 2), (4, .int v4), (5, .int (v5 + (nI 1)))], [], (mm X i j)) Q) ∧ (sOn (i 31 2) (i 32) v5 → ((sOn (i 31 2) (i 33) v5 → WP (d + 5) 1430 (38, [(0, .ref 2), (4, .int v4), (5, .int (v5 + (nI 1)))], [], (mm X i j)) Q) ∧ (¬ (sOn (i 31 2) (i 33) v5) → (((nI 20) ≤ (i 40 1) → WP (d + 5) 1430 (38, [(0, .ref 2), (4, .int (v4 + (nI 1))), (5, .int (v5 + (nI 1)))], [], (mm X i j)) Q) ∧ (¬ ((nI 20) ≤ (i 40 1)) → (vp_in (i 40 1) 20) ∧ WP (d + 5) 1430 (38, [(0, .ref 2), (4, .int (v4 + (nI 1))), (5, .int (v5 + (nI 1)))], [], (mm X (s2 i 40 1 ((i 40 1) + (nI 1))) (s2 j 41 ((i 40 1).toNatClampNeg) (v5.toInt64)))) Q))))))))) : WP (d + 5) 1430 (38, [(0, .ref 2), (4, .int v4), (5, .int v5)], [], mm X i j) Q := tc_1430_38 (d + 4) 2 v4 v5 (mm X i j) Q ⟨rfl, ⟨rfl, (te_771 (d + 4) 31 (mm X i j) _ ⟨rfl, ⟨_, rfl, ⟨fun e14 => (h.1 (e14)), fun e14 => ⟨rfl, ⟨rfl, (p_772 (d + 4) X i j v5 _ ⟨(h.2 (e14)).1, ⟨fun e15 => (tc_1430_87 (d + 4) 2 v4 v5 (mm X i j) _ ((h.2 (e14)).2.1 ((bi_z e15)))), fun e15 => ⟨rfl, ⟨rfl, (p_773 (d + 4) X i j v5 _ ⟨(h.2 (e14)).1, ⟨fun e16 => (tc_1430_87 (d + 4) 2 v4 v5 (mm X i j) _ (((h.2 (e14)).2.2 ((bi_n e15))).1 ((bi_n e16)))), fun e16 => ⟨rfl, ⟨rfl, (te_642 (d + 4) 40 (v5.toInt64) (mm X i j) _ ⟨rfl, ⟨fun e17 => ⟨rfl, (tc_1430_87 (d + 4) 2 (v4 + (nI 1)) v5 (mm X i j) _ ((((h.2 (e14)).2.2 ((bi_n e15))).2 ((bi_nn e16))).1 (e17)))⟩, fun e17 => ⟨rfl, ⟨rfl, ⟨⟨rfl, ((((h.2 (e14)).2.2 ((bi_n e15))).2 ((bi_nn e16))).2 (e17)).1⟩, ⟨rfl, ⟨rfl, ⟨rfl, (tc_1430_87 (d + 4) 2 (v4 + (nI 1)) v5 (mm X (s2 i 40 1 ((i 40 1) + (nI 1))) (s2 j 41 ((i 40 1).toNatClampNeg) (v5.toInt64))) _ ((((h.2 (e14)).2.2 ((bi_n e15))).2 ((bi_nn e16))).2 (e17)).2)⟩⟩⟩⟩⟩⟩⟩⟩)⟩⟩⟩⟩)⟩⟩⟩⟩)⟩⟩⟩⟩⟩)⟩⟩
set_option maxRecDepth 100000 in
theorem s_1597 (d : Nat) (X : XS) (i : Nat → Nat → Int32) (j : Nat → Nat → Int64) (a1 : Int32) (a2 : Int32) (a3 : Int32) (K : Int32 → AM → Prop) (h : ((¬ ((nI 0) ≤ a1 ∧ a1 ≤ ((i 42 14) - (nI 1))) → K (kI (-1)) (mm X (s2 i 42 36 (nI 0)) j)) ∧ ((nI 0) ≤ a1 ∧ a1 ≤ ((i 42 14) - (nI 1)) → ((((nI 1) ≤ a2 ∧ a2 ≤ (nI 3)) ∧ ((nI 1) ≤ a3 ∧ a3 ≤ (nI 9)) → (∃ (i3 : Nat → Nat → Int32), EvV (d + 261) 1589 [.ref 42, .int (shlI (nI 1) a1), .int a2, .int a3] (mm X (s2 i 42 36 (nI 0)) j) (mm X i3 j) ∧ WP (d + 262) 1597 (43, [(0, .ref 42), (1, .int a1), (4, .int (nI 0)), (5, .int (nI 0))], [], (mm X (s2 i3 42 35 (nI 0)) j)) (qI K))) ∧ (¬ (((nI 1) ≤ a2 ∧ a2 ≤ (nI 3)) ∧ ((nI 1) ≤ a3 ∧ a3 ≤ (nI 9))) → K (kI (-1)) (mm X (s2 i 42 36 (nI 0)) j)))))) : WI (d + 262) 1597 [.ref 42, .int a1, .int a2, .int a3] (mm X i j) K := te_1597 (d + 261) 42 a1 a2 a3 (mm X i j) (qI K) ⟨rfl, ⟨rfl, (te_1546 (d + 260) 42 a1 (mm X (s2 i 42 36 (nI 0)) j) _ ⟨rfl, (p_1538 (d + 260) X (s2 i 42 36 (nI 0)) j a1 (nI 0) ((i 42 14) - (nI 1)) _ ⟨(bi_01 _), ⟨_, rfl, ⟨fun e1 => ⟨_, rfl, (h.1 ((bi_z e1)))⟩, fun e1 => (p_1588 (d + 260) X (s2 i 42 36 (nI 0)) j a2 a3 _ ⟨fun e2 => ⟨rfl, (Exists.elim ((h.2 ((bi_n e1))).1 ((bi_n e2))) fun i3 h4 => EvV.use h4.1 ⟨rfl, h4.2⟩)⟩, fun e2 => ⟨_, rfl, ((h.2 ((bi_n e1))).2 ((bi_nn e2)))⟩⟩)⟩⟩⟩)⟩)⟩⟩
set_option maxRecDepth 100000 in
theorem s_1597_43 (d : Nat) (X : XS) (i : Nat → Nat → Int32) (j : Nat → Nat → Int64) (v1 : Int32) (v4 : Int32) (v5 : Int32) (Q : Option (Option Value) → AM → Prop) (h : (((i 42 46) ≤ v5 → Q (some (some (.int v4))) (mm X i j)) ∧ (¬ ((i 42 46) ≤ v5) → (vp_in v5 240) ∧ ((¬ (((shrI (i 72 ((v5).toNatClampNeg)) v1) &&& (nI 1)) = (nI 1)) → WP (d + 262) 1597 (43, [(0, .ref 42), (1, .int v1), (4, .int v4), (5, .int (v5 + (nI 1)))], [], (mm X i j)) Q) ∧ (((shrI (i 72 ((v5).toNatClampNeg)) v1) &&& (nI 1)) = (nI 1) → (((i 73 ((v5).toNatClampNeg)) = 0 → (((nI 20) ≤ v4 → WP (d + 262) 1597 (43, [(0, .ref 42), (1, .int v1), (4, .int (v4 + (nI 1))), (5, .int (v5 + (nI 1)))], [], (mm X i j)) Q) ∧ (¬ ((nI 20) ≤ v4) → (vp_in (i 42 35) 32) ∧ WP (d + 262) 1597 (43, [(0, .ref 42), (1, .int v1), (4, .int (v4 + (nI 1))), (5, .int (v5 + (nI 1)))], [], (mm X (s2 i 42 35 ((i 42 35) + (nI 1))) (s2 j 70 ((i 42 35).toNatClampNeg) (v5.toInt64)))) Q))) ∧ (¬ ((i 73 ((v5).toNatClampNeg)) = 0) → WP (d + 262) 1597 (43, [(0, .ref 42), (1, .int v1), (4, .int v4), (5, .int (v5 + (nI 1)))], [], (mm X i j)) Q))))))) : WP (d + 262) 1597 (43, [(0, .ref 42), (1, .int v1), (4, .int v4), (5, .int v5)], [], mm X i j) Q := tc_1597_43 (d + 261) 42 v1 v4 v5 (mm X i j) Q ⟨rfl, ⟨fun e6 => (h.1 (e6)), fun e6 => ⟨rfl, (te_1590 (d + 261) 42 v1 v5 (mm X i j) _ ⟨rfl, ⟨⟨rfl, (h.2 (e6)).1⟩, ⟨fun e7 => ⟨k0_01, ⟨_, rfl, ⟨fun _ => (tc_1597_92 (d + 261) 42 v1 v4 v5 (mm X i j) _ ((h.2 (e6)).2.1 (e7))), fun e8 => absurd (show (nI 0) = 0 by decide) e8⟩⟩⟩, fun e7 => ⟨k1_01, ⟨_, rfl, ⟨fun e9 => absurd e9 (show ¬ ((nI 1) = 0) by decide), fun _ => ⟨rfl, ⟨⟨(Or.inl rfl), (h.2 (e6)).1⟩, ⟨fun e10 => ⟨fun e11 => (tc_1597_92 (d + 261) 42 v1 (v4 + (nI 1)) v5 (mm X i j) _ ((((h.2 (e6)).2.2 ((Classical.byContradiction e7))).1 (e10)).1 (e11))), fun e11 => ⟨rfl, (te_1540 (d + 261) 42 (v5.toInt64) (mm X i j) _ ⟨rfl, ⟨rfl, ⟨⟨rfl, ((((h.2 (e6)).2.2 ((Classical.byContradiction e7))).1 (e10)).2 (e11)).1⟩, ⟨rfl, ⟨rfl, ⟨rfl, (tc_1597_92 (d + 261) 42 v1 (v4 + (nI 1)) v5 (mm X (s2 i 42 35 ((i 42 35) + (nI 1))) (s2 j 70 ((i 42 35).toNatClampNeg) (v5.toInt64))) _ ((((h.2 (e6)).2.2 ((Classical.byContradiction e7))).1 (e10)).2 (e11)).2)⟩⟩⟩⟩⟩⟩)⟩⟩, fun e10 => (tc_1597_92 (d + 261) 42 v1 v4 v5 (mm X i j) _ (((h.2 (e6)).2.2 ((Classical.byContradiction e7))).2 (e10)))⟩⟩⟩⟩⟩⟩⟩⟩⟩)⟩⟩⟩
theorem k_21 (d : Nat) {X : XS} {i : Nat → Nat → Int32} {j : Nat → Nat → Int64} (h : Rel X i j) (a1 a2 a3 : Int32) {Kf : AM → Prop} (hK : Nx X Kf) : WI (d + 300) 1430 [.ref 2, .int a1, .int a2, .int a3] (mm X i j) (fun x1 M1 => WI (d + 300) 1597 [.ref 42, .int a1, .int a2, .int a3] M1 (fun x2 M2 => x1 = x2 ∧ Kf M2)) := by
  have ht := hK.th h
  have hrel := h
  obtain ⟨hx, ⟨⟨n, h0⟩, h1, ⟨ng, h2, no, h4⟩, ⟨tn, h3⟩, ⟨np, h5⟩, h6, ns, h7⟩, h8, hz⟩ := h
  have e1 := h4.2.1
  have e2 := h4.2.2.1
  have hno := h4.1
  have hn := h0.2.1.1.2
  refine s_1430 _ X i j a1 a2 a3 _ ⟨h4.sg, ?_, ?_⟩
  · rw [e1]
    exact fun z => s_1597 _ X i j _ _ _ _ (bq_t (by rw [e2]; exact z) ⟨rfl, ht⟩)
  rw [e1]
  intro z hO
  refine ⟨fun v => s_1597 _ X i j _ _ _ _ (bq_f (by rw [e2]; exact z) ⟨fun w => absurd w v, fun _ => ⟨rfl, ht⟩⟩), fun v => ?_⟩
  have z2 : nI 0 ≤ a1 ∧ a1 ≤ i 42 14 - nI 1 := by rw [e2]; exact z
  obtain ⟨s, hs, rfl⟩ := idx_of (by omega) z
  obtain ⟨q, hq1, hq, rfl⟩ := ev_rng (by decide) v.2
  obtain ⟨i1, hE1, f1, z1, r40, hL, hS⟩ := lov 0 X i j h0 h2 h4 hz (shlI (nI 1) (nI s)) a2 hq

  refine ⟨i1, hE1.up (by omega), ?_⟩
  have eP : ∀ t, (svP X i s t ∧ ¬ caF i n a2 q t) ↔ (svP X i s t ∧ ¬ caF i n a2 q t) := fun _ => Iff.rfl
  refine lup (n - q) (fun t (z : Int32 × (Nat → Nat → Int32) × (Nat → Nat → Int64)) => z.1 = nI (LM (fun t => svP X i s t ∧ ¬ caF i n a2 q t) t).length ∧ (∀ b, b ≠ 40 → z.2.1 b = i1 b) ∧ (∀ b, b ≠ 41 → z.2.2 b = j b) ∧ RWc z.2.1 z.2.2 (LM (fun t => svP X i s t ∧ ¬ caF i n a2 q t) t)) (fun t z => (38, [(0, .ref 2), (4, .int z.1), (5, .int (nI t))], [], mm X z.2.1 z.2.2)) ?_ ?_ 0 (nI 0, s2 i1 40 1 (nI 0), j) (Nat.zero_le _) ⟨rfl, fun b hb => s2_ne hb, fun _ _ => rfl, RWc0 (i := s2 i1 40 1 (nI 0)) (j := j) (s2_self _ _ _ _)⟩
  · rintro ⟨x, i2, j2⟩ ⟨hx2, f2, fj2, hR⟩
    dsimp only at hx2 f2 fj2 hR ⊢
    refine s_1430_38 _ X i2 j2 _ _ _ (br_t (by rw [f2 31 (by decide), hS.1]; exact Int32.le_refl _) (qI_of ?_))
    have F2 : FrC X i i2 := f1.tr (FrC_40 f2)
    have Z2 : RZ i2 := RZ_of z1 (f2 34 (by decide)) (f2 35 (by decide))
    have g42 : i2 42 = i 42 := F2 42 (Or.inl (show 0 < 10 by decide))
    refine s_1597 _ X i2 _ _ _ _ _ (bq_f (by rw [g42]; exact z2) (br_t v ?_))
    obtain ⟨i4, hE4, f4, -, p46, -, -, p72, p73⟩ := prpv 0 X i (s2 i2 42 36 (nI 0)) j2 h0 h2 h4 (F2.kp.tr (FrR_th (X := X) (nI 0)).kp) (shlI (nI 1) (nI s)) a2 hq
    refine ⟨i4, hE4.up (by omega), ?_⟩
    refine lup (n - q) (fun t (z : Int32 × (Nat → Nat → Int32) × (Nat → Nat → Int64)) => z.1 = nI (LM (fun t => svP X i s t ∧ ¬ caF i n a2 q t) t).length ∧ (∀ b, b ≠ 42 → z.2.1 b = i4 b) ∧ (∀ k, k ≠ 35 → z.2.1 42 k = i4 42 k) ∧ (∀ b, b ≠ 70 → z.2.2 b = j2 b) ∧ RWr z.2.1 z.2.2 (LM (fun t => svP X i s t ∧ ¬ caF i n a2 q t) t)) (fun t z => (43, [(0, .ref 42), (1, .int (nI s)), (4, .int z.1), (5, .int (nI t))], [], mm X z.2.1 z.2.2)) ?_ ?_ 0 (nI 0, s2 i4 42 35 (nI 0), j2) (Nat.zero_le _) ⟨rfl, fun b hb => s2_ne hb, fun k hk => by dsimp only; rw [s2_ne2 hk], fun _ _ => rfl, RWr0 (i := s2 i4 42 35 (nI 0)) (j := j2) (s2_self _ _ _ _)⟩
    · rintro ⟨y, i5, j5⟩ ⟨hy, f5, f5k, fj5, hR5⟩
      dsimp only at hy f5 f5k fj5 hR5 ⊢
      refine s_1597_43 _ X i5 j5 _ _ _ _ (br_t (by rw [f5k 46 (by decide), p46]; exact Int32.le_refl _) (qI_of ⟨hx2.trans hy.symm, hK.k (fin_row hrel F2 Z2 (((FrR_th (nI 0)).tr f4.fr).tr (FrR_42 f5 (fun k hk => f5k k (by omega)))) (RW8 (hR.kp ?_ (fj5 41 (by decide))) hR5))⟩))
      rw [f5 40 (by decide), f4.1 40 (show ¬ (48 : Nat) = 40 by decide) (by decide), s2_ne (show 40 ≠ 42 by decide)]
    · rintro t ⟨y, i5, j5⟩ ht2 ⟨hy, f5, f5k, fj5, hR5⟩ go
      dsimp only at hy f5 f5k fj5 hR5 ⊢
      refine s_1597_43 _ X i5 j5 _ _ _ _ (br_f (by rw [f5k 46 (by decide), p46]; exact nI_ge ht2 (by omega)) ⟨vp_in_nI (by omega) (by decide), ?_⟩)
      have hl := LM_le (fun t => svP X i s t ∧ ¬ caF i n a2 q t) t
      rw [tc_nI (by omega), f5 72 (by decide), f5 73 (by decide), p72 t (by omega), p73 t ht2, bi_eq0, propext (soF_r hno hs t), nI_add, hy, nI_add]
      refine bq_c (fun w => go (nI (LM (fun t => svP X i s t ∧ ¬ caF i n a2 q t) t).length, i5, j5) ⟨by dsimp only; rw [LM_f (fun u => w u.1)], f5, f5k, fj5, by dsimp only; rw [LM_f (fun u => w u.1)]; exact hR5⟩) (fun w => br_c (fun w2 => ?_) (fun w2 => go (nI (LM (fun t => svP X i s t ∧ ¬ caF i n a2 q t) t).length, i5, j5) ⟨by dsimp only; rw [LM_f (fun u => w2 u.2)], f5, f5k, fj5, by dsimp only; rw [LM_f (fun u => w2 u.2)]; exact hR5⟩))
      refine stR (cf := fun i' j' => (43, [(0, .ref 42), (1, .int (nI s)), (4, .int (nI ((LM (fun t => svP X i s t ∧ ¬ caF i n a2 q t) t).length + 1))), (5, .int (nI (t + 1)))], [], mm X i' j')) hR5 (by omega) fun i' j' e1 e2 e3 e4 => go (nI ((LM (fun t => svP X i s t ∧ ¬ caF i n a2 q t) t).length + 1), i', j') ⟨by dsimp only; rw [LM_t ⟨w, w2⟩, List.length_append]; rfl, fun b hb => (e1 b hb).trans (f5 b hb), fun k hk => (e2 k hk).trans (f5k k hk), fun b hb => (e3 b hb).trans (fj5 b hb), by dsimp only; rw [LM_t ⟨w, w2⟩]; exact e4⟩
  · rintro t ⟨x, i2, j2⟩ ht2 ⟨hx2, f2, fj2, hR⟩ go
    dsimp only at hx2 f2 fj2 hR ⊢
    have hS2 := hS.kp (f2 31 (by decide)) (f2 32 (by decide)) (f2 33 (by decide))
    have hl := LM_le (fun t => svP X i s t ∧ ¬ caF i n a2 q t) t
    refine s_1430_38 _ X i2 j2 _ _ _ (br_f (by rw [hS2.1]; exact nI_ge ht2 (by omega)) ⟨hS2.ok, ?_⟩)
    rw [propext (hS2.st ht2), propext (hS2.cm ht2), propext (soF_c hno hs t), nI_add, hx2, nI_add]
    refine bq_c (fun w => go (nI (LM (fun t => svP X i s t ∧ ¬ caF i n a2 q t) t).length, i2, j2) ⟨by dsimp only; rw [LM_f (fun u => w u.1)], f2, fj2, by dsimp only; rw [LM_f (fun u => w u.1)]; exact hR⟩) (fun w => br_c (fun w2 => go (nI (LM (fun t => svP X i s t ∧ ¬ caF i n a2 q t) t).length, i2, j2) ⟨by dsimp only; rw [LM_f (fun u => u.2 w2)], f2, fj2, by dsimp only; rw [LM_f (fun u => u.2 w2)]; exact hR⟩) (fun w2 => ?_))
    refine stC (X := X) (cf := fun i' j' => (38, [(0, .ref 2), (4, .int (nI ((LM (fun t => svP X i s t ∧ ¬ caF i n a2 q t) t).length + 1))), (5, .int (nI (t + 1)))], [], mm X i' j')) hR fun i' j' e1 e3 e4 => go (nI ((LM (fun t => svP X i s t ∧ ¬ caF i n a2 q t) t).length + 1), i', j') ⟨by dsimp only; rw [LM_t ⟨w, w2⟩, List.length_append]; rfl, fun b hb => (e1 b hb).trans (f2 b hb), fun b hb => (e3 b hb).trans (fj2 b hb), by dsimp only; rw [LM_t ⟨w, w2⟩]; exact e4⟩

set_option maxRecDepth 100000 in
theorem s_1444 (d : Nat) (X : XS) (i : Nat → Nat → Int32) (j : Nat → Nat → Int64) (a1 : Int32) (K : Int32 → AM → Prop) (h : (((nI 1) ≤ a1 ∧ a1 ≤ (nI 6) → WP (d + 2) 1444 (23, [(0, .ref 2), (1, .int a1), (2, .int (nI 0)), (3, .int (nI 0))], [], (mm X (s2 i 40 1 (nI 0)) j)) (qI K)) ∧ (¬ ((nI 1) ≤ a1 ∧ a1 ≤ (nI 6)) → K (kI (-1)) (mm X i j)))) : WI (d + 2) 1444 [.ref 2, .int a1] (mm X i j) K := te_1444 (d + 1) 2 a1 (mm X i j) (qI K) (p_1462 (d + 1) X i j a1 (nI 1) (nI 6) _ ⟨fun e1 => ⟨rfl, ⟨rfl, (te_641 (d + 1) 40 (mm X i j) _ ⟨rfl, ⟨rfl, (h.1 ((bi_n e1)))⟩⟩)⟩⟩, fun e1 => ⟨_, rfl, (h.2 ((bi_nn e1)))⟩⟩)
set_option maxRecDepth 100000 in
theorem s_1444_23 (d : Nat) (X : XS) (i : Nat → Nat → Int32) (j : Nat → Nat → Int64) (v1 : Int32) (v2 : Int32) (v3 : Int32) (Q : Option (Option Value) → AM → Prop) (h : (((i 9 3) ≤ (v3 + v1) → Q (some (some (.int v2))) (mm X i j)) ∧ (¬ ((i 9 3) ≤ (v3 + v1)) → (∃ (x3 : Int32), EvI (d + 1) 138 [.ref 9, .int v3, .int v1] (mm X i j) x3 (mm X i j) ∧ ((¬ (x3 = v1) → WP (d + 2) 1444 (23, [(0, .ref 2), (1, .int v1), (2, .int v2), (3, .int (v3 + (nI 1)))], [], (mm X i j)) Q) ∧ (x3 = v1 → (((nI 20) ≤ (i 40 1) → WP (d + 2) 1444 (23, [(0, .ref 2), (1, .int v1), (2, .int (v2 + (nI 1))), (3, .int (v3 + (v1 + (nI 1))))], [], (mm X i j)) Q) ∧ (¬ ((nI 20) ≤ (i 40 1)) → (vp_in (i 40 1) 20) ∧ WP (d + 2) 1444 (23, [(0, .ref 2), (1, .int v1), (2, .int (v2 + (nI 1))), (3, .int (v3 + (v1 + (nI 1))))], [], (mm X (s2 i 40 1 ((i 40 1) + (nI 1))) (s2 j 41 ((i 40 1).toNatClampNeg) (v3.toInt64)))) Q)))))))) : WP (d + 2) 1444 (23, [(0, .ref 2), (1, .int v1), (2, .int v2), (3, .int v3)], [], mm X i j) Q := tc_1444_23 (d + 1) 2 v1 v2 v3 (mm X i j) Q ⟨rfl, ⟨rfl, (te_129 (d + 1) 9 (mm X i j) _ ⟨rfl, ⟨_, rfl, ⟨fun e2 => (h.1 (e2)), fun e2 => ⟨rfl, ⟨rfl, (Exists.elim (h.2 (e2)) fun x3 h6 => EvI.use h6.1 ⟨fun e4 => (h6.2.1 (e4)), fun e4 => ⟨rfl, ⟨rfl, (te_642 (d + 1) 40 (v3.toInt64) (mm X i j) _ ⟨rfl, ⟨fun e5 => ⟨rfl, ((h6.2.2 ((Classical.byContradiction e4))).1 (e5))⟩, fun e5 => ⟨rfl, ⟨rfl, ⟨⟨rfl, ((h6.2.2 ((Classical.byContradiction e4))).2 (e5)).1⟩, ⟨rfl, ⟨rfl, ⟨rfl, ((h6.2.2 ((Classical.byContradiction e4))).2 (e5)).2⟩⟩⟩⟩⟩⟩⟩⟩)⟩⟩⟩)⟩⟩⟩⟩⟩)⟩⟩
set_option maxRecDepth 100000 in
theorem s_1625 (d : Nat) (X : XS) (i : Nat → Nat → Int32) (j : Nat → Nat → Int64) (a1 : Int32) (K : Int32 → AM → Prop) (h : (((nI 1) ≤ a1 ∧ a1 ≤ (nI 6) → WP (d + 1) 1625 (26, [(0, .ref 42), (1, .int a1), (2, .int (nI 0)), (3, .int (nI 0))], [], (mm X (s2 (s2 i 42 36 (nI 0)) 42 35 (nI 0)) j)) (qI K)) ∧ (¬ ((nI 1) ≤ a1 ∧ a1 ≤ (nI 6)) → K (kI (-1)) (mm X (s2 i 42 36 (nI 0)) j)))) : WI (d + 1) 1625 [.ref 42, .int a1] (mm X i j) K := te_1625 d 42 a1 (mm X i j) (qI K) ⟨rfl, (p_1538 d X (s2 i 42 36 (nI 0)) j a1 (nI 1) (nI 6) _ ⟨fun e1 => ⟨rfl, (h.1 ((bi_n e1)))⟩, fun e1 => ⟨_, rfl, (h.2 ((bi_nn e1)))⟩⟩)⟩
set_option maxRecDepth 100000 in
theorem s_1625_26 (d : Nat) (X : XS) (i : Nat → Nat → Int32) (j : Nat → Nat → Int64) (v1 : Int32) (v2 : Int32) (v3 : Int32) (Q : Option (Option Value) → AM → Prop) (h : (((i 42 0) ≤ (v3 + v1) → Q (some (some (.int v2))) (mm X i j)) ∧ (¬ ((i 42 0) ≤ (v3 + v1)) → (∃ (x3 : Int32), EvI d 1623 [.ref 42, .int v3, .int v1] (mm X i j) x3 (mm X i j) ∧ ((x3 = (kI (-1)) → (((nI 20) ≤ v2 → WP (d + 1) 1625 (26, [(0, .ref 42), (1, .int v1), (2, .int (v2 + (nI 1))), (3, .int (v3 + (v1 + (nI 1))))], [], (mm X i j)) Q) ∧ (¬ ((nI 20) ≤ v2) → (vp_in (i 42 35) 32) ∧ WP (d + 1) 1625 (26, [(0, .ref 42), (1, .int v1), (2, .int (v2 + (nI 1))), (3, .int (v3 + (v1 + (nI 1))))], [], (mm X (s2 i 42 35 ((i 42 35) + (nI 1))) (s2 j 70 ((i 42 35).toNatClampNeg) (v3.toInt64)))) Q))) ∧ (¬ (x3 = (kI (-1))) → WP (d + 1) 1625 (26, [(0, .ref 42), (1, .int v1), (2, .int v2), (3, .int (v3 + (nI 1)))], [], (mm X i j)) Q)))))) : WP (d + 1) 1625 (26, [(0, .ref 42), (1, .int v1), (2, .int v2), (3, .int v3)], [], mm X i j) Q := tc_1625_26 d 42 v1 v2 v3 (mm X i j) Q ⟨rfl, ⟨fun e2 => (h.1 (e2)), fun e2 => ⟨rfl, (Exists.elim (h.2 (e2)) fun x3 h6 => EvI.use h6.1 ⟨fun e4 => ⟨fun e5 => ((h6.2.1 (e4)).1 (e5)), fun e5 => ⟨rfl, (te_1540 d 42 (v3.toInt64) (mm X i j) _ ⟨rfl, ⟨rfl, ⟨⟨rfl, ((h6.2.1 (e4)).2 (e5)).1⟩, ⟨rfl, ⟨rfl, ⟨rfl, ((h6.2.1 (e4)).2 (e5)).2⟩⟩⟩⟩⟩⟩)⟩⟩, fun e4 => (h6.2.2 (e4))⟩)⟩⟩⟩
/-- the days on which hay is cut, from t on -/
noncomputable def fld (g : Nat → Prop) (n h : Nat) : Nat → Nat → List Nat
  | 0, _ => []
  | f + 1, t => @ite _ (t + h < n) (Classical.propDecidable _) (@ite _ (g t) (Classical.propDecidable _) (t :: fld g n h f (t + h + 1)) (fld g n h f (t + 1))) []
theorem fld_end {g : Nat → Prop} {n h f t : Nat} (z : ¬ t + h < n) : fld g n h f t = [] := by
  cases f with
  | zero => rfl
  | succ f => rw [fld, if_neg z]
theorem fld_y {g : Nat → Prop} {n h t : Nat} (z : t + h < n) (y : g t) : ∀ f, n - t < f → fld g n h f t = t :: fld g n h (f - 1) (t + h + 1)
  | 0, hf => absurd hf (by omega)
  | f + 1, hf => by rw [fld, if_pos z, if_pos y]; rfl
theorem fld_n {g : Nat → Prop} {n h t : Nat} (z : t + h < n) (y : ¬ g t) : ∀ f, n - t < f → fld g n h f t = fld g n h (f - 1) (t + 1)
  | 0, hf => absurd hf (by omega)
  | f + 1, hf => by rw [fld, if_pos z, if_neg y]; rfl
theorem k_35 (d : Nat) {X : XS} {i : Nat → Nat → Int32} {j : Nat → Nat → Int64} (h : Rel X i j) (a1 : Int32) {Kf : AM → Prop} (hK : Nx X Kf) : WI (d + 300) 1444 [.ref 2, .int a1] (mm X i j) (fun x1 M1 => WI (d + 300) 1625 [.ref 42, .int a1] M1 (fun x2 M2 => x1 = x2 ∧ Kf M2)) := by
  have ht := hK.th h
  have hrel := h
  obtain ⟨hx, ⟨⟨n, h0⟩, h1, ⟨ng, h2, no, h4⟩, ⟨tn, h3⟩, ⟨np, h5⟩, h6, ns, h7⟩, h8, hz⟩ := h

  have hn := h0.2.1.1.2
  have hD := h0.2.1
  have gdec := fun t => frd_le (wv n (i 43)) t
  by_cases v : nI 1 ≤ a1 ∧ a1 ≤ nI 6
  · obtain ⟨m, hm1, hm, rfl⟩ := ev_rng (by decide) v
    refine s_1444 _ X i j _ _ (br_t v ?_)
    obtain ⟨G, hG⟩ : ∃ G : Nat → Prop, G = fun t => frd (wv n (i 43)) t m = m := ⟨_, rfl⟩
    obtain ⟨LL, hLL⟩ : ∃ LL, LL = fld G n m (n + 1) 0 := ⟨_, rfl⟩
    -- the class
    refine lwh (σ := Nat × Nat × List Nat × (Nat → Nat → Int32) × (Nat → Nat → Int64)) (fun z => n - z.1 < z.2.1 ∧ z.1 ≤ n + 7 ∧ z.2.2.1.length ≤ z.1 ∧ z.2.2.1 ++ fld G n m z.2.1 z.1 = LL ∧ (∀ b, b ≠ 40 → z.2.2.2.1 b = i b) ∧ (∀ b, b ≠ 41 → z.2.2.2.2 b = j b) ∧ RWc z.2.2.2.1 z.2.2.2.2 z.2.2.1) (fun z => z.2.1) (fun z => (23, [(0, .ref 2), (1, .int (nI m)), (2, .int (nI z.2.2.1.length)), (3, .int (nI z.1))], [], mm X z.2.2.2.1 z.2.2.2.2)) ?_ (0, n + 1, [], s2 i 40 1 (nI 0), j) ⟨by dsimp only; omega, by dsimp only; omega, Nat.le_refl _, by rw [hLL]; rfl, fun b hb => s2_ne hb, fun _ _ => rfl, RWc0 (i := s2 i 40 1 (nI 0)) (j := j) (s2_self _ _ _ _)⟩
    rintro ⟨t, f, L, i2, j2⟩ ⟨hf, ht7, hlt, hL, f2, fj2, hR⟩ go
    dsimp only at hf ht7 hlt hL f2 fj2 hR ⊢
    have hD2 : DY X 9 i2 n (i 43) (i 44) (i 45) := hD.kp (f2 9 (by decide)) (f2 10 (by decide)) (f2 11 (by decide)) (f2 12 (by decide))
    refine s_1444_23 _ X i2 j2 _ _ _ _ ?_
    rw [hD2.1.1, nI_add t m]
    by_cases z : t + m < n
    · refine br_f (nI_ge z (by omega)) ⟨_, (c_138 _ X i2 j2 9 (DO9 X) hD2 t m (by omega)), ?_⟩
      have hfr := gdec t m
      have hGt : nI (frd (wv n (i 43)) t m) = nI m ↔ G t := by rw [nI_eq (by omega) (by omega), hG]
      rw [hGt, nI_add, nI_add, nI_add, nI_add]
      refine bq_c (fun y => ?_) (fun y => ?_)
      · refine go (t + 1, f - 1, L, i2, j2) ⟨by dsimp only; omega, by dsimp only; omega, by dsimp only; omega, by dsimp only; rw [← fld_n z y f hf]; exact hL, f2, fj2, hR⟩ (by dsimp only; omega)
      · refine stC (X := X) (cf := fun i' j' => (23, [(0, .ref 2), (1, .int (nI m)), (2, .int (nI (L.length + 1))), (3, .int (nI (t + (m + 1))))], [], mm X i' j')) hR fun i' j' e1 e3 e4 => ?_
        have := go (t + m + 1, f - 1, L ++ [t], i', j') ⟨by dsimp only; omega, by dsimp only; omega, by dsimp only; rw [List.length_append]; simp; omega, by dsimp only; rw [List.append_assoc, List.singleton_append, ← fld_y z y f hf]; exact hL, fun b hb => (e1 b hb).trans (f2 b hb), fun b hb => (e3 b hb).trans (fj2 b hb), e4⟩ (by dsimp only; omega)
        simpa [List.length_append, Nat.add_assoc] using this
    · refine br_t (nI_le (by omega) (by omega)) (qI_of ?_)
      rw [fld_end z, List.append_nil] at hL
      have F2 : FrC X i i2 := FrC_40 f2
      have Z2 : RZ i2 := RZ_of hz (f2 34 (by decide)) (f2 35 (by decide))
      have g42 : i2 42 = i 42 := f2 42 (by decide)
      refine s_1625 _ X i2 j2 _ _ (br_t v ?_)
      obtain ⟨i3, hi3⟩ : ∃ i3, i3 = s2 (s2 i2 42 36 (nI 0)) 42 35 (nI 0) := ⟨_, rfl⟩
      rw [← hi3]
      have f3 : ∀ b, b ≠ 42 → i3 b = i2 b := fun b hb => by rw [hi3, s2_ne hb, s2_ne hb]
      have f3k : ∀ k, k < 35 → i3 42 k = i 42 k := fun k hk => by rw [hi3, s2_ne2 (by omega), s2_ne2 (by omega), g42]
      refine lwh (σ := Nat × Nat × List Nat × (Nat → Nat → Int32) × (Nat → Nat → Int64)) (fun z => n - z.1 < z.2.1 ∧ z.1 ≤ n + 7 ∧ z.2.2.1.length ≤ z.1 ∧ z.2.2.1 ++ fld G n m z.2.1 z.1 = LL ∧ (∀ b, b ≠ 42 → z.2.2.2.1 b = i3 b) ∧ (∀ k, k ≠ 35 → z.2.2.2.1 42 k = i3 42 k) ∧ (∀ b, b ≠ 70 → z.2.2.2.2 b = j2 b) ∧ RWr z.2.2.2.1 z.2.2.2.2 z.2.2.1) (fun z => z.2.1) (fun z => (26, [(0, .ref 42), (1, .int (nI m)), (2, .int (nI z.2.2.1.length)), (3, .int (nI z.1))], [], mm X z.2.2.2.1 z.2.2.2.2)) ?_ (0, n + 1, [], i3, j2) ⟨by dsimp only; omega, by dsimp only; omega, Nat.le_refl _, by rw [hLL]; rfl, fun _ _ => rfl, fun _ _ => rfl, fun _ _ => rfl, RWr0 (i := i3) (j := j2) (by rw [hi3, s2_self])⟩
      rintro ⟨t2, f2', L2, i5, j5⟩ ⟨hf5, ht75, hlt5, hL5, f5, f5k, fj5, hR5⟩ go2
      dsimp only at hf5 ht75 hlt5 hL5 f5 f5k fj5 hR5 ⊢
      refine s_1625_26 _ X i5 j5 _ _ _ _ ?_
      rw [f5k 0 (by decide), f3k 0 (by decide), h0.1, nI_add t2 m]
      by_cases z5 : t2 + m < n
      · refine br_f (nI_ge z5 (by omega)) ⟨_, (c_1623 _ X i5 j5 (n := n) (w := i 43) hn (fun t _ => by rw [f5 43 (by decide), f3 43 (by decide), f2 43 (by decide)]) t2 m (by omega)), ?_⟩
        have hfr := gdec t2 m
        have hGt : (if frd (wv n (i 43)) t2 m = m then kI (-1) else nI (t2 + frd (wv n (i 43)) t2 m + 1)) = kI (-1) ↔ G t2 := by
          rw [hG]
          dsimp only
          by_cases hh : frd (wv n (i 43)) t2 m = m
          · rw [if_pos hh]; exact ⟨fun _ => hh, fun _ => rfl⟩
          · rw [if_neg hh]; exact ⟨fun y => absurd y (nIm1 (by omega)), fun y => absurd y hh⟩
        rw [hGt, nI_add, nI_add, nI_add, nI_add]
        refine br_c (fun y => ?_) (fun y => ?_)
        · refine stR (cf := fun i' j' => (26, [(0, .ref 42), (1, .int (nI m)), (2, .int (nI (L2.length + 1))), (3, .int (nI (t2 + (m + 1))))], [], mm X i' j')) hR5 (by omega) fun i' j' e1 e2 e3 e4 => ?_
          have := go2 (t2 + m + 1, f2' - 1, L2 ++ [t2], i', j') ⟨by dsimp only; omega, by dsimp only; omega, by dsimp only; rw [List.length_append]; simp; omega, by dsimp only; rw [List.append_assoc, List.singleton_append, ← fld_y z5 y f2' hf5]; exact hL5, fun b hb => (e1 b hb).trans (f5 b hb), fun k hk => (e2 k hk).trans (f5k k hk), fun b hb => (e3 b hb).trans (fj5 b hb), e4⟩ (by dsimp only; omega)
          simpa [List.length_append, Nat.add_assoc] using this
        · exact go2 (t2 + 1, f2' - 1, L2, i5, j5) ⟨by dsimp only; omega, by dsimp only; omega, by dsimp only; omega, by dsimp only; rw [← fld_n z5 y f2' hf5]; exact hL5, f5, f5k, fj5, hR5⟩ (by dsimp only; omega)
      · rw [fld_end z5, List.append_nil] at hL5
        refine br_t (nI_le (by omega) (by omega)) (qI_of ⟨by rw [hL, hL5], hK.k (fin_row hrel F2 Z2 (FrR_42 (fun b hb => (f5 b hb).trans (f3 b hb)) (fun k hk => by rw [f5k k (by omega), f3k k hk, g42])) (RW8 (hR.kp (by rw [f5 40 (by decide), f3 40 (by decide)]) (fj5 41 (by decide))) (by rw [hL, ← hL5]; exact hR5)))⟩)
  · refine s_1444 _ X i j _ _ (br_f v ?_)
    exact s_1625 _ X i j _ _ (br_f v ⟨rfl, ht⟩)
