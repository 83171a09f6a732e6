/-! ===== cry, drum: the calls ===== -/
theorem mn_nI {a b : Nat} (ha : a < 2 ^ 31) (hb : b < 2 ^ 31) : mnI (nI a) (nI b) = nI (min a b) := by
  unfold mnI
  by_cases h : b < a
  · rw [if_pos ((nI_ltI hb ha).mpr h), Nat.min_eq_right (by omega)]
  · rw [if_neg (fun z => h ((nI_ltI hb ha).mp z)), Nat.min_eq_left (by omega)]
theorem FrC_w {X : XS} {i i' : Nat → Nat → Int32} (h : ∀ b, b ≠ 37 → b ≠ 38 → b ≠ 39 → i' b = i b) : FrC X i i' := by
  have t : (¬ (xt X 37 < 10 ∨ 50 ≤ xt X 37 ∨ xt X 37 = 40)) ∧ (¬ (xt X 38 < 10 ∨ 50 ≤ xt X 38 ∨ xt X 38 = 40)) ∧ ¬ (xt X 39 < 10 ∨ 50 ≤ xt X 39 ∨ xt X 39 = 40) := by
    refine ⟨fun z => ?_, fun z => ?_, fun z => ?_⟩
    · exact absurd (show TF 37 < 10 ∨ 50 ≤ TF 37 ∨ TF 37 = 40 from z) (by decide)
    · exact absurd (show TF 38 < 10 ∨ 50 ≤ TF 38 ∨ TF 38 = 40 from z) (by decide)
    · exact absurd (show TF 39 < 10 ∨ 50 ≤ TF 39 ∨ TF 39 = 40 from z) (by decide)
  exact fun b hb => h b (fun e => by subst e; omega) (fun e => by subst e; omega) (fun e => by subst e; omega)
theorem FrR_47 {X : XS} {i i' : Nat → Nat → Int32} (h : ∀ b, b ≠ 42 → b ≠ 74 → i' b = i b) (h2 : ∀ k, k < 35 → i' 42 k = i 42 k) : FrR X i i' := ⟨fun b hb h42 => h b h42 (fun e => by subst e; exact hb rfl), h2⟩
/-- how many of the latest m times it came, m if fewer were -/
noncomputable def foN (A ca : Nat → Prop) (m t : Nat) : Nat := if ct A t < m then m else (lat A ca 0 t m).2
noncomputable def mqN (A ca : Nat → Prop) (m : Nat) : Nat → Nat
  | 0 => m
  | t + 1 => @ite _ (A t) (Classical.propDecidable _) (min (mqN A ca m t) (foN A ca m t)) (mqN A ca m t)
theorem mq_y {A ca : Nat → Prop} {m t : Nat} (h : A t) : mqN A ca m (t + 1) = min (mqN A ca m t) (foN A ca m t) := by rw [mqN, if_pos h]
theorem mq_n {A ca : Nat → Prop} {m t : Nat} (h : ¬ A t) : mqN A ca m (t + 1) = mqN A ca m t := by rw [mqN, if_neg h]
theorem le_mq {A ca : Nat → Prop} {m q : Nat} : ∀ {t : Nat}, (q ≤ mqN A ca m t ↔ q ≤ m ∧ ∀ u, u < t → A u → q ≤ foN A ca m u)
  | 0 => ⟨fun h => ⟨h, fun u hu => absurd hu (by omega)⟩, fun h => h.1⟩
  | t + 1 => by
    have ih := le_mq (A := A) (ca := ca) (m := m) (q := q) (t := t)
    by_cases ha : A t
    · rw [mq_y ha]
      refine ⟨fun h => ⟨(ih.mp (by omega)).1, fun u hu hA => ?_⟩, fun h => ?_⟩
      · by_cases e : u = t
        · subst e; omega
        · exact (ih.mp (by omega)).2 u (by omega) hA
      · have h1 := ih.mpr ⟨h.1, fun u hu hA => h.2 u (by omega) hA⟩
        have h2 := h.2 t (by omega) ha
        omega
    · rw [mq_n ha]
      refine ⟨fun h => ⟨(ih.mp h).1, fun u hu hA => ?_⟩, fun h => ih.mpr ⟨h.1, fun u hu hA => h.2 u (by omega) hA⟩⟩
      by_cases e : u = t
      · subst e; exact absurd hA ha
      · exact (ih.mp h).2 u (by omega) hA
theorem le_fo {A ca : Nat → Prop} {m q t : Nat} (hq : q ≤ m) (ha : A t) : q ≤ foN A ca m t ↔ ¬ UH A ca m q t := by
  unfold foN UH
  split
  · exact ⟨fun _ h => by omega, fun _ => hq⟩
  · exact ⟨fun h w => by omega, fun h => Classical.byContradiction fun w => h ⟨ha, by omega, by omega⟩⟩
theorem mq_le {A ca : Nat → Prop} {m t : Nat} : mqN A ca m t ≤ m := (le_mq.mp (Nat.le_refl _)).1
theorem fo_le {A ca : Nat → Prop} {m t : Nat} (ht : t ≤ 240) (hm : m ≤ 240) : foN A ca m t ≤ 240 := by
  unfold foN
  split
  · exact hm
  · have : ∀ v r, (lat A ca 0 v r).2 ≤ v := fun v => by
      induction v with
      | zero => exact fun _ => Nat.le_refl _
      | succ v ih =>
        intro r
        by_cases h : A v
        · by_cases h0 : r = 0
          · rw [lat_e h (Or.inr h0)]; exact Nat.zero_le _
          · rw [lat_y h (by omega)]
            have := ih (r - 1)
            by_cases hcv : ca v
            · rw [b01_t hcv]; dsimp only; omega
            · rw [b01_f hcv]; dsimp only; omega
        · rw [lat_n h]; have := ih r; omega
    have := this t m
    omega
set_option maxRecDepth 100000 in
theorem s_1442 (d : Nat) (X : XS) (i : Nat → Nat → Int32) (j : Nat → Nat → Int64) (a1 : Int32) (a2 : Int32) (a3 : Int32) (K : Int32 → AM → Prop) (h : (SGs X i) ∧ ((¬ ((nI 0) ≤ a1 ∧ a1 ≤ ((i 2 7) - (nI 1)))) → K (kI (-1)) (mm X i j)) ∧ (((nI 0) ≤ a1 ∧ a1 ≤ ((i 2 7) - (nI 1))) → (OO X (xr X 23 (a1.toNatClampNeg))) → ((¬ (((nI 1) ≤ a2 ∧ a2 ≤ (nI 3)) ∧ ((nI 1) ≤ (nI 1) ∧ (nI 1) ≤ (nI 9))) → K (kI (-1)) (mm X i j)) ∧ (((nI 1) ≤ a2 ∧ a2 ≤ (nI 3)) ∧ ((nI 1) ≤ (nI 1) ∧ (nI 1) ≤ (nI 9)) → ((¬ ((nI 1) ≤ a3 ∧ a3 ≤ (nI 20)) → K (kI (-1)) (mm X i j)) ∧ ((nI 1) ≤ a3 ∧ a3 ≤ (nI 20) → (∃ (i16 : Nat → Nat → Int32), EvV (d + 4) 1476 [.ref 2, .ref 9, .int (shlI (nI 1) a1), .int a2, .int (nI 1)] (mm X i j) (mm X i16 j) ∧ WP (d + 5) 1442 (38, [(0, .ref 2), (3, .int a3), (4, .int a3), (5, .int (nI 0))], [], (mm X (s2 (s2 (s2 (s2 (s2 (s2 i16 37 2 (nI 0)) 37 5 (nI 0)) 37 6 (nI 0)) 37 7 (nI 0)) 37 8 (nI 0)) 37 9 (kI (-2))) j)) (qI K)))))))) : WI (d + 5) 1442 [.ref 2, .int a1, .int a2, .int a3] (mm X i j) K := te_1442 (d + 4) 2 a1 a2 a3 (mm X i j) (qI K) ⟨rfl, (te_1472 (d + 3) 2 a1 a3 a2 (mm X i j) _ ⟨rfl, (te_1471 (d + 2) 2 a1 a2 (nI 1) (mm X i j) _ ⟨rfl, (p_1468 (d + 1) X i j a1 _ ⟨h.1, (fun h2 => ⟨fun _ => ⟨k0_01, ⟨_, rfl, ⟨fun _ => ⟨k0_01, ⟨_, rfl, ⟨fun e5 => absurd e5 (show ¬ (¬ (nI 0) = 0) by decide), fun _ => ⟨_, rfl, (h.2.1 h2)⟩⟩⟩⟩, fun e4 => absurd (show (nI 0) = 0 by decide) e4⟩⟩⟩, fun e3 => absurd rfl e3⟩), (fun h6 h7 => ⟨fun e8 => absurd e8 (nz_k (h7.1)), fun _ => (p_1464 (d + 1) X i j a2 (nI 1) _ ⟨fun e9 => ⟨k0_01, ⟨_, rfl, ⟨fun _ => ⟨k0_01, ⟨_, rfl, ⟨fun e11 => absurd e11 (show ¬ (¬ (nI 0) = 0) by decide), fun _ => ⟨_, rfl, ((h.2.2 h6 h7).1 ((bi_z e9)))⟩⟩⟩⟩, fun e10 => absurd (show (nI 0) = 0 by decide) e10⟩⟩⟩, fun e9 => ⟨k1_01, ⟨_, rfl, ⟨fun e12 => absurd e12 (show ¬ ((nI 1) = 0) by decide), fun _ => (p_1462 (d + 3) X i j a3 (nI 1) (nI 20) _ ⟨fun e13 => ⟨k0_01, ⟨_, rfl, ⟨fun e14 => absurd e14 (show ¬ (¬ (nI 0) = 0) by decide), fun _ => ⟨_, rfl, (((h.2.2 h6 h7).2 ((bi_n e9))).1 ((bi_z e13)))⟩⟩⟩⟩, fun e13 => ⟨k1_01, ⟨_, rfl, ⟨fun _ => ⟨rfl, ⟨rfl, (Exists.elim (((h.2.2 h6 h7).2 ((bi_n e9))).2 ((bi_n e13))) fun i16 h17 => EvV.use h17.1 ⟨rfl, ⟨rfl, (te_1281 (d + 4) 37 (mm X i16 j) _ ⟨rfl, ⟨rfl, ⟨rfl, (tc_1281_15 (d + 4) 37 (mm X (s2 (s2 (s2 i16 37 2 (nI 0)) 37 5 (nI 0)) 37 6 (nI 0)) j) _ ⟨rfl, ⟨rfl, ⟨rfl, ⟨rfl, h17.2⟩⟩⟩⟩)⟩⟩⟩)⟩⟩)⟩⟩, fun e15 => absurd (show ¬ (nI 1) = 0 by decide) e15⟩⟩⟩⟩)⟩⟩⟩⟩)⟩)⟩)⟩)⟩)⟩
set_option maxRecDepth 100000 in
theorem s_1442_38 (d : Nat) (X : XS) (i : Nat → Nat → Int32) (j : Nat → Nat → Int64) (v3 : Int32) (v4 : Int32) (v5 : Int32) (Q : Option (Option Value) → AM → Prop) (h : (((i 31 2) ≤ v5 → Q (some (some (.int v4))) (mm X i j)) ∧ (¬ ((i 31 2) ≤ v5) → ((i 31 2) ≤ (nI 240)) ∧ ((¬ (sOn (i 31 2) (i 32) v5) → WP (d + 5) 1442 (38, [(0, .ref 2), (3, .int v3), (4, .int v4), (5, .int (v5 + (nI 1)))], [], (mm X i j)) Q) ∧ (sOn (i 31 2) (i 32) v5 → ((v3 ≤ (i 37 2) → (∃ (i22 : Nat → Nat → Int32), EvV (d + 3) 1285 [.ref 37, .int v3, .int (nI 0)] (mm X (s2 (s2 i 37 3 (nI 0)) 37 4 (nI 0)) j) (mm X i22 j) ∧ ((i22 31 2) ≤ (nI 240)) ∧ (((nI 240) ≤ (i22 37 2) → WP (d + 5) 1442 (38, [(0, .ref 2), (3, .int v3), (4, .int (mnI v4 (i22 37 4))), (5, .int (v5 + (nI 1)))], [], (mm X i22 j)) Q) ∧ (¬ ((nI 240) ≤ (i22 37 2)) → (vp_in (i22 37 2) 240) ∧ WP (d + 5) 1442 (38, [(0, .ref 2), (3, .int v3), (4, .int (mnI v4 (i22 37 4))), (5, .int (v5 + (nI 1)))], [], (mm X (s2 (s2 (s2 i22 38 ((i22 37 2).toNatClampNeg) v5) 39 ((i22 37 2).toNatClampNeg) (bnar 21 (bi (sOn (i22 31 2) (i22 33) v5)))) 37 2 ((i22 37 2) + (nI 1))) j)) Q)))) ∧ (¬ (v3 ≤ (i 37 2)) → (((nI 240) ≤ (i 37 2) → WP (d + 5) 1442 (38, [(0, .ref 2), (3, .int v3), (4, .int (mnI v4 v3)), (5, .int (v5 + (nI 1)))], [], (mm X i j)) Q) ∧ (¬ ((nI 240) ≤ (i 37 2)) → (vp_in (i 37 2) 240) ∧ WP (d + 5) 1442 (38, [(0, .ref 2), (3, .int v3), (4, .int (mnI v4 v3)), (5, .int (v5 + (nI 1)))], [], (mm X (s2 (s2 (s2 i 38 ((i 37 2).toNatClampNeg) v5) 39 ((i 37 2).toNatClampNeg) (bnar 21 (bi (sOn (i 31 2) (i 33) v5)))) 37 2 ((i 37 2) + (nI 1))) j)) Q))))))))) : WP (d + 5) 1442 (38, [(0, .ref 2), (3, .int v3), (4, .int v4), (5, .int v5)], [], mm X i j) Q := tc_1442_38 (d + 4) 2 v3 v4 v5 (mm X i j) Q ⟨rfl, ⟨rfl, (te_771 (d + 4) 31 (mm X i j) _ ⟨rfl, ⟨_, rfl, ⟨fun e19 => (h.1 (e19)), fun e19 => ⟨rfl, ⟨rfl, (p_772 (d + 4) X i j v5 _ ⟨(h.2 (e19)).1, ⟨fun e20 => ((h.2 (e19)).2.1 ((bi_z e20))), fun e20 => ⟨rfl, ⟨rfl, (te_1288 (d + 3) 37 v3 (mm X i j) _ ⟨rfl, ⟨fun e21 => ⟨rfl, (te_1284 (d + 3) 37 (mm X i j) _ ⟨rfl, ⟨rfl, ⟨rfl, ⟨rfl, (Exists.elim (((h.2 (e19)).2.2 ((bi_n e20))).1 (e21)) fun i22 h24 => EvV.use h24.1 ⟨rfl, ⟨_, rfl, ⟨rfl, ⟨rfl, ⟨rfl, (p_773 (d + 4) X i22 j v5 _ ⟨h24.2.1, ⟨rfl, (te_1282 (d + 4) 37 v5 (bi (sOn (i22 31 2) (i22 33) v5)) (mm X i22 j) _ ⟨rfl, ⟨fun e23 => ⟨rfl, (h24.2.2.1 (e23))⟩, fun e23 => ⟨rfl, ⟨rfl, ⟨⟨rfl, (h24.2.2.2 (e23)).1⟩, ⟨rfl, ⟨rfl, ⟨⟨(Or.inl rfl), (h24.2.2.2 (e23)).1⟩, ⟨rfl, ⟨rfl, ⟨rfl, (h24.2.2.2 (e23)).2⟩⟩⟩⟩⟩⟩⟩⟩⟩⟩⟩)⟩⟩)⟩⟩⟩⟩⟩)⟩⟩⟩⟩)⟩, fun e21 => ⟨_, rfl, ⟨rfl, ⟨rfl, ⟨rfl, (p_773 (d + 4) X i j v5 _ ⟨(h.2 (e19)).1, ⟨rfl, (te_1282 (d + 4) 37 v5 (bi (sOn (i 31 2) (i 33) v5)) (mm X i j) _ ⟨rfl, ⟨fun e26 => ⟨rfl, ((((h.2 (e19)).2.2 ((bi_n e20))).2 (e21)).1 (e26))⟩, fun e26 => ⟨rfl, ⟨rfl, ⟨⟨rfl, ((((h.2 (e19)).2.2 ((bi_n e20))).2 (e21)).2 (e26)).1⟩, ⟨rfl, ⟨rfl, ⟨⟨(Or.inl rfl), ((((h.2 (e19)).2.2 ((bi_n e20))).2 (e21)).2 (e26)).1⟩, ⟨rfl, ⟨rfl, ⟨rfl, ((((h.2 (e19)).2.2 ((bi_n e20))).2 (e21)).2 (e26)).2⟩⟩⟩⟩⟩⟩⟩⟩⟩⟩⟩)⟩⟩)⟩⟩⟩⟩⟩⟩)⟩⟩⟩⟩)⟩⟩⟩⟩⟩)⟩⟩
set_option maxRecDepth 100000 in
theorem s_1622 (d : Nat) (X : XS) (i : Nat → Nat → Int32) (j : Nat → Nat → Int64) (a1 : Int32) (a2 : Int32) (a3 : Int32) (K : Int32 → AM → Prop) (h : ((¬ ((nI 0) ≤ a1 ∧ a1 ≤ ((i 42 14) - (nI 1))) → K (kI (-1)) (mm X (s2 i 42 36 (nI 0)) j)) ∧ ((nI 0) ≤ a1 ∧ a1 ≤ ((i 42 14) - (nI 1)) → ((¬ (((nI 1) ≤ a2 ∧ a2 ≤ (nI 3)) ∧ ((nI 1) ≤ (nI 1) ∧ (nI 1) ≤ (nI 9))) → K (kI (-1)) (mm X (s2 i 42 36 (nI 0)) j)) ∧ (((nI 1) ≤ a2 ∧ a2 ≤ (nI 3)) ∧ ((nI 1) ≤ (nI 1) ∧ (nI 1) ≤ (nI 9)) → (((nI 1) ≤ a3 ∧ a3 ≤ (nI 20) → (∃ (i4 : Nat → Nat → Int32), EvV (d + 261) 1589 [.ref 42, .int (shlI (nI 1) a1), .int a2, .int (nI 1)] (mm X (s2 i 42 36 (nI 0)) j) (mm X i4 j) ∧ (∃ (i5 : Nat → Nat → Int32), EvV (d + 261) 1620 [.ref 42, .int a1, .int a3, .int a3] (mm X i4 j) (mm X i5 j) ∧ WP (d + 262) 1622 (53, [(0, .ref 42), (1, .int a1), (3, .int a3), (4, .int a3)], [], (mm X i5 j)) (qI K)))) ∧ (¬ ((nI 1) ≤ a3 ∧ a3 ≤ (nI 20)) → K (kI (-1)) (mm X (s2 i 42 36 (nI 0)) j)))))))) : WI (d + 262) 1622 [.ref 42, .int a1, .int a2, .int a3] (mm X i j) K := te_1622 (d + 261) 42 a1 a2 a3 (mm X i j) (qI K) ⟨rfl, ⟨rfl, (te_1546 (d + 260) 42 a1 (mm X (s2 i 42 36 (nI 0)) j) _ ⟨rfl, (p_1538 (d + 260) X (s2 i 42 36 (nI 0)) j a1 (nI 0) ((i 42 14) - (nI 1)) _ ⟨(bi_01 _), ⟨_, rfl, ⟨fun e1 => ⟨_, rfl, (h.1 ((bi_z e1)))⟩, fun e1 => (p_1588 (d + 260) X (s2 i 42 36 (nI 0)) j a2 (nI 1) _ ⟨fun e2 => ⟨_, rfl, ((h.2 ((bi_n e1))).1 ((bi_z e2)))⟩, fun e2 => (p_1538 (d + 261) X (s2 i 42 36 (nI 0)) j a3 (nI 1) (nI 20) _ ⟨fun e3 => ⟨rfl, (Exists.elim (((h.2 ((bi_n e1))).2 ((bi_n e2))).1 ((bi_n e3))) fun i4 h8 => EvV.use h8.1 ⟨rfl, (Exists.elim h8.2 fun i5 h6 => EvV.use h6.1 h6.2)⟩)⟩, fun e3 => ⟨_, rfl, (((h.2 ((bi_n e1))).2 ((bi_n e2))).2 ((bi_nn e3)))⟩⟩)⟩)⟩⟩⟩)⟩)⟩⟩
set_option maxRecDepth 100000 in
theorem s_1622_53 (d : Nat) (X : XS) (i : Nat → Nat → Int32) (j : Nat → Nat → Int64) (v1 : Int32) (v3 : Int32) (v4 : Int32) (Q : Option (Option Value) → AM → Prop) (h : (((i 42 51) = (kI (-2)) → Q (some (some (.int v4))) (mm X i j)) ∧ (¬ ((i 42 51) = (kI (-2))) → (∃ (i11 : Nat → Nat → Int32), EvV (d + 261) 1620 [.ref 42, .int v1, .int v3, .int (v4 + (kI (-1)))] (mm X i j) (mm X i11 j) ∧ WP (d + 262) 1622 (53, [(0, .ref 42), (1, .int v1), (3, .int v3), (4, .int (v4 + (kI (-1))))], [], (mm X i11 j)) Q)))) : WP (d + 262) 1622 (53, [(0, .ref 42), (1, .int v1), (3, .int v3), (4, .int v4)], [], mm X i j) Q := tc_1622_53 (d + 261) 42 v1 v3 v4 (mm X i j) Q ⟨rfl, ⟨fun e10 => (h.1 (e10)), fun e10 => ⟨rfl, (Exists.elim (h.2 (e10)) fun i11 h12 => EvV.use h12.1 h12.2)⟩⟩⟩
theorem k_33 (d : Nat) {X : XS} {i : Nat → Nat → Int32} {j : Nat → Nat → Int64} (h : Rel X i j) (a1 a2 a3 : Int32) {Kf : AM → Prop} (hK : Nx X Kf) : WI (d + 300) 1442 [.ref 2, .int a1, .int a2, .int a3] (mm X i j) (fun x1 M1 => WI (d + 300) 1622 [.ref 42, .int a1, .int a2, .int a3] M1 (fun x2 M2 => x1 = x2 ∧ Kf M2)) := by
  have ht := hK.th h
  have hrel := h
  obtain ⟨hx, ⟨⟨n, h0⟩, h1, ⟨ng, h2, no, h4⟩, ⟨tn, h3⟩, ⟨np, h5⟩, h6, ns, h7⟩, h8, hz⟩ := h
  have e1 := h4.2.1
  have e2 := h4.2.2.1
  have hno := h4.1
  have hn := h0.2.1.1.2
  refine s_1442 _ X i j a1 a2 a3 _ ⟨h4.sg, ?_, ?_⟩
  · rw [e1]
    exact fun z => s_1622 _ X i j _ _ _ _ (bq_t (by rw [e2]; exact z) ⟨rfl, ht⟩)
  rw [e1]
  intro z hO
  have z2 : nI 0 ≤ a1 ∧ a1 ≤ i 42 14 - nI 1 := by rw [e2]; exact z
  obtain ⟨s, hs, rfl⟩ := idx_of (by omega) z

  refine bq_c (fun y => s_1622 _ X i j _ _ _ _ (bq_f z2 (bq_t y ⟨rfl, ht⟩))) (fun y => bq_c (fun v => s_1622 _ X i j _ _ _ _ (bq_f z2 (bq_f y (br_f v ⟨rfl, ht⟩)))) (fun v => ?_))
  obtain ⟨m, hm, rfl⟩ := of_rng (by decide) ⟨Int32.le_trans (by decide) v.1, v.2⟩
  obtain ⟨i1, hE1, f1, z1, r40, hL, hS⟩ := lov 0 X i j h0 h2 h4 hz (shlI (nI 1) (nI s)) a2 (q := 1) (by decide)
  refine ⟨i1, hE1.up (by omega), ?_⟩
  obtain ⟨kn, hkn⟩ : ∃ kn, kn = n - 1 := ⟨_, rfl⟩
  obtain ⟨ca, hca⟩ : ∃ ca, ca = caF i n a2 1 := ⟨_, rfl⟩
  obtain ⟨A, hA⟩ : ∃ A, A = svP X i s := ⟨_, rfl⟩
  rw [← hca, ← hkn] at hS
  have ST : ∀ {i2 t}, SV i2 kn (soF X i no (shlI (nI 1) (nI s))) ca → t < kn → (sOn (i2 31 2) (i2 32) (nI t) ↔ A t) := fun h ht => by rw [h.st ht, hA]; exact soF_c hno hs _
  have cl : ∀ t, ct A t ≤ t := fun t => ct_le _ _
  refine lup kn (fun t (z : Int32 × (Nat → Nat → Int32)) => z.1 = nI (mqN A ca m t) ∧ (∀ b, b ≠ 37 → b ≠ 38 → b ≠ 39 → z.2 b = i1 b) ∧ WT z.2 A ca t) (fun t z => (38, [(0, .ref 2), (3, .int (nI m)), (4, .int z.1), (5, .int (nI t))], [], mm X z.2 j)) ?_ ?_ 0 (nI m, s2 (s2 (s2 (s2 (s2 (s2 i1 37 2 (nI 0)) 37 5 (nI 0)) 37 6 (nI 0)) 37 7 (nI 0)) 37 8 (nI 0)) 37 9 (kI (-2))) (Nat.zero_le _) ⟨rfl, fun b h1 _ _ => by dsimp only; rw [s2_ne h1, s2_ne h1, s2_ne h1, s2_ne h1, s2_ne h1, s2_ne h1], ⟨by dsimp only; rw [s2_ne2 (by decide), s2_ne2 (by decide), s2_ne2 (by decide), s2_ne2 (by decide), s2_ne2 (by decide), s2_self]; rfl, fun u hu => absurd hu (by omega)⟩⟩
  · rintro ⟨qv, i2⟩ ⟨hq, g, hW⟩
    dsimp only at hq g hW ⊢
    subst hq
    refine s_1442_38 _ X i2 j _ _ _ _ (br_t (by rw [g 31 (by decide) (by decide) (by decide), hS.1]; exact Int32.le_refl _) (qI_of ?_))
    have F2 : FrC X i i2 := f1.tr (FrC_w g)
    have Z2 : RZ i2 := RZ_of z1 (g 34 (by decide) (by decide) (by decide)) (g 35 (by decide) (by decide) (by decide))
    have g42 : i2 42 = i 42 := F2 42 (Or.inl (show 0 < 10 by decide))
    refine s_1622 _ X i2 j _ _ _ _ (bq_f (by rw [g42]; exact z2) (bq_f y (br_t v ?_)))
    obtain ⟨i4, hE4, f4, -, p46, -, -, p72, p73⟩ := prpv 0 X i (s2 i2 42 36 (nI 0)) j h0 h2 h4 (F2.kp.tr (FrR_th (X := X) (nI 0)).kp) (shlI (nI 1) (nI s)) a2 (q := 1) (by decide)
    rw [← hca, ← hkn] at p73
    rw [← hkn] at p46
    have hA4 : ∀ v, v < kn → (shrI (i4 72 v) (nI s) &&& nI 1 = nI 1 ↔ A v) := fun t ht => by rw [p72 t (by omega), hA]; exact soF_r hno hs t
    refine ⟨i4, hE4.up (by omega), ?_⟩
    obtain ⟨i5, hE5, k1, k2, k3, -, -, -⟩ := c_1620 0 X i4 j (A := A) (ca := ca) (s := s) (kn := kn) (m := m) (q := m) (by omega) (by omega) (by omega) p46 hA4 p73
    refine ⟨i5, hE5.up (by omega), ?_⟩
    have key : ∀ e q, q = mqN A ca m kn + e → q ≤ m → ∀ i5 : Nat → Nat → Int32, (∀ b, b ≠ 42 → b ≠ 74 → i5 b = i4 b) → (∀ k, k ≠ 49 → k ≠ 50 → k ≠ 51 → i5 42 k = i4 42 k) → i5 42 51 = fs (UH A ca m q) kn → WP (d + 300) 1622 (53, [(0, .ref 42), (1, .int (nI s)), (3, .int (nI m)), (4, .int (nI q))], [], mm X i5 j) (qI fun x2 M2 => nI (mqN A ca m kn) = x2 ∧ Kf M2) := by
      intro e
      induction e with
      | zero =>
        intro q eq hqm i5 k1 k2 k3
        rw [Nat.add_zero] at eq
        subst eq
        refine s_1622_53 _ X i5 j _ _ _ _ (br_t (by rw [k3, fs_none (by omega)]; exact fun t ht w => (le_fo hqm w.1).mp ((le_mq.mp (Nat.le_refl _)).2 t ht w.1) w) (qI_of ⟨rfl, hK.k (fin_row hrel F2 Z2 (((FrR_th (nI 0)).tr f4.fr).tr (FrR_47 k1 (fun k hk => k2 k (by omega) (by omega) (by omega)))) ?_)⟩))
        obtain ⟨L, l0, l1, l2, l3⟩ := h8
        refine ⟨L, l0, ?_, ?_, l3⟩
        · rw [k1 40 (by decide) (by decide), f4.1 40 (show ¬ (48 : Nat) = 40 by decide) (by decide), s2_ne (show 40 ≠ 42 by decide), g 40 (by decide) (by decide) (by decide), r40]; exact l1
        · rw [k2 35 (by decide) (by decide) (by decide), f4.2 35 (by decide), s2_ne2 (show 35 ≠ 36 by decide), g42]; exact l2
      | succ e ih =>
        intro q eq hqm i5 k1 k2 k3
        refine s_1622_53 _ X i5 j _ _ _ _ (br_f (by
          rw [k3, fs_none (by omega)]
          intro w
          have : q ≤ mqN A ca m kn := le_mq.mpr ⟨hqm, fun u hu ha => (le_fo hqm ha).mpr (w u hu)⟩
          omega) ?_)
        obtain ⟨q', rfl⟩ : ∃ q', q = q' + 1 := ⟨q - 1, by omega⟩
        rw [pm1, pd1 (by omega)]
        obtain ⟨i6, hE6, k1', k2', k3', -, -, -⟩ := c_1620 0 X i5 j (A := A) (ca := ca) (s := s) (kn := kn) (m := m) (q := q') (by omega) (by omega) (by omega) (by rw [k2 46 (by decide) (by decide) (by decide)]; exact p46) (fun t ht => by rw [k1 72 (by decide) (by decide)]; exact hA4 t ht) (fun t ht => by rw [k1 73 (by decide) (by decide)]; exact p73 t ht)
        exact ⟨i6, hE6.up (by omega), ih q' (by omega) (by omega) i6 (fun b h1 h2 => (k1' b h1 h2).trans (k1 b h1 h2)) (fun k h1 h2 h3 => (k2' k h1 h2 h3).trans (k2 k h1 h2 h3)) k3'⟩
    have ml := mq_le (A := A) (ca := ca) (m := m) (t := kn)
    exact key (m - mqN A ca m kn) m (by omega) (Nat.le_refl _) i5 k1 k2 k3
  · rintro t ⟨qv, i2⟩ ht ⟨hq, g, hW⟩ go
    dsimp only at hq g hW ⊢
    subst hq
    have ml := mq_le (A := A) (ca := ca) (m := m) (t := t)
    have c1 := cl t
    have hS2 := hS.kp (g 31 (by decide) (by decide) (by decide)) (g 32 (by decide) (by decide) (by decide)) (g 33 (by decide) (by decide) (by decide))
    refine s_1442_38 _ X i2 j _ _ _ _ (br_f (by rw [hS2.1]; exact nI_ge ht (by omega)) ⟨hS2.ok, ?_⟩)
    rw [propext (ST hS2 ht), nI_add]
    refine bq_c (fun ha => go (nI (mqN A ca m t), i2) ⟨by dsimp only; rw [mq_n ha], g, hW.no ha⟩) (fun ha => ?_)
    have fl := fo_le (A := A) (ca := ca) (m := m) (t := t) (by omega) (by omega)
    have nt : ∀ i3 : Nat → Nat → Int32, ∀ x : Int32, (∀ b, b ≠ 37 → b ≠ 38 → b ≠ 39 → i3 b = i1 b) → WT i3 A ca t → x = nI (foN A ca m t) → ((nI 240 ≤ i3 37 2 → WP (d + 300) 1442 (38, [(0, .ref 2), (3, .int (nI m)), (4, .int (mnI (nI (mqN A ca m t)) x)), (5, .int (nI (t + 1)))], [], mm X i3 j) (qI fun x1 M1 => WI (d + 300) 1622 [.ref 42, .int (nI s), .int a2, .int (nI m)] M1 (fun x2 M2 => x1 = x2 ∧ Kf M2))) ∧ (¬ nI 240 ≤ i3 37 2 → vp_in (i3 37 2) 240 ∧ WP (d + 300) 1442 (38, [(0, .ref 2), (3, .int (nI m)), (4, .int (mnI (nI (mqN A ca m t)) x)), (5, .int (nI (t + 1)))], [], mm X (s2 (s2 (s2 i3 38 (i3 37 2).toNatClampNeg (nI t)) 39 (i3 37 2).toNatClampNeg (bnar 21 (bi (sOn (i3 31 2) (i3 33) (nI t))))) 37 2 (i3 37 2 + nI 1)) j) (qI fun x1 M1 => WI (d + 300) 1622 [.ref 42, .int (nI s), .int a2, .int (nI m)] M1 (fun x2 M2 => x1 = x2 ∧ Kf M2)))) := by
      rintro i3 x g3 hW3 rfl
      have hS3 := hS.kp (g3 31 (by decide) (by decide) (by decide)) (g3 32 (by decide) (by decide) (by decide)) (g3 33 (by decide) (by decide) (by decide))
      rw [mn_nI (by omega) (by omega)]
      refine br_f (by rw [hW3.1]; exact nI_ge (by omega) (by decide)) ⟨by rw [hW3.1]; exact vp_in_nI (by omega) (by decide), go (nI (min (mqN A ca m t) (foN A ca m t)), s2 (s2 (s2 i3 38 (i3 37 2).toNatClampNeg (nI t)) 39 (i3 37 2).toNatClampNeg (bnar 21 (bi (sOn (i3 31 2) (i3 33) (nI t))))) 37 2 (i3 37 2 + nI 1)) ⟨by dsimp only; rw [mq_y ha], fun b h1 h2 h3 => ?_, hW3.nt (by omega) ha ?_⟩⟩
      · dsimp only
        rw [s2_ne h1, s2_ne h3, s2_ne h2]; exact g3 b h1 h2 h3
      · rw [bnar_bi]
        exact bi_cg (hS3.cm ht)
    rw [hW.1, nI_leI (by omega) (by omega)]
    refine br_c (fun w => ?_) (fun w => ?_)
    · obtain ⟨i3, hE3, k1, k2, k3, k4⟩ := c_1285 0 X (s2 (s2 i2 37 3 (nI 0)) 37 4 (nI 0)) j (A := A) (ca := ca) (t := t) (m := m) (f := 0) (by omega) (by omega) (by decide) (hW.cg (by rw [s2_ne2 (by decide), s2_ne2 (by decide)]) (by rw [s2_ne (by decide), s2_ne (by decide)]) (by rw [s2_ne (by decide), s2_ne (by decide)]))
      have g3 : ∀ b, b ≠ 37 → b ≠ 38 → b ≠ 39 → i3 b = i1 b := fun b h1 h2 h3 => by rw [k1 b h1, s2_ne h1, s2_ne h1]; exact g b h1 h2 h3
      have hS3 := hS.kp (g3 31 (by decide) (by decide) (by decide)) (g3 32 (by decide) (by decide) (by decide)) (g3 33 (by decide) (by decide) (by decide))
      refine ⟨i3, hE3.up (by omega), hS3.ok, nt i3 _ g3 (hW.cg (by rw [k2 2 (by decide) (by decide), s2_ne2 (by decide), s2_ne2 (by decide)]) (by rw [k1 38 (by decide), s2_ne (by decide), s2_ne (by decide)]) (by rw [k1 39 (by decide), s2_ne (by decide), s2_ne (by decide)])) ?_⟩
      rw [k4, s2_self, nI_add, Nat.zero_add]
      unfold foN
      rw [if_neg (by omega)]
    · have := nt i2 (nI m) g hW (by unfold foN; rw [if_pos (by omega)])
      rw [hW.1] at this
      exact this
