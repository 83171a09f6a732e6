/-! ===== sticks ===== -/
def FT (i : Nat → Nat → Int32) (v q : Nat) : Prop := (abI (i 65 q - i 65 (q - 1)) ≤ nI v → i 64 q = i 65 (q - 1)) ∧ (¬ abI (i 65 q - i 65 (q - 1)) ≤ nI v → i 64 q = i 65 q)
def FTs (i : Nat → Nat → Int32) (ns v : Nat) : Prop := ∀ q, 1 ≤ q → q < ns → FT i v q
theorem ns0 {ns q : Nat} (h : ns ≤ 20) (hq : 1 ≤ q) (h2 : nI ns ≤ nI q) (hq2 : q ≤ 20) : ns ≤ q := (nI_leI (by omega) (by omega)).mp h2
set_option maxRecDepth 100000 in
theorem s_1491 (d : Nat) (X : XS) (i : Nat → Nat → Int32) (j : Nat → Nat → Int64) (a1 : Int32) (K : Int32 → AM → Prop) (h : WP d 1491 (2, [(0, .ref 2), (1, .int a1), (2, .int (nI 1))], [], (mm X i j)) (qI K)) : WI d 1491 [.ref 2, .int a1] (mm X i j) K := te_1491 d 2 a1 (mm X i j) (qI K) h
set_option maxRecDepth 100000 in
theorem s_1491_2 (d : Nat) (X : XS) (i : Nat → Nat → Int32) (j : Nat → Nat → Int64) (v1 : Int32) (v2 : Int32) (Q : Option (Option Value) → AM → Prop) (h : (((i 2 14) ≤ v2 → Q (some (some (.int (nI 1)))) (mm X i j)) ∧ (¬ ((i 2 14) ≤ v2) → (vp_in (v2 - (nI 1)) 20) ∧ (vp_in v2 20) ∧ (((abI ((i 30 ((v2).toNatClampNeg)) - (i 30 ((v2 - (nI 1)).toNatClampNeg)))) ≤ v1 → (((i 29 ((v2).toNatClampNeg)) = (i 30 ((v2 - (nI 1)).toNatClampNeg)) → WP d 1491 (2, [(0, .ref 2), (1, .int v1), (2, .int (v2 + (nI 1)))], [], (mm X i j)) Q) ∧ (¬ ((i 29 ((v2).toNatClampNeg)) = (i 30 ((v2 - (nI 1)).toNatClampNeg))) → Q (some (some (.int (nI 0)))) (mm X i j)))) ∧ (¬ ((abI ((i 30 ((v2).toNatClampNeg)) - (i 30 ((v2 - (nI 1)).toNatClampNeg)))) ≤ v1) → (((i 29 ((v2).toNatClampNeg)) = (i 30 ((v2).toNatClampNeg)) → WP d 1491 (2, [(0, .ref 2), (1, .int v1), (2, .int (v2 + (nI 1)))], [], (mm X i j)) Q) ∧ (¬ ((i 29 ((v2).toNatClampNeg)) = (i 30 ((v2).toNatClampNeg))) → Q (some (some (.int (nI 0)))) (mm X i j)))))))) : WP d 1491 (2, [(0, .ref 2), (1, .int v1), (2, .int v2)], [], mm X i j) Q := tc_1491_2 d 2 v1 v2 (mm X i j) Q ⟨rfl, ⟨fun e1 => ⟨k1_01, (h.1 (e1))⟩, fun e1 => ⟨rfl, ⟨⟨rfl, (h.2 (e1)).1⟩, ⟨rfl, ⟨⟨rfl, (h.2 (e1)).2.1⟩, ⟨fun e2 => ⟨rfl, ⟨⟨rfl, (h.2 (e1)).2.1⟩, ⟨fun _ => ⟨fun e4 => (tc_1491_67 d 2 v1 v2 (mm X i j) _ (((h.2 (e1)).2.2.1 (e2)).1 (e4))), fun e4 => ⟨k0_01, (((h.2 (e1)).2.2.1 (e2)).2 (e4))⟩⟩, fun e3 => absurd (show (nI 0) = 0 by decide) e3⟩⟩⟩, fun e2 => ⟨rfl, ⟨⟨rfl, (h.2 (e1)).2.1⟩, ⟨fun e5 => absurd e5 (show ¬ ((nI 1) = 0) by decide), fun _ => ⟨rfl, ⟨⟨rfl, (h.2 (e1)).2.1⟩, ⟨fun e6 => (tc_1491_67 d 2 v1 v2 (mm X i j) _ (((h.2 (e1)).2.2.2 (e2)).1 (e6))), fun e6 => ⟨k0_01, (((h.2 (e1)).2.2.2 (e2)).2 (e6))⟩⟩⟩⟩⟩⟩⟩⟩⟩⟩⟩⟩⟩⟩
theorem c_1491 (d : Nat) (X : XS) (i : Nat → Nat → Int32) (j : Nat → Nat → Int64) {ns : Nat} (h7 : R7 i ns) (v : Nat) : EvI d 1491 [.ref 2, .int (nI v)] (mm X i j) (bi (FTs i ns v)) (mm X i j) := by
  obtain ⟨hn, h14, h26, hq, -⟩ := h7
  refine s_1491 d X i j _ _ ?_
  refine lup (max 1 ns) (fun q (_ : Unit) => 1 ≤ q ∧ ∀ u, 1 ≤ u → u < q → FT i v u) (fun q _ => (2, [(0, .ref 2), (1, .int (nI v)), (2, .int (nI q))], [], mm X i j)) ?_ ?_ 1 () (by omega) ⟨Nat.le_refl _, fun u h1 h2 => absurd h1 (by omega)⟩
  · rintro _ ⟨-, hJ⟩
    exact s_1491_2 d X i j _ _ _ (br_t (by rw [h14]; exact nI_le (by omega) (by omega)) (qI_of ⟨(bi_t fun u h1 h2 => hJ u h1 (by omega)).symm, rfl⟩))
  · rintro q _ hlt ⟨h1, hJ⟩ go
    have hqn : q < ns := by omega
    refine s_1491_2 d X i j _ _ _ (br_f (by rw [h14]; exact nI_ge hqn (by omega)) ?_)
    obtain ⟨q', rfl⟩ : ∃ q', q = q' + 1 := ⟨q - 1, by omega⟩
    rw [pd1 (by omega), tc_nI (by omega), tc_nI (by omega), (hq _ hqn).1, (hq _ hqn).2, (hq q' (by omega)).2, nI_add]
    have nx : FT i v (q' + 1) → ∀ u, 1 ≤ u → u < q' + 1 + 1 → FT i v u := fun hf u h1 h2 => by
      by_cases e : u = q' + 1
      · subst e; exact hf
      · exact hJ u h1 (by omega)
    refine ⟨vp_in_nI (by omega) (by decide), vp_in_nI (by omega) (by decide), br_c (fun a => br_c (fun b => ?_) (fun b => ?_)) (fun a => br_c (fun b => ?_) (fun b => ?_))⟩
    · exact go () ⟨by omega, nx ⟨fun _ => b, fun c => absurd a c⟩⟩
    · exact qI_of ⟨(bi_f fun z => b ((z _ h1 hqn).1 a)).symm, rfl⟩
    · exact go () ⟨by omega, nx ⟨fun c => absurd c a, fun _ => b⟩⟩
    · exact qI_of ⟨(bi_f fun z => b ((z _ h1 hqn).2 a)).symm, rfl⟩
set_option maxRecDepth 100000 in
theorem s_1641 (d : Nat) (X : XS) (i : Nat → Nat → Int32) (j : Nat → Nat → Int64) (a1 : Int32) (K : Int32 → AM → Prop) (h : WP d 1641 (2, [(0, .ref 42), (1, .int a1), (2, .int (nI 1))], [], (mm X i j)) (qI K)) : WI d 1641 [.ref 42, .int a1] (mm X i j) K := te_1641 d 42 a1 (mm X i j) (qI K) h
set_option maxRecDepth 100000 in
theorem s_1641_2 (d : Nat) (X : XS) (i : Nat → Nat → Int32) (j : Nat → Nat → Int64) (v1 : Int32) (v2 : Int32) (Q : Option (Option Value) → AM → Prop) (h : (((i 42 26) ≤ v2 → Q (some (some (.int (nI 1)))) (mm X i j)) ∧ (¬ ((i 42 26) ≤ v2) → (vp_in v2 20) ∧ (vp_in (v2 - (nI 1)) 20) ∧ (((abI ((i 65 ((v2).toNatClampNeg)) - (i 65 ((v2 - (nI 1)).toNatClampNeg)))) ≤ v1 → (((i 64 ((v2).toNatClampNeg)) = (i 65 ((v2 - (nI 1)).toNatClampNeg)) → WP d 1641 (2, [(0, .ref 42), (1, .int v1), (2, .int (v2 + (nI 1)))], [], (mm X i j)) Q) ∧ (¬ ((i 64 ((v2).toNatClampNeg)) = (i 65 ((v2 - (nI 1)).toNatClampNeg))) → Q (some (some (.int (nI 0)))) (mm X i j)))) ∧ (¬ ((abI ((i 65 ((v2).toNatClampNeg)) - (i 65 ((v2 - (nI 1)).toNatClampNeg)))) ≤ v1) → (((i 64 ((v2).toNatClampNeg)) = (i 65 ((v2).toNatClampNeg)) → WP d 1641 (2, [(0, .ref 42), (1, .int v1), (2, .int (v2 + (nI 1)))], [], (mm X i j)) Q) ∧ (¬ ((i 64 ((v2).toNatClampNeg)) = (i 65 ((v2).toNatClampNeg))) → Q (some (some (.int (nI 0)))) (mm X i j)))))))) : WP d 1641 (2, [(0, .ref 42), (1, .int v1), (2, .int v2)], [], mm X i j) Q := tc_1641_2 d 42 v1 v2 (mm X i j) Q ⟨rfl, ⟨fun e1 => ⟨k1_01, (h.1 (e1))⟩, fun e1 => ⟨rfl, ⟨⟨rfl, (h.2 (e1)).1⟩, ⟨rfl, ⟨⟨rfl, (h.2 (e1)).2.1⟩, ⟨fun e2 => ⟨rfl, ⟨⟨rfl, (h.2 (e1)).1⟩, ⟨fun _ => ⟨rfl, ⟨⟨rfl, (h.2 (e1)).2.1⟩, ⟨fun e4 => (tc_1641_70 d 42 v1 v2 (mm X i j) _ (((h.2 (e1)).2.2.1 (e2)).1 (e4))), fun e4 => ⟨k0_01, (((h.2 (e1)).2.2.1 (e2)).2 (e4))⟩⟩⟩⟩, fun e3 => absurd (show (nI 0) = 0 by decide) e3⟩⟩⟩, fun e2 => ⟨rfl, ⟨⟨rfl, (h.2 (e1)).1⟩, ⟨fun e5 => absurd e5 (show ¬ ((nI 1) = 0) by decide), fun _ => ⟨rfl, ⟨⟨rfl, (h.2 (e1)).1⟩, ⟨fun e6 => (tc_1641_70 d 42 v1 v2 (mm X i j) _ (((h.2 (e1)).2.2.2 (e2)).1 (e6))), fun e6 => ⟨k0_01, (((h.2 (e1)).2.2.2 (e2)).2 (e6))⟩⟩⟩⟩⟩⟩⟩⟩⟩⟩⟩⟩⟩⟩
theorem c_1641 (d : Nat) (X : XS) (i : Nat → Nat → Int32) (j : Nat → Nat → Int64) {ns : Nat} (h7 : R7 i ns) (v : Nat) : EvI d 1641 [.ref 42, .int (nI v)] (mm X i j) (bi (FTs i ns v)) (mm X i j) := by
  obtain ⟨hn, h14, h26, -⟩ := h7
  refine s_1641 d X i j _ _ ?_
  refine lup (max 1 ns) (fun q (_ : Unit) => 1 ≤ q ∧ ∀ u, 1 ≤ u → u < q → FT i v u) (fun q _ => (2, [(0, .ref 42), (1, .int (nI v)), (2, .int (nI q))], [], mm X i j)) ?_ ?_ 1 () (by omega) ⟨Nat.le_refl _, fun u h1 h2 => absurd h1 (by omega)⟩
  · rintro _ ⟨-, hJ⟩
    exact s_1641_2 d X i j _ _ _ (br_t (by rw [h26]; exact nI_le (by omega) (by omega)) (qI_of ⟨(bi_t fun u h1 h2 => hJ u h1 (by omega)).symm, rfl⟩))
  · rintro q _ hlt ⟨h1, hJ⟩ go
    have hqn : q < ns := by omega
    refine s_1641_2 d X i j _ _ _ (br_f (by rw [h26]; exact nI_ge hqn (by omega)) ?_)
    obtain ⟨q', rfl⟩ : ∃ q', q = q' + 1 := ⟨q - 1, by omega⟩
    rw [pd1 (by omega), tc_nI (by omega), tc_nI (by omega), nI_add]
    have nx : FT i v (q' + 1) → ∀ u, 1 ≤ u → u < q' + 1 + 1 → FT i v u := fun hf u h1 h2 => by
      by_cases e : u = q' + 1
      · subst e; exact hf
      · exact hJ u h1 (by omega)
    refine ⟨vp_in_nI (by omega) (by decide), vp_in_nI (by omega) (by decide), br_c (fun a => br_c (fun b => ?_) (fun b => ?_)) (fun a => br_c (fun b => ?_) (fun b => ?_))⟩
    · exact go () ⟨by omega, nx ⟨fun _ => b, fun c => absurd a c⟩⟩
    · exact qI_of ⟨(bi_f fun z => b ((z _ h1 hqn).1 a)).symm, rfl⟩
    · exact go () ⟨by omega, nx ⟨fun c => absurd c a, fun _ => b⟩⟩
    · exact qI_of ⟨(bi_f fun z => b ((z _ h1 hqn).2 a)).symm, rfl⟩
/-- how many sticks fit, the least, the greatest -/
noncomputable def stk (P : Nat → Prop) : Nat → Int32 × Int32 × Int32
  | 0 => (nI 0, nI 0, nI 0)
  | v + 1 => @ite _ (P v) (Classical.propDecidable _) ((stk P v).1 + nI 1, (if (stk P v).1 = 0 then nI v else (stk P v).2.1), nI v) (stk P v)
theorem stk_n {P : Nat → Prop} {v : Nat} (h : ¬ P v) : stk P (v + 1) = stk P v := by rw [stk, if_neg h]
theorem stk_0 {P : Nat → Prop} {v : Nat} (h : P v) (h2 : (stk P v).1 = 0) : stk P (v + 1) = ((stk P v).1 + nI 1, nI v, nI v) := by rw [stk, if_pos h, if_pos h2]
theorem stk_1 {P : Nat → Prop} {v : Nat} (h : P v) (h2 : ¬ (stk P v).1 = 0) : stk P (v + 1) = ((stk P v).1 + nI 1, (stk P v).2.1, nI v) := by rw [stk, if_pos h, if_neg h2]
theorem R7.cg {i i' : Nat → Nat → Int32} {ns : Nat} (h : R7 i ns) (e : i' 2 14 = i 2 14) (e2 : i' 42 26 = i 42 26) (e3 : i' 29 = i 29) (e4 : i' 30 = i 30) (e5 : i' 64 = i 64) (e6 : i' 65 = i 65) (e7 : i' 48 = i 48) (e8 : i' 49 = i 49) (e9 : i' 50 = i 50) : R7 i' ns := by
  unfold R7 RB; rw [e, e2, e3, e4, e5, e6, e7, e8, e9]; exact h
set_option maxRecDepth 100000 in
theorem s_1457 (d : Nat) (X : XS) (i : Nat → Nat → Int32) (j : Nat → Nat → Int64)  (K : Int32 → AM → Prop) (h : WP (d + 1) 1457 (9, [(0, .ref 2), (1, .int (nI 0)), (2, .int (nI 0)), (3, .int (nI 0)), (4, .int (nI 0))], [], (mm X i j)) (qI K)) : WI (d + 1) 1457 [.ref 2] (mm X i j) K := te_1457 d 2 (mm X i j) (qI K) h
set_option maxRecDepth 100000 in
theorem s_1457_9 (d : Nat) (X : XS) (i : Nat → Nat → Int32) (j : Nat → Nat → Int64) (v1 : Int32) (v2 : Int32) (v3 : Int32) (v4 : Int32) (Q : Option (Option Value) → AM → Prop) (h : (((nI 40) < v4 → ((¬ (v1 = 0) → Q (some (some (.int v1))) (mm X (s2 (s2 (s2 i 40 1 (nI 0)) 40 1 (nI 1)) 40 1 (nI 2)) (s2 (s2 j 41 0 (v2.toInt64)) 41 1 (v3.toInt64)))) ∧ (v1 = 0 → Q (some (some (.int (nI 0)))) (mm X i j)))) ∧ (¬ ((nI 40) < v4) → (∃ (P5 : Prop), EvI d 1491 [.ref 2, .int v4] (mm X i j) (bi P5) (mm X i j) ∧ ((¬ (P5) → WP (d + 1) 1457 (9, [(0, .ref 2), (1, .int v1), (2, .int v2), (3, .int v3), (4, .int (v4 + (nI 1)))], [], (mm X i j)) Q) ∧ (P5 → ((¬ (v1 = 0) → WP (d + 1) 1457 (9, [(0, .ref 2), (1, .int (v1 + (nI 1))), (2, .int v2), (3, .int v4), (4, .int (v4 + (nI 1)))], [], (mm X i j)) Q) ∧ (v1 = 0 → WP (d + 1) 1457 (9, [(0, .ref 2), (1, .int (v1 + (nI 1))), (2, .int v4), (3, .int v4), (4, .int (v4 + (nI 1)))], [], (mm X i j)) Q)))))))) : WP (d + 1) 1457 (9, [(0, .ref 2), (1, .int v1), (2, .int v2), (3, .int v3), (4, .int v4)], [], mm X i j) Q := tc_1457_9 d 2 v1 v2 v3 v4 (mm X i j) Q ⟨fun e1 => ⟨fun e2 => ⟨rfl, ⟨rfl, (te_641 d 40 (mm X i j) _ ⟨rfl, ⟨rfl, ⟨rfl, ⟨rfl, (te_642 d 40 (v2.toInt64) (mm X (s2 i 40 1 (nI 0)) j) _ ⟨rfl, ⟨fun e3 => absurd e3 (show ¬ ((nI 20) ≤ (nI 0)) by decide), fun _ => ⟨rfl, ⟨rfl, ⟨⟨rfl, (vpk 0 20 rfl)⟩, ⟨rfl, ⟨rfl, ⟨rfl, ⟨rfl, ⟨rfl, (te_642 d 40 (v3.toInt64) (mm X (s2 (s2 i 40 1 (nI 0)) 40 1 (nI 1)) (s2 j 41 0 (v2.toInt64))) _ ⟨rfl, ⟨fun e4 => absurd e4 (show ¬ ((nI 20) ≤ (nI 1)) by decide), fun _ => ⟨rfl, ⟨rfl, ⟨⟨rfl, (vpk 1 20 rfl)⟩, ⟨rfl, ⟨rfl, ⟨rfl, ((h.1 (e1)).1 (e2))⟩⟩⟩⟩⟩⟩⟩⟩)⟩⟩⟩⟩⟩⟩⟩⟩⟩⟩)⟩⟩⟩⟩)⟩⟩, fun e2 => ((h.1 (e1)).2 ((Classical.byContradiction e2)))⟩, fun e1 => ⟨rfl, (Exists.elim (h.2 (e1)) fun P5 h8 => EvI.use h8.1 ⟨fun e6 => (tc_1457_42 d 2 v1 v2 v3 v4 (mm X i j) _ (h8.2.1 ((bi_z e6)))), fun e6 => ⟨fun e7 => (tc_1457_42 d 2 (v1 + (nI 1)) v2 v4 v4 (mm X i j) _ ((h8.2.2 ((bi_n e6))).1 (e7))), fun e7 => (tc_1457_42 d 2 (v1 + (nI 1)) v4 v4 v4 (mm X i j) _ ((h8.2.2 ((bi_n e6))).2 ((Classical.byContradiction e7))))⟩⟩)⟩⟩
set_option maxRecDepth 100000 in
theorem s_1642 (d : Nat) (X : XS) (i : Nat → Nat → Int32) (j : Nat → Nat → Int64)  (K : Int32 → AM → Prop) (h : WP (d + 1) 1642 (14, [(0, .ref 42), (1, .int (nI 0)), (2, .int (nI 0)), (3, .int (nI 0)), (4, .int (nI 0))], [], (mm X (s2 i 42 36 (nI 0)) j)) (qI K)) : WI (d + 1) 1642 [.ref 42] (mm X i j) K := te_1642 d 42 (mm X i j) (qI K) ⟨rfl, h⟩
set_option maxRecDepth 100000 in
theorem s_1642_14 (d : Nat) (X : XS) (i : Nat → Nat → Int32) (j : Nat → Nat → Int64) (v1 : Int32) (v2 : Int32) (v3 : Int32) (v4 : Int32) (Q : Option (Option Value) → AM → Prop) (h : (((nI 40) < v4 → ((¬ (v1 = 0) → Q (some (some (.int v1))) (mm X (s2 (s2 (s2 i 42 35 (nI 0)) 42 35 (nI 1)) 42 35 (nI 2)) (s2 (s2 j 70 0 (v2.toInt64)) 70 1 (v3.toInt64)))) ∧ (v1 = 0 → Q (some (some (.int (nI 0)))) (mm X i j)))) ∧ (¬ ((nI 40) < v4) → (∃ (P3 : Prop), EvI d 1641 [.ref 42, .int v4] (mm X i j) (bi P3) (mm X i j) ∧ ((P3 → ((¬ (v1 = 0) → WP (d + 1) 1642 (14, [(0, .ref 42), (1, .int (v1 + (nI 1))), (2, .int v2), (3, .int v4), (4, .int (v4 + (nI 1)))], [], (mm X i j)) Q) ∧ (v1 = 0 → WP (d + 1) 1642 (14, [(0, .ref 42), (1, .int (v1 + (nI 1))), (2, .int v4), (3, .int v4), (4, .int (v4 + (nI 1)))], [], (mm X i j)) Q))) ∧ (¬ (P3) → WP (d + 1) 1642 (14, [(0, .ref 42), (1, .int v1), (2, .int v2), (3, .int v3), (4, .int (v4 + (nI 1)))], [], (mm X i j)) Q)))))) : WP (d + 1) 1642 (14, [(0, .ref 42), (1, .int v1), (2, .int v2), (3, .int v3), (4, .int v4)], [], mm X i j) Q := tc_1642_14 d 42 v1 v2 v3 v4 (mm X i j) Q ⟨fun e1 => ⟨fun e2 => ⟨rfl, ⟨rfl, (te_1540 d 42 (v2.toInt64) (mm X (s2 i 42 35 (nI 0)) j) _ ⟨rfl, ⟨rfl, ⟨⟨rfl, (vpk 0 32 rfl)⟩, ⟨rfl, ⟨rfl, ⟨rfl, ⟨rfl, (te_1540 d 42 (v3.toInt64) (mm X (s2 (s2 i 42 35 (nI 0)) 42 35 (nI 1)) (s2 j 70 0 (v2.toInt64))) _ ⟨rfl, ⟨rfl, ⟨⟨rfl, (vpk 1 32 rfl)⟩, ⟨rfl, ⟨rfl, ⟨rfl, ((h.1 (e1)).1 (e2))⟩⟩⟩⟩⟩⟩)⟩⟩⟩⟩⟩⟩⟩)⟩⟩, fun e2 => ((h.1 (e1)).2 ((Classical.byContradiction e2)))⟩, fun e1 => ⟨rfl, (Exists.elim (h.2 (e1)) fun P3 h6 => EvI.use h6.1 ⟨fun e4 => ⟨fun e5 => (tc_1642_46 d 42 (v1 + (nI 1)) v2 v4 v4 (mm X i j) _ ((h6.2.1 ((bi_n e4))).1 (e5))), fun e5 => (tc_1642_46 d 42 (v1 + (nI 1)) v4 v4 v4 (mm X i j) _ ((h6.2.1 ((bi_n e4))).2 ((Classical.byContradiction e5))))⟩, fun e4 => (tc_1642_46 d 42 v1 v2 v3 v4 (mm X i j) _ (h6.2.2 ((bi_nn e4))))⟩)⟩⟩
theorem k_48 (d : Nat) {X : XS} {i : Nat → Nat → Int32} {j : Nat → Nat → Int64} (h : Rel X i j) {Kf : AM → Prop} (hK : Nx X Kf) : WI (d + 300) 1457 [.ref 2] (mm X i j) (fun x1 M1 => WI (d + 300) 1642 [.ref 42] M1 (fun x2 M2 => x1 = x2 ∧ Kf M2)) := by
  have ht := hK.th h
  have hrel := h
  obtain ⟨hx, ⟨⟨n, h0⟩, h1, ⟨ng, h2, no, h4⟩, ⟨tn, h3⟩, ⟨np, h5⟩, h6, ns, h7⟩, h8, hz⟩ := h

  refine s_1457 _ X i j _ ?_
  obtain ⟨P, hP⟩ : ∃ P, P = FTs i ns := ⟨_, rfl⟩
  refine lup 41 (fun v (z : Int32 × Int32 × Int32) => z = stk P v) (fun v z => (9, [(0, .ref 2), (1, .int z.1), (2, .int z.2.1), (3, .int z.2.2), (4, .int (nI v))], [], mm X i j)) ?_ ?_ 0 (nI 0, nI 0, nI 0) (Nat.zero_le _) rfl
  · rintro z rfl
    have ref : ∀ i3 j3, (∀ b, b ≠ 40 → i3 b = i b) → ∀ Q, ((¬ (stk P 41).1 = 0 → Q (some (some (.int (stk P 41).1))) (mm X (s2 (s2 (s2 (s2 i3 42 36 (nI 0)) 42 35 (nI 0)) 42 35 (nI 1)) 42 35 (nI 2)) (s2 (s2 j3 70 0 (stk P 41).2.1.toInt64) 70 1 (stk P 41).2.2.toInt64))) ∧ ((stk P 41).1 = 0 → Q (some (some (.int (nI 0)))) (mm X (s2 i3 42 36 (nI 0)) j3))) → WP (d + 300) 1642 (14, [(0, .ref 42), (1, .int (nI 0)), (2, .int (nI 0)), (3, .int (nI 0)), (4, .int (nI 0))], [], mm X (s2 i3 42 36 (nI 0)) j3) Q := by
      intro i3 j3 f3 Q hQ
      have h73 : R7 (s2 i3 42 36 (nI 0)) ns := h7.cg (by rw [s2_ne (by decide), f3 2 (by decide)]) (by rw [s2_ne2 (by decide), f3 42 (by decide)]) (by rw [s2_ne (by decide), f3 29 (by decide)]) (by rw [s2_ne (by decide), f3 30 (by decide)]) (by rw [s2_ne (by decide), f3 64 (by decide)]) (by rw [s2_ne (by decide), f3 65 (by decide)]) (by rw [s2_ne (by decide), f3 48 (by decide)]) (by rw [s2_ne (by decide), f3 49 (by decide)]) (by rw [s2_ne (by decide), f3 50 (by decide)])
      have eF : FTs (s2 i3 42 36 (nI 0)) ns = P := by
        rw [hP]; unfold FTs FT
        rw [s2_ne (show 64 ≠ 42 by decide), s2_ne (show 65 ≠ 42 by decide), f3 64 (by decide), f3 65 (by decide)]
      refine lup 41 (fun v (z : Int32 × Int32 × Int32) => z = stk P v) (fun v z => (14, [(0, .ref 42), (1, .int z.1), (2, .int z.2.1), (3, .int z.2.2), (4, .int (nI v))], [], mm X (s2 i3 42 36 (nI 0)) j3)) ?_ ?_ 0 (nI 0, nI 0, nI 0) (Nat.zero_le _) rfl
      · rintro z rfl
        exact s_1642_14 _ X _ j3 _ _ _ _ _ (br_t (by decide) hQ)
      · rintro v z hv rfl go
        have hE := c_1641 0 X (s2 i3 42 36 (nI 0)) j3 h73 v
        rw [eF] at hE
        refine s_1642_14 _ X _ j3 _ _ _ _ _ (br_f (fun y => by rw [nI_ltI (by omega) (by omega)] at y; omega) ⟨_, hE.up (by omega), ?_⟩)
        rw [nI_add v 1]
        refine br_c (fun y => bq_c (fun w => ?_) (fun w => ?_)) (fun y => ?_)
        · exact go ((stk P v).1 + nI 1, (stk P v).2.1, nI v) (stk_1 y w).symm
        · exact go ((stk P v).1 + nI 1, nI v, nI v) (stk_0 y w).symm
        · exact go (stk P v) (stk_n y).symm
    refine s_1457_9 _ X i j _ _ _ _ _ (br_t (by decide) (bq_c (fun w => qI_of ?_) (fun w => qI_of ?_)))
    · obtain ⟨i3, hi3⟩ : ∃ i3, i3 = s2 (s2 (s2 i 40 1 (nI 0)) 40 1 (nI 1)) 40 1 (nI 2) := ⟨_, rfl⟩
      rw [← hi3]
      have f3 : ∀ b, b ≠ 40 → i3 b = i b := fun b hb => by rw [hi3, s2_ne hb, s2_ne hb, s2_ne hb]
      have F : FrC X i i3 := FrC_40 f3
      have Z : RZ i3 := RZ_of hz (f3 34 (by decide)) (f3 35 (by decide))
      refine s_1642 _ X i3 _ _ (ref i3 _ f3 _ (bq_t w (qI_of ⟨rfl, hK.k (fin_row hrel F Z (FrR_42 (fun b hb => by rw [s2_ne hb, s2_ne hb, s2_ne hb, s2_ne hb]) (fun k hk => by rw [s2_ne2 (by omega), s2_ne2 (by omega), s2_ne2 (by omega), s2_ne2 (by omega)])) (r8_of 2 (by decide) ?_ (s2_self _ _ _ _) ?_))⟩)))
      · rw [s2_ne (show 40 ≠ 42 by decide), s2_ne (show 40 ≠ 42 by decide), s2_ne (show 40 ≠ 42 by decide), s2_ne (show 40 ≠ 42 by decide), hi3, s2_self]
      · intro t ht
        match t, ht with
        | 0, _ => simp [s2_ap]
        | 1, _ => simp [s2_ap]
    · exact s_1642 _ X i _ _ (ref i j (fun _ _ => rfl) _ (bq_f w (qI_of ⟨rfl, ht⟩)))
  · rintro v z hv rfl go
    have hE := c_1491 0 X i j h7 v
    rw [← hP] at hE
    refine s_1457_9 _ X i j _ _ _ _ _ (br_f (fun y => by rw [nI_ltI (by omega) (by omega)] at y; omega) ⟨_, hE.up (by omega), ?_⟩)
    rw [nI_add v 1]
    refine bq_c (fun y => ?_) (fun y => bq_c (fun w => ?_) (fun w => ?_))
    · exact go (stk P v) (stk_n y).symm
    · exact go ((stk P v).1 + nI 1, (stk P v).2.1, nI v) (stk_1 y w).symm
    · exact go ((stk P v).1 + nI 1, nI v, nI v) (stk_0 y w).symm
