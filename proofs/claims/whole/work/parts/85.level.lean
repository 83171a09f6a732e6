/-! ===== level ===== -/
/-- the level of day t: the reading, or the fall -/
noncomputable def lvV (i : Nat → Nat → Int32) (g : Nat) (wh : Int32) (t : Nat) : Int32 := if wh = 0 then rdR i (i 44) g t else if t = 0 then nI 0 else rdR i (i 44) g (t - 1) - rdR i (i 44) g t
/-- as the reference has it -/
noncomputable def lvR (i : Nat → Nat → Int32) (g : Nat) (wh : Int32) (t : Nat) : Int32 := if wh = 0 then lvV i g wh t else -(lvV i g wh t)
def lvA (wh v u : Int32) : Prop := (wh = 0 ∧ u ≤ v) ∨ (¬ wh = 0 ∧ v ≤ u)
theorem lvA0 {wh v u : Int32} (h : wh = 0) : lvA wh v u ↔ u ≤ v := ⟨fun q => q.elim (·.2) (fun z => absurd h z.1), fun q => Or.inl ⟨h, q⟩⟩
theorem lvA1 {wh v u : Int32} (h : ¬ wh = 0) : lvA wh v u ↔ v ≤ u := ⟨fun q => q.elim (fun z => absurd z.1 h) (·.2), fun q => Or.inr ⟨h, q⟩⟩
theorem hdv_ex (tp : Int32) (a : Nat → Int32) (h l s : Int32) : ∀ t, ∃ u, u ≤ t ∧ hdv tp a h l s t = trv a h l u
  | 0 => ⟨0, Nat.le_refl _, rfl⟩
  | t + 1 => by
    obtain ⟨u, hu, e⟩ := hdv_ex tp a h l s t
    by_cases q : abI (trv a h l (t + 1) - rdv tp a h l s t) ≤ s
    · rw [hdv_le q]
      by_cases z : tp = 0
      · rw [rdv_0 z]; exact ⟨u, by omega, e⟩
      · rw [rdv_1 z]; exact ⟨t, by omega, rfl⟩
    · rw [hdv_gt q]; exact ⟨t + 1, Nat.le_refl _, rfl⟩
theorem rdv_ex (tp : Int32) (a : Nat → Int32) (h l s : Int32) (t : Nat) : ∃ u, u ≤ t ∧ rdv tp a h l s t = trv a h l u := by
  by_cases z : tp = 0
  · rw [rdv_0 z]; exact hdv_ex tp a h l s t
  · rw [rdv_1 z]; exact ⟨t, Nat.le_refl _, rfl⟩
theorem ti_add {x y : Int32} (h1 : -1073741824 ≤ x.toInt + y.toInt) (h2 : x.toInt + y.toInt ≤ 1073741823) : (x + y).toInt = x.toInt + y.toInt := by
  rw [Int32.toInt_add]
  exact Int.bmod_eq_of_le_mul_two (by omega) (by omega)
theorem ti_sub {x y : Int32} (h1 : -1073741824 ≤ x.toInt - y.toInt) (h2 : x.toInt - y.toInt ≤ 1073741823) : (x - y).toInt = x.toInt - y.toInt := by
  rw [Int32.toInt_sub]
  exact Int.bmod_eq_of_le_mul_two (by omega) (by omega)
theorem ti_neg {x : Int32} (h1 : -1073741824 ≤ x.toInt) (h2 : x.toInt ≤ 1073741823) : (-x).toInt = -x.toInt := by
  rw [Int32.toInt_neg]
  exact Int.bmod_eq_of_le_mul_two (by omega) (by omega)
theorem rd_b {X : XS} {i : Nat → Nat → Int32} {n ng g : Nat} (h0 : R0 X i n) (h2 : R2 X i ng) (hB : RB i) (hg : g < ng) {t : Nat} (ht : t < n) : -10000 ≤ (rdR i (i 44) g t).toInt ∧ (rdR i (i 44) g t).toInt ≤ 10000 := by
  have := h2.1
  obtain ⟨u, hu, e⟩ := rdv_ex (i 51 g) (i 44) (i 48 g) (i 49 g) (i 50 g) t
  have e' : rdR i (i 44) g t = i 44 u + i 49 g - i 48 g := e
  obtain ⟨⟨b1, b2⟩, ⟨b3, b4⟩, -⟩ := hB g (by omega)
  obtain ⟨-, m, hm, em⟩ := h0.2.2 u (by omega)
  rw [Int32.le_iff_toInt_le] at b1 b2 b3 b4
  have c1 : (nI 0).toInt = 0 := by decide
  have c2 : (nI 300).toInt = 300 := by decide
  have c3 : (kI (-50)).toInt = -50 := by decide
  have c4 : (nI 50).toInt = 50 := by decide
  have c5 : (i 44 u).toInt = m := by rw [em]; exact nI_toInt (by omega)
  have s1 := ti_add (x := i 44 u) (y := i 49 g) (by omega) (by omega)
  have s2 := ti_sub (x := i 44 u + i 49 g) (y := i 48 g) (by omega) (by omega)
  rw [e', s2, s1]
  omega
theorem lv_b {X : XS} {i : Nat → Nat → Int32} {n ng g : Nat} (h0 : R0 X i n) (h2 : R2 X i ng) (hB : RB i) (hg : g < ng) (wh : Int32) {t : Nat} (ht : t < n) : -20000 ≤ (lvV i g wh t).toInt ∧ (lvV i g wh t).toInt ≤ 20000 := by
  have r1 := rd_b h0 h2 hB hg ht
  unfold lvV
  split
  · omega
  · split
    · have c1 : (nI 0).toInt = 0 := by decide
      omega
    · have r2 := rd_b h0 h2 hB hg (show t - 1 < n by omega)
      rw [ti_sub (by omega) (by omega)]
      omega
theorem neg_le {x y : Int32} (h1 : -20000 ≤ x.toInt ∧ x.toInt ≤ 20000) (h2 : -20000 ≤ y.toInt ∧ y.toInt ≤ 20000) : -x ≤ -y ↔ y ≤ x := by
  rw [Int32.le_iff_toInt_le, Int32.le_iff_toInt_le, ti_neg (by omega) (by omega), ti_neg (by omega) (by omega)]
  omega
theorem neg_neg' (x : Int32) : -(-x) = x := by grind
theorem lvR_A {X : XS} {i : Nat → Nat → Int32} {n ng g : Nat} (h0 : R0 X i n) (h2 : R2 X i ng) (hB : RB i) (hg : g < ng) (wh : Int32) {t u : Nat} (ht : t < n) (hu : u < n) : lvR i g wh u ≤ lvR i g wh t ↔ lvA wh (lvV i g wh t) (lvV i g wh u) := by
  unfold lvR
  by_cases z : wh = 0
  · rw [if_pos z, if_pos z, lvA0 z]
  · rw [if_neg z, if_neg z, lvA1 z, neg_le (lv_b h0 h2 hB hg wh hu) (lv_b h0 h2 hB hg wh ht)]
theorem lvR_V (i : Nat → Nat → Int32) (g : Nat) (wh : Int32) (t : Nat) : (wh = 0 → lvR i g wh t = lvV i g wh t) ∧ (¬ wh = 0 → -(lvR i g wh t) = lvV i g wh t) := by
  unfold lvR
  exact ⟨fun z => if_pos z, fun z => by rw [if_neg z, neg_neg']⟩
theorem dcn {P E : Prop} (h : ¬ P) (c l s : Int32) : dcI P E c l s = l * bi E := by rw [← co1]; unfold coI; rw [if_neg h]
theorem dcy {P E : Prop} (h : P) (c l s : Int32) : dcI P E c l s = c * nI 1 + s * bi E := by rw [← co1]; unfold coI; rw [if_pos h]
set_option maxRecDepth 100000 in
theorem s_1483 (d : Nat) (X : XS) (i : Nat → Nat → Int32) (j : Nat → Nat → Int64) (a1 : Nat) (h1 : GO X a1) (a2 : Int32) (a3 : Int32) (K : Int32 → AM → Prop) (h : ((¬ (a2 = 0) → ((a3 ≤ 0 → K (nI 0) (mm X i j)) ∧ (¬ (a3 ≤ 0) → (((nI 240) ≤ a3 → K (nI 0) (mm X i j)) ∧ (¬ ((nI 240) ≤ a3) → (vp_in (a3 - (nI 1)) 240) ∧ (vp_in a3 240) ∧ K ((i (xr X a1 7) ((a3 - (nI 1)).toNatClampNeg)) - (i (xr X a1 7) ((a3).toNatClampNeg))) (mm X i j)))))) ∧ (a2 = 0 → ((a3 < 0 → K (nI 0) (mm X i j)) ∧ (¬ (a3 < 0) → (((nI 240) ≤ a3 → K (nI 0) (mm X i j)) ∧ (¬ ((nI 240) ≤ a3) → (vp_in a3 240) ∧ K (i (xr X a1 7) ((a3).toNatClampNeg)) (mm X i j)))))))) : WI (d + 1) 1483 [.ref 2, .ref a1, .int a2, .int a3] (mm X i j) K := te_1483 d 2 a1 a2 a3 (mm X i j) (qI K) ⟨fun e1 => ⟨h1.1, (te_264 d a1 a3 (mm X i j) _ ⟨fun e2 => ⟨_, rfl, ⟨_, rfl, ((h.1 (e1)).1 (e2))⟩⟩, fun e2 => ⟨fun e3 => ⟨_, rfl, ⟨_, rfl, (((h.1 (e1)).2 (e2)).1 (e3))⟩⟩, fun e3 => ⟨h1.1, ⟨⟨h1.2.2.2.1, (vin_of h1.2.2.2.2 (((h.1 (e1)).2 (e2)).2 (e3)).1)⟩, ⟨h1.1, ⟨⟨h1.2.2.2.1, (vin_of h1.2.2.2.2 (((h.1 (e1)).2 (e2)).2 (e3)).2.1)⟩, ⟨_, rfl, ⟨_, rfl, (((h.1 (e1)).2 (e2)).2 (e3)).2.2⟩⟩⟩⟩⟩⟩⟩⟩)⟩, fun e1 => ⟨h1.1, (te_263 d a1 a3 (mm X i j) _ ⟨fun e4 => ⟨_, rfl, ⟨_, rfl, ((h.2 ((Classical.byContradiction e1))).1 (e4))⟩⟩, fun e4 => ⟨fun e5 => ⟨_, rfl, ⟨_, rfl, (((h.2 ((Classical.byContradiction e1))).2 (e4)).1 (e5))⟩⟩, fun e5 => ⟨h1.1, ⟨⟨h1.2.2.2.1, (vin_of h1.2.2.2.2 (((h.2 ((Classical.byContradiction e1))).2 (e4)).2 (e5)).1)⟩, ⟨_, rfl, ⟨_, rfl, (((h.2 ((Classical.byContradiction e1))).2 (e4)).2 (e5)).2⟩⟩⟩⟩⟩⟩)⟩⟩
theorem c_1483 (d : Nat) {X : XS} {i i1 : Nat → Nat → Int32} (j : Nat → Nat → Int64) {n ng g t : Nat} (hn : n ≤ 240) (h2 : R2 X i ng) (k : Kp X i i1) (hL : LK X i1 ng n (i 44)) (hg : g < ng) (ht : t < n) (wh : Int32) : EvI (d + 1) 1483 [.ref 2, .ref (xr X 17 g), .int wh, .int (nI t)] (mm X i1 j) (lvV i g wh t) (mm X i1 j) := by
  have hG := (h2.2.2.2 g hg).1
  have v : ∀ u, u < n → i1 (xr X (xr X 17 g) 7) u = rdR i (i 44) g u := fun u hu => by rw [(hL g hg u hu).1, rdR_kp k]
  refine s_1483 d X i1 j (xr X 17 g) hG wh (nI t) _ ?_
  refine bq_c (fun z => ?_) (fun z => ?_)
  · by_cases t0 : t = 0
    · subst t0
      exact br_t (Int32.le_refl _) ⟨by unfold lvV; rw [if_neg z, if_pos rfl], rfl⟩
    · refine br_f (nI_nle (by omega) (by omega)) (br_f (nI_ge (by omega) (by decide)) ⟨?_, vp_in_nI (by omega) (by decide), ?_, rfl⟩)
      · rw [pk_sub (by omega)]; exact vp_in_nI (by omega) (by decide)
      · rw [pk_sub (by omega), tc_nI (by omega), tc_nI (by omega), v t ht, v (t - 1) (by omega)]
        unfold lvV; rw [if_neg z, if_neg t0]
  · refine br_f (nI_pos (by omega)) (br_f (nI_ge (by omega) (by decide)) ⟨vp_in_nI (by omega) (by decide), ?_, rfl⟩)
    rw [tc_nI (by omega), v t ht]
    unfold lvV; rw [if_pos z]
set_option maxRecDepth 100000 in
theorem s_1484 (d : Nat) (X : XS) (i : Nat → Nat → Int32) (j : Nat → Nat → Int64) (a1 : Nat) (h1 : PO X a1) (a2 : Nat) (h2 : GO X a2) (a3 : Int32) (a4 : Int32) (K : Int32 → AM → Prop) (h : WP (d + 2) 1484 (6, [(0, .ref 2), (1, .ref a1), (2, .ref a2), (3, .int a3), (4, .int a4), (5, .int (nI 0)), (6, .int (nI 0))], [], (mm X i j)) (qI K)) : WI (d + 2) 1484 [.ref 2, .ref a1, .ref a2, .int a3, .int a4] (mm X i j) K := te_1484 (d + 1) 2 a1 a2 a3 a4 (mm X i j) (qI K) h
set_option maxRecDepth 100000 in
theorem s_1484_6 (d : Nat) (X : XS) (i : Nat → Nat → Int32) (j : Nat → Nat → Int64) (v1 : Nat) (h1 : PO X v1) (v2 : Nat) (h2 : GO X v2) (v3 : Int32) (v4 : Int32) (v5 : Int32) (v6 : Int32) (Q : Option (Option Value) → AM → Prop) (h : (((i 31 2) ≤ v6 → Q (some (some (.int v5))) (mm X i j)) ∧ (¬ ((i 31 2) ≤ v6) → (∃ (x2 : Int32), EvI (d + 1) 1483 [.ref 2, .ref v2, .int v3, .int v6] (mm X i j) x2 (mm X i j) ∧ ((¬ (v3 = 0) → ((x2 < v4 → ((i 31 2) ≤ (nI 240)) ∧ ((¬ (sOn (i 31 2) (i 33) v6) → WP (d + 2) 1484 (6, [(0, .ref 2), (1, .ref v1), (2, .ref v2), (3, .int v3), (4, .int v4), (5, .int (v5 + ((i v1 1) * (nI 0)))), (6, .int (v6 + (nI 1)))], [], (mm X i j)) Q) ∧ (sOn (i 31 2) (i 33) v6 → WP (d + 2) 1484 (6, [(0, .ref 2), (1, .ref v1), (2, .ref v2), (3, .int v3), (4, .int v4), (5, .int (v5 + ((i v1 1) * (nI 1)))), (6, .int (v6 + (nI 1)))], [], (mm X i j)) Q))) ∧ (¬ (x2 < v4) → ((i 31 2) ≤ (nI 240)) ∧ ((¬ (sOn (i 31 2) (i 33) v6) → WP (d + 2) 1484 (6, [(0, .ref 2), (1, .ref v1), (2, .ref v2), (3, .int v3), (4, .int v4), (5, .int (v5 + (((i v1 0) * (nI 1)) + ((i v1 2) * (nI 0))))), (6, .int (v6 + (nI 1)))], [], (mm X i j)) Q) ∧ (sOn (i 31 2) (i 33) v6 → WP (d + 2) 1484 (6, [(0, .ref 2), (1, .ref v1), (2, .ref v2), (3, .int v3), (4, .int v4), (5, .int (v5 + (((i v1 0) * (nI 1)) + ((i v1 2) * (nI 1))))), (6, .int (v6 + (nI 1)))], [], (mm X i j)) Q))))) ∧ (v3 = 0 → ((v4 < x2 → ((i 31 2) ≤ (nI 240)) ∧ ((¬ (sOn (i 31 2) (i 33) v6) → WP (d + 2) 1484 (6, [(0, .ref 2), (1, .ref v1), (2, .ref v2), (3, .int v3), (4, .int v4), (5, .int (v5 + ((i v1 1) * (nI 0)))), (6, .int (v6 + (nI 1)))], [], (mm X i j)) Q) ∧ (sOn (i 31 2) (i 33) v6 → WP (d + 2) 1484 (6, [(0, .ref 2), (1, .ref v1), (2, .ref v2), (3, .int v3), (4, .int v4), (5, .int (v5 + ((i v1 1) * (nI 1)))), (6, .int (v6 + (nI 1)))], [], (mm X i j)) Q))) ∧ (¬ (v4 < x2) → ((i 31 2) ≤ (nI 240)) ∧ ((¬ (sOn (i 31 2) (i 33) v6) → WP (d + 2) 1484 (6, [(0, .ref 2), (1, .ref v1), (2, .ref v2), (3, .int v3), (4, .int v4), (5, .int (v5 + (((i v1 0) * (nI 1)) + ((i v1 2) * (nI 0))))), (6, .int (v6 + (nI 1)))], [], (mm X i j)) Q) ∧ (sOn (i 31 2) (i 33) v6 → WP (d + 2) 1484 (6, [(0, .ref 2), (1, .ref v1), (2, .ref v2), (3, .int v3), (4, .int v4), (5, .int (v5 + (((i v1 0) * (nI 1)) + ((i v1 2) * (nI 1))))), (6, .int (v6 + (nI 1)))], [], (mm X i j)) Q)))))))))) : WP (d + 2) 1484 (6, [(0, .ref 2), (1, .ref v1), (2, .ref v2), (3, .int v3), (4, .int v4), (5, .int v5), (6, .int v6)], [], mm X i j) Q := tc_1484_6 (d + 1) 2 v1 v2 v3 v4 v5 v6 (mm X i j) Q ⟨rfl, ⟨rfl, (te_771 (d + 1) 31 (mm X i j) _ ⟨rfl, ⟨_, rfl, ⟨fun e1 => (h.1 (e1)), fun e1 => ⟨rfl, (Exists.elim (h.2 (e1)) fun x2 h18 => EvI.use h18.1 ⟨fun e3 => ⟨fun e4 => (tc_1484_61 (d + 1) 2 v1 v2 v3 v4 v5 v6 (nI 0) (mm X i j) _ ⟨rfl, ⟨rfl, (p_773 (d + 1) X i j v6 _ ⟨((h18.2.1 (e3)).1 (e4)).1, ⟨fun e5 => ⟨h1, (te_519 (d + 1) v1 (nI 0) (nI 1) (nI 0) (mm X i j) _ ⟨fun _ => ⟨h1, ⟨_, rfl, (((h18.2.1 (e3)).1 (e4)).2.1 ((bi_z e5)))⟩⟩, fun e6 => absurd (show (nI 0) = 0 by decide) e6⟩)⟩, fun e5 => ⟨h1, (te_519 (d + 1) v1 (nI 0) (nI 1) (nI 1) (mm X i j) _ ⟨fun _ => ⟨h1, ⟨_, rfl, (((h18.2.1 (e3)).1 (e4)).2.2 ((bi_n e5)))⟩⟩, fun e7 => absurd (show (nI 0) = 0 by decide) e7⟩)⟩⟩⟩)⟩⟩), fun e4 => (tc_1484_61 (d + 1) 2 v1 v2 v3 v4 v5 v6 (nI 1) (mm X i j) _ ⟨rfl, ⟨rfl, (p_773 (d + 1) X i j v6 _ ⟨((h18.2.1 (e3)).2 (e4)).1, ⟨fun e8 => ⟨h1, (te_519 (d + 1) v1 (nI 1) (nI 1) (nI 0) (mm X i j) _ ⟨fun e9 => absurd e9 (show ¬ ((nI 1) = 0) by decide), fun _ => ⟨h1, ⟨h1, ⟨_, rfl, (((h18.2.1 (e3)).2 (e4)).2.1 ((bi_z e8)))⟩⟩⟩⟩)⟩, fun e8 => ⟨h1, (te_519 (d + 1) v1 (nI 1) (nI 1) (nI 1) (mm X i j) _ ⟨fun e10 => absurd e10 (show ¬ ((nI 1) = 0) by decide), fun _ => ⟨h1, ⟨h1, ⟨_, rfl, (((h18.2.1 (e3)).2 (e4)).2.2 ((bi_n e8)))⟩⟩⟩⟩)⟩⟩⟩)⟩⟩)⟩, fun e3 => ⟨fun e11 => (tc_1484_61 (d + 1) 2 v1 v2 v3 v4 v5 v6 (nI 0) (mm X i j) _ ⟨rfl, ⟨rfl, (p_773 (d + 1) X i j v6 _ ⟨((h18.2.2 ((Classical.byContradiction e3))).1 (e11)).1, ⟨fun e12 => ⟨h1, (te_519 (d + 1) v1 (nI 0) (nI 1) (nI 0) (mm X i j) _ ⟨fun _ => ⟨h1, ⟨_, rfl, (((h18.2.2 ((Classical.byContradiction e3))).1 (e11)).2.1 ((bi_z e12)))⟩⟩, fun e13 => absurd (show (nI 0) = 0 by decide) e13⟩)⟩, fun e12 => ⟨h1, (te_519 (d + 1) v1 (nI 0) (nI 1) (nI 1) (mm X i j) _ ⟨fun _ => ⟨h1, ⟨_, rfl, (((h18.2.2 ((Classical.byContradiction e3))).1 (e11)).2.2 ((bi_n e12)))⟩⟩, fun e14 => absurd (show (nI 0) = 0 by decide) e14⟩)⟩⟩⟩)⟩⟩), fun e11 => (tc_1484_61 (d + 1) 2 v1 v2 v3 v4 v5 v6 (nI 1) (mm X i j) _ ⟨rfl, ⟨rfl, (p_773 (d + 1) X i j v6 _ ⟨((h18.2.2 ((Classical.byContradiction e3))).2 (e11)).1, ⟨fun e15 => ⟨h1, (te_519 (d + 1) v1 (nI 1) (nI 1) (nI 0) (mm X i j) _ ⟨fun e16 => absurd e16 (show ¬ ((nI 1) = 0) by decide), fun _ => ⟨h1, ⟨h1, ⟨_, rfl, (((h18.2.2 ((Classical.byContradiction e3))).2 (e11)).2.1 ((bi_z e15)))⟩⟩⟩⟩)⟩, fun e15 => ⟨h1, (te_519 (d + 1) v1 (nI 1) (nI 1) (nI 1) (mm X i j) _ ⟨fun e17 => absurd e17 (show ¬ ((nI 1) = 0) by decide), fun _ => ⟨h1, ⟨h1, ⟨_, rfl, (((h18.2.2 ((Classical.byContradiction e3))).2 (e11)).2.2 ((bi_n e15)))⟩⟩⟩⟩)⟩⟩⟩)⟩⟩)⟩⟩)⟩⟩⟩⟩)⟩⟩
theorem c_1484 (d : Nat) {X : XS} {i i1 : Nat → Nat → Int32} (j : Nat → Nat → Int64) {n ng g kn : Nat} (hn : n ≤ 240) (hkn : kn ≤ n) (h2 : R2 X i ng) (k : Kp X i i1) (hL : LK X i1 ng n (i 44)) (hg : g < ng) {so : Nat → Int32} {ca : Nat → Prop} (hS : SV i1 kn so ca) {P : Nat} (hP : PO X P) (wh v : Int32) :
    EvI (d + 2) 1484 [.ref 2, .ref P, .ref (xr X 17 g), .int wh, .int v] (mm X i1 j) (sm (fun t => dcI (lvA wh v (lvV i g wh t)) (ca t) (i1 P 0) (i1 P 1) (i1 P 2)) kn) (mm X i1 j) := by
  have hG := (h2.2.2.2 g hg).1
  obtain ⟨c, hc⟩ : ∃ c, c = i1 P 0 := ⟨_, rfl⟩
  obtain ⟨l, hl⟩ : ∃ l, l = i1 P 1 := ⟨_, rfl⟩
  obtain ⟨s, hs⟩ : ∃ s, s = i1 P 2 := ⟨_, rfl⟩
  rw [← hc, ← hl, ← hs]
  refine s_1484 d X i1 j P hP (xr X 17 g) hG wh v _ ?_
  refine lup kn (fun t (q : Int32) => q = sm (fun t => dcI (lvA wh v (lvV i g wh t)) (ca t) c l s) t) (fun t q => (6, [(0, .ref 2), (1, .ref P), (2, .ref (xr X 17 g)), (3, .int wh), (4, .int v), (5, .int q), (6, .int (nI t))], [], mm X i1 j)) ?_ ?_ 0 _ (Nat.zero_le _) rfl
  · intro q hq
    refine s_1484_6 d X i1 j P hP (xr X 17 g) hG _ _ _ _ _ (br_t (by rw [hS.1]; exact Int32.le_refl _) (qI_of ⟨hq, rfl⟩))
  · intro t q ht hq go
    refine s_1484_6 d X i1 j P hP (xr X 17 g) hG _ _ _ _ _ (br_f (by rw [hS.1]; exact nI_ge ht (by omega)) ⟨_, c_1483 d j hn h2 k hL hg (by omega) wh, ?_⟩)
    rw [hS.cm ht, nI_add, ← hc, ← hl, ← hs]
    have up : ∀ x, x = dcI (lvA wh v (lvV i g wh t)) (ca t) c l s → WP (d + 2) 1484 (6, [(0, .ref 2), (1, .ref P), (2, .ref (xr X 17 g)), (3, .int wh), (4, .int v), (5, .int (q + x)), (6, .int (nI (t + 1)))], [], mm X i1 j) (qI fun x' M2 => x' = sm (fun t => dcI (lvA wh v (lvV i g wh t)) (ca t) c l s) kn ∧ M2 = mm X i1 j) := fun x hx => go _ (by rw [sm, hq, hx])
    have no : ¬ lvA wh v (lvV i g wh t) → (i1 31 2 ≤ nI 240) ∧ ((¬ ca t → WP (d + 2) 1484 (6, [(0, .ref 2), (1, .ref P), (2, .ref (xr X 17 g)), (3, .int wh), (4, .int v), (5, .int (q + l * nI 0)), (6, .int (nI (t + 1)))], [], mm X i1 j) (qI fun x' M2 => x' = sm (fun t => dcI (lvA wh v (lvV i g wh t)) (ca t) c l s) kn ∧ M2 = mm X i1 j)) ∧ (ca t → WP (d + 2) 1484 (6, [(0, .ref 2), (1, .ref P), (2, .ref (xr X 17 g)), (3, .int wh), (4, .int v), (5, .int (q + l * nI 1)), (6, .int (nI (t + 1)))], [], mm X i1 j) (qI fun x' M2 => x' = sm (fun t => dcI (lvA wh v (lvV i g wh t)) (ca t) c l s) kn ∧ M2 = mm X i1 j))) := fun z => ⟨hS.ok, fun y => up _ (by rw [dcn z, bi_f y]; rfl), fun y => up _ (by rw [dcn z, bi_t y]; rfl)⟩
    have ye : lvA wh v (lvV i g wh t) → (i1 31 2 ≤ nI 240) ∧ ((¬ ca t → WP (d + 2) 1484 (6, [(0, .ref 2), (1, .ref P), (2, .ref (xr X 17 g)), (3, .int wh), (4, .int v), (5, .int (q + (c * nI 1 + s * nI 0))), (6, .int (nI (t + 1)))], [], mm X i1 j) (qI fun x' M2 => x' = sm (fun t => dcI (lvA wh v (lvV i g wh t)) (ca t) c l s) kn ∧ M2 = mm X i1 j)) ∧ (ca t → WP (d + 2) 1484 (6, [(0, .ref 2), (1, .ref P), (2, .ref (xr X 17 g)), (3, .int wh), (4, .int v), (5, .int (q + (c * nI 1 + s * nI 1))), (6, .int (nI (t + 1)))], [], mm X i1 j) (qI fun x' M2 => x' = sm (fun t => dcI (lvA wh v (lvV i g wh t)) (ca t) c l s) kn ∧ M2 = mm X i1 j))) := fun z => ⟨hS.ok, fun y => up _ (by rw [dcy z, bi_f y]; rfl), fun y => up _ (by rw [dcy z, bi_t y]; rfl)⟩
    refine bq_c (fun z => br_c (fun y => no ?_) (fun y => ye ?_)) (fun z => br_c (fun y => no ?_) (fun y => ye ?_))
    · rw [lvA1 z]; exact Int32.not_le.mpr y
    · rw [lvA1 z]; exact Int32.not_lt.mp y
    · rw [lvA0 z]; exact Int32.not_le.mpr y
    · rw [lvA0 z]; exact Int32.not_lt.mp y
set_option maxRecDepth 100000 in
theorem s_1613 (d : Nat) (X : XS) (i : Nat → Nat → Int32) (j : Nat → Nat → Int64) (a1 : Int32) (a2 : Int32) (a3 : Int32) (K : Int32 → AM → Prop) (h : ((¬ (a2 = 0) → ((¬ (a3 = 0) → (vp_in ((((nI 240) * a1) + a3) - (nI 1)) 960) ∧ (vp_in (((nI 240) * a1) + a3) 960) ∧ K (-((i 71 (((((nI 240) * a1) + a3) - (nI 1)).toNatClampNeg)) - (i 71 ((((nI 240) * a1) + a3).toNatClampNeg)))) (mm X i j)) ∧ (a3 = 0 → K (-(nI 0)) (mm X i j)))) ∧ (a2 = 0 → (vp_in (((nI 240) * a1) + a3) 960) ∧ K (i 71 ((((nI 240) * a1) + a3).toNatClampNeg)) (mm X i j)))) : WI (d + 1) 1613 [.ref 42, .int a1, .int a2, .int a3] (mm X i j) K := te_1613 d 42 a1 a2 a3 (mm X i j) (qI K) ⟨fun e1 => ⟨rfl, (te_1583 d 42 a1 a3 (mm X i j) _ ⟨fun e2 => ⟨rfl, ⟨⟨rfl, ((h.1 (e1)).1 (e2)).1⟩, ⟨rfl, ⟨⟨rfl, ((h.1 (e1)).1 (e2)).2.1⟩, ⟨_, rfl, ⟨_, rfl, ((h.1 (e1)).1 (e2)).2.2⟩⟩⟩⟩⟩⟩, fun e2 => ⟨_, rfl, ⟨_, rfl, ((h.1 (e1)).2 ((Classical.byContradiction e2)))⟩⟩⟩)⟩, fun e1 => ⟨rfl, ⟨⟨rfl, (h.2 ((Classical.byContradiction e1))).1⟩, ⟨_, rfl, (h.2 ((Classical.byContradiction e1))).2⟩⟩⟩⟩
theorem c_1613 (d : Nat) {X : XS} {i i1 : Nat → Nat → Int32} (j : Nat → Nat → Int64) {n ng g t : Nat} (hn : n ≤ 240) (hg4 : ng ≤ 4) (hW : ∀ g, g < ng → ∀ t, t < n → i1 71 (240 * g + t) = rdR i (i 44) g t) (hg : g < ng) (ht : t < n) (wh : Int32) : EvI (d + 1) 1613 [.ref 42, .int (nI g), .int wh, .int (nI t)] (mm X i1 j) (lvR i g wh t) (mm X i1 j) := by
  refine s_1613 d X i1 j (nI g) wh (nI t) _ ?_
  rw [pk_mul, nI_add]
  refine bq_c (fun z => bq_c (fun y => ?_) (fun y => ?_)) (fun z => ?_)
  · have t0 : ¬ t = 0 := fun e => y (by rw [e]; rfl)
    rw [pk_sub (by omega), tc_nI (by omega), tc_nI (by omega), hW g hg t ht, show 240 * g + t - 1 = 240 * g + (t - 1) by omega, hW g hg (t - 1) (by omega)]
    refine ⟨vp_in_nI (by omega) (by decide), vp_in_nI (by omega) (by decide), ?_, rfl⟩
    unfold lvR lvV; rw [if_neg z, if_neg z, if_neg t0]
  · have t0 : t = 0 := (nIz (by omega)).mp y
    refine ⟨?_, rfl⟩
    unfold lvR lvV; rw [if_neg z, if_neg z, if_pos t0]
  · rw [tc_nI (by omega), hW g hg t ht]
    refine ⟨vp_in_nI (by omega) (by decide), ?_, rfl⟩
    unfold lvR lvV; rw [if_pos z, if_pos z]
/-- the best line so far, and its coins -/
noncomputable def lvst (S V : Nat → Int32) (l0 : Int32) : Nat → Int32 × Int32
  | 0 => (nI 9999, l0)
  | e + 1 => @ite _ (S e < (lvst S V l0 e).2 ∨ (S e = (lvst S V l0 e).2 ∧ ¬ (lvst S V l0 e).1 = nI 9999 ∧ V e < (lvst S V l0 e).1)) (Classical.propDecidable _) (V e, S e) (lvst S V l0 e)
section lvs
variable {S V : Nat → Int32} {l0 : Int32} {e : Nat}
theorem lv_y (h : S e < (lvst S V l0 e).2 ∨ (S e = (lvst S V l0 e).2 ∧ ¬ (lvst S V l0 e).1 = nI 9999 ∧ V e < (lvst S V l0 e).1)) : lvst S V l0 (e + 1) = (V e, S e) := by rw [lvst, if_pos h]
theorem lv_n (h : ¬ (S e < (lvst S V l0 e).2 ∨ (S e = (lvst S V l0 e).2 ∧ ¬ (lvst S V l0 e).1 = nI 9999 ∧ V e < (lvst S V l0 e).1))) : lvst S V l0 (e + 1) = lvst S V l0 e := by rw [lvst, if_neg h]
end lvs
set_option maxRecDepth 100000 in
theorem s_1439 (d : Nat) (X : XS) (i : Nat → Nat → Int32) (j : Nat → Nat → Int64) (a1 : Int32) (a2 : Int32) (a3 : Int32) (a4 : Int32) (a5 : Int32) (K : Int32 → AM → Prop) (h : (PSs X i) ∧ ((¬ ((nI 0) ≤ a1 ∧ a1 ≤ ((i 2 9) - (nI 1)))) → (GLs X i) ∧ ((¬ ((nI 0) ≤ a2 ∧ a2 ≤ ((i 2 4) - (nI 1)))) → K (kI (-1)) (mm X i j)) ∧ (((nI 0) ≤ a2 ∧ a2 ≤ ((i 2 4) - (nI 1))) → (GO X (xr X 17 (a2.toNatClampNeg))) → K (kI (-1)) (mm X i j))) ∧ (((nI 0) ≤ a1 ∧ a1 ≤ ((i 2 9) - (nI 1))) → (PO X (xr X 24 (a1.toNatClampNeg))) → (GLs X i) ∧ ((¬ ((nI 0) ≤ a2 ∧ a2 ≤ ((i 2 4) - (nI 1)))) → K (kI (-1)) (mm X i j)) ∧ (((nI 0) ≤ a2 ∧ a2 ≤ ((i 2 4) - (nI 1))) → (GO X (xr X 17 (a2.toNatClampNeg))) → ((¬ ((nI 0) ≤ a3 ∧ a3 ≤ (nI 1)) → K (kI (-1)) (mm X i j)) ∧ ((nI 0) ≤ a3 ∧ a3 ≤ (nI 1) → ((((nI 1) ≤ a4 ∧ a4 ≤ (nI 3)) ∧ ((nI 1) ≤ a5 ∧ a5 ≤ (nI 9)) → (∃ (i21 : Nat → Nat → Int32), EvV (d + 4) 1476 [.ref 2, .ref 9, .int (nI 0), .int a4, .int a5] (mm X i j) (mm X i21 j) ∧ (∃ (x22 : Int32), EvI (d + 4) 774 [.ref 31, .int (i21 31 2)] (mm X i21 j) x22 (mm X i21 j) ∧ WP (d + 5) 1439 (95, [(0, .ref 2), (3, .int a3), (6, .ref (xr X 24 (a1.toNatClampNeg))), (7, .ref (xr X 17 (a2.toNatClampNeg))), (8, .int (nI 9999)), (9, .int ((i21 (xr X 24 (a1.toNatClampNeg)) 1) * x22)), (10, .int (nI 0))], [], (mm X i21 j)) (qI K)))) ∧ (¬ (((nI 1) ≤ a4 ∧ a4 ≤ (nI 3)) ∧ ((nI 1) ≤ a5 ∧ a5 ≤ (nI 9))) → K (kI (-1)) (mm X i j)))))))) : WI (d + 5) 1439 [.ref 2, .int a1, .int a2, .int a3, .int a4, .int a5] (mm X i j) K := te_1439 (d + 4) 2 a1 a2 a3 a4 a5 (mm X i j) (qI K) ⟨rfl, (p_1469 (d + 3) X i j a1 _ ⟨h.1, (fun h2 => ⟨rfl, (p_1467 (d + 3) X i j a2 _ ⟨(h.2.1 h2).1, (fun h4 => ⟨fun _ => ⟨_, rfl, ((h.2.1 h2).2.1 h4)⟩, fun e5 => absurd rfl e5⟩), (fun h6 h7 => ⟨fun _ => ⟨_, rfl, ((h.2.1 h2).2.2 h6 h7)⟩, fun e8 => absurd rfl e8⟩)⟩)⟩), (fun h9 h10 => ⟨rfl, (p_1467 (d + 3) X i j a2 _ ⟨(h.2.2 h9 h10).1, (fun h12 => ⟨fun e13 => absurd e13 (nz_k (h10)), fun _ => ⟨fun _ => ⟨_, rfl, ((h.2.2 h9 h10).2.1 h12)⟩, fun e14 => absurd rfl e14⟩⟩), (fun h15 h16 => ⟨fun e17 => absurd e17 (nz_k (h10)), fun _ => ⟨fun e18 => absurd e18 (nz_k (h16.1)), fun _ => (p_1462 (d + 4) X i j a3 (nI 0) (nI 1) _ ⟨fun e19 => ⟨_, rfl, (((h.2.2 h9 h10).2.2 h15 h16).1 ((bi_z e19)))⟩, fun e19 => (p_1464 (d + 3) X i j a4 a5 _ ⟨fun e20 => ⟨rfl, ⟨rfl, (Exists.elim ((((h.2.2 h9 h10).2.2 h15 h16).2 ((bi_n e19))).1 ((bi_n e20))) fun i21 h26 => EvV.use h26.1 ⟨rfl, ⟨rfl, (te_771 (d + 4) 31 (mm X i21 j) _ ⟨rfl, ⟨_, rfl, ⟨rfl, ⟨rfl, ⟨rfl, (te_771 (d + 4) 31 (mm X i21 j) _ ⟨rfl, ⟨_, rfl, ⟨rfl, (Exists.elim h26.2 fun x22 h24 => EvI.use h24.1 ⟨h10, (te_519 (d + 4) (xr X 24 (a1.toNatClampNeg)) (nI 0) (i21 31 2) x22 (mm X i21 j) _ ⟨fun _ => ⟨h10, ⟨_, rfl, h24.2⟩⟩, fun e23 => absurd (show (nI 0) = 0 by decide) e23⟩)⟩)⟩⟩⟩)⟩⟩⟩⟩⟩)⟩⟩)⟩⟩, fun e20 => ⟨_, rfl, ((((h.2.2 h9 h10).2.2 h15 h16).2 ((bi_n e19))).2 ((bi_nn e20)))⟩⟩)⟩)⟩⟩)⟩)⟩)⟩)⟩
set_option maxRecDepth 100000 in
theorem s_1439_95 (d : Nat) (X : XS) (i : Nat → Nat → Int32) (j : Nat → Nat → Int64) (v3 : Int32) (v6 : Nat) (h6 : PO X v6) (v7 : Nat) (h7 : GO X v7) (v8 : Int32) (v9 : Int32) (v10 : Int32) (Q : Option (Option Value) → AM → Prop) (h : (((i 31 2) ≤ v10 → (∃ (x31 : Int32), EvI (d + 4) 776 [.ref 31, .ref v6] (mm X (s2 (s2 (s2 i 40 1 (nI 0)) 40 1 (nI 1)) 40 1 (nI 2)) (s2 (s2 j 41 0 (v8.toInt64)) 41 1 (v9.toInt64))) x31 (mm X (s2 (s2 (s2 i 40 1 (nI 0)) 40 1 (nI 1)) 40 1 (nI 2)) (s2 (s2 j 41 0 (v8.toInt64)) 41 1 (v9.toInt64))) ∧ Q (some (some (.int (x31 - v9)))) (mm X (s2 (s2 (s2 i 40 1 (nI 0)) 40 1 (nI 1)) 40 1 (nI 2)) (s2 (s2 j 41 0 (v8.toInt64)) 41 1 (v9.toInt64))))) ∧ (¬ ((i 31 2) ≤ v10) → (∃ (x34 : Int32), EvI (d + 4) 1483 [.ref 2, .ref v7, .int v3, .int v10] (mm X i j) x34 (mm X i j) ∧ (∃ (x35 : Int32), EvI (d + 4) 1484 [.ref 2, .ref v6, .ref v7, .int v3, .int x34] (mm X i j) x35 (mm X i j) ∧ ((x35 < v9 → WP (d + 5) 1439 (95, [(0, .ref 2), (3, .int v3), (6, .ref v6), (7, .ref v7), (8, .int x34), (9, .int x35), (10, .int (v10 + (nI 1)))], [], (mm X i j)) Q) ∧ (¬ (x35 < v9) → ((¬ (x35 = v9) → WP (d + 5) 1439 (95, [(0, .ref 2), (3, .int v3), (6, .ref v6), (7, .ref v7), (8, .int v8), (9, .int v9), (10, .int (v10 + (nI 1)))], [], (mm X i j)) Q) ∧ (x35 = v9 → ((v8 = (nI 9999) → WP (d + 5) 1439 (95, [(0, .ref 2), (3, .int v3), (6, .ref v6), (7, .ref v7), (8, .int v8), (9, .int v9), (10, .int (v10 + (nI 1)))], [], (mm X i j)) Q) ∧ (¬ (v8 = (nI 9999)) → ((v8 ≤ x34 → WP (d + 5) 1439 (95, [(0, .ref 2), (3, .int v3), (6, .ref v6), (7, .ref v7), (8, .int v8), (9, .int v9), (10, .int (v10 + (nI 1)))], [], (mm X i j)) Q) ∧ (¬ (v8 ≤ x34) → WP (d + 5) 1439 (95, [(0, .ref 2), (3, .int v3), (6, .ref v6), (7, .ref v7), (8, .int x34), (9, .int x35), (10, .int (v10 + (nI 1)))], [], (mm X i j)) Q))))))))))))) : WP (d + 5) 1439 (95, [(0, .ref 2), (3, .int v3), (6, .ref v6), (7, .ref v7), (8, .int v8), (9, .int v9), (10, .int v10)], [], mm X i j) Q := tc_1439_95 (d + 4) 2 v3 v6 v7 v8 v9 v10 (mm X i j) Q ⟨rfl, ⟨rfl, (te_771 (d + 4) 31 (mm X i j) _ ⟨rfl, ⟨_, rfl, ⟨fun e28 => ⟨rfl, ⟨rfl, (te_641 (d + 4) 40 (mm X i j) _ ⟨rfl, ⟨rfl, ⟨rfl, ⟨rfl, (te_642 (d + 4) 40 (v8.toInt64) (mm X (s2 i 40 1 (nI 0)) j) _ ⟨rfl, ⟨fun e29 => absurd e29 (show ¬ ((nI 20) ≤ (nI 0)) by decide), fun _ => ⟨rfl, ⟨rfl, ⟨⟨rfl, (vpk 0 20 rfl)⟩, ⟨rfl, ⟨rfl, ⟨rfl, ⟨rfl, ⟨rfl, (te_642 (d + 4) 40 (v9.toInt64) (mm X (s2 (s2 i 40 1 (nI 0)) 40 1 (nI 1)) (s2 j 41 0 (v8.toInt64))) _ ⟨rfl, ⟨fun e30 => absurd e30 (show ¬ ((nI 20) ≤ (nI 1)) by decide), fun _ => ⟨rfl, ⟨rfl, ⟨⟨rfl, (vpk 1 20 rfl)⟩, ⟨rfl, ⟨rfl, ⟨rfl, ⟨rfl, ⟨rfl, (Exists.elim (h.1 (e28)) fun x31 h32 => EvI.use h32.1 h32.2)⟩⟩⟩⟩⟩⟩⟩⟩⟩⟩)⟩⟩⟩⟩⟩⟩⟩⟩⟩⟩)⟩⟩⟩⟩)⟩⟩, fun e28 => ⟨rfl, (Exists.elim (h.2 (e28)) fun x34 h42 => EvI.use h42.1 ⟨rfl, (Exists.elim h42.2 fun x35 h40 => EvI.use h40.1 ⟨fun e36 => (tc_1439_168 (d + 4) 2 v3 v6 v7 x34 x35 v10 (mm X i j) _ (h40.2.1 (e36))), fun e36 => ⟨fun e37 => (tc_1439_168 (d + 4) 2 v3 v6 v7 v8 v9 v10 (mm X i j) _ ((h40.2.2 (e36)).1 (e37))), fun e37 => ⟨fun e38 => (tc_1439_168 (d + 4) 2 v3 v6 v7 v8 v9 v10 (mm X i j) _ (((h40.2.2 (e36)).2 ((Classical.byContradiction e37))).1 (e38))), fun e38 => ⟨fun e39 => (tc_1439_168 (d + 4) 2 v3 v6 v7 v8 v9 v10 (mm X i j) _ ((((h40.2.2 (e36)).2 ((Classical.byContradiction e37))).2 (e38)).1 (e39))), fun e39 => (tc_1439_168 (d + 4) 2 v3 v6 v7 x34 x35 v10 (mm X i j) _ ((((h40.2.2 (e36)).2 ((Classical.byContradiction e37))).2 (e38)).2 (e39)))⟩⟩⟩⟩)⟩)⟩⟩⟩⟩)⟩⟩
set_option maxRecDepth 100000 in
theorem s_1614 (d : Nat) (X : XS) (i : Nat → Nat → Int32) (j : Nat → Nat → Int64) (a1 : Int32) (a2 : Int32) (a3 : Int32) (a4 : Int32) (a5 : Int32) (K : Int32 → AM → Prop) (h : ((¬ ((nI 0) ≤ a1 ∧ a1 ≤ ((i 42 18) - (nI 1))) → K (kI (-1)) (mm X (s2 i 42 36 (nI 0)) j)) ∧ ((nI 0) ≤ a1 ∧ a1 ≤ ((i 42 18) - (nI 1)) → ((¬ ((nI 0) ≤ a2 ∧ a2 ≤ ((i 42 7) - (nI 1))) → K (kI (-1)) (mm X (s2 i 42 36 (nI 0)) j)) ∧ ((nI 0) ≤ a2 ∧ a2 ≤ ((i 42 7) - (nI 1)) → ((¬ ((nI 0) ≤ a3 ∧ a3 ≤ (nI 1)) → K (kI (-1)) (mm X (s2 i 42 36 (nI 0)) j)) ∧ ((nI 0) ≤ a3 ∧ a3 ≤ (nI 1) → ((((nI 1) ≤ a4 ∧ a4 ≤ (nI 3)) ∧ ((nI 1) ≤ a5 ∧ a5 ≤ (nI 9)) → (∃ (i5 : Nat → Nat → Int32), EvV (d + 261) 1589 [.ref 42, .int (nI 0), .int a4, .int a5] (mm X (s2 i 42 36 (nI 0)) j) (mm X i5 j) ∧ (∃ (x6 : Int32), EvI (d + 261) 1603 [.ref 42, .int a1, .int (nI 0), .int (nI 0), .int (i5 42 46)] (mm X i5 j) x6 (mm X i5 j) ∧ WP (d + 262) 1614 (72, [(0, .ref 42), (1, .int a1), (2, .int a2), (3, .int a3), (6, .int x6), (7, .int (nI 9999)), (8, .int (nI 0))], [], (mm X i5 j)) (qI K)))) ∧ (¬ (((nI 1) ≤ a4 ∧ a4 ≤ (nI 3)) ∧ ((nI 1) ≤ a5 ∧ a5 ≤ (nI 9))) → K (kI (-1)) (mm X (s2 i 42 36 (nI 0)) j)))))))))) : WI (d + 262) 1614 [.ref 42, .int a1, .int a2, .int a3, .int a4, .int a5] (mm X i j) K := te_1614 (d + 261) 42 a1 a2 a3 a4 a5 (mm X i j) (qI K) ⟨rfl, ⟨rfl, (te_1547 (d + 260) 42 a1 (mm X (s2 i 42 36 (nI 0)) j) _ ⟨rfl, (p_1538 (d + 260) X (s2 i 42 36 (nI 0)) j a1 (nI 0) ((i 42 18) - (nI 1)) _ ⟨(bi_01 _), ⟨_, rfl, ⟨fun e1 => ⟨_, rfl, (h.1 ((bi_z e1)))⟩, fun e1 => ⟨rfl, (te_1545 (d + 260) 42 a2 (mm X (s2 i 42 36 (nI 0)) j) _ ⟨rfl, (p_1538 (d + 260) X (s2 i 42 36 (nI 0)) j a2 (nI 0) ((i 42 7) - (nI 1)) _ ⟨(bi_01 _), ⟨_, rfl, ⟨fun e2 => ⟨_, rfl, ((h.2 ((bi_n e1))).1 ((bi_z e2)))⟩, fun e2 => (p_1538 (d + 261) X (s2 i 42 36 (nI 0)) j a3 (nI 0) (nI 1) _ ⟨fun e3 => ⟨_, rfl, (((h.2 ((bi_n e1))).2 ((bi_n e2))).1 ((bi_z e3)))⟩, fun e3 => (p_1588 (d + 260) X (s2 i 42 36 (nI 0)) j a4 a5 _ ⟨fun e4 => ⟨rfl, (Exists.elim ((((h.2 ((bi_n e1))).2 ((bi_n e2))).2 ((bi_n e3))).1 ((bi_n e4))) fun i5 h9 => EvV.use h9.1 ⟨rfl, ⟨rfl, (Exists.elim h9.2 fun x6 h7 => EvI.use h7.1 h7.2)⟩⟩)⟩, fun e4 => ⟨_, rfl, ((((h.2 ((bi_n e1))).2 ((bi_n e2))).2 ((bi_n e3))).2 ((bi_nn e4)))⟩⟩)⟩)⟩⟩⟩)⟩)⟩⟩⟩⟩)⟩)⟩⟩
set_option maxRecDepth 100000 in
theorem s_1614_72 (d : Nat) (X : XS) (i : Nat → Nat → Int32) (j : Nat → Nat → Int64) (v1 : Int32) (v2 : Int32) (v3 : Int32) (v6 : Int32) (v7 : Int32) (v8 : Int32) (Q : Option (Option Value) → AM → Prop) (h : (((i 42 46) ≤ v8 → (∃ (x12 : Int32), EvI (d + 260) 1603 [.ref 42, .int v1, .int (nI 1), .int (nI 0), .int (i 42 46)] (mm X (s2 (s2 (s2 i 42 35 (nI 0)) 42 35 (nI 1)) 42 35 (nI 2)) (s2 (s2 j 70 0 (v7.toInt64)) 70 1 (v6.toInt64))) x12 (mm X (s2 (s2 (s2 i 42 35 (nI 0)) 42 35 (nI 1)) 42 35 (nI 2)) (s2 (s2 j 70 0 (v7.toInt64)) 70 1 (v6.toInt64))) ∧ (∃ (x13 : Int32), EvI (d + 260) 1603 [.ref 42, .int v1, .int (nI 0), .int (nI 0), .int (i 42 46)] (mm X (s2 (s2 (s2 i 42 35 (nI 0)) 42 35 (nI 1)) 42 35 (nI 2)) (s2 (s2 j 70 0 (v7.toInt64)) 70 1 (v6.toInt64))) x13 (mm X (s2 (s2 (s2 i 42 35 (nI 0)) 42 35 (nI 1)) 42 35 (nI 2)) (s2 (s2 j 70 0 (v7.toInt64)) 70 1 (v6.toInt64))) ∧ ((x13 ≤ x12 → (∃ (x15 : Int32), EvI (d + 261) 1603 [.ref 42, .int v1, .int (nI 0), .int (nI 0), .int (i 42 46)] (mm X (s2 (s2 (s2 i 42 35 (nI 0)) 42 35 (nI 1)) 42 35 (nI 2)) (s2 (s2 j 70 0 (v7.toInt64)) 70 1 (v6.toInt64))) x15 (mm X (s2 (s2 (s2 i 42 35 (nI 0)) 42 35 (nI 1)) 42 35 (nI 2)) (s2 (s2 j 70 0 (v7.toInt64)) 70 1 (v6.toInt64))) ∧ Q (some (some (.int (x15 - v6)))) (mm X (s2 (s2 (s2 i 42 35 (nI 0)) 42 35 (nI 1)) 42 35 (nI 2)) (s2 (s2 j 70 0 (v7.toInt64)) 70 1 (v6.toInt64))))) ∧ (¬ (x13 ≤ x12) → (∃ (x18 : Int32), EvI (d + 261) 1603 [.ref 42, .int v1, .int (nI 1), .int (nI 0), .int (i 42 46)] (mm X (s2 (s2 (s2 i 42 35 (nI 0)) 42 35 (nI 1)) 42 35 (nI 2)) (s2 (s2 j 70 0 (v7.toInt64)) 70 1 (v6.toInt64))) x18 (mm X (s2 (s2 (s2 i 42 35 (nI 0)) 42 35 (nI 1)) 42 35 (nI 2)) (s2 (s2 j 70 0 (v7.toInt64)) 70 1 (v6.toInt64))) ∧ Q (some (some (.int (x18 - v6)))) (mm X (s2 (s2 (s2 i 42 35 (nI 0)) 42 35 (nI 1)) 42 35 (nI 2)) (s2 (s2 j 70 0 (v7.toInt64)) 70 1 (v6.toInt64))))))))) ∧ (¬ ((i 42 46) ≤ v8) → (∃ (x25 : Int32), EvI (d + 261) 1613 [.ref 42, .int v2, .int v3, .int v8] (mm X i j) x25 (mm X i j) ∧ WP (d + 262) 1614 (97, [(0, .ref 42), (1, .int v1), (2, .int v2), (3, .int v3), (6, .int v6), (7, .int v7), (8, .int v8), (9, .int x25), (10, .int (nI 0)), (11, .int (nI 0))], [], (mm X i j)) Q)))) : WP (d + 262) 1614 (72, [(0, .ref 42), (1, .int v1), (2, .int v2), (3, .int v3), (6, .int v6), (7, .int v7), (8, .int v8)], [], mm X i j) Q := tc_1614_72 (d + 261) 42 v1 v2 v3 v6 v7 v8 (mm X i j) Q ⟨rfl, ⟨fun e11 => ⟨rfl, ⟨rfl, (te_1540 (d + 261) 42 (v7.toInt64) (mm X (s2 i 42 35 (nI 0)) j) _ ⟨rfl, ⟨rfl, ⟨⟨rfl, (vpk 0 32 rfl)⟩, ⟨rfl, ⟨rfl, ⟨rfl, ⟨rfl, (te_1540 (d + 261) 42 (v6.toInt64) (mm X (s2 (s2 i 42 35 (nI 0)) 42 35 (nI 1)) (s2 j 70 0 (v7.toInt64))) _ ⟨rfl, ⟨rfl, ⟨⟨rfl, (vpk 1 32 rfl)⟩, ⟨rfl, ⟨rfl, ⟨rfl, ⟨rfl, ⟨rfl, (te_1604 (d + 260) 42 v1 (nI 0) (i 42 46) (mm X (s2 (s2 (s2 i 42 35 (nI 0)) 42 35 (nI 1)) 42 35 (nI 2)) (s2 (s2 j 70 0 (v7.toInt64)) 70 1 (v6.toInt64))) _ ⟨rfl, (Exists.elim (h.1 (e11)) fun x12 h23 => EvI.use h23.1 ⟨rfl, (Exists.elim h23.2 fun x13 h21 => EvI.use h21.1 ⟨fun e14 => ⟨k0_01, ⟨_, rfl, ⟨rfl, ⟨rfl, (Exists.elim (h21.2.1 (e14)) fun x15 h16 => EvI.use h16.1 h16.2)⟩⟩⟩⟩, fun e14 => ⟨k1_01, ⟨_, rfl, ⟨rfl, ⟨rfl, (Exists.elim (h21.2.2 (e14)) fun x18 h19 => EvI.use h19.1 h19.2)⟩⟩⟩⟩⟩)⟩)⟩)⟩⟩⟩⟩⟩⟩⟩⟩)⟩⟩⟩⟩⟩⟩⟩)⟩⟩, fun e11 => ⟨rfl, (Exists.elim (h.2 (e11)) fun x25 h26 => EvI.use h26.1 h26.2)⟩⟩⟩
set_option maxRecDepth 100000 in
theorem s_1614_97 (d : Nat) (X : XS) (i : Nat → Nat → Int32) (j : Nat → Nat → Int64) (v1 : Int32) (v2 : Int32) (v3 : Int32) (v6 : Int32) (v7 : Int32) (v8 : Int32) (v9 : Int32) (v10 : Int32) (v11 : Int32) (Q : Option (Option Value) → AM → Prop) (h : (((i 42 46) ≤ v11 → ((¬ (v3 = 0) → ((v6 < v10 → WP (d + 262) 1614 (72, [(0, .ref 42), (1, .int v1), (2, .int v2), (3, .int v3), (6, .int v6), (7, .int v7), (8, .int (v8 + (nI 1)))], [], (mm X i j)) Q) ∧ (¬ (v6 < v10) → ((¬ (v10 = v6) → WP (d + 262) 1614 (72, [(0, .ref 42), (1, .int v1), (2, .int v2), (3, .int v3), (6, .int v10), (7, .int (-v9)), (8, .int (v8 + (nI 1)))], [], (mm X i j)) Q) ∧ (v10 = v6 → ((v7 = (nI 9999) → WP (d + 262) 1614 (72, [(0, .ref 42), (1, .int v1), (2, .int v2), (3, .int v3), (6, .int v6), (7, .int v7), (8, .int (v8 + (nI 1)))], [], (mm X i j)) Q) ∧ (¬ (v7 = (nI 9999)) → (((-v9) < v7 → WP (d + 262) 1614 (72, [(0, .ref 42), (1, .int v1), (2, .int v2), (3, .int v3), (6, .int v10), (7, .int (-v9)), (8, .int (v8 + (nI 1)))], [], (mm X i j)) Q) ∧ (¬ ((-v9) < v7) → WP (d + 262) 1614 (72, [(0, .ref 42), (1, .int v1), (2, .int v2), (3, .int v3), (6, .int v6), (7, .int v7), (8, .int (v8 + (nI 1)))], [], (mm X i j)) Q))))))))) ∧ (v3 = 0 → ((v6 < v10 → WP (d + 262) 1614 (72, [(0, .ref 42), (1, .int v1), (2, .int v2), (3, .int v3), (6, .int v6), (7, .int v7), (8, .int (v8 + (nI 1)))], [], (mm X i j)) Q) ∧ (¬ (v6 < v10) → ((¬ (v10 = v6) → WP (d + 262) 1614 (72, [(0, .ref 42), (1, .int v1), (2, .int v2), (3, .int v3), (6, .int v10), (7, .int v9), (8, .int (v8 + (nI 1)))], [], (mm X i j)) Q) ∧ (v10 = v6 → ((v7 = (nI 9999) → WP (d + 262) 1614 (72, [(0, .ref 42), (1, .int v1), (2, .int v2), (3, .int v3), (6, .int v6), (7, .int v7), (8, .int (v8 + (nI 1)))], [], (mm X i j)) Q) ∧ (¬ (v7 = (nI 9999)) → ((v9 < v7 → WP (d + 262) 1614 (72, [(0, .ref 42), (1, .int v1), (2, .int v2), (3, .int v3), (6, .int v10), (7, .int v9), (8, .int (v8 + (nI 1)))], [], (mm X i j)) Q) ∧ (¬ (v9 < v7) → WP (d + 262) 1614 (72, [(0, .ref 42), (1, .int v1), (2, .int v2), (3, .int v3), (6, .int v6), (7, .int v7), (8, .int (v8 + (nI 1)))], [], (mm X i j)) Q))))))))))) ∧ (¬ ((i 42 46) ≤ v11) → (∃ (x38 : Int32), EvI (d + 261) 1613 [.ref 42, .int v2, .int v3, .int v11] (mm X i j) x38 (mm X i j) ∧ ((v9 < x38 → (vp_in v11 240) ∧ (vp_in v1 6) ∧ WP (d + 262) 1614 (97, [(0, .ref 42), (1, .int v1), (2, .int v2), (3, .int v3), (6, .int v6), (7, .int v7), (8, .int v8), (9, .int v9), (10, .int (v10 + (rcI (nI 0) (i 73 ((v11).toNatClampNeg)) (i 57 (v1.toNatClampNeg)) (i 58 (v1.toNatClampNeg)) (i 59 (v1.toNatClampNeg))))), (11, .int (v11 + (nI 1)))], [], (mm X i j)) Q) ∧ (¬ (v9 < x38) → (vp_in v11 240) ∧ (vp_in v1 6) ∧ WP (d + 262) 1614 (97, [(0, .ref 42), (1, .int v1), (2, .int v2), (3, .int v3), (6, .int v6), (7, .int v7), (8, .int v8), (9, .int v9), (10, .int (v10 + (rcI (nI 1) (i 73 ((v11).toNatClampNeg)) (i 57 (v1.toNatClampNeg)) (i 58 (v1.toNatClampNeg)) (i 59 (v1.toNatClampNeg))))), (11, .int (v11 + (nI 1)))], [], (mm X i j)) Q)))))) : WP (d + 262) 1614 (97, [(0, .ref 42), (1, .int v1), (2, .int v2), (3, .int v3), (6, .int v6), (7, .int v7), (8, .int v8), (9, .int v9), (10, .int v10), (11, .int v11)], [], mm X i j) Q := tc_1614_97 (d + 261) 42 v1 v2 v3 v6 v7 v8 v9 v10 v11 (mm X i j) Q ⟨rfl, ⟨fun e28 => ⟨fun e29 => ⟨fun e30 => (tc_1614_201 (d + 261) 42 v1 v2 v3 v6 v7 v8 (mm X i j) _ (((h.1 (e28)).1 (e29)).1 (e30))), fun e30 => ⟨fun e31 => (tc_1614_193 (d + 261) 42 v1 v2 v3 v8 v10 (-v9) (mm X i j) _ (tc_1614_201 (d + 261) 42 v1 v2 v3 v10 (-v9) v8 (mm X i j) _ ((((h.1 (e28)).1 (e29)).2 (e30)).1 (e31)))), fun e31 => ⟨fun e32 => (tc_1614_201 (d + 261) 42 v1 v2 v3 v6 v7 v8 (mm X i j) _ (((((h.1 (e28)).1 (e29)).2 (e30)).2 ((Classical.byContradiction e31))).1 (e32))), fun e32 => ⟨fun e33 => (tc_1614_193 (d + 261) 42 v1 v2 v3 v8 v10 (-v9) (mm X i j) _ (tc_1614_201 (d + 261) 42 v1 v2 v3 v10 (-v9) v8 (mm X i j) _ ((((((h.1 (e28)).1 (e29)).2 (e30)).2 ((Classical.byContradiction e31))).2 (e32)).1 (e33)))), fun e33 => (tc_1614_201 (d + 261) 42 v1 v2 v3 v6 v7 v8 (mm X i j) _ ((((((h.1 (e28)).1 (e29)).2 (e30)).2 ((Classical.byContradiction e31))).2 (e32)).2 (e33)))⟩⟩⟩⟩, fun e29 => ⟨fun e34 => (tc_1614_201 (d + 261) 42 v1 v2 v3 v6 v7 v8 (mm X i j) _ (((h.1 (e28)).2 ((Classical.byContradiction e29))).1 (e34))), fun e34 => ⟨fun e35 => (tc_1614_193 (d + 261) 42 v1 v2 v3 v8 v10 v9 (mm X i j) _ (tc_1614_201 (d + 261) 42 v1 v2 v3 v10 v9 v8 (mm X i j) _ ((((h.1 (e28)).2 ((Classical.byContradiction e29))).2 (e34)).1 (e35)))), fun e35 => ⟨fun e36 => (tc_1614_201 (d + 261) 42 v1 v2 v3 v6 v7 v8 (mm X i j) _ (((((h.1 (e28)).2 ((Classical.byContradiction e29))).2 (e34)).2 ((Classical.byContradiction e35))).1 (e36))), fun e36 => ⟨fun e37 => (tc_1614_193 (d + 261) 42 v1 v2 v3 v8 v10 v9 (mm X i j) _ (tc_1614_201 (d + 261) 42 v1 v2 v3 v10 v9 v8 (mm X i j) _ ((((((h.1 (e28)).2 ((Classical.byContradiction e29))).2 (e34)).2 ((Classical.byContradiction e35))).2 (e36)).1 (e37)))), fun e37 => (tc_1614_201 (d + 261) 42 v1 v2 v3 v6 v7 v8 (mm X i j) _ ((((((h.1 (e28)).2 ((Classical.byContradiction e29))).2 (e34)).2 ((Classical.byContradiction e35))).2 (e36)).2 (e37)))⟩⟩⟩⟩⟩, fun e28 => ⟨rfl, (Exists.elim (h.2 (e28)) fun x38 h40 => EvI.use h40.1 ⟨fun e39 => ⟨rfl, ⟨⟨(Or.inl rfl), (h40.2.1 (e39)).1⟩, ⟨rfl, (p_1602 (d + 261) X i j v1 (nI 0) (i 73 ((v11).toNatClampNeg)) _ ⟨(h40.2.1 (e39)).2.1, (h40.2.1 (e39)).2.2⟩)⟩⟩⟩, fun e39 => ⟨rfl, ⟨⟨(Or.inl rfl), (h40.2.2 (e39)).1⟩, ⟨rfl, (p_1602 (d + 261) X i j v1 (nI 1) (i 73 ((v11).toNatClampNeg)) _ ⟨(h40.2.2 (e39)).2.1, (h40.2.2 (e39)).2.2⟩)⟩⟩⟩⟩)⟩⟩⟩
theorem k_30 (d : Nat) {X : XS} {i : Nat → Nat → Int32} {j : Nat → Nat → Int64} (h : Rel X i j) (a1 a2 a3 a4 a5 : Int32) {Kf : AM → Prop} (hK : Nx X Kf) : WI (d + 300) 1439 [.ref 2, .int a1, .int a2, .int a3, .int a4, .int a5] (mm X i j) (fun x1 M1 => WI (d + 300) 1614 [.ref 42, .int a1, .int a2, .int a3, .int a4, .int a5] M1 (fun x2 M2 => x1 = x2 ∧ Kf M2)) := by
  have ht := hK.th h
  have hrel := h
  obtain ⟨hx, ⟨⟨n, h0⟩, h1, ⟨ng, h2, no, h4⟩, ⟨tn, h3⟩, ⟨np, h5⟩, h6, ns, h7⟩, h8, hz⟩ := h

  have e1 := h5.2.1
  have e2 := h5.2.2.1
  have hnp := h5.1
  have e3 := h2.2.1
  have e4 := h2.2.2.1
  have hng := h2.1
  have hn := h0.2.1.1.2
  have hRB : RB i := h7.2.2.2.2
  refine s_1439 _ X i j a1 a2 a3 a4 a5 _ ⟨h5.ps, ?_, ?_⟩
  · rw [e1]
    intro z
    have r : WI (d + 300) 1614 [.ref 42, .int a1, .int a2, .int a3, .int a4, .int a5] (mm X i j) (fun x2 M2 => kI (-1) = x2 ∧ Kf M2) := s_1614 _ X i j _ _ _ _ _ _ (bq_t (by rw [e2]; exact z) ⟨rfl, ht⟩)
    exact ⟨h2.gl, fun _ => r, fun _ _ => r⟩
  rw [e1]
  intro z hO
  have z2 : nI 0 ≤ a1 ∧ a1 ≤ i 42 18 - nI 1 := by rw [e2]; exact z
  obtain ⟨p, hp, rfl⟩ := idx_of (by omega) z
  rw [tc_nI (by omega)] at hO ⊢
  obtain ⟨-, hPT, ⟨q0, q1, q2, q3, q4⟩, ⟨c, l, s, st, hc, hl, hs, hst, b0, b1, b2, b3⟩, b4⟩ := h5.2.2.2 p hp
  refine ⟨h2.gl, ?_, ?_⟩
  · rw [e3]; exact fun w => s_1614 _ X i j _ _ _ _ _ _ (bq_f z2 (bq_t (by rw [e4]; exact w) ⟨rfl, ht⟩))
  rw [e3]
  intro w hGO
  have w2 : nI 0 ≤ a2 ∧ a2 ≤ i 42 7 - nI 1 := by rw [e4]; exact w
  obtain ⟨g, hg, rfl⟩ := idx_of (by omega) w
  rw [tc_nI (by omega)] at hGO ⊢
  refine bq_c (fun y => s_1614 _ X i j _ _ _ _ _ _ (bq_f z2 (bq_f w2 (bq_t y ⟨rfl, ht⟩)))) (fun y => br_c (fun v => ?_) (fun v => s_1614 _ X i j _ _ _ _ _ _ (bq_f z2 (bq_f w2 (bq_f y (br_f v ⟨rfl, ht⟩))))))
  obtain ⟨q, hq1, hq, rfl⟩ := ev_rng (by decide) v.2
  obtain ⟨i1, hE1, f1, z1, r40, hL, hS⟩ := lov 0 X i j h0 h2 h4 hz (nI 0) a4 hq
  refine ⟨i1, hE1.up (by omega), ?_⟩
  have hPn := xtNe hPT
  obtain ⟨ca, hca⟩ : ∃ ca, ca = caF i n a4 q := ⟨_, rfl⟩
  rw [← hca] at hS
  have hk1 : Kp X i i1 := f1.kp
  have iP : i1 (xr X 24 p) = i (xr X 24 p) := kpP hk1 hPT
  rw [hS.1, iP, q1]
  obtain ⟨kn, hkn⟩ : ∃ kn, kn = n - q := ⟨_, rfl⟩
  rw [← hkn] at hS ⊢
  obtain ⟨V, hV⟩ : ∃ V, V = lvV i g a3 := ⟨_, rfl⟩
  obtain ⟨S, hSS⟩ : ∃ S : Nat → Int32, S = fun e => sm (fun t => dcI (lvA a3 (V e) (V t)) (ca t) (i 57 p) (i 58 p) (i 59 p)) kn := ⟨_, rfl⟩
  obtain ⟨l0, hl0⟩ : ∃ l0, l0 = i 58 p * nI (ct ca kn) := ⟨_, rfl⟩
  refine ⟨_, (c_774 0 X i1 j hS (Nat.le_refl _)).up (by omega), ?_⟩
  rw [← hl0]
  refine lup kn (fun e (u : Int32 × Int32) => u = lvst S V l0 e) (fun e u => (95, [(0, .ref 2), (3, .int a3), (6, .ref (xr X 24 p)), (7, .ref (xr X 17 g)), (8, .int u.1), (9, .int u.2), (10, .int (nI e))], [], mm X i1 j)) ?_ ?_ 0 (nI 9999, l0) (Nat.zero_le _) rfl
  rotate_left
  · intro e u he hu go
    try dsimp only
    refine s_1439_95 _ X i1 j _ _ hO _ hGO _ _ _ _ (br_f (by rw [hS.1]; exact nI_ge he (by omega)) ⟨_, (c_1483 0 j hn h2 hk1 hL hg (by omega) a3).up (by omega), _, (c_1484 0 j hn (by omega) h2 hk1 hL hg hS hO a3 (lvV i g a3 e)).up (by omega), ?_⟩)
    rw [iP, q0, q1, q2, nI_add, ← hV, show sm (fun t => dcI (lvA a3 (V e) (V t)) (ca t) (i 57 p) (i 58 p) (i 59 p)) kn = S e by rw [hSS]]
    have yes : ∀ u', (S e < u.2 ∨ (S e = u.2 ∧ ¬ u.1 = nI 9999 ∧ V e < u.1)) → u' = (V e, S e) → u' = lvst S V l0 (e + 1) := fun u' h1 h2 => by rw [hu] at h1; rw [lv_y h1]; exact h2
    have no : ¬ (S e < u.2 ∨ (S e = u.2 ∧ ¬ u.1 = nI 9999 ∧ V e < u.1)) → u = lvst S V l0 (e + 1) := fun h1 => by
      have h2 := h1
      rw [hu] at h2
      rw [lv_n h2]; exact hu
    refine br_c (fun x => go (V e, S e) (yes _ (Or.inl x) rfl)) (fun x => bq_c (fun x2 => go u (no fun q => q.elim x fun q => x2 q.1)) (fun x2 => br_c (fun x3 => go u (no fun q => q.elim x fun q => q.2.1 x3)) (fun x3 => br_c (fun x4 => go u (no fun q => q.elim x fun q => absurd q.2.2 (Int32.not_lt.mpr x4))) (fun x4 => go (V e, S e) (yes _ (Or.inr ⟨x2, x3, Int32.not_le.mp x4⟩) rfl)))))
  intro u hu
  try dsimp only
  refine s_1439_95 _ X i1 j _ _ hO _ hGO _ _ _ _ (br_t (by rw [hS.1]; exact Int32.le_refl _) ?_)
  obtain ⟨i3, hi3⟩ : ∃ i3, i3 = s2 (s2 (s2 i1 40 1 (nI 0)) 40 1 (nI 1)) 40 1 (nI 2) := ⟨_, rfl⟩
  obtain ⟨j3, hj3⟩ : ∃ j3, j3 = s2 (s2 j 41 0 u.1.toInt64) 41 1 u.2.toInt64 := ⟨_, rfl⟩
  rw [← hi3, ← hj3]
  have f3 : ∀ b, b ≠ 40 → i3 b = i1 b := fun b hb => by rw [hi3, s2_ne hb, s2_ne hb, s2_ne hb]
  have g40 : i3 40 1 = nI 2 := by rw [hi3, s2_self]
  have hE3 := c_776 0 X i3 j3 _ hO (hS.kp (f3 31 (by decide)) (f3 32 (by decide)) (f3 33 (by decide)))
  rw [f3 _ (by omega), iP, q0, q1, q2] at hE3
  refine ⟨_, hE3.up (by omega), qI_of ?_⟩
  have F : FrC X i i3 := f1.tr (FrC_40 f3)
  have Z : RZ i3 := RZ_of z1 (f3 34 (by decide)) (f3 35 (by decide))
  have g42 : i3 42 = i 42 := by rw [f3 42 (by decide), f1 42 (Or.inl (show 0 < 10 by decide))]
  refine s_1614 _ X i3 j3 _ _ _ _ _ _ (bq_f (by rw [g42]; exact z2) (bq_f (by rw [g42]; exact w2) (bq_f y (br_t v ?_))))
  obtain ⟨i4, hE4, f4, p71, p46, -, -, -, p73⟩ := prpv 0 X i (s2 i3 42 36 (nI 0)) j3 h0 h2 h4 (F.kp.tr (FrR_th (X := X) (nI 0)).kp) (nI 0) a4 hq
  rw [← hca, ← hkn] at p73
  rw [← hkn] at p46
  refine ⟨i4, hE4.up (by omega), ?_⟩
  rw [p46]
  have k4 : Kp X i i4 := F.kp.tr ((FrR_th (nI 0)).tr f4.fr).kp
  obtain ⟨w57, w58, w59, -, -⟩ := p57 k4
  have c2 := cb_1603 0 X i4 j3 (p := p) (by omega) bF (by omega) p73
  rw [w57, w58, w59, coF, ← hl0] at c2
  refine ⟨_, c2.up (by omega), ?_⟩
  refine lup kn (fun e (u : Int32 × Int32) => u = lvst S V l0 e) (fun e u => (72, [(0, .ref 42), (1, .int (nI p)), (2, .int (nI g)), (3, .int a3), (6, .int u.2), (7, .int u.1), (8, .int (nI e))], [], mm X i4 j3)) ?_ ?_ 0 (nI 9999, l0) (Nat.zero_le _) rfl
  · intro u' hu'
    have hu' : u' = u := hu'.trans hu.symm
    subst hu'
    try dsimp only
    refine s_1614_72 _ X i4 j3 _ _ _ _ _ _ _ ?_
    rw [p46]
    refine br_t (Int32.le_refl _) ?_
    obtain ⟨i5, hi5⟩ : ∃ i5, i5 = s2 (s2 (s2 i4 42 35 (nI 0)) 42 35 (nI 1)) 42 35 (nI 2) := ⟨_, rfl⟩
    obtain ⟨j5, hj5⟩ : ∃ j5, j5 = s2 (s2 j3 70 0 u'.1.toInt64) 70 1 u'.2.toInt64 := ⟨_, rfl⟩
    rw [← hi5, ← hj5]
    have f5 : ∀ b, b ≠ 42 → i5 b = i4 b := fun b hb => by rw [hi5, s2_ne hb, s2_ne hb, s2_ne hb]
    have d1 := cb_1603 0 X i5 j5 (p := p) (kn := kn) (ca := ca) (by omega) bT (by omega) (fun t ht => by rw [f5 73 (by decide)]; exact p73 t ht)
    have d2 := cb_1603 0 X i5 j5 (p := p) (kn := kn) (ca := ca) (by omega) bF (by omega) (fun t ht => by rw [f5 73 (by decide)]; exact p73 t ht)
    rw [f5 57 (by decide), f5 58 (by decide), f5 59 (by decide), w57, w58, w59] at d1 d2
    have fin : Kf (mm X i5 j5) := hK.k (fin_row hrel F Z (((FrR_th (nI 0)).tr f4.fr).tr (FrR_42 f5 (fun k hk => by rw [hi5, s2_ne2 (by omega), s2_ne2 (by omega), s2_ne2 (by omega)]))) (r8_of 2 (by decide) (by
      rw [f5 40 (by decide), f4.1 40 (show ¬ (48 : Nat) = 40 by decide) (by decide), s2_ne (show 40 ≠ 42 by decide)]; exact g40) (by rw [hi5, s2_self]) (by
      intro x hx
      rw [hj5, hj3]
      match x, hx with
      | 0, _ => simp [s2_ap]
      | 1, _ => simp [s2_ap])))
    refine ⟨_, d1.up (by omega), _, d2.up (by omega), ?_⟩
    rw [saN]
    by_cases hb : saP (i 57 p) (i 58 p) (i 59 p) (nI kn) (nI (ct ca kn))
    · exact br_f (fun y => y hb) ⟨_, d1.up (by omega), qI_of ⟨by rw [blT hb], fin⟩⟩
    · exact br_t hb ⟨_, d2.up (by omega), qI_of ⟨by rw [blF hb], fin⟩⟩
  · intro e u' he hu' go
    try dsimp only
    have q71 := p71
    have E13 := fun t (ht : t < kn) => c_1613 0 (X := X) j3 hn hng q71 hg (show t < n by omega) a3
    refine s_1614_72 _ X i4 j3 _ _ _ _ _ _ _ ?_
    rw [p46]
    refine br_f (nI_ge he (by omega)) ⟨_, (E13 e he).up (by omega), ?_⟩
    refine lup kn (fun t (x : Int32) => x = sm (fun t => dcI (lvA a3 (V e) (V t)) (ca t) (i 57 p) (i 58 p) (i 59 p)) t) (fun t x => (97, [(0, .ref 42), (1, .int (nI p)), (2, .int (nI g)), (3, .int a3), (6, .int u'.2), (7, .int u'.1), (8, .int (nI e)), (9, .int (lvR i g a3 e)), (10, .int x), (11, .int (nI t))], [], mm X i4 j3)) ?_ ?_ 0 _ (Nat.zero_le _) rfl
    · intro x hx
      try dsimp only
      have hxS : x = S e := by rw [hx, hSS]
      refine s_1614_97 _ X i4 j3 _ _ _ _ _ _ _ _ _ _ ?_
      rw [p46, nI_add, hxS]
      have yes : ∀ u2, (S e < u'.2 ∨ (S e = u'.2 ∧ ¬ u'.1 = nI 9999 ∧ V e < u'.1)) → u2 = (V e, S e) → u2 = lvst S V l0 (e + 1) := fun u2 h1 h2 => by rw [hu'] at h1; rw [lv_y h1]; exact h2
      have no : ¬ (S e < u'.2 ∨ (S e = u'.2 ∧ ¬ u'.1 = nI 9999 ∧ V e < u'.1)) → u' = lvst S V l0 (e + 1) := fun h1 => by
        have h2 := h1
        rw [hu'] at h2
        rw [lv_n h2]; exact hu'
      refine br_t (Int32.le_refl _) ?_
      obtain ⟨eV0, eV1⟩ := lvR_V i g a3 e
      rw [← hV] at eV0 eV1
      refine bq_c (fun a => ?_) (fun a => ?_)
      · rw [eV1 a]
        refine br_c (fun x1 => go u' (no fun q => q.elim (fun q => absurd x1 (Int32.not_lt.mpr (Int32.le_of_lt q))) fun q => absurd x1 (by rw [q.1]; exact fun h => Int32.lt_irrefl h))) (fun x1 => bq_c (fun x2 => go (V e, S e) (yes _ (Or.inl ?_) rfl)) (fun x2 => br_c (fun x3 => go u' (no fun q => q.elim (fun q => absurd q (by rw [x2]; exact fun h => Int32.lt_irrefl h)) fun q => q.2.1 x3)) (fun x3 => br_c (fun x4 => go (V e, S e) (yes _ (Or.inr ⟨x2, x3, x4⟩) rfl)) (fun x4 => go u' (no fun q => q.elim (fun q => absurd q (by rw [x2]; exact fun h => Int32.lt_irrefl h)) fun q => x4 q.2.2)))))
        exact Int32.lt_of_le_of_ne (Int32.not_lt.mp x1) x2
      · rw [eV0 a]
        refine br_c (fun x1 => go u' (no fun q => q.elim (fun q => absurd x1 (Int32.not_lt.mpr (Int32.le_of_lt q))) fun q => absurd x1 (by rw [q.1]; exact fun h => Int32.lt_irrefl h))) (fun x1 => bq_c (fun x2 => go (V e, S e) (yes _ (Or.inl ?_) rfl)) (fun x2 => br_c (fun x3 => go u' (no fun q => q.elim (fun q => absurd q (by rw [x2]; exact fun h => Int32.lt_irrefl h)) fun q => q.2.1 x3)) (fun x3 => br_c (fun x4 => go (V e, S e) (yes _ (Or.inr ⟨x2, x3, x4⟩) rfl)) (fun x4 => go u' (no fun q => q.elim (fun q => absurd q (by rw [x2]; exact fun h => Int32.lt_irrefl h)) fun q => x4 q.2.2)))))
        exact Int32.lt_of_le_of_ne (Int32.not_lt.mp x1) x2
    · intro t x ht hx go2
      try dsimp only
      refine s_1614_97 _ X i4 j3 _ _ _ _ _ _ _ _ _ _ ?_
      rw [p46]
      refine br_f (nI_ge ht (by omega)) ⟨_, (E13 t ht).up (by omega), ?_⟩
      rw [nI_add, tc_nI (by omega), tc_nI (by omega), p73 t ht, w57, w58, w59]
      have hA := lvR_A h0 h2 hRB hg a3 (show e < n by omega) (show t < n by omega)
      rw [← hV] at hA
      refine br_c (fun z => ⟨vp_in_nI (by omega) (by decide), vp_in_nI (by omega) (by decide), go2 _ ?_⟩) (fun z => ⟨vp_in_nI (by omega) (by decide), vp_in_nI (by omega) (by decide), go2 _ ?_⟩)
      · have : ¬ lvA a3 (V e) (V t) := fun q => absurd (hA.mpr q) (Int32.not_le.mpr z)
        rw [sm, hx]; unfold dcI; rw [bi_f this]; rfl
      · have : lvA a3 (V e) (V t) := hA.mp (Int32.not_lt.mp z)
        rw [sm, hx]; unfold dcI; rw [bi_t this]; rfl
