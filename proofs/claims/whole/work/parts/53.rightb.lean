/-! ===== right ===== -/
def shI (e : Nat) : Int32 := nI e - nI 60
theorem shI_s (e : Nat) : shI e + nI 1 = shI (e + 1) := by
  unfold shI; rw [← nI_add e 1]; grind
theorem shI_0 : kI (-60) = shI 0 := by decide
theorem shI_lt {e : Nat} (he : e ≤ 121) : nI 60 < shI e ↔ e = 121 := by
  rw [Int32.lt_iff_toInt_lt, shI, pk_sub_toInt (by omega) (by decide), nI_toInt (by decide)]
  omega
theorem shI_ab {e : Nat} (he : e ≤ 120) : abI (shI e) = nI (if e < 60 then 60 - e else e - 60) := by
  unfold abI shI
  by_cases h : e < 60
  · rw [if_pos h, if_neg (fun z => by
      have := pk_sneg (a := e) (b := 60) (by decide) h
      rw [Int32.le_iff_toInt_le] at z
      rw [Int32.lt_iff_toInt_lt] at this
      omega), ← pk_sub (a := 60) (b := e) (by omega)]
    grind
  · rw [if_neg h, pk_sub (by omega), if_pos (nI_pos' (by omega))]
theorem sh_k : ∀ k, k < 121 → (nI k &&& nI 1 = nI 1 ↔ k % 2 = 1) := by decide
theorem sh_odd : ∀ k, k < 121 → k % 2 = 1 → (-(nI k + nI 1)) / nI 2 = shI (60 - (k + 1) / 2) := by decide
theorem sh_even {k : Nat} (hk : k < 121) : nI k / nI 2 = shI (60 + k / 2) := by
  rw [pk_div (by omega) (by decide) (by decide), shI, pk_sub (by omega)]
  congr 1
  omega
/-- the order of the shifts -/
def rkS (e : Nat) : Nat := if e < 60 then 2 * (60 - e) - 1 else 2 * (e - 60)
def shS (k : Nat) : Nat := if k % 2 = 1 then 60 - (k + 1) / 2 else 60 + k / 2
theorem shS_rk {e : Nat} (he : e < 121) : shS (rkS e) = e := by
  unfold shS rkS
  split <;> split <;> omega
theorem rk_shS {k : Nat} (hk : k < 121) : rkS (shS k) = k := by
  unfold shS rkS
  split <;> split <;> omega
theorem rk_lt {e : Nat} (he : e < 121) : rkS e < 121 := by
  unfold rkS; split <;> omega
theorem shS_lt {k : Nat} (hk : k < 121) : shS k < 121 := by
  unfold shS; split <;> omega
noncomputable def ALK (i : Nat → Nat → Int32) (n a b : Nat) (e : Nat) : Nat := ct (fun t => WD i n a (shI e) t = WD i n b (nI 0) t) n
set_option maxRecDepth 100000 in
theorem s_1474 (d : Nat) (X : XS) (i : Nat → Nat → Int32) (j : Nat → Nat → Int64) (a1 : Nat) (h1 : GO X a1) (a2 : Int32) (a3 : Nat) (h3 : GO X a3) (K : Int32 → AM → Prop) (h : WP (d + 1) 1474 (6, [(0, .ref 2), (1, .ref a1), (2, .int a2), (3, .ref a3), (4, .int (nI 0)), (5, .int (nI 0))], [], (mm X i j)) (qI K)) : WI (d + 1) 1474 [.ref 2, .ref a1, .int a2, .ref a3] (mm X i j) K := te_1474 d 2 a1 a2 a3 (mm X i j) (qI K) h
set_option maxRecDepth 100000 in
theorem s_1474_6 (d : Nat) (X : XS) (i : Nat → Nat → Int32) (j : Nat → Nat → Int64) (v1 : Nat) (h1 : GO X v1) (v2 : Int32) (v3 : Nat) (h3 : GO X v3) (v4 : Int32) (v5 : Int32) (Q : Option (Option Value) → AM → Prop) (h : (((i 9 3) ≤ v5 → Q (some (some (.int v4))) (mm X i j)) ∧ (¬ ((i 9 3) ≤ v5) → (∃ (x2 : Int32), EvI d 265 [.ref v1, .int v5, .int v2] (mm X i j) x2 (mm X i j) ∧ (∃ (x3 : Int32), EvI d 265 [.ref v3, .int v5, .int (nI 0)] (mm X i j) x3 (mm X i j) ∧ ((¬ (x2 = x3) → WP (d + 1) 1474 (6, [(0, .ref 2), (1, .ref v1), (2, .int v2), (3, .ref v3), (4, .int v4), (5, .int (v5 + (nI 1)))], [], (mm X i j)) Q) ∧ (x2 = x3 → WP (d + 1) 1474 (6, [(0, .ref 2), (1, .ref v1), (2, .int v2), (3, .ref v3), (4, .int (v4 + (nI 1))), (5, .int (v5 + (nI 1)))], [], (mm X i j)) Q))))))) : WP (d + 1) 1474 (6, [(0, .ref 2), (1, .ref v1), (2, .int v2), (3, .ref v3), (4, .int v4), (5, .int v5)], [], mm X i j) Q := tc_1474_6 d 2 v1 v2 v3 v4 v5 (mm X i j) Q ⟨rfl, ⟨rfl, (te_129 d 9 (mm X i j) _ ⟨rfl, ⟨_, rfl, ⟨fun e1 => (h.1 (e1)), fun e1 => ⟨h1.1, (Exists.elim (h.2 (e1)) fun x2 h7 => EvI.use h7.1 ⟨h3.1, (Exists.elim h7.2 fun x3 h5 => EvI.use h5.1 ⟨fun e4 => (h5.2.1 (e4)), fun e4 => (h5.2.2 ((Classical.byContradiction e4)))⟩)⟩)⟩⟩⟩⟩)⟩⟩
theorem c_1474 {X : XS} {i i1 : Nat → Nat → Int32} (j : Nat → Nat → Int64) {n ng a b : Nat} (h0 : R0 X i n) (h2 : R2 X i ng) (k : Kp X i i1) (hL : LK X i1 ng n (i 44)) (g9 : i1 9 = i 9) (ha : a < ng) (hb : b < ng) (e : Nat) :
    EvI 1 1474 [.ref 2, .ref (xr X 17 a), .int (shI e), .ref (xr X 17 b)] (mm X i1 j) (nI (ALK i n a b e)) (mm X i1 j) := by
  have hn := h0.2.1.1.2
  have oa := (h2.2.2.2 a ha).1
  have ob := (h2.2.2.2 b hb).1
  refine s_1474 0 X i1 j _ oa _ _ ob _ ?_
  refine lup n (fun t (z : Int32) => z = nI (ct (fun t => WD i n a (shI e) t = WD i n b (nI 0) t) t)) (fun t z => (6, [(0, .ref 2), (1, .ref (xr X 17 a)), (2, .int (shI e)), (3, .ref (xr X 17 b)), (4, .int z), (5, .int (nI t))], [], mm X i1 j)) ?_ ?_ 0 _ (Nat.zero_le _) rfl
  · intro z hz
    exact s_1474_6 0 X i1 j _ oa _ _ ob _ _ _ (br_t (by rw [g9, h0.2.1.1.1]; exact Int32.le_refl _) (qI_of ⟨hz, rfl⟩))
  · intro t z ht hz go
    refine s_1474_6 0 X i1 j _ oa _ _ ob _ _ _ (br_f (by rw [g9, h0.2.1.1.1]; exact nI_ge ht (by omega)) ⟨_, cwdv j hn h2 k hL ha ht _, _, cwdv j hn h2 k hL hb ht (nI 0), ?_⟩)
    rw [hz, nI_add, nI_add]
    refine bq_c (fun u => go _ ?_) (fun u => go _ ?_)
    · rw [ct_f (p := fun t => WD i n a (shI e) t = WD i n b (nI 0) t) u]
    · rw [ct_t (p := fun t => WD i n a (shI e) t = WD i n b (nI 0) t) u]
/-- b is the best of the first shifts, by A and then by r -/
def Best (A r : Nat → Nat) (P : Nat → Prop) (b : Nat) : Prop := P b ∧ ∀ e, P e → A e < A b ∨ (A e = A b ∧ r b ≤ r e)
set_option maxRecDepth 100000 in
theorem s_1421 (d : Nat) (X : XS) (i : Nat → Nat → Int32) (j : Nat → Nat → Int64) (a1 : Int32) (a2 : Int32) (K : Int32 → AM → Prop) (h : (GLs X i) ∧ ((¬ ((nI 0) ≤ a1 ∧ a1 ≤ ((i 2 4) - (nI 1)))) → ((¬ ((nI 0) ≤ a2 ∧ a2 ≤ ((i 2 4) - (nI 1)))) → K (kI (-1)) (mm X i j)) ∧ (((nI 0) ≤ a2 ∧ a2 ≤ ((i 2 4) - (nI 1))) → (GO X (xr X 17 (a2.toNatClampNeg))) → K (kI (-1)) (mm X i j))) ∧ (((nI 0) ≤ a1 ∧ a1 ≤ ((i 2 4) - (nI 1))) → (GO X (xr X 17 (a1.toNatClampNeg))) → ((¬ ((nI 0) ≤ a2 ∧ a2 ≤ ((i 2 4) - (nI 1)))) → K (kI (-1)) (mm X i j)) ∧ (((nI 0) ≤ a2 ∧ a2 ≤ ((i 2 4) - (nI 1))) → (GO X (xr X 17 (a2.toNatClampNeg))) → (∃ (i19 : Nat → Nat → Int32), EvV (d + 3) 1473 [.ref 2, .ref 9] (mm X i j) (mm X i19 j) ∧ WP (d + 4) 1421 (42, [(0, .ref 2), (3, .ref (xr X 17 (a1.toNatClampNeg))), (4, .ref (xr X 17 (a2.toNatClampNeg))), (5, .int (kI (-1))), (6, .int (nI 0)), (7, .int (kI (-60)))], [], (mm X i19 j)) (qI K))))) : WI (d + 4) 1421 [.ref 2, .int a1, .int a2] (mm X i j) K := te_1421 (d + 3) 2 a1 a2 (mm X i j) (qI K) ⟨rfl, (p_1467 (d + 2) X i j a1 _ ⟨h.1, (fun h2 => ⟨rfl, (p_1467 (d + 2) X i j a2 _ ⟨h.1, (fun h4 => ⟨fun _ => ⟨_, rfl, ((h.2.1 h2).1 h4)⟩, fun e5 => absurd rfl e5⟩), (fun h6 h7 => ⟨fun _ => ⟨_, rfl, ((h.2.1 h2).2 h6 h7)⟩, fun e8 => absurd rfl e8⟩)⟩)⟩), (fun h9 h10 => ⟨rfl, (p_1467 (d + 2) X i j a2 _ ⟨h.1, (fun h12 => ⟨fun e13 => absurd e13 (nz_k (h10.1)), fun _ => ⟨fun e14 => absurd rfl e14, fun _ => ⟨_, rfl, ((h.2.2 h9 h10).1 h12)⟩⟩⟩), (fun h15 h16 => ⟨fun e17 => absurd e17 (nz_k (h10.1)), fun _ => ⟨fun _ => ⟨rfl, ⟨rfl, (Exists.elim ((h.2.2 h9 h10).2 h15 h16) fun i19 h20 => EvV.use h20.1 h20.2)⟩⟩, fun e18 => absurd (nz_k (h16.1)) e18⟩⟩)⟩)⟩)⟩)⟩
set_option maxRecDepth 100000 in
theorem s_1421_42 (d : Nat) (X : XS) (i : Nat → Nat → Int32) (j : Nat → Nat → Int64) (v3 : Nat) (h3 : GO X v3) (v4 : Nat) (h4 : GO X v4) (v5 : Int32) (v6 : Int32) (v7 : Int32) (Q : Option (Option Value) → AM → Prop) (h : (((nI 60) < v7 → Q (some (some (.int v5))) (mm X (s2 (s2 i 40 1 (nI 0)) 40 1 (nI 1)) (s2 j 41 0 (v6.toInt64)))) ∧ (¬ ((nI 60) < v7) → (∃ (x24 : Int32), EvI (d + 3) 1474 [.ref 2, .ref v3, .int v7, .ref v4] (mm X i j) x24 (mm X i j) ∧ ((v5 < x24 → WP (d + 4) 1421 (42, [(0, .ref 2), (3, .ref v3), (4, .ref v4), (5, .int x24), (6, .int v7), (7, .int (v7 + (nI 1)))], [], (mm X i j)) Q) ∧ (¬ (v5 < x24) → ((¬ (x24 = v5) → WP (d + 4) 1421 (42, [(0, .ref 2), (3, .ref v3), (4, .ref v4), (5, .int v5), (6, .int v6), (7, .int (v7 + (nI 1)))], [], (mm X i j)) Q) ∧ (x24 = v5 → (((abI v6) ≤ (abI v7) → WP (d + 4) 1421 (42, [(0, .ref 2), (3, .ref v3), (4, .ref v4), (5, .int v5), (6, .int v6), (7, .int (v7 + (nI 1)))], [], (mm X i j)) Q) ∧ (¬ ((abI v6) ≤ (abI v7)) → WP (d + 4) 1421 (42, [(0, .ref 2), (3, .ref v3), (4, .ref v4), (5, .int x24), (6, .int v7), (7, .int (v7 + (nI 1)))], [], (mm X i j)) Q)))))))))) : WP (d + 4) 1421 (42, [(0, .ref 2), (3, .ref v3), (4, .ref v4), (5, .int v5), (6, .int v6), (7, .int v7)], [], mm X i j) Q := tc_1421_42 (d + 3) 2 v3 v4 v5 v6 v7 (mm X i j) Q ⟨fun e22 => ⟨rfl, ⟨rfl, (te_641 (d + 3) 40 (mm X i j) _ ⟨rfl, ⟨rfl, ⟨rfl, ⟨rfl, (te_642 (d + 3) 40 (v6.toInt64) (mm X (s2 i 40 1 (nI 0)) j) _ ⟨rfl, ⟨fun e23 => absurd e23 (show ¬ ((nI 20) ≤ (nI 0)) by decide), fun _ => ⟨rfl, ⟨rfl, ⟨⟨rfl, (vpk 0 20 rfl)⟩, ⟨rfl, ⟨rfl, ⟨rfl, (h.1 (e22))⟩⟩⟩⟩⟩⟩⟩⟩)⟩⟩⟩⟩)⟩⟩, fun e22 => ⟨rfl, (Exists.elim (h.2 (e22)) fun x24 h28 => EvI.use h28.1 ⟨fun e25 => (tc_1421_95 (d + 3) 2 v3 v4 x24 v7 v7 (mm X i j) _ (h28.2.1 (e25))), fun e25 => ⟨fun e26 => (tc_1421_95 (d + 3) 2 v3 v4 v5 v6 v7 (mm X i j) _ ((h28.2.2 (e25)).1 (e26))), fun e26 => ⟨fun e27 => (tc_1421_95 (d + 3) 2 v3 v4 v5 v6 v7 (mm X i j) _ (((h28.2.2 (e25)).2 ((Classical.byContradiction e26))).1 (e27))), fun e27 => (tc_1421_95 (d + 3) 2 v3 v4 x24 v7 v7 (mm X i j) _ (((h28.2.2 (e25)).2 ((Classical.byContradiction e26))).2 (e27)))⟩⟩⟩)⟩⟩
set_option maxRecDepth 100000 in
theorem s_1569 (d : Nat) (X : XS) (i : Nat → Nat → Int32) (j : Nat → Nat → Int64) (a1 : Int32) (a2 : Int32) (K : Int32 → AM → Prop) (h : ((¬ ((nI 0) ≤ a1 ∧ a1 ≤ ((i 42 7) - (nI 1))) → K (kI (-1)) (mm X (s2 i 42 36 (nI 0)) j)) ∧ ((nI 0) ≤ a1 ∧ a1 ≤ ((i 42 7) - (nI 1)) → (((nI 0) ≤ a2 ∧ a2 ≤ ((i 42 7) - (nI 1)) → (∃ (i3 : Nat → Nat → Int32), EvV (d + 1) 1565 [.ref 42] (mm X (s2 i 42 36 (nI 0)) j) (mm X i3 j) ∧ WP (d + 2) 1569 (35, [(0, .ref 42), (1, .int a1), (2, .int a2), (3, .int (kI (-1))), (4, .int (nI 0)), (5, .int (nI 0))], [], (mm X i3 j)) (qI K))) ∧ (¬ ((nI 0) ≤ a2 ∧ a2 ≤ ((i 42 7) - (nI 1))) → K (kI (-1)) (mm X (s2 i 42 36 (nI 0)) j)))))) : WI (d + 2) 1569 [.ref 42, .int a1, .int a2] (mm X i j) K := te_1569 (d + 1) 42 a1 a2 (mm X i j) (qI K) ⟨rfl, ⟨rfl, (te_1545 d 42 a1 (mm X (s2 i 42 36 (nI 0)) j) _ ⟨rfl, (p_1538 d X (s2 i 42 36 (nI 0)) j a1 (nI 0) ((i 42 7) - (nI 1)) _ ⟨(bi_01 _), ⟨_, rfl, ⟨fun e1 => ⟨_, rfl, (h.1 ((bi_z e1)))⟩, fun e1 => ⟨rfl, (te_1545 d 42 a2 (mm X (s2 i 42 36 (nI 0)) j) _ ⟨rfl, (p_1538 d X (s2 i 42 36 (nI 0)) j a2 (nI 0) ((i 42 7) - (nI 1)) _ ⟨(bi_01 _), ⟨_, rfl, ⟨fun e2 => ⟨rfl, (Exists.elim ((h.2 ((bi_n e1))).1 ((bi_n e2))) fun i3 h4 => EvV.use h4.1 h4.2)⟩, fun e2 => ⟨_, rfl, ((h.2 ((bi_n e1))).2 ((bi_nn e2)))⟩⟩⟩⟩)⟩)⟩⟩⟩⟩)⟩)⟩⟩
set_option maxRecDepth 100000 in
theorem s_1569_35 (d : Nat) (X : XS) (i : Nat → Nat → Int32) (j : Nat → Nat → Int64) (v1 : Int32) (v2 : Int32) (v3 : Int32) (v4 : Int32) (v5 : Int32) (Q : Option (Option Value) → AM → Prop) (h : (((nI 120) < v5 → Q (some (some (.int v3))) (mm X (s2 (s2 i 42 35 (nI 0)) 42 35 (nI 1)) (s2 j 70 0 (v4.toInt64)))) ∧ (¬ ((nI 120) < v5) → ((¬ ((v5 &&& (nI 1)) = (nI 1)) → WP (d + 2) 1569 (72, [(0, .ref 42), (1, .int v1), (2, .int v2), (3, .int v3), (4, .int v4), (5, .int v5), (6, .int (v5 / (nI 2))), (7, .int (nI 0)), (8, .int (nI 0))], [], (mm X i j)) Q) ∧ ((v5 &&& (nI 1)) = (nI 1) → WP (d + 2) 1569 (72, [(0, .ref 42), (1, .int v1), (2, .int v2), (3, .int v3), (4, .int v4), (5, .int v5), (6, .int ((-(v5 + (nI 1))) / (nI 2))), (7, .int (nI 0)), (8, .int (nI 0))], [], (mm X i j)) Q))))) : WP (d + 2) 1569 (35, [(0, .ref 42), (1, .int v1), (2, .int v2), (3, .int v3), (4, .int v4), (5, .int v5)], [], mm X i j) Q := tc_1569_35 (d + 1) 42 v1 v2 v3 v4 v5 (mm X i j) Q ⟨fun e6 => ⟨rfl, ⟨rfl, (te_1540 (d + 1) 42 (v4.toInt64) (mm X (s2 i 42 35 (nI 0)) j) _ ⟨rfl, ⟨rfl, ⟨⟨rfl, (vpk 0 32 rfl)⟩, ⟨rfl, ⟨rfl, ⟨rfl, (h.1 (e6))⟩⟩⟩⟩⟩⟩)⟩⟩, fun e6 => ⟨fun e7 => ⟨(by decide), ((h.2 (e6)).1 (e7))⟩, fun e7 => ⟨(by decide), ((h.2 (e6)).2 ((Classical.byContradiction e7)))⟩⟩⟩
set_option maxRecDepth 100000 in
theorem s_1569_72 (d : Nat) (X : XS) (i : Nat → Nat → Int32) (j : Nat → Nat → Int64) (v1 : Int32) (v2 : Int32) (v3 : Int32) (v4 : Int32) (v5 : Int32) (v6 : Int32) (v7 : Int32) (v8 : Int32) (Q : Option (Option Value) → AM → Prop) (h : (((i 42 0) ≤ v8 → ((v3 < v7 → WP (d + 2) 1569 (35, [(0, .ref 42), (1, .int v1), (2, .int v2), (3, .int v7), (4, .int v6), (5, .int (v5 + (nI 1)))], [], (mm X i j)) Q) ∧ (¬ (v3 < v7) → WP (d + 2) 1569 (35, [(0, .ref 42), (1, .int v1), (2, .int v2), (3, .int v3), (4, .int v4), (5, .int (v5 + (nI 1)))], [], (mm X i j)) Q))) ∧ (¬ ((i 42 0) ≤ v8) → (vp_in (((nI 240) * v1) + v8) 960) ∧ (∃ (x10 : Int32), EvI (d + 1) 1564 [.ref 42, .int v1, .int (i 71 ((((nI 240) * v1) + v8).toNatClampNeg)), .int v6] (mm X i j) x10 (mm X i j) ∧ (vp_in (((nI 240) * v2) + v8) 960) ∧ (∃ (x11 : Int32), EvI d 1564 [.ref 42, .int v2, .int (i 71 ((((nI 240) * v2) + v8).toNatClampNeg)), .int (nI 0)] (mm X i j) x11 (mm X i j) ∧ ((¬ (x10 = x11) → WP (d + 2) 1569 (72, [(0, .ref 42), (1, .int v1), (2, .int v2), (3, .int v3), (4, .int v4), (5, .int v5), (6, .int v6), (7, .int (v7 + (nI 0))), (8, .int (v8 + (nI 1)))], [], (mm X i j)) Q) ∧ (x10 = x11 → WP (d + 2) 1569 (72, [(0, .ref 42), (1, .int v1), (2, .int v2), (3, .int v3), (4, .int v4), (5, .int v5), (6, .int v6), (7, .int (v7 + (nI 1))), (8, .int (v8 + (nI 1)))], [], (mm X i j)) Q))))))) : WP (d + 2) 1569 (72, [(0, .ref 42), (1, .int v1), (2, .int v2), (3, .int v3), (4, .int v4), (5, .int v5), (6, .int v6), (7, .int v7), (8, .int v8)], [], mm X i j) Q := tc_1569_72 (d + 1) 42 v1 v2 v3 v4 v5 v6 v7 v8 (mm X i j) Q ⟨rfl, ⟨fun e8 => ⟨fun e9 => ((h.1 (e8)).1 (e9)), fun e9 => ((h.1 (e8)).2 (e9))⟩, fun e8 => ⟨rfl, ⟨⟨rfl, (h.2 (e8)).1⟩, ⟨rfl, (Exists.elim (h.2 (e8)).2 fun x10 h15 => EvI.use h15.1 ⟨rfl, (te_1567 d 42 v2 v8 (mm X i j) _ ⟨rfl, ⟨⟨rfl, h15.2.1⟩, ⟨rfl, (Exists.elim h15.2.2 fun x11 h13 => EvI.use h13.1 ⟨_, rfl, ⟨fun e12 => (h13.2.1 (e12)), fun e12 => (h13.2.2 ((Classical.byContradiction e12)))⟩⟩)⟩⟩⟩)⟩)⟩⟩⟩⟩⟩
theorem k_12 (d : Nat) {X : XS} {i : Nat → Nat → Int32} {j : Nat → Nat → Int64} (h : Rel X i j) (a1 a2 : Int32) {Kf : AM → Prop} (hK : Nx X Kf) : WI (d + 300) 1421 [.ref 2, .int a1, .int a2] (mm X i j) (fun x1 M1 => WI (d + 300) 1569 [.ref 42, .int a1, .int a2] M1 (fun x2 M2 => x1 = x2 ∧ Kf M2)) := by
  have ht := hK.th h
  have hrel := h
  obtain ⟨hx, ⟨⟨n, h0⟩, h1, ⟨ng, h2, no, h4⟩, ⟨tn, h3⟩, ⟨np, h5⟩, h6, ns, h7⟩, h8, hz⟩ := h
  have e1 := h2.2.1
  have e2 := h2.2.2.1
  have hng := h2.1
  have hn := h0.2.1.1.2
  refine s_1421 _ X i j a1 a2 _ ⟨h2.gl, ?_, ?_⟩
  · rw [e1]
    intro z
    have r : WI (d + 300) 1569 [.ref 42, .int a1, .int a2] (mm X i j) (fun x2 M2 => kI (-1) = x2 ∧ Kf M2) := s_1569 _ X i j _ _ _ (bq_t (by rw [e2]; exact z) ⟨rfl, ht⟩)
    exact ⟨fun _ => r, fun _ _ => r⟩
  rw [e1]
  intro z hO
  have z2 : nI 0 ≤ a1 ∧ a1 ≤ i 42 7 - nI 1 := by rw [e2]; exact z
  refine ⟨fun w => s_1569 _ X i j _ _ _ (bq_f z2 ⟨fun u => absurd (by rw [e2] at u; exact u) w, fun _ => ⟨rfl, ht⟩⟩), fun w hO2 => ?_⟩
  have w2 : nI 0 ≤ a2 ∧ a2 ≤ i 42 7 - nI 1 := by rw [e2]; exact w
  obtain ⟨ga, hga, rfl⟩ := idx_of (by omega) z
  obtain ⟨gb, hgb, rfl⟩ := idx_of (by omega) w
  rw [tc_nI (by omega)] at hO hO2 ⊢
  rw [tc_nI (by omega)]
  obtain ⟨i1, hE1, f1, z1, r40, hL, g9⟩ := gov 0 X i j h0 h2 hz
  refine ⟨i1, hE1.up (by omega), ?_⟩
  have k1 := f1.kp
  have g42 : i1 42 = i 42 := f1 42 (Or.inl (show 0 < 10 by decide))

  have lA : ∀ e, ALK i n ga gb e ≤ n := fun e => ct_le _ _
  obtain ⟨A, hA⟩ : ∃ A, A = ALK i n ga gb := ⟨_, rfl⟩
  rw [← hA] at lA
  have F1 := f1
  rw [shI_0]
  refine lup 121 (fun e (z : Int32 × Int32) => (e = 0 → z = (kI (-1), nI 0)) ∧ (0 < e → ∃ b, z = (nI (A b), shI b) ∧ Best A rkS (fun e' => e' < e) b)) (fun e z => (42, [(0, .ref 2), (3, .ref (xr X 17 ga)), (4, .ref (xr X 17 gb)), (5, .int z.1), (6, .int z.2), (7, .int (shI e))], [], mm X i1 j)) ?_ ?_ 0 (kI (-1), nI 0) (Nat.zero_le _) ⟨fun _ => rfl, fun h => absurd h (by omega)⟩
  · rintro ⟨z1', z2'⟩ ⟨-, hb⟩
    obtain ⟨b, hzb, hbest⟩ := hb (by decide)
    cases hzb
    refine s_1421_42 _ X i1 j _ hO _ hO2 _ _ _ _ (br_t ((shI_lt (by decide)).mpr rfl) (qI_of ?_))
    obtain ⟨i3, hi3⟩ : ∃ i3, i3 = s2 (s2 i1 40 1 (nI 0)) 40 1 (nI 1) := ⟨_, rfl⟩
    rw [← hi3]
    have f3 : ∀ b, b ≠ 40 → i3 b = i1 b := fun b hb => by rw [hi3, s2_ne hb, s2_ne hb]
    have F3 : FrC X i i3 := f1.tr (FrC_40 f3)
    have g423 : i3 42 = i 42 := by rw [f3 42 (by decide), g42]
    refine s_1569 _ X i3 _ _ _ _ (bq_f (by rw [g423]; exact z2) (br_t (by rw [g423]; exact w2) ?_))
    obtain ⟨i7, hE7, f7, h71⟩ := rov 0 X i (s2 i3 42 36 (nI 0)) (s2 j 41 0 (shI b).toInt64) h0 h2 (F3.kp.tr (FrR_th (X := X) (nI 0)).kp)
    have F7 : FrR X i3 i7 := (FrR_th (nI 0)).tr (FrR_71 f7)
    have k7 : Kp X i i7 := F3.kp.tr F7.kp
    refine ⟨i7, hE7.up (by omega), ?_⟩
    refine lup 121 (fun k (z : Int32 × Int32) => (k = 0 → z = (kI (-1), nI 0)) ∧ (0 < k → ∃ c, z = (nI (A (shS c)), shI (shS c)) ∧ Best (fun k => A (shS k)) id (fun k' => k' < k) c)) (fun k z => (35, [(0, .ref 42), (1, .int (nI ga)), (2, .int (nI gb)), (3, .int z.1), (4, .int z.2), (5, .int (nI k))], [], mm X i7 (s2 j 41 0 (shI b).toInt64))) ?_ ?_ 0 (kI (-1), nI 0) (Nat.zero_le _) ⟨fun _ => rfl, fun h => absurd h (by omega)⟩
    · rintro ⟨z1', z2'⟩ ⟨-, hc⟩
      obtain ⟨c, hzc, hcb⟩ := hc (by decide)
      cases hzc
      refine s_1569_35 _ X i7 _ _ _ _ _ _ _ (br_t (by decide) (qI_of ?_))
      obtain ⟨hb1, hb2⟩ := hbest
      obtain ⟨hc1, hc2⟩ := hcb
      dsimp only at hb1 hb2 hc1 hc2
      have q1 := hb2 (shS c) (shS_lt hc1)
      have q2 := hc2 (rkS b) (rk_lt hb1)
      rw [rk_shS hc1] at q1
      rw [shS_rk hb1] at q2
      simp only [id] at q2
      have eqk : rkS b = c := by omega
      have eqb : shS c = b := by rw [← eqk, shS_rk hb1]
      rw [eqb]
      refine ⟨rfl, hK.k (fin_row hrel F3 (RZ_of z1 (f3 34 (by decide)) (f3 35 (by decide))) (F7.tr (FrR_42 (fun b hb => by rw [s2_ne hb, s2_ne hb]) (fun k hk => by rw [s2_ne2 (by omega), s2_ne2 (by omega)]))) (r8_of 1 (by decide) ?_ (s2_self _ _ _ _) ?_))⟩
      · rw [s2_ne (show 40 ≠ 42 by decide), s2_ne (show 40 ≠ 42 by decide), f7 40 (by decide), s2_ne (show 40 ≠ 42 by decide), hi3, s2_self]
      · intro q hq
        have : q = 0 := by omega
        subst this
        simp [s2_ap]
    · rintro k ⟨m1, b1⟩ hk ⟨hk0, hk1⟩ go
      dsimp only at hk0 hk1 ⊢
      have inner : ∀ sh, sh = shI (shS k) → WP (d + 300) 1569 (72, [(0, .ref 42), (1, .int (nI ga)), (2, .int (nI gb)), (3, .int m1), (4, .int b1), (5, .int (nI k)), (6, .int sh), (7, .int (nI 0)), (8, .int (nI 0))], [], mm X i7 (s2 j 41 0 (shI b).toInt64)) (qI fun x2 M2 => nI (A b) = x2 ∧ Kf M2) := by
        intro sh hsh
        subst hsh
        refine lup n (fun t (z : Int32) => z = nI (ct (fun t => WD i n ga (shI (shS k)) t = WD i n gb (nI 0) t) t)) (fun t z => (72, [(0, .ref 42), (1, .int (nI ga)), (2, .int (nI gb)), (3, .int m1), (4, .int b1), (5, .int (nI k)), (6, .int (shI (shS k))), (7, .int z), (8, .int (nI t))], [], mm X i7 (s2 j 41 0 (shI b).toInt64))) ?_ ?_ 0 _ (Nat.zero_le _) rfl
        · intro z hz
          have hz : z = nI (A (shS k)) := by rw [hz, hA]; rfl
          subst hz
          refine s_1569_72 _ X i7 _ _ _ _ _ _ _ _ _ _ (br_t (by rw [k7.2 0 (by decide), h0.1]; exact Int32.le_refl _) ?_)
          rw [nI_add]
          have lk := lA (shS k)
          by_cases k0 : k = 0
          · have := hk0 k0
            cases this
            refine br_t ?_ (go (_, _) ⟨fun h => absurd h (by omega), fun _ => ⟨k, rfl, by dsimp only; omega, fun e he => ?_⟩⟩)
            · rw [Int32.lt_iff_toInt_lt, nI_toInt (by omega)]
              have : (kI (-1)).toInt = -1 := by decide
              omega
            · dsimp only at he ⊢
              have : e = k := by omega
              subst this
              exact Or.inr ⟨rfl, Nat.le_refl _⟩
          · obtain ⟨c, hzc, hc1, hc2⟩ := hk1 (by omega)
            cases hzc
            have lc := lA (shS c)
            rw [nI_ltI (by omega) (by omega)]
            refine br_c (fun y => go (_, _) ⟨fun h => absurd h (by omega), fun _ => ⟨k, rfl, by dsimp only; omega, fun e he => ?_⟩⟩) (fun y => go (_, _) ⟨fun h => absurd h (by omega), fun _ => ⟨c, rfl, by dsimp only at hc1 ⊢; omega, fun e he => ?_⟩⟩)
            · dsimp only at he ⊢
              by_cases hek : e = k
              · subst hek; exact Or.inr ⟨rfl, Nat.le_refl _⟩
              · have := hc2 e (by dsimp only; omega)
                dsimp only at this
                omega
            · dsimp only at he ⊢
              by_cases hek : e = k
              · subst hek
                simp only [id]
                have hc1' : c < e := hc1
                omega
              · have := hc2 e (by dsimp only; omega)
                exact this
        · intro t z ht hz go3
          refine s_1569_72 _ X i7 _ _ _ _ _ _ _ _ _ _ (br_f (by rw [k7.2 0 (by decide), h0.1]; exact nI_ge ht (by omega)) ?_)
          rw [pk_mul, pk_mul, nI_add (240 * ga) t, nI_add (240 * gb) t, tc_nI (by omega), tc_nI (by omega), hz, nI_add, nI_add, nI_add]
          refine ⟨vp_in_nI (by omega) (by decide), _, (rwd (n := n) _ h2 k7 hga (h71 ga hga t ht) _).up (by omega), vp_in_nI (by omega) (by decide), _, (rwd (n := n) _ h2 k7 hgb (h71 gb hgb t ht) (nI 0)).up (by omega), ?_⟩
          refine bq_c (fun u => go3 _ ?_) (fun u => go3 _ ?_)
          · rw [ct_f (p := fun t => WD i n ga (shI (shS k)) t = WD i n gb (nI 0) t) u]; rfl
          · rw [ct_t (p := fun t => WD i n ga (shI (shS k)) t = WD i n gb (nI 0) t) u]
      refine s_1569_35 _ X i7 _ _ _ _ _ _ _ (br_f (nI_nlt (by omega) (by omega)) ?_)
      rw [sh_k k hk]
      refine bq_c (fun y => inner _ ?_) (fun y => inner _ ?_)
      · rw [sh_even hk, shS, if_neg y]
      · rw [sh_odd k hk y, shS, if_pos y]
  · rintro e ⟨m1, b1⟩ he ⟨hk0, hk1⟩ go
    dsimp only at hk0 hk1 ⊢
    have hev := c_1474 j h0 h2 k1 hL g9 hga hgb e
    rw [← hA] at hev
    refine s_1421_42 _ X i1 j _ hO _ hO2 _ _ _ _ (br_f (fun y => by rw [shI_lt (by omega)] at y; omega) ⟨_, hev.up (by omega), ?_⟩)
    rw [shI_s]
    have le := lA e
    by_cases e0 : e = 0
    · have := hk0 e0
      cases this
      refine br_t ?_ (go (_, _) ⟨fun h => absurd h (by omega), fun _ => ⟨e, rfl, by dsimp only; omega, fun e' he' => ?_⟩⟩)
      · rw [Int32.lt_iff_toInt_lt, nI_toInt (by omega)]
        have : (kI (-1)).toInt = -1 := by decide
        omega
      · dsimp only at he'
        have : e' = e := by omega
        subst this
        exact Or.inr ⟨rfl, Nat.le_refl _⟩
    · obtain ⟨c, hzc, hc1, hc2⟩ := hk1 (by omega)
      cases hzc
      have hc1 : c < e := hc1
      have lc := lA c
      rw [nI_ltI (by omega) (by omega), nI_eq (by omega) (by omega), shI_ab (by omega), shI_ab (by omega), nI_leI (by split <;> omega) (by split <;> omega)]
      have rk : ∀ x, x < 121 → rkS x = if x < 60 then 2 * (60 - x) - 1 else 2 * (x - 60) := fun x _ => rfl
      have new : (A c < A e ∨ (A e = A c ∧ rkS e < rkS c)) → WP (d + 300) 1421 (42, [(0, .ref 2), (3, .ref (xr X 17 ga)), (4, .ref (xr X 17 gb)), (5, .int (nI (A e))), (6, .int (shI e)), (7, .int (shI (e + 1)))], [], mm X i1 j) (qI fun x1 M1 => WI (d + 300) 1569 [.ref 42, .int (nI ga), .int (nI gb)] M1 (fun x2 M2 => x1 = x2 ∧ Kf M2)) := by
        intro hh
        refine go (nI (A e), shI e) ⟨fun h => absurd h (by omega), fun _ => ⟨e, rfl, by dsimp only; omega, fun e' he' => ?_⟩⟩
        dsimp only at he'
        by_cases hek : e' = e
        · subst hek; exact Or.inr ⟨rfl, Nat.le_refl _⟩
        · have := hc2 e' (by dsimp only; omega)
          omega
      have old : ¬ (A c < A e ∨ (A e = A c ∧ rkS e < rkS c)) → WP (d + 300) 1421 (42, [(0, .ref 2), (3, .ref (xr X 17 ga)), (4, .ref (xr X 17 gb)), (5, .int (nI (A c))), (6, .int (shI c)), (7, .int (shI (e + 1)))], [], mm X i1 j) (qI fun x1 M1 => WI (d + 300) 1569 [.ref 42, .int (nI ga), .int (nI gb)] M1 (fun x2 M2 => x1 = x2 ∧ Kf M2)) := by
        intro hh
        refine go (nI (A c), shI c) ⟨fun h => absurd h (by omega), fun _ => ⟨c, rfl, by dsimp only; omega, fun e' he' => ?_⟩⟩
        dsimp only at he'
        by_cases hek : e' = e
        · subst hek; omega
        · exact hc2 e' (by dsimp only; omega)
      have rc := rk c (by omega)
      have re := rk e (by omega)
      refine br_c (fun y => new (Or.inl y)) (fun y => bq_c (fun y2 => old (by omega)) (fun y2 => br_c (fun y3 => old ?_) (fun y3 => new ?_)))
      · rintro (q | q)
        · exact y q
        · revert y3 rc re; split <;> split <;> (intros; omega)
      · refine Or.inr ⟨y2, ?_⟩
        revert y3 rc re; split <;> split <;> (intros; omega)
