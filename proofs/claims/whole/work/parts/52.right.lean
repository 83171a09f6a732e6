/-! ===== whose, right ===== -/
theorem mx_nI {a b : Nat} (ha : a < 2 ^ 31) (hb : b < 2 ^ 31) : mxI (nI a) (nI b) = nI (max a b) := by
  unfold mxI
  by_cases h : a < b
  · rw [if_pos (nI_lt h hb), Nat.max_eq_right (by omega)]
  · rw [if_neg (nI_nlt (by omega) ha), Nat.max_eq_left (by omega)]
set_option maxRecDepth 100000 in
theorem s_1475 (d : Nat) (X : XS) (i : Nat → Nat → Int32) (j : Nat → Nat → Int64) (a1 : Nat) (h1 : GO X a1) (a2 : Nat) (h2 : GO X a2) (a3 : Nat) (h3 : GO X a3) (K : Int32 → AM → Prop) (h : WP (d + 1) 1475 (6, [(0, .ref 2), (1, .ref a1), (2, .ref a2), (3, .ref a3), (4, .int (nI 0)), (5, .int (nI 0))], [], (mm X i j)) (qI K)) : WI (d + 1) 1475 [.ref 2, .ref a1, .ref a2, .ref a3] (mm X i j) K := te_1475 d 2 a1 a2 a3 (mm X i j) (qI K) h
set_option maxRecDepth 100000 in
theorem s_1475_6 (d : Nat) (X : XS) (i : Nat → Nat → Int32) (j : Nat → Nat → Int64) (v1 : Nat) (h1 : GO X v1) (v2 : Nat) (h2 : GO X v2) (v3 : Nat) (h3 : GO X v3) (v4 : Int32) (v5 : Int32) (Q : Option (Option Value) → AM → Prop) (h : (((i 9 3) ≤ v5 → Q (some (some (.int v4))) (mm X i j)) ∧ (¬ ((i 9 3) ≤ v5) → (∃ (x2 : Int32), EvI d 265 [.ref v2, .int v5, .int (nI 0)] (mm X i j) x2 (mm X i j) ∧ (∃ (x3 : Int32), EvI d 265 [.ref v3, .int v5, .int (nI 0)] (mm X i j) x3 (mm X i j) ∧ ((¬ (x2 = x3) → WP (d + 1) 1475 (6, [(0, .ref 2), (1, .ref v1), (2, .ref v2), (3, .ref v3), (4, .int v4), (5, .int (v5 + (nI 1)))], [], (mm X i j)) Q) ∧ (x2 = x3 → (∃ (x5 : Int32), EvI d 265 [.ref v1, .int v5, .int (nI 0)] (mm X i j) x5 (mm X i j) ∧ ((x2 = x5 → WP (d + 1) 1475 (6, [(0, .ref 2), (1, .ref v1), (2, .ref v2), (3, .ref v3), (4, .int v4), (5, .int (v5 + (nI 1)))], [], (mm X i j)) Q) ∧ (¬ (x2 = x5) → WP (d + 1) 1475 (6, [(0, .ref 2), (1, .ref v1), (2, .ref v2), (3, .ref v3), (4, .int (v4 + (nI 1))), (5, .int (v5 + (nI 1)))], [], (mm X i j)) Q)))))))))) : WP (d + 1) 1475 (6, [(0, .ref 2), (1, .ref v1), (2, .ref v2), (3, .ref v3), (4, .int v4), (5, .int v5)], [], mm X i j) Q := tc_1475_6 d 2 v1 v2 v3 v4 v5 (mm X i j) Q ⟨rfl, ⟨rfl, (te_129 d 9 (mm X i j) _ ⟨rfl, ⟨_, rfl, ⟨fun e1 => (h.1 (e1)), fun e1 => ⟨h2.1, (Exists.elim (h.2 (e1)) fun x2 h11 => EvI.use h11.1 ⟨h3.1, (Exists.elim h11.2 fun x3 h9 => EvI.use h9.1 ⟨fun e4 => (tc_1475_54 d 2 v1 v2 v3 v4 v5 (mm X i j) _ (h9.2.1 (e4))), fun e4 => ⟨h1.1, (Exists.elim (h9.2.2 ((Classical.byContradiction e4))) fun x5 h7 => EvI.use h7.1 ⟨fun e6 => (tc_1475_54 d 2 v1 v2 v3 v4 v5 (mm X i j) _ (h7.2.1 (e6))), fun e6 => (tc_1475_54 d 2 v1 v2 v3 (v4 + (nI 1)) v5 (mm X i j) _ (h7.2.2 (e6)))⟩)⟩⟩)⟩)⟩⟩⟩⟩)⟩⟩
theorem c_1475 {X : XS} {i i1 : Nat → Nat → Int32} (j : Nat → Nat → Int64) {n ng g a b : Nat} (h0 : R0 X i n) (h2 : R2 X i ng) (k : Kp X i i1) (hL : LK X i1 ng n (i 44)) (g9 : i1 9 = i 9) (hg : g < ng) (ha : a < ng) (hb : b < ng) :
    EvI 1 1475 [.ref 2, .ref (xr X 17 g), .ref (xr X 17 a), .ref (xr X 17 b)] (mm X i1 j) (nI (ct (fun t => WD i n a (nI 0) t = WD i n b (nI 0) t ∧ ¬ WD i n a (nI 0) t = WD i n g (nI 0) t) n)) (mm X i1 j) := by
  have hn := h0.2.1.1.2
  have og := (h2.2.2.2 g hg).1
  have oa := (h2.2.2.2 a ha).1
  have ob := (h2.2.2.2 b hb).1
  refine s_1475 0 X i1 j _ og _ oa _ ob _ ?_
  refine lup n (fun t (z : Int32) => z = nI (ct (fun t => WD i n a (nI 0) t = WD i n b (nI 0) t ∧ ¬ WD i n a (nI 0) t = WD i n g (nI 0) t) t)) (fun t z => (6, [(0, .ref 2), (1, .ref (xr X 17 g)), (2, .ref (xr X 17 a)), (3, .ref (xr X 17 b)), (4, .int z), (5, .int (nI t))], [], mm X i1 j)) ?_ ?_ 0 _ (Nat.zero_le _) rfl
  · intro z hz
    exact s_1475_6 0 X i1 j _ og _ oa _ ob _ _ _ (br_t (by rw [g9, h0.2.1.1.1]; exact Int32.le_refl _) (qI_of ⟨hz, rfl⟩))
  · intro t z ht hz go
    refine s_1475_6 0 X i1 j _ og _ oa _ ob _ _ _ (br_f (by rw [g9, h0.2.1.1.1]; exact nI_ge ht (by omega)) ⟨_, cwdv j hn h2 k hL ha ht (nI 0), _, cwdv j hn h2 k hL hb ht (nI 0), ?_⟩)
    rw [hz, nI_add, nI_add]
    refine bq_c (fun u => go _ ?_) (fun u => ⟨_, cwdv j hn h2 k hL hg ht (nI 0), br_c (fun w => go _ ?_) (fun w => go _ ?_)⟩)
    · rw [ct_f (p := fun t => WD i n a (nI 0) t = WD i n b (nI 0) t ∧ ¬ WD i n a (nI 0) t = WD i n g (nI 0) t) (fun q => u q.1)]
    · rw [ct_f (p := fun t => WD i n a (nI 0) t = WD i n b (nI 0) t ∧ ¬ WD i n a (nI 0) t = WD i n g (nI 0) t) (fun q => q.2 w)]
    · rw [ct_t (p := fun t => WD i n a (nI 0) t = WD i n b (nI 0) t ∧ ¬ WD i n a (nI 0) t = WD i n g (nI 0) t) ⟨u, w⟩]
set_option maxRecDepth 100000 in
theorem s_1570 (d : Nat) (X : XS) (i : Nat → Nat → Int32) (j : Nat → Nat → Int64) (a1 : Int32) (a2 : Int32) (a3 : Int32) (K : Int32 → AM → Prop) (h : WP (d + 2) 1570 (6, [(0, .ref 42), (1, .int a1), (2, .int a2), (3, .int a3), (4, .int (nI 0)), (5, .int (nI 0))], [], (mm X i j)) (qI K)) : WI (d + 2) 1570 [.ref 42, .int a1, .int a2, .int a3] (mm X i j) K := te_1570 (d + 1) 42 a1 a2 a3 (mm X i j) (qI K) h
set_option maxRecDepth 100000 in
theorem s_1570_6 (d : Nat) (X : XS) (i : Nat → Nat → Int32) (j : Nat → Nat → Int64) (v1 : Int32) (v2 : Int32) (v3 : Int32) (v4 : Int32) (v5 : Int32) (Q : Option (Option Value) → AM → Prop) (h : (((i 42 0) ≤ v5 → Q (some (some (.int v4))) (mm X i j)) ∧ (¬ ((i 42 0) ≤ v5) → (vp_in (((nI 240) * v2) + v5) 960) ∧ (∃ (x2 : Int32), EvI d 1564 [.ref 42, .int v2, .int (i 71 ((((nI 240) * v2) + v5).toNatClampNeg)), .int (nI 0)] (mm X i j) x2 (mm X i j) ∧ (vp_in (((nI 240) * v3) + v5) 960) ∧ (∃ (x3 : Int32), EvI d 1564 [.ref 42, .int v3, .int (i 71 ((((nI 240) * v3) + v5).toNatClampNeg)), .int (nI 0)] (mm X i j) x3 (mm X i j) ∧ ((¬ (x2 = x3) → WP (d + 2) 1570 (6, [(0, .ref 42), (1, .int v1), (2, .int v2), (3, .int v3), (4, .int (v4 + (nI 0))), (5, .int (v5 + (nI 1)))], [], (mm X i j)) Q) ∧ (x2 = x3 → (vp_in (((nI 240) * v1) + v5) 960) ∧ (∃ (x5 : Int32), EvI d 1564 [.ref 42, .int v1, .int (i 71 ((((nI 240) * v1) + v5).toNatClampNeg)), .int (nI 0)] (mm X i j) x5 (mm X i j) ∧ (∃ (x6 : Int32), EvI d 1564 [.ref 42, .int v2, .int (i 71 ((((nI 240) * v2) + v5).toNatClampNeg)), .int (nI 0)] (mm X i j) x6 (mm X i j) ∧ ((x5 = x6 → WP (d + 2) 1570 (6, [(0, .ref 42), (1, .int v1), (2, .int v2), (3, .int v3), (4, .int (v4 + (nI 0))), (5, .int (v5 + (nI 1)))], [], (mm X i j)) Q) ∧ (¬ (x5 = x6) → WP (d + 2) 1570 (6, [(0, .ref 42), (1, .int v1), (2, .int v2), (3, .int v3), (4, .int (v4 + (nI 1))), (5, .int (v5 + (nI 1)))], [], (mm X i j)) Q))))))))))) : WP (d + 2) 1570 (6, [(0, .ref 42), (1, .int v1), (2, .int v2), (3, .int v3), (4, .int v4), (5, .int v5)], [], mm X i j) Q := tc_1570_6 (d + 1) 42 v1 v2 v3 v4 v5 (mm X i j) Q ⟨rfl, ⟨fun e1 => (h.1 (e1)), fun e1 => ⟨rfl, (te_1567 d 42 v2 v5 (mm X i j) _ ⟨rfl, ⟨⟨rfl, (h.2 (e1)).1⟩, ⟨rfl, (Exists.elim (h.2 (e1)).2 fun x2 h14 => EvI.use h14.1 ⟨_, rfl, ⟨rfl, (te_1567 d 42 v3 v5 (mm X i j) _ ⟨rfl, ⟨⟨rfl, h14.2.1⟩, ⟨rfl, (Exists.elim h14.2.2 fun x3 h12 => EvI.use h12.1 ⟨_, rfl, ⟨fun e4 => (tc_1570_59 (d + 1) 42 v1 v2 v3 (v4 + (nI 0)) v5 (mm X i j) _ (h12.2.1 (e4))), fun e4 => ⟨rfl, (te_1567 d 42 v1 v5 (mm X i j) _ ⟨rfl, ⟨⟨rfl, (h12.2.2 ((Classical.byContradiction e4))).1⟩, ⟨rfl, (Exists.elim (h12.2.2 ((Classical.byContradiction e4))).2 fun x5 h10 => EvI.use h10.1 ⟨_, rfl, ⟨rfl, (te_1567 d 42 v2 v5 (mm X i j) _ ⟨rfl, ⟨⟨rfl, (h.2 (e1)).1⟩, ⟨rfl, (Exists.elim h10.2 fun x6 h8 => EvI.use h8.1 ⟨_, rfl, ⟨fun e7 => (tc_1570_59 (d + 1) 42 v1 v2 v3 (v4 + (nI 0)) v5 (mm X i j) _ (h8.2.1 (e7))), fun e7 => (tc_1570_59 (d + 1) 42 v1 v2 v3 (v4 + (nI 1)) v5 (mm X i j) _ (h8.2.2 (e7)))⟩⟩)⟩⟩⟩)⟩⟩)⟩⟩⟩)⟩⟩⟩)⟩⟩⟩)⟩⟩)⟩⟩⟩)⟩⟩⟩
theorem c_1570 {X : XS} {i i2 : Nat → Nat → Int32} (j : Nat → Nat → Int64) {n ng g a b : Nat} (h0 : R0 X i n) (h2 : R2 X i ng) (k : Kp X i i2) (h71 : ∀ g, g < ng → ∀ t, t < n → i2 71 (240 * g + t) = rdR i (i 44) g t) (hg : g < ng) (ha : a < ng) (hb : b < ng) :
    EvI 2 1570 [.ref 42, .int (nI g), .int (nI a), .int (nI b)] (mm X i2 j) (nI (ct (fun t => WD i n a (nI 0) t = WD i n b (nI 0) t ∧ ¬ WD i n a (nI 0) t = WD i n g (nI 0) t) n)) (mm X i2 j) := by
  have hn := h0.2.1.1.2
  have hng := h2.1
  refine s_1570 0 X i2 j _ _ _ _ ?_
  refine lup n (fun t (z : Int32) => z = nI (ct (fun t => WD i n a (nI 0) t = WD i n b (nI 0) t ∧ ¬ WD i n a (nI 0) t = WD i n g (nI 0) t) t)) (fun t z => (6, [(0, .ref 42), (1, .int (nI g)), (2, .int (nI a)), (3, .int (nI b)), (4, .int z), (5, .int (nI t))], [], mm X i2 j)) ?_ ?_ 0 _ (Nat.zero_le _) rfl
  · intro z hz
    exact s_1570_6 0 X i2 j _ _ _ _ _ _ (br_t (by rw [k.2 0 (by decide), h0.1]; exact Int32.le_refl _) (qI_of ⟨hz, rfl⟩))
  · intro t z ht hz go
    refine s_1570_6 0 X i2 j _ _ _ _ _ _ (br_f (by rw [k.2 0 (by decide), h0.1]; exact nI_ge ht (by omega)) ?_)
    rw [pk_mul, pk_mul, pk_mul, nI_add (240 * a) t, nI_add (240 * b) t, nI_add (240 * g) t, tc_nI (by omega), tc_nI (by omega), tc_nI (by omega), hz, nI_add, nI_add, nI_add]
    refine ⟨vp_in_nI (by omega) (by decide), _, rwd (n := n) j h2 k ha (h71 a ha t ht) (nI 0), vp_in_nI (by omega) (by decide), _, rwd (n := n) j h2 k hb (h71 b hb t ht) (nI 0), ?_⟩
    refine bq_c (fun u => go _ ?_) (fun u => ⟨vp_in_nI (by omega) (by decide), _, rwd (n := n) j h2 k hg (h71 g hg t ht) (nI 0), _, rwd (n := n) j h2 k ha (h71 a ha t ht) (nI 0), br_c (fun w => go _ ?_) (fun w => go _ ?_)⟩)
    · rw [ct_f (p := fun t => WD i n a (nI 0) t = WD i n b (nI 0) t ∧ ¬ WD i n a (nI 0) t = WD i n g (nI 0) t) (fun q => u q.1)]; rfl
    · rw [ct_f (p := fun t => WD i n a (nI 0) t = WD i n b (nI 0) t ∧ ¬ WD i n a (nI 0) t = WD i n g (nI 0) t) (fun q => q.2 w.symm)]; rfl
    · rw [ct_t (p := fun t => WD i n a (nI 0) t = WD i n b (nI 0) t ∧ ¬ WD i n a (nI 0) t = WD i n g (nI 0) t) ⟨u, fun q => w q.symm⟩]
theorem FrR_35 {X : XS} {i i' : Nat → Nat → Int32} (h : ∀ b, b ≠ 42 → i' b = i b) (h2 : ∀ k, k ≠ 35 → i' 42 k = i 42 k) : FrR X i i' := FrR_42 h fun k hk => h2 k (by omega)
set_option maxRecDepth 100000 in
theorem s_1422 (d : Nat) (X : XS) (i : Nat → Nat → Int32) (j : Nat → Nat → Int64) (a1 : Int32) (a2 : Int32) (a3 : Int32) (K : Int32 → AM → Prop) (h : (GLs X i) ∧ ((¬ ((nI 0) ≤ a1 ∧ a1 ≤ ((i 2 4) - (nI 1)))) → ((¬ ((nI 0) ≤ a2 ∧ a2 ≤ ((i 2 4) - (nI 1)))) → ((¬ ((nI 0) ≤ a3 ∧ a3 ≤ ((i 2 4) - (nI 1)))) → K (kI (-1)) (mm X i j)) ∧ (((nI 0) ≤ a3 ∧ a3 ≤ ((i 2 4) - (nI 1))) → (GO X (xr X 17 (a3.toNatClampNeg))) → K (kI (-1)) (mm X i j))) ∧ (((nI 0) ≤ a2 ∧ a2 ≤ ((i 2 4) - (nI 1))) → (GO X (xr X 17 (a2.toNatClampNeg))) → ((¬ ((nI 0) ≤ a3 ∧ a3 ≤ ((i 2 4) - (nI 1)))) → K (kI (-1)) (mm X i j)) ∧ (((nI 0) ≤ a3 ∧ a3 ≤ ((i 2 4) - (nI 1))) → (GO X (xr X 17 (a3.toNatClampNeg))) → K (kI (-1)) (mm X i j)))) ∧ (((nI 0) ≤ a1 ∧ a1 ≤ ((i 2 4) - (nI 1))) → (GO X (xr X 17 (a1.toNatClampNeg))) → ((¬ ((nI 0) ≤ a2 ∧ a2 ≤ ((i 2 4) - (nI 1)))) → ((¬ ((nI 0) ≤ a3 ∧ a3 ≤ ((i 2 4) - (nI 1)))) → K (kI (-1)) (mm X i j)) ∧ (((nI 0) ≤ a3 ∧ a3 ≤ ((i 2 4) - (nI 1))) → (GO X (xr X 17 (a3.toNatClampNeg))) → K (kI (-1)) (mm X i j))) ∧ (((nI 0) ≤ a2 ∧ a2 ≤ ((i 2 4) - (nI 1))) → (GO X (xr X 17 (a2.toNatClampNeg))) → ((¬ ((nI 0) ≤ a3 ∧ a3 ≤ ((i 2 4) - (nI 1)))) → K (kI (-1)) (mm X i j)) ∧ (((nI 0) ≤ a3 ∧ a3 ≤ ((i 2 4) - (nI 1))) → (GO X (xr X 17 (a3.toNatClampNeg))) → ((a1 = a2 → K (kI (-1)) (mm X i j)) ∧ (¬ (a1 = a2) → ((a1 = a3 → K (kI (-1)) (mm X i j)) ∧ (¬ (a1 = a3) → ((¬ (a2 = a3) → (∃ (i46 : Nat → Nat → Int32), EvV (d + 3) 1473 [.ref 2, .ref 9] (mm X i j) (mm X i46 j) ∧ (∃ (x47 : Int32), EvI (d + 3) 1475 [.ref 2, .ref (xr X 17 (a1.toNatClampNeg)), .ref (xr X 17 (a2.toNatClampNeg)), .ref (xr X 17 (a3.toNatClampNeg))] (mm X i46 j) x47 (mm X i46 j) ∧ (∃ (x48 : Int32), EvI (d + 3) 1475 [.ref 2, .ref (xr X 17 (a2.toNatClampNeg)), .ref (xr X 17 (a1.toNatClampNeg)), .ref (xr X 17 (a3.toNatClampNeg))] (mm X i46 j) x48 (mm X i46 j) ∧ (∃ (x49 : Int32), EvI (d + 3) 1475 [.ref 2, .ref (xr X 17 (a3.toNatClampNeg)), .ref (xr X 17 (a1.toNatClampNeg)), .ref (xr X 17 (a2.toNatClampNeg))] (mm X i46 j) x49 (mm X i46 j) ∧ ((¬ ((mxI x47 (mxI x48 x49)) = 0) → ((¬ (x47 = (mxI x47 (mxI x48 x49))) → ((¬ (x48 = (mxI x47 (mxI x48 x49))) → K a3 (mm X (s2 (s2 i46 40 1 (nI 0)) 40 1 (nI 1)) (s2 j 41 0 ((mxI x47 (mxI x48 x49)).toInt64)))) ∧ (x48 = (mxI x47 (mxI x48 x49)) → K a2 (mm X (s2 (s2 i46 40 1 (nI 0)) 40 1 (nI 1)) (s2 j 41 0 ((mxI x47 (mxI x48 x49)).toInt64)))))) ∧ (x47 = (mxI x47 (mxI x48 x49)) → K a1 (mm X (s2 (s2 i46 40 1 (nI 0)) 40 1 (nI 1)) (s2 j 41 0 ((mxI x47 (mxI x48 x49)).toInt64)))))) ∧ ((mxI x47 (mxI x48 x49)) = 0 → K (kI (-2)) (mm X i46 j)))))))) ∧ (a2 = a3 → K (kI (-1)) (mm X i j))))))))))) : WI (d + 4) 1422 [.ref 2, .int a1, .int a2, .int a3] (mm X i j) K := te_1422 (d + 3) 2 a1 a2 a3 (mm X i j) (qI K) ⟨rfl, (p_1467 (d + 2) X i j a1 _ ⟨h.1, (fun h2 => ⟨rfl, (p_1467 (d + 2) X i j a2 _ ⟨h.1, (fun h4 => ⟨rfl, (p_1467 (d + 2) X i j a3 _ ⟨h.1, (fun h6 => ⟨fun _ => ⟨_, rfl, (((h.2.1 h2).1 h4).1 h6)⟩, fun e7 => absurd rfl e7⟩), (fun h8 h9 => ⟨fun _ => ⟨_, rfl, (((h.2.1 h2).1 h4).2 h8 h9)⟩, fun e10 => absurd rfl e10⟩)⟩)⟩), (fun h11 h12 => ⟨rfl, (p_1467 (d + 2) X i j a3 _ ⟨h.1, (fun h14 => ⟨fun _ => ⟨_, rfl, (((h.2.1 h2).2 h11 h12).1 h14)⟩, fun e15 => absurd rfl e15⟩), (fun h16 h17 => ⟨fun _ => ⟨_, rfl, (((h.2.1 h2).2 h11 h12).2 h16 h17)⟩, fun e18 => absurd rfl e18⟩)⟩)⟩)⟩)⟩), (fun h19 h20 => ⟨rfl, (p_1467 (d + 2) X i j a2 _ ⟨h.1, (fun h22 => ⟨rfl, (p_1467 (d + 2) X i j a3 _ ⟨h.1, (fun h24 => ⟨fun e25 => absurd e25 (nz_k (h20.1)), fun _ => ⟨fun _ => ⟨_, rfl, (((h.2.2 h19 h20).1 h22).1 h24)⟩, fun e26 => absurd rfl e26⟩⟩), (fun h27 h28 => ⟨fun e29 => absurd e29 (nz_k (h20.1)), fun _ => ⟨fun _ => ⟨_, rfl, (((h.2.2 h19 h20).1 h22).2 h27 h28)⟩, fun e30 => absurd rfl e30⟩⟩)⟩)⟩), (fun h31 h32 => ⟨rfl, (p_1467 (d + 2) X i j a3 _ ⟨h.1, (fun h34 => ⟨fun e35 => absurd e35 (nz_k (h20.1)), fun _ => ⟨fun e36 => absurd e36 (nz_k (h32.1)), fun _ => ⟨fun _ => ⟨_, rfl, (((h.2.2 h19 h20).2 h31 h32).1 h34)⟩, fun e37 => absurd rfl e37⟩⟩⟩), (fun h38 h39 => ⟨fun e40 => absurd e40 (nz_k (h20.1)), fun _ => ⟨fun e41 => absurd e41 (nz_k (h32.1)), fun _ => ⟨fun e42 => absurd e42 (nz_k (h39.1)), fun _ => ⟨fun e43 => ⟨_, rfl, ((((h.2.2 h19 h20).2 h31 h32).2 h38 h39).1 (e43))⟩, fun e43 => ⟨fun e44 => ⟨_, rfl, (((((h.2.2 h19 h20).2 h31 h32).2 h38 h39).2 (e43)).1 (e44))⟩, fun e44 => ⟨fun e45 => ⟨rfl, ⟨rfl, (Exists.elim ((((((h.2.2 h19 h20).2 h31 h32).2 h38 h39).2 (e43)).2 (e44)).1 (e45)) fun i46 h60 => EvV.use h60.1 ⟨rfl, (Exists.elim h60.2 fun x47 h58 => EvI.use h58.1 ⟨rfl, (Exists.elim h58.2 fun x48 h56 => EvI.use h56.1 ⟨rfl, (Exists.elim h56.2 fun x49 h54 => EvI.use h54.1 ⟨fun e50 => ⟨rfl, ⟨rfl, (te_641 (d + 3) 40 (mm X i46 j) _ ⟨rfl, ⟨rfl, ⟨rfl, ⟨rfl, (te_642 (d + 3) 40 ((mxI x47 (mxI x48 x49)).toInt64) (mm X (s2 i46 40 1 (nI 0)) j) _ ⟨rfl, ⟨fun e51 => absurd e51 (show ¬ ((nI 20) ≤ (nI 0)) by decide), fun _ => ⟨rfl, ⟨rfl, ⟨⟨rfl, (vpk 0 20 rfl)⟩, ⟨rfl, ⟨rfl, ⟨rfl, ⟨fun e52 => ⟨fun e53 => ⟨_, rfl, (((h54.2.1 (e50)).1 (e52)).1 (e53))⟩, fun e53 => ⟨_, rfl, (((h54.2.1 (e50)).1 (e52)).2 ((Classical.byContradiction e53)))⟩⟩, fun e52 => ⟨_, rfl, ((h54.2.1 (e50)).2 ((Classical.byContradiction e52)))⟩⟩⟩⟩⟩⟩⟩⟩⟩⟩)⟩⟩⟩⟩)⟩⟩, fun e50 => ⟨_, rfl, (h54.2.2 ((Classical.byContradiction e50)))⟩⟩)⟩)⟩)⟩)⟩⟩, fun e45 => ⟨_, rfl, ((((((h.2.2 h19 h20).2 h31 h32).2 h38 h39).2 (e43)).2 (e44)).2 ((Classical.byContradiction e45)))⟩⟩⟩⟩⟩⟩⟩)⟩)⟩)⟩)⟩)⟩)⟩
set_option maxRecDepth 100000 in
theorem s_1571 (d : Nat) (X : XS) (i : Nat → Nat → Int32) (j : Nat → Nat → Int64) (a1 : Int32) (a2 : Int32) (a3 : Int32) (K : Int32 → AM → Prop) (h : ((¬ ((nI 0) ≤ a1 ∧ a1 ≤ ((i 42 7) - (nI 1))) → K (kI (-1)) (mm X (s2 i 42 36 (nI 0)) j)) ∧ ((nI 0) ≤ a1 ∧ a1 ≤ ((i 42 7) - (nI 1)) → ((¬ ((nI 0) ≤ a2 ∧ a2 ≤ ((i 42 7) - (nI 1))) → K (kI (-1)) (mm X (s2 i 42 36 (nI 0)) j)) ∧ ((nI 0) ≤ a2 ∧ a2 ≤ ((i 42 7) - (nI 1)) → ((¬ ((nI 0) ≤ a3 ∧ a3 ≤ ((i 42 7) - (nI 1))) → K (kI (-1)) (mm X (s2 i 42 36 (nI 0)) j)) ∧ ((nI 0) ≤ a3 ∧ a3 ≤ ((i 42 7) - (nI 1)) → ((a1 = a2 → K (kI (-1)) (mm X (s2 i 42 36 (nI 0)) j)) ∧ (¬ (a1 = a2) → ((a2 = a3 → K (kI (-1)) (mm X (s2 i 42 36 (nI 0)) j)) ∧ (¬ (a2 = a3) → ((¬ (a1 = a3) → (∃ (i7 : Nat → Nat → Int32), EvV (d + 2) 1565 [.ref 42] (mm X (s2 i 42 36 (nI 0)) j) (mm X i7 j) ∧ (∃ (x8 : Int32), EvI (d + 2) 1570 [.ref 42, .int a1, .int a2, .int a3] (mm X i7 j) x8 (mm X i7 j) ∧ (∃ (x9 : Int32), EvI (d + 2) 1570 [.ref 42, .int a2, .int a1, .int a3] (mm X i7 j) x9 (mm X i7 j) ∧ ((x9 ≤ x8 → (∃ (x11 : Int32), EvI (d + 2) 1570 [.ref 42, .int a3, .int a1, .int a2] (mm X i7 j) x11 (mm X i7 j) ∧ ((x11 ≤ x8 → ((¬ (x8 = 0) → K a1 (mm X (s2 (s2 i7 42 35 (nI 0)) 42 35 (nI 1)) (s2 j 70 0 (x8.toInt64)))) ∧ (x8 = 0 → K (kI (-2)) (mm X i7 j)))) ∧ (¬ (x11 ≤ x8) → (∃ (x14 : Int32), EvI (d + 2) 1570 [.ref 42, .int a3, .int a1, .int a2] (mm X i7 j) x14 (mm X i7 j) ∧ ((¬ (x14 = 0) → K a3 (mm X (s2 (s2 i7 42 35 (nI 0)) 42 35 (nI 1)) (s2 j 70 0 (x14.toInt64)))) ∧ (x14 = 0 → K (kI (-2)) (mm X i7 j)))))))) ∧ (¬ (x9 ≤ x8) → (∃ (x20 : Int32), EvI (d + 2) 1570 [.ref 42, .int a2, .int a1, .int a3] (mm X i7 j) x20 (mm X i7 j) ∧ (∃ (x21 : Int32), EvI (d + 2) 1570 [.ref 42, .int a3, .int a1, .int a2] (mm X i7 j) x21 (mm X i7 j) ∧ ((x21 ≤ x20 → ((¬ (x20 = 0) → K a2 (mm X (s2 (s2 i7 42 35 (nI 0)) 42 35 (nI 1)) (s2 j 70 0 (x20.toInt64)))) ∧ (x20 = 0 → K (kI (-2)) (mm X i7 j)))) ∧ (¬ (x21 ≤ x20) → (∃ (x24 : Int32), EvI (d + 2) 1570 [.ref 42, .int a3, .int a1, .int a2] (mm X i7 j) x24 (mm X i7 j) ∧ ((¬ (x24 = 0) → K a3 (mm X (s2 (s2 i7 42 35 (nI 0)) 42 35 (nI 1)) (s2 j 70 0 (x24.toInt64)))) ∧ (x24 = 0 → K (kI (-2)) (mm X i7 j)))))))))))))) ∧ (a1 = a3 → K (kI (-1)) (mm X (s2 i 42 36 (nI 0)) j)))))))))))))) : WI (d + 3) 1571 [.ref 42, .int a1, .int a2, .int a3] (mm X i j) K := te_1571 (d + 2) 42 a1 a2 a3 (mm X i j) (qI K) ⟨rfl, ⟨rfl, (te_1545 (d + 1) 42 a1 (mm X (s2 i 42 36 (nI 0)) j) _ ⟨rfl, (p_1538 (d + 1) X (s2 i 42 36 (nI 0)) j a1 (nI 0) ((i 42 7) - (nI 1)) _ ⟨(bi_01 _), ⟨_, rfl, ⟨fun e1 => ⟨_, rfl, (h.1 ((bi_z e1)))⟩, fun e1 => ⟨rfl, (te_1545 (d + 1) 42 a2 (mm X (s2 i 42 36 (nI 0)) j) _ ⟨rfl, (p_1538 (d + 1) X (s2 i 42 36 (nI 0)) j a2 (nI 0) ((i 42 7) - (nI 1)) _ ⟨(bi_01 _), ⟨_, rfl, ⟨fun e2 => ⟨_, rfl, ((h.2 ((bi_n e1))).1 ((bi_z e2)))⟩, fun e2 => ⟨rfl, (te_1545 (d + 1) 42 a3 (mm X (s2 i 42 36 (nI 0)) j) _ ⟨rfl, (p_1538 (d + 1) X (s2 i 42 36 (nI 0)) j a3 (nI 0) ((i 42 7) - (nI 1)) _ ⟨(bi_01 _), ⟨_, rfl, ⟨fun e3 => ⟨_, rfl, (((h.2 ((bi_n e1))).2 ((bi_n e2))).1 ((bi_z e3)))⟩, fun e3 => ⟨fun e4 => ⟨_, rfl, ((((h.2 ((bi_n e1))).2 ((bi_n e2))).2 ((bi_n e3))).1 (e4))⟩, fun e4 => ⟨fun e5 => ⟨_, rfl, (((((h.2 ((bi_n e1))).2 ((bi_n e2))).2 ((bi_n e3))).2 (e4)).1 (e5))⟩, fun e5 => ⟨fun e6 => ⟨rfl, (Exists.elim ((((((h.2 ((bi_n e1))).2 ((bi_n e2))).2 ((bi_n e3))).2 (e4)).2 (e5)).1 (e6)) fun i7 h36 => EvV.use h36.1 ⟨rfl, (Exists.elim h36.2 fun x8 h34 => EvI.use h34.1 ⟨rfl, (Exists.elim h34.2 fun x9 h32 => EvI.use h32.1 ⟨fun e10 => (tc_1571_86 (d + 2) 42 a1 a2 a3 x8 a1 (mm X i7 j) _ ⟨rfl, (Exists.elim (h32.2.1 (e10)) fun x11 h18 => EvI.use h18.1 ⟨fun e12 => (tc_1571_110 (d + 2) 42 x8 a1 (mm X i7 j) _ ⟨fun e13 => ⟨rfl, ⟨rfl, (te_1540 (d + 2) 42 (x8.toInt64) (mm X (s2 i7 42 35 (nI 0)) j) _ ⟨rfl, ⟨rfl, ⟨⟨rfl, (vpk 0 32 rfl)⟩, ⟨rfl, ⟨rfl, ⟨rfl, ⟨_, rfl, ((h18.2.1 (e12)).1 (e13))⟩⟩⟩⟩⟩⟩⟩)⟩⟩, fun e13 => ⟨_, rfl, ((h18.2.1 (e12)).2 ((Classical.byContradiction e13)))⟩⟩), fun e12 => ⟨rfl, (Exists.elim (h18.2.2 (e12)) fun x14 h16 => EvI.use h16.1 (tc_1571_110 (d + 2) 42 x14 a3 (mm X i7 j) _ ⟨fun e15 => ⟨rfl, ⟨rfl, (te_1540 (d + 2) 42 (x14.toInt64) (mm X (s2 i7 42 35 (nI 0)) j) _ ⟨rfl, ⟨rfl, ⟨⟨rfl, (vpk 0 32 rfl)⟩, ⟨rfl, ⟨rfl, ⟨rfl, ⟨_, rfl, (h16.2.1 (e15))⟩⟩⟩⟩⟩⟩⟩)⟩⟩, fun e15 => ⟨_, rfl, (h16.2.2 ((Classical.byContradiction e15)))⟩⟩))⟩⟩)⟩), fun e10 => ⟨rfl, (Exists.elim (h32.2.2 (e10)) fun x20 h30 => EvI.use h30.1 (tc_1571_86 (d + 2) 42 a1 a2 a3 x20 a2 (mm X i7 j) _ ⟨rfl, (Exists.elim h30.2 fun x21 h28 => EvI.use h28.1 ⟨fun e22 => (tc_1571_110 (d + 2) 42 x20 a2 (mm X i7 j) _ ⟨fun e23 => ⟨rfl, ⟨rfl, (te_1540 (d + 2) 42 (x20.toInt64) (mm X (s2 i7 42 35 (nI 0)) j) _ ⟨rfl, ⟨rfl, ⟨⟨rfl, (vpk 0 32 rfl)⟩, ⟨rfl, ⟨rfl, ⟨rfl, ⟨_, rfl, ((h28.2.1 (e22)).1 (e23))⟩⟩⟩⟩⟩⟩⟩)⟩⟩, fun e23 => ⟨_, rfl, ((h28.2.1 (e22)).2 ((Classical.byContradiction e23)))⟩⟩), fun e22 => ⟨rfl, (Exists.elim (h28.2.2 (e22)) fun x24 h26 => EvI.use h26.1 (tc_1571_110 (d + 2) 42 x24 a3 (mm X i7 j) _ ⟨fun e25 => ⟨rfl, ⟨rfl, (te_1540 (d + 2) 42 (x24.toInt64) (mm X (s2 i7 42 35 (nI 0)) j) _ ⟨rfl, ⟨rfl, ⟨⟨rfl, (vpk 0 32 rfl)⟩, ⟨rfl, ⟨rfl, ⟨rfl, ⟨_, rfl, (h26.2.1 (e25))⟩⟩⟩⟩⟩⟩⟩)⟩⟩, fun e25 => ⟨_, rfl, (h26.2.2 ((Classical.byContradiction e25)))⟩⟩))⟩⟩)⟩))⟩⟩)⟩)⟩)⟩, fun e6 => ⟨_, rfl, ((((((h.2 ((bi_n e1))).2 ((bi_n e2))).2 ((bi_n e3))).2 (e4)).2 (e5)).2 ((Classical.byContradiction e6)))⟩⟩⟩⟩⟩⟩⟩)⟩)⟩⟩⟩⟩)⟩)⟩⟩⟩⟩)⟩)⟩⟩
theorem k_13 (d : Nat) {X : XS} {i : Nat → Nat → Int32} {j : Nat → Nat → Int64} (h : Rel X i j) (a1 a2 a3 : Int32) {Kf : AM → Prop} (hK : Nx X Kf) : WI (d + 300) 1422 [.ref 2, .int a1, .int a2, .int a3] (mm X i j) (fun x1 M1 => WI (d + 300) 1571 [.ref 42, .int a1, .int a2, .int a3] M1 (fun x2 M2 => x1 = x2 ∧ Kf M2)) := by
  have ht := hK.th h
  have hrel := h
  obtain ⟨hx, ⟨⟨n, h0⟩, h1, ⟨ng, h2, no, h4⟩, ⟨tn, h3⟩, ⟨np, h5⟩, h6, ns, h7⟩, h8, hz⟩ := h

  have e1 := h2.2.1
  have e2 := h2.2.2.1
  have hng := h2.1
  have hn := h0.2.1.1.2
  have r : ¬ ((((nI 0 ≤ a1 ∧ a1 ≤ i 42 7 - nI 1) ∧ (nI 0 ≤ a2 ∧ a2 ≤ i 42 7 - nI 1)) ∧ (nI 0 ≤ a3 ∧ a3 ≤ i 42 7 - nI 1)) ∧ ¬ a1 = a2 ∧ ¬ a2 = a3 ∧ ¬ a1 = a3) → WI (d + 300) 1571 [.ref 42, .int a1, .int a2, .int a3] (mm X i j) (fun x2 M2 => kI (-1) = x2 ∧ Kf M2) := fun hV =>
    s_1571 _ X i j _ _ _ _ ⟨fun _ => ⟨rfl, ht⟩, fun q1 => ⟨fun _ => ⟨rfl, ht⟩, fun q2 => ⟨fun _ => ⟨rfl, ht⟩, fun q3 => ⟨fun _ => ⟨rfl, ht⟩, fun q4 => ⟨fun _ => ⟨rfl, ht⟩, fun q5 => ⟨fun q6 => absurd ⟨⟨⟨q1, q2⟩, q3⟩, q4, q5, q6⟩ hV, fun _ => ⟨rfl, ht⟩⟩⟩⟩⟩⟩⟩
  rw [e2] at r
  refine s_1422 _ X i j a1 a2 a3 _ ?_
  rw [e1]
  refine ⟨h2.gl, fun w => ⟨fun _ => ⟨fun _ => r fun q => w q.1.1.1, fun _ _ => r fun q => w q.1.1.1⟩, fun _ _ => ⟨fun _ => r fun q => w q.1.1.1, fun _ _ => r fun q => w q.1.1.1⟩⟩, fun w hO => ⟨fun w2 => ⟨fun _ => r fun q => w2 q.1.1.2, fun _ _ => r fun q => w2 q.1.1.2⟩, fun w2 hO2 => ⟨fun w3 => r fun q => w3 q.1.2, fun w3 hO3 => ⟨fun e12 => r fun q => q.2.1 e12, fun n12 => ⟨fun e13 => r fun q => q.2.2.2 e13, fun n13 => ⟨fun n23 => ?_, fun e23 => r fun q => q.2.2.1 e23⟩⟩⟩⟩⟩⟩
  clear r
  obtain ⟨ga, hga, rfl⟩ := idx_of (by omega) w
  obtain ⟨gb, hgb, rfl⟩ := idx_of (by omega) w2
  obtain ⟨gc, hgc, rfl⟩ := idx_of (by omega) w3
  rw [tc_nI (by omega), tc_nI (by omega), tc_nI (by omega)]
  obtain ⟨i1, hE1, f1, z1, r40, hL, g9⟩ := gov 0 X i j h0 h2 hz
  refine ⟨i1, hE1.up (by omega), ?_⟩
  have k1 := f1.kp
  have g42 : i1 42 = i 42 := f1 42 (Or.inl (show 0 < 10 by decide))
  refine ⟨_, (c_1475 j h0 h2 k1 hL g9 hga hgb hgc).up (by omega), _, (c_1475 j h0 h2 k1 hL g9 hgb hga hgc).up (by omega), _, (c_1475 j h0 h2 k1 hL g9 hgc hga hgb).up (by omega), ?_⟩
  have fin : ∀ (i3 : Nat → Nat → Int32) (j3 : Nat → Nat → Int64) (K : Int32 → AM → Prop), Kp X i (s2 i3 42 36 (nI 0)) → i3 42 = i 42 → (∀ i7, (∀ b, b ≠ 71 → i7 b = (s2 i3 42 36 (nI 0)) b) → ∀ A B C : Nat, A ≤ 240 → B ≤ 240 → C ≤ 240 → A = ct (fun t => WD i n gb (nI 0) t = WD i n gc (nI 0) t ∧ ¬ WD i n gb (nI 0) t = WD i n ga (nI 0) t) n → B = ct (fun t => WD i n ga (nI 0) t = WD i n gc (nI 0) t ∧ ¬ WD i n ga (nI 0) t = WD i n gb (nI 0) t) n → C = ct (fun t => WD i n ga (nI 0) t = WD i n gb (nI 0) t ∧ ¬ WD i n ga (nI 0) t = WD i n gc (nI 0) t) n →
      (max A (max B C) = 0 → K (kI (-2)) (mm X i7 j3)) ∧ (¬ max A (max B C) = 0 → K (if A = max A (max B C) then nI ga else if B = max A (max B C) then nI gb else nI gc) (mm X (s2 (s2 i7 42 35 (nI 0)) 42 35 (nI 1)) (s2 j3 70 0 (nI (max A (max B C))).toInt64)))) →
      WI (d + 300) 1571 [.ref 42, .int (nI ga), .int (nI gb), .int (nI gc)] (mm X i3 j3) K := by
    intro i3 j3 K kk e42 hh
    refine s_1571 _ X i3 j3 _ _ _ _ (bq_f (by rw [e42, e2]; exact w) (bq_f (by rw [e42, e2]; exact w2) (bq_f (by rw [e42, e2]; exact w3) (br_f n12 (br_f n23 (bq_t n13 ?_))))))
    obtain ⟨i7, hE7, f7, h71⟩ := rov 0 X i (s2 i3 42 36 (nI 0)) j3 h0 h2 kk
    have k7 : Kp X i i7 := kk.tr (FrR_71 (X := X) f7).kp
    refine ⟨i7, hE7.up (by omega), ?_⟩
    have cA := fun (a b c : Nat) (ha : a < ng) (hb : b < ng) (hc : c < ng) => (c_1570 (g := a) (a := b) (b := c) j3 h0 h2 k7 h71 ha hb hc).up (d' := d + 300) (by omega)
    have EA := cA ga gb gc hga hgb hgc
    have EB := cA gb ga gc hgb hga hgc
    have EC := cA gc ga gb hgc hga hgb
    have lA := ct_le (fun t => WD i n gb (nI 0) t = WD i n gc (nI 0) t ∧ ¬ WD i n gb (nI 0) t = WD i n ga (nI 0) t) n
    have lB := ct_le (fun t => WD i n ga (nI 0) t = WD i n gc (nI 0) t ∧ ¬ WD i n ga (nI 0) t = WD i n gb (nI 0) t) n
    have lC := ct_le (fun t => WD i n ga (nI 0) t = WD i n gb (nI 0) t ∧ ¬ WD i n ga (nI 0) t = WD i n gc (nI 0) t) n
    have hh' := hh i7 f7 _ _ _ (by omega) (by omega) (by omega) rfl rfl rfl
    clear hh
    have EA := (c_1570 (g := ga) (a := gb) (b := gc) j3 h0 h2 k7 h71 hga hgb hgc)
    have EB := (c_1570 (g := gb) (a := ga) (b := gc) j3 h0 h2 k7 h71 hgb hga hgc)
    have EC := (c_1570 (g := gc) (a := ga) (b := gb) j3 h0 h2 k7 h71 hgc hga hgb)
    generalize ct (fun t => WD i n gb (nI 0) t = WD i n gc (nI 0) t ∧ ¬ WD i n gb (nI 0) t = WD i n ga (nI 0) t) n = A at *
    generalize ct (fun t => WD i n ga (nI 0) t = WD i n gc (nI 0) t ∧ ¬ WD i n ga (nI 0) t = WD i n gb (nI 0) t) n = B at *
    generalize ct (fun t => WD i n ga (nI 0) t = WD i n gb (nI 0) t ∧ ¬ WD i n ga (nI 0) t = WD i n gc (nI 0) t) n = C at *
    refine ⟨_, EA.up (by omega), _, EB.up (by omega), ?_⟩
    rw [nI_leI (by omega) (by omega)]
    refine br_c (fun y => ⟨_, EC.up (by omega), ?_⟩) (fun y => ⟨_, EB.up (by omega), _, EC.up (by omega), ?_⟩)
    · rw [nI_leI (by omega) (by omega)]
      refine br_c (fun y2 => ?_) (fun y2 => ⟨_, EC.up (by omega), ?_⟩)
      · have em : max A (max B C) = A := by omega
        rw [em, if_pos rfl] at hh'
        rw [nIz (by omega)]
        exact ⟨fun u => hh'.2 u, fun u => hh'.1 u⟩
      · have em : max A (max B C) = C := by omega
        rw [em, if_neg (by omega), if_neg (by omega)] at hh'
        rw [nIz (by omega)]
        exact ⟨fun u => hh'.2 u, fun u => hh'.1 u⟩
    · rw [nI_leI (by omega) (by omega)]
      refine br_c (fun y2 => ?_) (fun y2 => ⟨_, EC.up (by omega), ?_⟩)
      · have em : max A (max B C) = B := by omega
        rw [em, if_neg (by omega), if_pos rfl] at hh'
        rw [nIz (by omega)]
        exact ⟨fun u => hh'.2 u, fun u => hh'.1 u⟩
      · have em : max A (max B C) = C := by omega
        rw [em, if_neg (by omega), if_neg (by omega)] at hh'
        rw [nIz (by omega)]
        exact ⟨fun u => hh'.2 u, fun u => hh'.1 u⟩
  have lA := ct_le (fun t => WD i n gb (nI 0) t = WD i n gc (nI 0) t ∧ ¬ WD i n gb (nI 0) t = WD i n ga (nI 0) t) n
  have lB := ct_le (fun t => WD i n ga (nI 0) t = WD i n gc (nI 0) t ∧ ¬ WD i n ga (nI 0) t = WD i n gb (nI 0) t) n
  have lC := ct_le (fun t => WD i n ga (nI 0) t = WD i n gb (nI 0) t ∧ ¬ WD i n ga (nI 0) t = WD i n gc (nI 0) t) n
  obtain ⟨A, hA⟩ : ∃ A, A = ct (fun t => WD i n gb (nI 0) t = WD i n gc (nI 0) t ∧ ¬ WD i n gb (nI 0) t = WD i n ga (nI 0) t) n := ⟨_, rfl⟩
  obtain ⟨B, hB⟩ : ∃ B, B = ct (fun t => WD i n ga (nI 0) t = WD i n gc (nI 0) t ∧ ¬ WD i n ga (nI 0) t = WD i n gb (nI 0) t) n := ⟨_, rfl⟩
  obtain ⟨C, hC⟩ : ∃ C, C = ct (fun t => WD i n ga (nI 0) t = WD i n gb (nI 0) t ∧ ¬ WD i n ga (nI 0) t = WD i n gc (nI 0) t) n := ⟨_, rfl⟩
  rw [← hA] at lA ⊢
  rw [← hB] at lB ⊢
  rw [← hC] at lC ⊢
  rw [mx_nI (by omega) (by omega), mx_nI (by omega) (by omega), nIz (by omega), nI_eq (by omega) (by omega), nI_eq (by omega) (by omega)]
  have fin2 : ¬ max A (max B C) = 0 → WI (d + 300) 1571 [.ref 42, .int (nI ga), .int (nI gb), .int (nI gc)] (mm X (s2 (s2 i1 40 1 (nI 0)) 40 1 (nI 1)) (s2 j 41 0 (nI (max A (max B C))).toInt64)) (fun x2 M2 => (if A = max A (max B C) then nI ga else if B = max A (max B C) then nI gb else nI gc) = x2 ∧ Kf M2) := by
    intro hne
    obtain ⟨i3, hi3⟩ : ∃ i3, i3 = s2 (s2 i1 40 1 (nI 0)) 40 1 (nI 1) := ⟨_, rfl⟩
    rw [← hi3]
    have f3 : ∀ b, b ≠ 40 → i3 b = i1 b := fun b hb => by rw [hi3, s2_ne hb, s2_ne hb]
    have F3 : FrC X i i3 := f1.tr (FrC_40 f3)
    refine fin i3 _ _ (F3.kp.tr (FrR_th (X := X) (nI 0)).kp) (by rw [f3 42 (by decide), g42]) fun i7 f7 A' B' C' _ _ _ hA' hB' hC' => ?_
    rw [← hA] at hA'
    rw [← hB] at hB'
    rw [← hC] at hC'
    subst hA'; subst hB'; subst hC'
    refine ⟨fun u => absurd u hne, fun _ => ⟨rfl, hK.k (fin_row hrel F3 (RZ_of z1 (f3 34 (by decide)) (f3 35 (by decide))) (((FrR_th (nI 0)).tr (FrR_71 f7)).tr (FrR_42 (fun b hb => by rw [s2_ne hb, s2_ne hb]) (fun k hk => by rw [s2_ne2 (by omega), s2_ne2 (by omega)]))) (r8_of 1 (by decide) ?_ (s2_self _ _ _ _) ?_))⟩⟩
    · rw [s2_ne (show 40 ≠ 42 by decide), s2_ne (show 40 ≠ 42 by decide), f7 40 (by decide), s2_ne (show 40 ≠ 42 by decide), hi3, s2_self]
    · intro q hq
      have : q = 0 := by omega
      subst this
      simp [s2_ap]
  refine bq_c (fun hne => ?_) (fun h0' => ?_)
  · have hf := fin2 hne
    refine bq_c (fun u => bq_c (fun u2 => ?_) (fun u2 => ?_)) (fun u => ?_)
    · rw [if_neg u, if_neg u2] at hf; exact hf
    · rw [if_neg u, if_pos u2] at hf; exact hf
    · rw [if_pos u] at hf; exact hf
  · refine fin i1 j _ (f1.kp.tr (FrR_th (X := X) (nI 0)).kp) g42 fun i7 f7 A' B' C' _ _ _ hA' hB' hC' => ?_
    rw [← hA] at hA'
    rw [← hB] at hB'
    rw [← hC] at hC'
    subst hA'; subst hB'; subst hC'
    refine ⟨fun _ => ⟨rfl, hK.k (fin_row hrel f1 z1 ((FrR_th (nI 0)).tr (FrR_71 f7)) ?_)⟩, fun u => absurd h0' u⟩
    obtain ⟨L, l0, l1, l2, l3⟩ := h8
    refine ⟨L, l0, ?_, ?_, l3⟩
    · rw [f7 40 (by decide), s2_ne (show 40 ≠ 42 by decide), r40]; exact l1
    · rw [f7 42 (by decide), s2_ne2 (show 35 ≠ 36 by decide), g42]; exact l2
