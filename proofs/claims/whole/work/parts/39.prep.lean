/-! ===== the reference's prepare ===== -/
theorem and1 (x : Int32) : x &&& nI 1 = nI 1 ↔ ¬ x &&& nI 1 = 0 := by
  obtain ⟨b, hb, e⟩ := pk_andE x (m := nI 1) 1 (by decide)
  rw [e]
  have : b = 0 ∨ b = 1 := by omega
  rcases this with rfl | rfl
  · exact ⟨fun z => absurd z (by decide), fun z => absurd rfl z⟩
  · exact ⟨fun _ => by decide, fun _ => rfl⟩
theorem cmP_s {n : Nat} {w : Nat → Int32} {c : Int32} {t q : Nat} : cmP n w c t (q + 1) ↔ cmP n w c t q ∨ c ≤ wv n w (t + (q + 1)) := by
  constructor
  · rintro ⟨m, h1, h2, h3⟩
    by_cases h : m = q + 1
    · subst h; exact Or.inr h3
    · exact Or.inl ⟨m, h1, by omega, h3⟩
  · rintro (⟨m, h1, h2, h3⟩ | h)
    · exact ⟨m, h1, by omega, h3⟩
    · exact ⟨q + 1, by omega, by omega, h⟩
theorem cmP_0 {n : Nat} {w : Nat → Int32} {c : Int32} {t : Nat} : ¬ cmP n w c t 0 := fun ⟨m, h1, h2, _⟩ => by omega
/-- what prepare holds of n days: what stood, and of kn what came -/
def PRp (i : Nat → Nat → Int32) (kn n : Nat) (so : Nat → Int32) (ca : Nat → Prop) : Prop := i 42 46 = nI kn ∧ kn ≤ n ∧ n ≤ 240 ∧ (∀ t, t < n → i 72 t = so t) ∧ (∀ t, t < kn → i 73 t = bi (ca t))
set_option maxRecDepth 100000 in
theorem s_1589 (d : Nat) (X : XS) (i : Nat → Nat → Int32) (j : Nat → Nat → Int64) (a1 : Int32) (a2 : Int32) (a3 : Int32) (K : AM → Prop) (h : (∃ (i1 : Nat → Nat → Int32), EvV (d + 260) 1565 [.ref 42] (mm X i j) (mm X i1 j) ∧ WP (d + 261) 1589 (21, [(0, .ref 42), (1, .int a1), (2, .int a2), (3, .int a3), (4, .int (nI 0))], [], (mm X (s2 i1 42 46 (mxI (nI 0) ((i1 42 0) - a3))) j)) (qV K))) : WV (d + 261) 1589 [.ref 42, .int a1, .int a2, .int a3] (mm X i j) K := te_1589 (d + 260) 42 a1 a2 a3 (mm X i j) (qV K) ⟨rfl, (Exists.elim h fun i1 h2 => EvV.use h2.1 ⟨rfl, ⟨rfl, h2.2⟩⟩)⟩
set_option maxRecDepth 100000 in
theorem s_1589_21 (d : Nat) (X : XS) (i : Nat → Nat → Int32) (j : Nat → Nat → Int64) (v1 : Int32) (v2 : Int32) (v3 : Int32) (v4 : Int32) (Q : Option (Option Value) → AM → Prop) (h : (((i 42 0) ≤ v4 → WP (d + 261) 1589 (100, [(0, .ref 42), (2, .int v2), (3, .int v3), (4, .int (nI 0))], [], (mm X i j)) Q) ∧ (¬ ((i 42 0) ≤ v4) → (vp_in v4 240) ∧ WP (d + 261) 1589 (41, [(0, .ref 42), (1, .int v1), (2, .int v2), (3, .int v3), (4, .int v4), (5, .int (nI 0))], [], (mm X (s2 i 72 ((v4).toNatClampNeg) (nI 0)) j)) Q))) : WP (d + 261) 1589 (21, [(0, .ref 42), (1, .int v1), (2, .int v2), (3, .int v3), (4, .int v4)], [], mm X i j) Q := tc_1589_21 (d + 260) 42 v1 v2 v3 v4 (mm X i j) Q ⟨rfl, ⟨fun e4 => (h.1 (e4)), fun e4 => ⟨rfl, ⟨⟨rfl, (h.2 (e4)).1⟩, (h.2 (e4)).2⟩⟩⟩⟩
set_option maxRecDepth 100000 in
theorem s_1589_100 (d : Nat) (X : XS) (i : Nat → Nat → Int32) (j : Nat → Nat → Int64) (v2 : Int32) (v3 : Int32) (v4 : Int32) (Q : Option (Option Value) → AM → Prop) (h : (((i 42 46) ≤ v4 → Q (some none) (mm X i j)) ∧ (¬ ((i 42 46) ≤ v4) → (vp_in v4 240) ∧ WP (d + 261) 1589 (120, [(0, .ref 42), (2, .int v2), (3, .int v3), (4, .int v4), (5, .int (nI 1))], [], (mm X (s2 i 73 ((v4).toNatClampNeg) (bnar 21 (nI 0))) j)) Q))) : WP (d + 261) 1589 (100, [(0, .ref 42), (2, .int v2), (3, .int v3), (4, .int v4)], [], mm X i j) Q := tc_1589_100 (d + 260) 42 v2 v3 v4 (mm X i j) Q ⟨rfl, ⟨fun e5 => (h.1 (e5)), fun e5 => ⟨rfl, ⟨⟨(Or.inl rfl), (h.2 (e5)).1⟩, (h.2 (e5)).2⟩⟩⟩⟩
set_option maxRecDepth 100000 in
theorem s_1589_41 (d : Nat) (X : XS) (i : Nat → Nat → Int32) (j : Nat → Nat → Int64) (v1 : Int32) (v2 : Int32) (v3 : Int32) (v4 : Int32) (v5 : Int32) (Q : Option (Option Value) → AM → Prop) (h : (((i 42 14) ≤ v5 → WP (d + 261) 1589 (21, [(0, .ref 42), (1, .int v1), (2, .int v2), (3, .int v3), (4, .int (v4 + (nI 1)))], [], (mm X i j)) Q) ∧ (¬ ((i 42 14) ≤ v5) → ((¬ (((shrI v1 v5) &&& (nI 1)) = (nI 1)) → WP (d + 261) 1589 (41, [(0, .ref 42), (1, .int v1), (2, .int v2), (3, .int v3), (4, .int v4), (5, .int (v5 + (nI 1)))], [], (mm X i j)) Q) ∧ (((shrI v1 v5) &&& (nI 1)) = (nI 1) → (∃ (x9 : Int32), ∃ (i8 : Nat → Nat → Int32), EvI (d + 260) 1586 [.ref 42, .int v5, .int v4] (mm X i j) x9 (mm X i8 j) ∧ ((x9 = 0 → WP (d + 261) 1589 (41, [(0, .ref 42), (1, .int v1), (2, .int v2), (3, .int v3), (4, .int v4), (5, .int (v5 + (nI 1)))], [], (mm X i8 j)) Q) ∧ (¬ (x9 = 0) → (vp_in v4 240) ∧ WP (d + 261) 1589 (41, [(0, .ref 42), (1, .int v1), (2, .int v2), (3, .int v3), (4, .int v4), (5, .int (v5 + (nI 1)))], [], (mm X (s2 i8 72 ((v4).toNatClampNeg) ((i8 72 ((v4).toNatClampNeg)) ||| (shlI (nI 1) v5))) j)) Q)))))))) : WP (d + 261) 1589 (41, [(0, .ref 42), (1, .int v1), (2, .int v2), (3, .int v3), (4, .int v4), (5, .int v5)], [], mm X i j) Q := tc_1589_41 (d + 260) 42 v1 v2 v3 v4 v5 (mm X i j) Q ⟨rfl, ⟨fun e6 => (h.1 (e6)), fun e6 => ⟨fun e7 => (tc_1589_85 (d + 260) 42 v1 v2 v3 v4 v5 (mm X i j) _ ((h.2 (e6)).1 (e7))), fun e7 => ⟨rfl, (Exists.elim ((h.2 (e6)).2 ((Classical.byContradiction e7))) fun x9 h11 => Exists.elim h11 fun i8 h12 => EvI.use h12.1 ⟨fun e10 => (tc_1589_85 (d + 260) 42 v1 v2 v3 v4 v5 (mm X i8 j) _ (h12.2.1 (e10))), fun e10 => ⟨rfl, ⟨⟨rfl, (h12.2.2 (e10)).1⟩, ⟨⟨rfl, (h12.2.2 (e10)).1⟩, (tc_1589_85 (d + 260) 42 v1 v2 v3 v4 v5 (mm X (s2 i8 72 ((v4).toNatClampNeg) ((i8 72 ((v4).toNatClampNeg)) ||| (shlI (nI 1) v5))) j) _ (h12.2.2 (e10)).2)⟩⟩⟩⟩)⟩⟩⟩⟩
set_option maxRecDepth 100000 in
theorem s_1589_120 (d : Nat) (X : XS) (i : Nat → Nat → Int32) (j : Nat → Nat → Int64) (v2 : Int32) (v3 : Int32) (v4 : Int32) (v5 : Int32) (Q : Option (Option Value) → AM → Prop) (h : ((v3 < v5 → WP (d + 261) 1589 (100, [(0, .ref 42), (2, .int v2), (3, .int v3), (4, .int (v4 + (nI 1)))], [], (mm X i j)) Q) ∧ (¬ (v3 < v5) → (vp_in v4 240) ∧ ((¬ ((i 73 ((v4).toNatClampNeg)) = 0) → WP (d + 261) 1589 (120, [(0, .ref 42), (2, .int v2), (3, .int v3), (4, .int v4), (5, .int (v5 + (nI 1)))], [], (mm X (s2 i 73 ((v4).toNatClampNeg) (bnar 21 (nI 1))) j)) Q) ∧ ((i 73 ((v4).toNatClampNeg)) = 0 → (vp_in (v4 + v5) 240) ∧ (((i 43 ((v4 + v5).toNatClampNeg)) < v2 → WP (d + 261) 1589 (120, [(0, .ref 42), (2, .int v2), (3, .int v3), (4, .int v4), (5, .int (v5 + (nI 1)))], [], (mm X (s2 i 73 ((v4).toNatClampNeg) (bnar 21 (nI 0))) j)) Q) ∧ (¬ ((i 43 ((v4 + v5).toNatClampNeg)) < v2) → WP (d + 261) 1589 (120, [(0, .ref 42), (2, .int v2), (3, .int v3), (4, .int v4), (5, .int (v5 + (nI 1)))], [], (mm X (s2 i 73 ((v4).toNatClampNeg) (bnar 21 (nI 1))) j)) Q))))))) : WP (d + 261) 1589 (120, [(0, .ref 42), (2, .int v2), (3, .int v3), (4, .int v4), (5, .int v5)], [], mm X i j) Q := tc_1589_120 (d + 260) 42 v2 v3 v4 v5 (mm X i j) Q ⟨fun e14 => (h.1 (e14)), fun e14 => ⟨rfl, ⟨rfl, ⟨⟨(Or.inl rfl), (h.2 (e14)).1⟩, ⟨fun e15 => ⟨⟨(Or.inl rfl), (h.2 (e14)).1⟩, (tc_1589_162 (d + 260) 42 v2 v3 v4 v5 (mm X (s2 i 73 ((v4).toNatClampNeg) (bnar 21 (nI 1))) j) _ ((h.2 (e14)).2.1 (e15)))⟩, fun e15 => ⟨rfl, ⟨⟨rfl, ((h.2 (e14)).2.2 ((Classical.byContradiction e15))).1⟩, ⟨fun e16 => ⟨⟨(Or.inl rfl), (h.2 (e14)).1⟩, (tc_1589_162 (d + 260) 42 v2 v3 v4 v5 (mm X (s2 i 73 ((v4).toNatClampNeg) (bnar 21 (nI 0))) j) _ (((h.2 (e14)).2.2 ((Classical.byContradiction e15))).2.1 (e16)))⟩, fun e16 => ⟨⟨(Or.inl rfl), (h.2 (e14)).1⟩, (tc_1589_162 (d + 260) 42 v2 v3 v4 v5 (mm X (s2 i 73 ((v4).toNatClampNeg) (bnar 21 (nI 1))) j) _ (((h.2 (e14)).2.2 ((Classical.byContradiction e15))).2.2 (e16)))⟩⟩⟩⟩⟩⟩⟩⟩⟩
theorem c_1589 (d : Nat) (X : XS) (i : Nat → Nat → Int32) (j : Nat → Nat → Int64) {ng no n : Nat} (h2 : R2 X i ng) (h4 : R4 X i no ng) (hn : n ≤ 240) (en : i 42 0 = nI n) (bits c : Int32) {q : Nat} (hq : q ≤ 9) :
    ∃ i', EvV (d + 261) 1589 [.ref 42, .int bits, .int c, .int (nI q)] (mm X i j) (mm X i' j) ∧ FrP X i i' ∧ SHW i i' ng n ∧ PRp i' (n - q) n (fun t => stF X i (i 43) (i 44) (i 45) bits t no) (fun t => cmP n (i 43) c t q) := by
  have main : WV (d + 261) 1589 [.ref 42, .int bits, .int c, .int (nI q)] (mm X i j) (fun M2 => ∃ i', M2 = mm X i' j ∧ FrP X i i' ∧ SHW i i' ng n ∧ PRp i' (n - q) n (fun t => stF X i (i 43) (i 44) (i 45) bits t no) (fun t => cmP n (i 43) c t q)) := by
    generalize eQ : (fun M2 : AM => ∃ i', M2 = mm X i' j ∧ FrP X i i' ∧ SHW i i' ng n ∧ PRp i' (n - q) n (fun t => stF X i (i 43) (i 44) (i 45) bits t no) (fun t => cmP n (i 43) c t q)) = QQ
    refine s_1589 d X i j bits c (nI q) _ ?_
    obtain ⟨i1, hE1, hf1, hS1⟩ := c_1565 (d + 259) X i j h2.1 h2.2.2.1 hn en
    refine ⟨i1, hE1, ?_⟩
    rw [hf1 42 (by decide), en, mx_sub (by omega) (by omega)]
    have f0 : FrP X i (s2 i1 42 46 (nI (n - q))) := ⟨fun b hb h42 => by
      rw [s2_ne h42]; exact hf1 b (fun z => hb (by rw [z]; rfl)), fun k hk => by
      rw [s2_ne2 (by omega), hf1 42 (by decide)]⟩
    have sh0 : SHW i (s2 i1 42 46 (nI (n - q))) ng n := fun g hg t ht => by rw [s2_ne (show 71 ≠ 42 by decide)]; exact hS1 g hg t ht
    -- the second loop
    have second : ∀ i2 : Nat → Nat → Int32, FrP X i i2 → SHW i i2 ng n → i2 42 46 = nI (n - q) → (∀ t, t < n → i2 72 t = stF X i (i 43) (i 44) (i 45) bits t no) → WP (d + 261) 1589 (100, [(0, .ref 42), (2, .int c), (3, .int (nI q)), (4, .int (nI 0))], [], mm X i2 j) (qV QQ) := by
      intro i2 hf hsh h46 hst
      refine lup (n - q) (fun e (i3 : Nat → Nat → Int32) => FrP X i i3 ∧ SHW i i3 ng n ∧ i3 42 46 = nI (n - q) ∧ (∀ t, t < n → i3 72 t = stF X i (i 43) (i 44) (i 45) bits t no) ∧ (∀ t, t < e → i3 73 t = bi (cmP n (i 43) c t q)))
        (fun e i3 => (100, [(0, .ref 42), (2, .int c), (3, .int (nI q)), (4, .int (nI e))], [], mm X i3 j)) ?_ ?_ 0 i2 (Nat.zero_le _) ⟨hf, hsh, h46, hst, fun t h => absurd h (by omega)⟩
      · rintro i3 ⟨hf, hsh, h46, hst, hc⟩
        refine s_1589_100 d X i3 j _ _ _ _ (br_t (by rw [h46]; exact Int32.le_refl _) (qV_of ?_))
        rw [← eQ]
        exact ⟨i3, rfl, hf, hsh, h46, by omega, hn, hst, hc⟩
      · rintro t i3 ht ⟨hf, hsh, h46, hst, hc⟩ go
        refine s_1589_100 d X i3 j _ _ _ _ (br_f (by rw [h46]; exact nI_ge ht (by omega)) ⟨vp_in_nI (by omega) (by decide), ?_⟩)
        rw [tc_nI (by omega)]
        refine lup q (fun e (i4 : Nat → Nat → Int32) => FrP X i i4 ∧ SHW i i4 ng n ∧ i4 42 46 = nI (n - q) ∧ (∀ t, t < n → i4 72 t = stF X i (i 43) (i 44) (i 45) bits t no) ∧ (∀ t', t' < t → i4 73 t' = bi (cmP n (i 43) c t' q)) ∧ i4 73 t = bi (cmP n (i 43) c t e))
          (fun e i4 => (120, [(0, .ref 42), (2, .int c), (3, .int (nI q)), (4, .int (nI t)), (5, .int (nI (e + 1)))], [], mm X i4 j)) ?_ ?_ 0 _ (Nat.zero_le _) ?_
        · rintro i4 ⟨hf, hsh, h46, hst, hc, hct⟩
          refine s_1589_120 d X i4 j _ _ _ _ _ (br_t (nI_lt (by omega) (by omega)) ?_)
          rw [nI_add]
          refine go i4 ⟨hf, hsh, h46, hst, fun t' h => ?_⟩
          by_cases h' : t' = t
          · subst h'; exact hct
          · exact hc t' (by omega)
        · rintro e i4 he ⟨hf, hsh, h46, hst, hc, hct⟩ go2
          have e43 : i4 43 = i 43 := hf.1 43 (by rw [show xt X 43 = 0 from rfl]; decide) (by decide)
          have up : ∀ P : Prop, (P ↔ cmP n (i 43) c t (e + 1)) → ∀ v, v = bi P → WP (d + 261) 1589 (120, [(0, .ref 42), (2, .int c), (3, .int (nI q)), (4, .int (nI t)), (5, .int (nI (e + 1) + nI 1))], [], mm X (s2 i4 73 t (bnar 21 v)) j) (qV QQ) := by
            intro P hP v hv
            rw [nI_add, hv, bnar_bi]
            refine go2 _ ⟨⟨fun b hb h42 => ?_, fun k hk => ?_⟩, fun g hg t ht => ?_, ?_, fun t ht => ?_, fun t' h => ?_, ?_⟩
            · rw [s2_ne (fun z => hb (by rw [z]; rfl))]; exact hf.1 b hb h42
            · rw [s2_ne (show 42 ≠ 73 by decide)]; exact hf.2 k hk
            · rw [s2_ne (show 71 ≠ 73 by decide)]; exact hsh g hg t ht
            · rw [s2_ne (show 42 ≠ 73 by decide)]; exact h46
            · rw [s2_ne (show 72 ≠ 73 by decide)]; exact hst t ht
            · rw [s2_ne2 (by omega)]; exact hc t' h
            · rw [s2_self]; exact bi_cg hP
          refine s_1589_120 d X i4 j _ _ _ _ _ (br_f (nI_nlt (by omega) (by omega)) ⟨vp_in_nI (by omega) (by decide), ?_⟩)
          rw [tc_nI (by omega), hct, bi_eq0]
          refine bq_c (fun z => ?_) (fun z => ?_)
          · exact up True ⟨fun _ => cmP_s.mpr (Or.inl (Classical.byContradiction z)), fun _ => trivial⟩ _ (bi_t trivial).symm
          · rw [nI_add, tc_nI (by omega), e43]
            have ew : wv n (i 43) (t + (e + 1)) = i 43 (t + (e + 1)) := wv_in (by omega)
            refine ⟨vp_in_nI (by omega) (by decide), br_c (fun y => ?_) (fun y => ?_)⟩
            · refine up False ⟨False.elim, fun h => ?_⟩ _ (bi_f id).symm
              rcases cmP_s.mp h with h | h
              · exact z h
              · rw [ew] at h; exact absurd h (Int32.not_le.mpr y)
            · exact up True ⟨fun _ => cmP_s.mpr (Or.inr (by rw [ew]; exact Int32.not_lt.mp y)), fun _ => trivial⟩ _ (bi_t trivial).symm
        · refine ⟨⟨fun b hb h42 => ?_, fun k hk => ?_⟩, fun g hg t ht => ?_, ?_, fun t ht => ?_, fun t' h => ?_, ?_⟩
          · rw [s2_ne (fun z => hb (by rw [z]; rfl))]; exact hf.1 b hb h42
          · rw [s2_ne (show 42 ≠ 73 by decide)]; exact hf.2 k hk
          · rw [s2_ne (show 71 ≠ 73 by decide)]; exact hsh g hg t ht
          · rw [s2_ne (show 42 ≠ 73 by decide)]; exact h46
          · rw [s2_ne (show 72 ≠ 73 by decide)]; exact hst t ht
          · rw [s2_ne2 (by omega)]; exact hc t' h
          · rw [s2_self, bi_f cmP_0]; rfl
    -- the first
    refine lup n (fun e (i3 : Nat → Nat → Int32) => FrP X i i3 ∧ SHW i i3 ng n ∧ i3 42 46 = nI (n - q) ∧ (∀ t, t < e → i3 72 t = stF X i (i 43) (i 44) (i 45) bits t no))
      (fun e i3 => (21, [(0, .ref 42), (1, .int bits), (2, .int c), (3, .int (nI q)), (4, .int (nI e))], [], mm X i3 j)) ?_ ?_ 0 _ (Nat.zero_le _) ⟨f0, sh0, s2_self _ _ _ _, fun t h => absurd h (by omega)⟩
    · rintro i3 ⟨hf, hsh, h46, hst⟩
      refine s_1589_21 d X i3 j _ _ _ _ _ (br_t (by rw [hf.2 0 (by decide), en]; exact Int32.le_refl _) ?_)
      exact second i3 hf hsh h46 hst
    · rintro t i3 ht ⟨hf, hsh, h46, hst⟩ go
      refine s_1589_21 d X i3 j _ _ _ _ _ (br_f (by rw [hf.2 0 (by decide), en]; exact nI_ge ht (by omega)) ⟨vp_in_nI (by omega) (by decide), ?_⟩)
      rw [tc_nI (by omega)]
      refine lup no (fun e (i4 : Nat → Nat → Int32) => FrP X i i4 ∧ SHW i i4 ng n ∧ i4 42 46 = nI (n - q) ∧ (∀ t', t' < t → i4 72 t' = stF X i (i 43) (i 44) (i 45) bits t' no) ∧ i4 72 t = stF X i (i 43) (i 44) (i 45) bits t e)
        (fun e i4 => (41, [(0, .ref 42), (1, .int bits), (2, .int c), (3, .int (nI q)), (4, .int (nI t)), (5, .int (nI e))], [], mm X i4 j)) ?_ ?_ 0 _ (Nat.zero_le _) ?_
      · rintro i4 ⟨hf, hsh, h46, hst, hstt⟩
        refine s_1589_41 d X i4 j _ _ _ _ _ _ (br_t (by rw [hf.2 14 (by decide), h4.2.2.1]; exact Int32.le_refl _) ?_)
        rw [nI_add]
        refine go i4 ⟨hf, hsh, h46, fun t' h => ?_⟩
        by_cases h' : t' = t
        · subst h'; exact hstt
        · exact hst t' (by omega)
      · rintro e i4 he ⟨hf, hsh, h46, hst, hstt⟩ go2
        have hno := h4.1
        have kk := hf.fr.kp
        have h21 := h2.kp kk
        have h41 := h4.kp kk
        have e43 : i4 43 = i 43 := hf.1 43 (by rw [show xt X 43 = 0 from rfl]; decide) (by decide)
        have e44 : i4 44 = i 44 := hf.1 44 (by rw [show xt X 44 = 0 from rfl]; decide) (by decide)
        have e45 : i4 45 = i 45 := hf.1 45 (by rw [show xt X 45 = 0 from rfl]; decide) (by decide)
        have hS4 : SHW i4 i4 ng n := fun g hg t ht => by rw [e44, rdR_kp kk]; exact hsh g hg t ht
        refine s_1589_41 d X i4 j _ _ _ _ _ _ (br_f (by rw [hf.2 14 (by decide), h4.2.2.1]; exact nI_ge he (by omega)) ?_)
        rw [nI_add, and1]
        refine ⟨fun z => go2 i4 ⟨hf, hsh, h46, hst, ?_⟩, fun z => ?_⟩
        · rw [hstt, stF, if_neg (fun y => z y.1)]
        · obtain ⟨i5, hE, hf5, hf42⟩ := c_1586 d X i4 j h21 h41 hn hS4 he ht
          rw [e43, e44, e45, vlF_kp h4 kk _ _ _ he t] at hE
          have f5 : FrP X i i5 := hf.tr ⟨fun b _ h42 => hf5 b h42, fun k hk => hf42 k (Or.inl hk)⟩
          have sh5 : SHW i i5 ng n := fun g hg t ht => by rw [hf5 71 (by decide)]; exact hsh g hg t ht
          have q46 : i5 42 46 = nI (n - q) := by rw [hf42 46 (Or.inr (by decide))]; exact h46
          have e72 : i5 72 = i4 72 := hf5 72 (by decide)
          refine ⟨_, i5, hE, br_c (fun y => go2 i5 ⟨f5, sh5, q46, fun t' h => by rw [e72]; exact hst t' h, ?_⟩) (fun y => ⟨vp_in_nI (by omega) (by decide), ?_⟩)⟩
          · rw [e72, hstt, stF, if_neg (fun q => q.2 y)]
          · rw [tc_nI (by omega)]
            refine go2 _ ⟨⟨fun b hb h42 => ?_, fun k hk => ?_⟩, fun g hg t ht => ?_, ?_, fun t' h => ?_, ?_⟩
            · rw [s2_ne (fun z => hb (by rw [z]; rfl))]; exact f5.1 b hb h42
            · rw [s2_ne (show 42 ≠ 72 by decide)]; exact f5.2 k hk
            · rw [s2_ne (show 71 ≠ 72 by decide)]; exact sh5 g hg t ht
            · rw [s2_ne (show 42 ≠ 72 by decide)]; exact q46
            · rw [s2_ne2 (by omega), e72]; exact hst t' h
            · rw [s2_self, e72, hstt, stF, if_pos ⟨z, y⟩]
      · refine ⟨⟨fun b hb h42 => ?_, fun k hk => ?_⟩, fun g hg t ht => ?_, ?_, fun t' h => ?_, ?_⟩
        · rw [s2_ne (fun z => hb (by rw [z]; rfl))]; exact hf.1 b hb h42
        · rw [s2_ne (show 42 ≠ 72 by decide)]; exact hf.2 k hk
        · rw [s2_ne (show 71 ≠ 72 by decide)]; exact hsh g hg t ht
        · rw [s2_ne (show 42 ≠ 72 by decide)]; exact h46
        · rw [s2_ne2 (by omega)]; exact hst t' h
        · rw [s2_self]; rfl
  obtain ⟨n1, ⟨r, M2⟩, h1, h2, i', h3, h4⟩ := main
  dsimp only at h2 h3
  subst h2; subst h3
  exact ⟨i', ⟨n1, _, h1, rfl, rfl⟩, h4⟩
