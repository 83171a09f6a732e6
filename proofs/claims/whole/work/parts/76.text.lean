/-! ===== the text ===== -/
theorem nI_bv (x : Int32) : nI x.toBitVec.toNat = x := by
  apply Int32.toBitVec_inj.mp
  show BitVec.ofNat 32 x.toBitVec.toNat = x.toBitVec
  simp
theorem by_lt (x : Int32) : (x &&& nI 255).toBitVec.toNat < 256 := by
  rw [Int32.toBitVec_and]
  show (x.toBitVec &&& 255#32).toNat < 256
  rw [BitVec.toNat_and]
  exact Nat.and_lt_two_pow _ (n := 8) (by decide)
theorem ush_bv (v : Int32) (k : Nat) (hk : k < 32) : (ushI v (nI k)).toBitVec = v.toBitVec >>> k := by
  have : ∀ k, k < 32 → (((nI k).toUInt32 &&& Int32.toUInt32 31).toBitVec % 32).toNat = k := by decide
  unfold ushI
  show (v.toUInt32 >>> ((nI k).toUInt32 &&& Int32.toUInt32 31)).toBitVec = _
  rw [UInt32.toBitVec_shiftRight]
  show v.toBitVec >>> (((nI k).toUInt32 &&& Int32.toUInt32 31).toBitVec % 32).toNat = _
  rw [this k hk]
theorem shr_bv (v : Int32) (k : Nat) (hk : k < 32) : (shrI v (nI k)).toBitVec = v.toBitVec.sshiftRight k := by
  have : ∀ k, k < 32 → (((nI k) &&& 31).toBitVec.smod 32#32).toNat = k := by decide
  unfold shrI
  rw [Int32.toBitVec_shiftRight]
  show v.toBitVec.sshiftRight (((nI k) &&& 31).toBitVec.smod 32#32).toNat = _
  rw [this k hk]
theorem by8 (v : Int32) (k : Nat) (hk : k ≤ 24) : (ushI v (nI k) &&& nI 255).toInt8 = (shrI v (nI k)).toInt8 := by
  apply Int8.toBitVec_inj.mp
  rw [Int32.toBitVec_toInt8, Int32.toBitVec_toInt8, Int32.toBitVec_and, ush_bv v k (by omega), shr_bv v k (by omega)]
  apply BitVec.eq_of_getLsbD_eq
  intro q hq
  have h255 : ∀ q, q < 8 → (nI 255).toBitVec.getLsbD q = true := by decide
  simp [BitVec.getLsbD_signExtend, BitVec.getLsbD_sshiftRight, h255 q hq]
  simp [hq, show q < 32 by omega, show ¬ 32 ≤ q by omega, show k + q < 32 by omega]
/-- the byte at bits k .. k + 7 -/
theorem byte_of (v : Int32) (k : Nat) (hk : k ≤ 24) : ∃ b, b < 256 ∧ ushI v (nI k) &&& nI 255 = nI b ∧ bnar 22 (shrI v (nI k)).toInt8.toInt32 = (nI b).toInt8.toInt32 := by
  refine ⟨(ushI v (nI k) &&& nI 255).toBitVec.toNat, by_lt _, (nI_bv _).symm, ?_⟩
  rw [nI_bv, by8 v k hk]
  generalize (shrI v (nI k)).toInt8 = x
  show x.toInt32.toInt8.toInt32 = x.toInt32
  rw [Int8.toInt8_toInt32]
set_option maxRecDepth 100000 in
theorem s_1026 (d : Nat) (X : XS) (i : Nat → Nat → Int32) (j : Nat → Nat → Int64) (a1 : Int32) (K : Int32 → AM → Prop) (h : ((((i 18 1) + (nI 4)) ≤ (nI 60) → WP d 1026 (16, [(0, .ref 18), (1, .int a1), (2, .int (nI 24))], [], (mm X i j)) (qI K)) ∧ (¬ (((i 18 1) + (nI 4)) ≤ (nI 60)) → K (nI 0) (mm X i j)))) : WI d 1026 [.ref 18, .int a1] (mm X i j) K := te_1026 d 18 a1 (mm X i j) (qI K) ⟨rfl, ⟨fun e1 => (h.1 (e1)), fun e1 => ⟨k0_01, ⟨_, rfl, (h.2 (e1))⟩⟩⟩⟩
set_option maxRecDepth 100000 in
theorem s_1026_16 (d : Nat) (X : XS) (i : Nat → Nat → Int32) (j : Nat → Nat → Int64) (v1 : Int32) (v2 : Int32) (Q : Option (Option Value) → AM → Prop) (h : ((v2 < 0 → Q (some (some (.int (nI 1)))) (mm X i j)) ∧ (¬ (v2 < 0) → (vp_in (i 18 1) 60) ∧ WP d 1026 (16, [(0, .ref 18), (1, .int v1), (2, .int (v2 + (kI (-8))))], [], (mm X (s2 (s2 i 19 ((i 18 1).toNatClampNeg) ((ushI v1 v2) &&& (nI 255))) 18 1 ((i 18 1) + (nI 1))) j)) Q))) : WP d 1026 (16, [(0, .ref 18), (1, .int v1), (2, .int v2)], [], mm X i j) Q := tc_1026_16 d 18 v1 v2 (mm X i j) Q ⟨fun e2 => ⟨k1_01, (h.1 (e2))⟩, fun e2 => ⟨rfl, ⟨rfl, ⟨⟨rfl, (h.2 (e2)).1⟩, ⟨rfl, ⟨rfl, (h.2 (e2)).2⟩⟩⟩⟩⟩⟩
set_option maxRecDepth 100000 in
theorem s_1423 (d : Nat) (X : XS) (i : Nat → Nat → Int32) (j : Nat → Nat → Int64) (a1 : Int32) (K : Int32 → AM → Prop) (h : (∃ (P3 : Prop), ∃ (i1 : Nat → Nat → Int32), ∃ (j2 : Nat → Nat → Int64), EvI d 1026 [.ref 18, .int a1] (mm X i j) (bi P3) (mm X i1 j2) ∧ ((¬ (P3) → K (kI (-1)) (mm X i1 j2)) ∧ (P3 → K (i1 18 1) (mm X i1 j2))))) : WI (d + 1) 1423 [.ref 2, .int a1] (mm X i j) K := te_1423 d 2 a1 (mm X i j) (qI K) ⟨rfl, ⟨rfl, (Exists.elim h fun P3 h5 => Exists.elim h5 fun i1 h6 => Exists.elim h6 fun j2 h7 => EvI.use h7.1 ⟨fun e4 => ⟨_, rfl, (h7.2.1 ((bi_z e4)))⟩, fun e4 => ⟨rfl, ⟨rfl, (te_1025 d 18 (mm X i1 j2) _ ⟨rfl, ⟨_, rfl, ⟨_, rfl, (h7.2.2 ((bi_n e4)))⟩⟩⟩)⟩⟩⟩)⟩⟩
set_option maxRecDepth 100000 in
theorem s_1572 (d : Nat) (X : XS) (i : Nat → Nat → Int32) (j : Nat → Nat → Int64) (a1 : Int32) (K : Int32 → AM → Prop) (h : ((((i 42 33) + (nI 4)) ≤ (nI 60) → WP d 1572 (20, [(0, .ref 42), (1, .int a1), (2, .int (nI 3))], [], (mm X (s2 i 42 36 (nI 0)) j)) (qI K)) ∧ (¬ (((i 42 33) + (nI 4)) ≤ (nI 60)) → K (kI (-1)) (mm X (s2 i 42 36 (nI 0)) j)))) : WI d 1572 [.ref 42, .int a1] (mm X i j) K := te_1572 d 42 a1 (mm X i j) (qI K) ⟨rfl, ⟨rfl, ⟨fun e1 => (h.1 (e1)), fun e1 => ⟨_, rfl, (h.2 (e1))⟩⟩⟩⟩
set_option maxRecDepth 100000 in
theorem s_1572_20 (d : Nat) (X : XS) (i : Nat → Nat → Int32) (j : Nat → Nat → Int64) (v1 : Int32) (v2 : Int32) (Q : Option (Option Value) → AM → Prop) (h : ((v2 < 0 → Q (some (some (.int (i 42 33)))) (mm X i j)) ∧ (¬ (v2 < 0) → (vp_in (i 42 33) 60) ∧ WP d 1572 (20, [(0, .ref 42), (1, .int v1), (2, .int (v2 + (kI (-1))))], [], (mm X (s2 (s2 i 42 33 ((i 42 33) + (nI 1))) 69 ((i 42 33).toNatClampNeg) (bnar 22 ((shrI v1 ((nI 8) * v2)).toInt8.toInt32))) j)) Q))) : WP d 1572 (20, [(0, .ref 42), (1, .int v1), (2, .int v2)], [], mm X i j) Q := tc_1572_20 d 42 v1 v2 (mm X i j) Q ⟨fun e2 => ⟨rfl, (h.1 (e2))⟩, fun e2 => ⟨rfl, ⟨rfl, ⟨rfl, ⟨⟨(Or.inr rfl), (h.2 (e2)).1⟩, (h.2 (e2)).2⟩⟩⟩⟩⟩
theorem k_14 (d : Nat) {X : XS} {i : Nat → Nat → Int32} {j : Nat → Nat → Int64} (h : Rel X i j) (a1 : Int32) {Kf : AM → Prop} (hK : Nx X Kf) : WI (d + 300) 1423 [.ref 2, .int a1] (mm X i j) (fun x1 M1 => WI (d + 300) 1572 [.ref 42, .int a1] M1 (fun x2 M2 => x1 = x2 ∧ Kf M2)) := by
  have ht := hK.th h
  have hrel := h
  obtain ⟨hx, ⟨⟨n, h0⟩, h1, ⟨ng, h2, no, h4⟩, ⟨tn, h3⟩, ⟨np, h5⟩, h6, ns, h7⟩, h8, hz⟩ := h

  obtain ⟨b1, b2, b3, b4⟩ := h3
  obtain ⟨B, hB⟩ : ∃ B : Nat → Nat, ∀ e, e < 4 → B e < 256 ∧ ushI a1 (nI (24 - 8 * e)) &&& nI 255 = nI (B e) ∧ bnar 22 (shrI a1 (nI (24 - 8 * e))).toInt8.toInt32 = (nI (B e)).toInt8.toInt32 := by
    refine ⟨fun e => (ushI a1 (nI (24 - 8 * e)) &&& nI 255).toBitVec.toNat, fun e _ => ?_⟩
    obtain ⟨b, h1, h2, h3⟩ := byte_of a1 (24 - 8 * e) (by omega)
    have : (ushI a1 (nI (24 - 8 * e)) &&& nI 255).toBitVec.toNat = b := by
      rw [h2]
      show (BitVec.ofNat 32 b).toNat = b
      rw [BitVec.toNat_ofNat, Nat.mod_eq_of_lt (by omega)]
    dsimp only
    rw [this]
    exact ⟨h1, h2, h3⟩
  refine s_1423 _ X i j _ _ ?_
  by_cases hc : tn + 4 ≤ 60
  · have c1 : ∃ i', EvI 0 1026 [.ref 18, .int a1] (mm X i j) (bi True) (mm X i' j) ∧ (∀ b, b ≠ 18 → b ≠ 19 → i' b = i b) ∧ i' 18 1 = nI (tn + 4) ∧ (∀ q, q < tn → i' 19 q = i 19 q) ∧ ∀ e, e < 4 → i' 19 (tn + e) = nI (B e) := by
      refine EvI.ex (s_1026 0 X i j _ _ (br_t (by rw [b2, nI_add]; exact nI_le hc (by decide)) ?_))
      refine lup 4 (fun e (i1 : Nat → Nat → Int32) => (∀ b, b ≠ 18 → b ≠ 19 → i1 b = i b) ∧ i1 18 1 = nI (tn + e) ∧ (∀ q, q < tn → i1 19 q = i 19 q) ∧ ∀ p, p < e → i1 19 (tn + p) = nI (B p)) (fun e i1 => (16, [(0, .ref 18), (1, .int a1), (2, .int (nI 24 - nI (8 * e)))], [], mm X i1 j)) ?_ ?_ 0 i (Nat.zero_le _) ⟨fun _ _ _ => rfl, b2, fun _ _ => rfl, fun p hp => absurd hp (by omega)⟩
      · rintro i1 ⟨g1, g2, g3, g4⟩
        exact s_1026_16 0 X i1 j _ _ _ (br_t (by decide) (qI_of ⟨i1, (bi_t trivial).symm, rfl, g1, g2, g3, g4⟩))
      · rintro e i1 he ⟨g1, g2, g3, g4⟩ go
        refine s_1026_16 0 X i1 j _ _ _ ?_
        rw [pk_sub (a := 24) (b := 8 * e) (by omega), g2, tc_nI (by omega), (hB e he).2.1, nI_add]
        refine br_f (nI_pos (by omega)) ⟨vp_in_nI (by omega) (by decide), ?_⟩
        rw [show nI (24 - 8 * e) + kI (-8) = nI 24 - nI (8 * (e + 1)) by
          rw [← pk_sub (a := 24) (b := 8 * e) (by omega), show 8 * (e + 1) = 8 * e + 8 by omega, ← nI_add, show kI (-8) = -(nI 8) by decide]; grind]
        refine go _ ⟨fun b h1 h2 => by rw [s2_ne h1, s2_ne h2]; exact g1 b h1 h2, by rw [s2_self]; rfl, fun q hq => ?_, fun p hp => ?_⟩
        · rw [s2_ne (show 19 ≠ 18 by decide), s2_ne2 (by omega)]; exact g3 q hq
        · rw [s2_ne (show 19 ≠ 18 by decide)]
          by_cases h : p = e
          · subst h; exact s2_self _ _ _ _
          · rw [s2_ne2 (by omega)]; exact g4 p (by omega)
    obtain ⟨i1, hE, g1, g2, g3, g4⟩ := c1
    refine ⟨_, i1, j, hE.up (by omega), bq_f trivial ?_⟩
    rw [g2]
    refine s_1572 _ X i1 j _ _ (br_t (by rw [g1 42 (by decide) (by decide), b3, nI_add]; exact nI_le hc (by decide)) ?_)
    refine lup 4 (fun e (i2 : Nat → Nat → Int32) => (∀ b, b ≠ 42 → b ≠ 69 → i2 b = i1 b) ∧ (∀ k, k ≠ 36 → k ≠ 33 → i2 42 k = i1 42 k) ∧ i2 42 33 = nI (tn + e) ∧ (∀ q, q < tn → i2 69 q = i 69 q) ∧ ∀ p, p < e → i2 69 (tn + p) = (nI (B p)).toInt8.toInt32) (fun e i2 => (20, [(0, .ref 42), (1, .int a1), (2, .int (nI 3 - nI e))], [], mm X i2 j)) ?_ ?_ 0 (s2 i1 42 36 (nI 0)) (Nat.zero_le _) ⟨fun b h1 _ => s2_ne h1, fun k h1 _ => s2_ne2 h1, by rw [s2_ne2 (by decide), g1 42 (by decide) (by decide)]; exact b3, fun q hq => by rw [s2_ne (show 69 ≠ 42 by decide), g1 69 (by decide) (by decide)], fun p hp => absurd hp (by omega)⟩
    · rintro i2 ⟨k1, k2, k3, k4, k5⟩
      refine s_1572_20 _ X i2 j _ _ _ (br_t (by decide) (qI_of ⟨k3.symm, hK.k ?_⟩))
      have hne : ∀ {E : List Nat} {b : Nat}, upN E b = false → ∀ a, a ∈ E → b ≠ a := fun h => upN_ne h
      have g : Ag X (upN [18, 19, 69]) (fun _ => False) (upN [33, 36]) (fun _ => false) i i2 := by
        refine ⟨fun b hb he h42 h2 => ?_, fun b hb _ => ?_, fun k hk => ?_, fun k _ => ?_⟩
        · have h18 := hne he 18 (by simp)
          have h19 := hne he 19 (by simp)
          have h69 := hne he 69 (by simp)
          exact (k1 b h42 h69).trans (g1 b h18 h19)
        · exact (k1 b (by omega) (by omega)).trans (g1 b (by omega) (by omega))
        · have h33 := hne hk 33 (by simp)
          have h36 := hne hk 36 (by simp)
          rw [k2 k h36 h33, g1 42 (by decide) (by decide)]
        · rw [k1 2 (by decide) (by decide), g1 2 (by decide) (by decide)]
      refine ⟨hx, ⟨⟨n, h0.ag g rfl⟩, h1.ag g rfl, ⟨ng, h2.ag g rfl no_T, no, h4.ag g rfl no_T⟩, ⟨tn + 4, ?_⟩, ⟨np, h5.ag g rfl no_T⟩, h6.ag g rfl, ns, h7.ag g rfl⟩, h8.ag g rfl, hz.ag g rfl⟩
      refine ⟨hc, by rw [k1 18 (by decide) (by decide)]; exact g2, k3, fun q hq => ?_⟩
      rw [k1 19 (by decide) (by decide)]
      by_cases hqt : q < tn
      · rw [g3 q hqt, k4 q hqt]; exact b4 q hqt
      · obtain ⟨e, rfl⟩ : ∃ e, q = tn + e := ⟨q - tn, by omega⟩
        rw [g4 e (by omega), k5 e (by omega)]
        exact ⟨B e, (hB e (by omega)).1, rfl, rfl⟩
    · rintro e i2 he ⟨k1, k2, k3, k4, k5⟩ go
      refine s_1572_20 _ X i2 j _ _ _ ?_
      rw [pk_sub (a := 3) (b := e) (by omega), k3, tc_nI (by omega), pk_mul, show 8 * (3 - e) = 24 - 8 * e by omega, (hB e he).2.2, nI_add]
      refine br_f (nI_pos (by omega)) ⟨vp_in_nI (by omega) (by decide), ?_⟩
      rw [show nI (3 - e) + kI (-1) = nI 3 - nI (e + 1) by
        rw [← pk_sub (a := 3) (b := e) (by omega), ← nI_add e 1, pm1]; grind]
      refine go _ ⟨fun b h1 h2 => by rw [s2_ne h2, s2_ne h1]; exact k1 b h1 h2, fun k h1 h2 => by rw [s2_ne (show 42 ≠ 69 by decide), s2_ne2 h2]; exact k2 k h1 h2, by rw [s2_ne (show 42 ≠ 69 by decide), s2_self]; rfl, fun q hq => ?_, fun p hp => ?_⟩
      · rw [s2_ne2 (by omega), s2_ne (show 69 ≠ 42 by decide)]; exact k4 q hq
      · by_cases h : p = e
        · subst h; exact s2_self _ _ _ _
        · rw [s2_ne2 (by omega), s2_ne (show 69 ≠ 42 by decide)]; exact k5 p (by omega)
  · have nle : ¬ nI tn + nI 4 ≤ nI 60 := by rw [nI_add, nI_leI (by omega) (by decide)]; exact hc
    refine ⟨False, i, j, (s_1026 _ X i j _ _ (br_f (by rw [b2]; exact nle) ⟨(bi_f id).symm, rfl⟩) : EvI (d + 299) 1026 [.ref 18, .int a1] (mm X i j) (bi False) (mm X i j)), bq_t id ?_⟩
    exact s_1572 _ X i j _ _ (br_f (by rw [b3]; exact nle) ⟨rfl, ht⟩)
