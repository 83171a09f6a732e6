/-! ===== days made by chances: run ===== -/
def rn (r : Int32) : Int32 := r * Int32.ofNat 1103515245 + nI 12345
def hi16 (r : Int32) : Nat := r.toBitVec.toNat / 65536
theorem hi16_lt (r : Int32) : hi16 r < 65536 := by
  have := r.toBitVec.isLt
  unfold hi16
  omega
theorem ush16 (r : Int32) : ushI r (nI 16) = nI (hi16 r) := by
  have h := pk_ushr r (nI 16) 16 (by decide)
  have e : (ushI r (nI 16)).toBitVec.toNat = hi16 r := h
  rw [← e, nI_bv]
theorem rm16 (r : Int32) {n : Nat} (h0 : 0 < n) (h : n < 2 ^ 31) : rmI (ushI r (nI 16)) (nI n) = nI (hi16 r % n) := by
  rw [ush16]
  exact pk_rem (by have := hi16_lt r; omega) h0 h
def psN (W : Nat → Nat) (b : Nat) : Nat → Nat
  | 0 => 0
  | e + 1 => psN W b e + W (b + e)
theorem psN_le {W : Nat → Nat} {b : Nat} : ∀ {e f : Nat}, e ≤ f → psN W b e ≤ psN W b f := by
  intro e f h
  induction f with
  | zero => have : e = 0 := by omega
            subst this; exact Nat.le_refl _
  | succ f ih =>
    by_cases q : e = f + 1
    · subst q; exact Nat.le_refl _
    · exact Nat.le_trans (ih (by omega)) (Nat.le_add_right _ _)
theorem psN_b {W : Nat → Nat} (hW : ∀ q, q < 16 → W q < 10) {l : Nat} (hl : l < 4) : ∀ {e : Nat}, e ≤ 4 → psN W (4 * l) e ≤ 10 * e := by
  intro e
  induction e with
  | zero => intro _; exact Nat.le_refl _
  | succ e ih => intro he; have := ih (by omega); have := hW (4 * l + e) (by omega); show psN W (4 * l) e + W (4 * l + e) ≤ _; omega
/-- the weather drawn behind l, and the drawn number -/
def DW (W : Nat → Nat) (l : Nat) (r : Int32) (v : Nat) (r' : Int32) : Prop := (psN W (4 * l) 4 = 0 ∧ v = l ∧ r' = r) ∨ (0 < psN W (4 * l) 4 ∧ r' = rn r ∧ v < 4 ∧ psN W (4 * l) v ≤ hi16 (rn r) % psN W (4 * l) 4 ∧ hi16 (rn r) % psN W (4 * l) 4 < psN W (4 * l) (v + 1))
theorem DW.lt {W : Nat → Nat} {l : Nat} {r : Int32} {v : Nat} {r' : Int32} (h : DW W l r v r') (hl : l < 4) : v < 4 := by
  rcases h with ⟨-, h, -⟩ | ⟨-, -, h, -⟩ <;> omega
def dwf (W : Nat → Nat) (l : Nat) (r : Int32) : Nat × Int32 := if psN W (4 * l) 4 = 0 then (l, r) else
  (if hi16 (rn r) % psN W (4 * l) 4 < psN W (4 * l) 1 then 0 else if hi16 (rn r) % psN W (4 * l) 4 < psN W (4 * l) 2 then 1 else if hi16 (rn r) % psN W (4 * l) 4 < psN W (4 * l) 3 then 2 else 3, rn r)
theorem DW_f (W : Nat → Nat) (l : Nat) (r : Int32) : DW W l r (dwf W l r).1 (dwf W l r).2 := by
  unfold dwf
  by_cases h : psN W (4 * l) 4 = 0
  · rw [if_pos h]; exact Or.inl ⟨h, rfl, rfl⟩
  · rw [if_neg h]
    refine Or.inr ⟨by omega, rfl, ?_⟩
    have hm := Nat.mod_lt (hi16 (rn r)) (show psN W (4 * l) 4 > 0 by omega)
    generalize hi16 (rn r) % psN W (4 * l) 4 = f at *
    try dsimp only
    by_cases h1 : f < psN W (4 * l) 1
    · rw [if_pos h1]; exact ⟨by decide, Nat.zero_le _, h1⟩
    rw [if_neg h1]
    by_cases h2 : f < psN W (4 * l) 2
    · rw [if_pos h2]; exact ⟨by decide, by omega, h2⟩
    rw [if_neg h2]
    by_cases h3 : f < psN W (4 * l) 3
    · rw [if_pos h3]; exact ⟨by decide, by omega, h3⟩
    rw [if_neg h3]; exact ⟨by decide, by omega, hm⟩
theorem s2_id {α : Type} (i : Nat → Nat → α) (a k : Nat) : s2 i a k (i a k) = i := by
  funext b q
  rw [s2_ap]
  split
  · rename_i h; rw [h.1, h.2]
  · rfl
def mkA (a0 st r : Int32) : Int32 := clA (a0 + st + rmI (ushI r (nI 16)) (nI 21) - nI 10)
def mkK (r : Int32) : Int32 := rmI (ushI r (nI 16)) (nI 8)
set_option maxRecDepth 100000 in
theorem s_8 (d : Nat) (X : XS) (i : Nat → Nat → Int32) (j : Nat → Nat → Int64) (a1 : Int32) (K : Int32 → AM → Prop) (h : WP (d + 3) 8 (4, [(0, .ref 3), (1, .int a1), (2, .int (nI 0)), (3, .int (nI 0))], [], (mm X i j)) (qI K)) : WI (d + 3) 8 [.ref 3, .int a1] (mm X i j) K := te_8 (d + 2) 3 a1 (mm X i j) (qI K) h
set_option maxRecDepth 100000 in
theorem s_8_4 (d : Nat) (X : XS) (i : Nat → Nat → Int32) (j : Nat → Nat → Int64) (v1 : Int32) (v2 : Int32) (v3 : Int32) (Q : Option (Option Value) → AM → Prop) (h : (((nI 4) ≤ v3 → ((¬ (v2 = 0) → ((v2 ≤ 0 → WP (d + 3) 8 (39, [(0, .ref 3), (1, .int v1), (3, .int (nI 0)), (4, .int (nI 0))], [], (mm X (s2 i 3 2 (((i 3 2) * (Int32.ofNat 1103515245)) + (nI 12345))) j)) Q) ∧ (¬ (v2 ≤ 0) → (¬ v2 = 0) ∧ WP (d + 3) 8 (39, [(0, .ref 3), (1, .int v1), (3, .int (rmI (ushI (((i 3 2) * (Int32.ofNat 1103515245)) + (nI 12345)) (nI 16)) v2)), (4, .int (nI 0))], [], (mm X (s2 i 3 2 (((i 3 2) * (Int32.ofNat 1103515245)) + (nI 12345))) j)) Q))) ∧ (v2 = 0 → Q (some (some (.int v1))) (mm X i j)))) ∧ (¬ ((nI 4) ≤ v3) → ((¬ ((nI 0) ≤ v1 ∧ v1 ≤ (nI 3)) → WP (d + 3) 8 (4, [(0, .ref 3), (1, .int v1), (2, .int (v2 + (nI 0))), (3, .int (v3 + (nI 1)))], [], (mm X i j)) Q) ∧ ((nI 0) ≤ v1 ∧ v1 ≤ (nI 3) → ((¬ ((nI 0) ≤ v3 ∧ v3 ≤ (nI 3)) → WP (d + 3) 8 (4, [(0, .ref 3), (1, .int v1), (2, .int (v2 + (nI 0))), (3, .int (v3 + (nI 1)))], [], (mm X i j)) Q) ∧ ((nI 0) ≤ v3 ∧ v3 ≤ (nI 3) → (vp_in ((v1 * (nI 4)) + v3) 16) ∧ WP (d + 3) 8 (4, [(0, .ref 3), (1, .int v1), (2, .int (v2 + (i 4 (((v1 * (nI 4)) + v3).toNatClampNeg)))), (3, .int (v3 + (nI 1)))], [], (mm X i j)) Q))))))) : WP (d + 3) 8 (4, [(0, .ref 3), (1, .int v1), (2, .int v2), (3, .int v3)], [], mm X i j) Q := tc_8_4 (d + 2) 3 v1 v2 v3 (mm X i j) Q ⟨fun e1 => ⟨fun e2 => ⟨rfl, (te_7 (d + 2) 3 v2 (mm X i j) _ ⟨rfl, ⟨rfl, ⟨fun e3 => ⟨_, rfl, (((h.1 (e1)).1 (e2)).1 (e3))⟩, fun e3 => ⟨rfl, ⟨(((h.1 (e1)).1 (e2)).2 (e3)).1, ⟨_, rfl, (((h.1 (e1)).1 (e2)).2 (e3)).2⟩⟩⟩⟩⟩⟩)⟩, fun e2 => ((h.1 (e1)).2 ((Classical.byContradiction e2)))⟩, fun e1 => ⟨rfl, (te_3 (d + 1) 3 v1 v3 (mm X i j) _ (p_1463 d X i j v1 _ ⟨fun e4 => ⟨_, rfl, ((h.2 (e1)).1 ((bi_z e4)))⟩, fun e4 => (p_1463 d X i j v3 _ ⟨fun e5 => ⟨_, rfl, (((h.2 (e1)).2 ((bi_n e4))).1 ((bi_z e5)))⟩, fun e5 => ⟨rfl, ⟨⟨rfl, (((h.2 (e1)).2 ((bi_n e4))).2 ((bi_n e5))).1⟩, ⟨_, rfl, (((h.2 (e1)).2 ((bi_n e4))).2 ((bi_n e5))).2⟩⟩⟩⟩)⟩))⟩⟩
set_option maxRecDepth 100000 in
theorem s_8_39 (d : Nat) (X : XS) (i : Nat → Nat → Int32) (j : Nat → Nat → Int64) (v1 : Int32) (v3 : Int32) (v4 : Int32) (Q : Option (Option Value) → AM → Prop) (h : (((nI 3) ≤ v4 → Q (some (some (.int v4))) (mm X i j)) ∧ (¬ ((nI 3) ≤ v4) → ((¬ ((nI 0) ≤ v1 ∧ v1 ≤ (nI 3)) → ((v3 < (nI 0) → Q (some (some (.int v4))) (mm X i j)) ∧ (¬ (v3 < (nI 0)) → WP (d + 3) 8 (39, [(0, .ref 3), (1, .int v1), (3, .int (v3 - (nI 0))), (4, .int (v4 + (nI 1)))], [], (mm X i j)) Q))) ∧ ((nI 0) ≤ v1 ∧ v1 ≤ (nI 3) → ((¬ ((nI 0) ≤ v4 ∧ v4 ≤ (nI 3)) → ((v3 < (nI 0) → Q (some (some (.int v4))) (mm X i j)) ∧ (¬ (v3 < (nI 0)) → WP (d + 3) 8 (39, [(0, .ref 3), (1, .int v1), (3, .int (v3 - (nI 0))), (4, .int (v4 + (nI 1)))], [], (mm X i j)) Q))) ∧ ((nI 0) ≤ v4 ∧ v4 ≤ (nI 3) → (vp_in ((v1 * (nI 4)) + v4) 16) ∧ ((v3 < (i 4 (((v1 * (nI 4)) + v4).toNatClampNeg)) → Q (some (some (.int v4))) (mm X i j)) ∧ (¬ (v3 < (i 4 (((v1 * (nI 4)) + v4).toNatClampNeg))) → WP (d + 3) 8 (39, [(0, .ref 3), (1, .int v1), (3, .int (v3 - (i 4 (((v1 * (nI 4)) + v4).toNatClampNeg)))), (4, .int (v4 + (nI 1)))], [], (mm X i j)) Q))))))))) : WP (d + 3) 8 (39, [(0, .ref 3), (1, .int v1), (3, .int v3), (4, .int v4)], [], mm X i j) Q := tc_8_39 (d + 2) 3 v1 v3 v4 (mm X i j) Q ⟨fun e6 => (h.1 (e6)), fun e6 => ⟨rfl, (te_3 (d + 1) 3 v1 v4 (mm X i j) _ (p_1463 d X i j v1 _ ⟨fun e7 => ⟨_, rfl, ⟨fun e8 => (((h.2 (e6)).1 ((bi_z e7))).1 (e8)), fun e8 => ⟨rfl, (te_3 (d + 1) 3 v1 v4 (mm X i j) _ (p_1463 d X i j v1 _ ⟨fun _ => ⟨_, rfl, (((h.2 (e6)).1 ((bi_z e7))).2 (e8))⟩, fun e9 => absurd (bi_f ((bi_z e7))) e9⟩))⟩⟩⟩, fun e7 => (p_1463 d X i j v4 _ ⟨fun e10 => ⟨_, rfl, ⟨fun e11 => ((((h.2 (e6)).2 ((bi_n e7))).1 ((bi_z e10))).1 (e11)), fun e11 => ⟨rfl, (te_3 (d + 1) 3 v1 v4 (mm X i j) _ (p_1463 d X i j v1 _ ⟨fun e12 => absurd e12 (fun z => bi_z z ((bi_n e7))), fun _ => (p_1463 d X i j v4 _ ⟨fun _ => ⟨_, rfl, ((((h.2 (e6)).2 ((bi_n e7))).1 ((bi_z e10))).2 (e11))⟩, fun e13 => absurd (bi_f ((bi_z e10))) e13⟩)⟩))⟩⟩⟩, fun e10 => ⟨rfl, ⟨⟨rfl, (((h.2 (e6)).2 ((bi_n e7))).2 ((bi_n e10))).1⟩, ⟨_, rfl, ⟨fun e14 => ((((h.2 (e6)).2 ((bi_n e7))).2 ((bi_n e10))).2.1 (e14)), fun e14 => ⟨rfl, (te_3 (d + 1) 3 v1 v4 (mm X i j) _ (p_1463 d X i j v1 _ ⟨fun e15 => absurd e15 (fun z => bi_z z ((bi_n e7))), fun _ => (p_1463 d X i j v4 _ ⟨fun e16 => absurd e16 (fun z => bi_z z ((bi_n e10))), fun _ => ⟨rfl, ⟨⟨rfl, (((h.2 (e6)).2 ((bi_n e7))).2 ((bi_n e10))).1⟩, ⟨_, rfl, ((((h.2 (e6)).2 ((bi_n e7))).2 ((bi_n e10))).2.2 (e14))⟩⟩⟩⟩)⟩))⟩⟩⟩⟩⟩⟩)⟩))⟩⟩
theorem c_8 (d : Nat) (X : XS) (i : Nat → Nat → Int32) (j : Nat → Nat → Int64) {W : Nat → Nat} (hW : ∀ q, q < 16 → i 4 q = nI (W q) ∧ W q < 10) {l : Nat} (hl : l < 4) {v : Nat} {r : Int32} (h : DW W l (i 3 2) v r) : EvI (d + 3) 8 [.ref 3, .int (nI l)] (mm X i j) (nI v) (mm X (s2 i 3 2 r) j) := by
  have l0 : nI 0 ≤ nI l ∧ nI l ≤ nI 3 := ⟨nI_le (by omega) (by omega), nI_le (by omega) (by decide)⟩
  have ix : ∀ e, e < 4 → (nI l * nI 4 + nI e) = nI (4 * l + e) := fun e he => by rw [pk_mul, nI_add, Nat.mul_comm]
  have hS := psN_b (W := W) (fun q hq => (hW q hq).2) hl (e := 4) (by omega)
  refine s_8 _ X i j (nI l) _ ?_
  refine lup 4 (fun e (_ : Unit) => True) (fun e _ => (4, [(0, .ref 3), (1, .int (nI l)), (2, .int (nI (psN W (4 * l) e))), (3, .int (nI e))], [], mm X i j)) ?_ ?_ 0 () (Nat.zero_le _) trivial
  · intro _ _
    refine s_8_4 _ X i j _ _ _ _ (br_t (Int32.le_refl _) ?_)
    rcases h with ⟨h1, rfl, rfl⟩ | ⟨h1, rfl, h2, h3, h4⟩
    · refine bq_f (by rw [h1]; rfl) (qI_of ⟨rfl, ?_⟩)
      rw [s2_id]
    · refine bq_t (by rw [nIz (by omega)]; omega) (br_f (nI_nle h1 (by omega)) ⟨by rw [nIz (by omega)]; omega, ?_⟩)
      rw [show i 3 2 * Int32.ofNat 1103515245 + nI 12345 = rn (i 3 2) from rfl, rm16 _ h1 (by omega)]
      obtain ⟨f, hf⟩ : ∃ f, f = hi16 (rn (i 3 2)) % psN W (4 * l) 4 := ⟨_, rfl⟩
      rw [← hf] at h3 h4 ⊢
      have hf4 : f < 40 := by have := Nat.mod_lt (hi16 (rn (i 3 2))) h1; omega
      obtain ⟨iA, hA⟩ : ∃ iA, iA = s2 i 3 2 (rn (i 3 2)) := ⟨_, rfl⟩
      have fA : iA 4 = i 4 := by rw [hA, s2_ne (by decide)]
      rw [← hA]
      refine lup v (fun e (_ : Unit) => True) (fun e _ => (39, [(0, .ref 3), (1, .int (nI l)), (3, .int (nI (f - psN W (4 * l) e))), (4, .int (nI e))], [], mm X iA j)) ?_ ?_ 0 () (Nat.zero_le _) trivial
      · intro _ _
        refine s_8_39 _ X iA j _ _ _ _ ?_
        by_cases v3 : v = 3
        · subst v3; exact br_t (Int32.le_refl _) (qI_of ⟨rfl, rfl⟩)
        · refine br_f (nI_ge (by omega) (by decide)) (bq_f l0 (bq_f ⟨nI_le (by omega) (by omega), nI_le (by omega) (by decide)⟩ ?_))
          rw [ix v h2, tc_nI (by omega), fA, (hW _ (by omega)).1]
          have h5 : psN W (4 * l) (v + 1) = psN W (4 * l) v + W (4 * l + v) := rfl
          have h6 := (hW (4 * l + v) (by omega)).2
          exact ⟨vp_in_nI (by omega) (by decide), br_t (nI_lt (by omega) (by omega)) (qI_of ⟨rfl, rfl⟩)⟩
      · intro e _ he _ go
        refine s_8_39 _ X iA j _ _ _ _ (br_f (nI_ge (by omega) (by decide)) (bq_f l0 (bq_f ⟨nI_le (by omega) (by omega), nI_le (by omega) (by decide)⟩ ?_)))
        rw [ix e (by omega), tc_nI (by omega), fA, (hW _ (by omega)).1]
        have h5 : psN W (4 * l) (e + 1) = psN W (4 * l) e + W (4 * l + e) := rfl
        have h6 := psN_le (W := W) (b := 4 * l) (show e + 1 ≤ v by omega)
        have h7 := (hW (4 * l + e) (by omega)).2
        refine ⟨vp_in_nI (by omega) (by decide), br_f (nI_nlt (by omega) (by omega)) ?_⟩
        rw [pk_sub (by omega), nI_add, show f - psN W (4 * l) e - W (4 * l + e) = f - psN W (4 * l) (e + 1) by omega]
        exact go () trivial
  · intro e _ he _ go
    refine s_8_4 _ X i j _ _ _ _ (br_f (nI_ge he (by decide)) (bq_f l0 (bq_f ⟨nI_le (by omega) (by omega), nI_le (by omega) (by decide)⟩ ?_)))
    rw [ix e he, tc_nI (by omega), (hW _ (by omega)).1, nI_add, nI_add]
    exact ⟨vp_in_nI (by omega) (by decide), go () trivial⟩
set_option maxRecDepth 100000 in
theorem s_9_9 (d : Nat) (X : XS) (i : Nat → Nat → Int32) (j : Nat → Nat → Int64)  (K : AM → Prop) (h : ((0 ≤ ((i 9 3) - (nI 1)) → ((i 9 3) ≤ (nI 240)) ∧ (∃ (x3 : Int32), ∃ (i2 : Nat → Nat → Int32), EvI (d + 3) 8 [.ref 3, .int (dyv (i 9 3) (i 10) ((i 9 3) - (nI 1)))] (mm X i j) x3 (mm X i2 j) ∧ ((i2 9 3) ≤ (nI 240)) ∧ ((¬ ((nI 0) ≤ x3 ∧ x3 ≤ (nI 3)) → (((nI 240) ≤ (i2 9 3) → K (mm X (s2 (s2 i2 3 2 (((i2 3 2) * (Int32.ofNat 1103515245)) + (nI 12345))) 3 2 (((((i2 3 2) * (Int32.ofNat 1103515245)) + (nI 12345)) * (Int32.ofNat 1103515245)) + (nI 12345))) j)) ∧ (¬ ((nI 240) ≤ (i2 9 3)) → (vp_in (i2 9 3) 240) ∧ K (mm X (s2 (s2 (s2 (s2 (s2 (s2 i2 3 2 (((i2 3 2) * (Int32.ofNat 1103515245)) + (nI 12345))) 3 2 (((((i2 3 2) * (Int32.ofNat 1103515245)) + (nI 12345)) * (Int32.ofNat 1103515245)) + (nI 12345))) 10 ((i2 9 3).toNatClampNeg) x3) 11 ((i2 9 3).toNatClampNeg) (mxI (nI 0) (mnI (nI 999) ((((dyv (i2 9 3) (i2 11) ((i 9 3) - (nI 1))) + (nI 0)) + (rmI (ushI (((i2 3 2) * (Int32.ofNat 1103515245)) + (nI 12345)) (nI 16)) (nI 21))) - (nI 10))))) 12 ((i2 9 3).toNatClampNeg) (rmI (ushI (((((i2 3 2) * (Int32.ofNat 1103515245)) + (nI 12345)) * (Int32.ofNat 1103515245)) + (nI 12345)) (nI 16)) (nI 8))) 9 3 ((i2 9 3) + (nI 1))) j)))) ∧ ((nI 0) ≤ x3 ∧ x3 ≤ (nI 3) → (vp_in x3 4) ∧ (((nI 240) ≤ (i2 9 3) → K (mm X (s2 (s2 i2 3 2 (((i2 3 2) * (Int32.ofNat 1103515245)) + (nI 12345))) 3 2 (((((i2 3 2) * (Int32.ofNat 1103515245)) + (nI 12345)) * (Int32.ofNat 1103515245)) + (nI 12345))) j)) ∧ (¬ ((nI 240) ≤ (i2 9 3)) → (vp_in (i2 9 3) 240) ∧ K (mm X (s2 (s2 (s2 (s2 (s2 (s2 i2 3 2 (((i2 3 2) * (Int32.ofNat 1103515245)) + (nI 12345))) 3 2 (((((i2 3 2) * (Int32.ofNat 1103515245)) + (nI 12345)) * (Int32.ofNat 1103515245)) + (nI 12345))) 10 ((i2 9 3).toNatClampNeg) x3) 11 ((i2 9 3).toNatClampNeg) (mxI (nI 0) (mnI (nI 999) ((((dyv (i2 9 3) (i2 11) ((i 9 3) - (nI 1))) + (i2 5 ((x3).toNatClampNeg))) + (rmI (ushI (((i2 3 2) * (Int32.ofNat 1103515245)) + (nI 12345)) (nI 16)) (nI 21))) - (nI 10))))) 12 ((i2 9 3).toNatClampNeg) (rmI (ushI (((((i2 3 2) * (Int32.ofNat 1103515245)) + (nI 12345)) * (Int32.ofNat 1103515245)) + (nI 12345)) (nI 16)) (nI 8))) 9 3 ((i2 9 3) + (nI 1))) j))))))) ∧ (¬ (0 ≤ ((i 9 3) - (nI 1))) → (∃ (x16 : Int32), ∃ (i15 : Nat → Nat → Int32), EvI (d + 3) 8 [.ref 3, .int (nI 0)] (mm X i j) x16 (mm X i15 j) ∧ ((¬ ((nI 0) ≤ x16 ∧ x16 ≤ (nI 3)) → (((nI 240) ≤ (i15 9 3) → K (mm X (s2 (s2 i15 3 2 (((i15 3 2) * (Int32.ofNat 1103515245)) + (nI 12345))) 3 2 (((((i15 3 2) * (Int32.ofNat 1103515245)) + (nI 12345)) * (Int32.ofNat 1103515245)) + (nI 12345))) j)) ∧ (¬ ((nI 240) ≤ (i15 9 3)) → (vp_in (i15 9 3) 240) ∧ K (mm X (s2 (s2 (s2 (s2 (s2 (s2 i15 3 2 (((i15 3 2) * (Int32.ofNat 1103515245)) + (nI 12345))) 3 2 (((((i15 3 2) * (Int32.ofNat 1103515245)) + (nI 12345)) * (Int32.ofNat 1103515245)) + (nI 12345))) 10 ((i15 9 3).toNatClampNeg) x16) 11 ((i15 9 3).toNatClampNeg) (mxI (nI 0) (mnI (nI 999) (((nI 500) + (rmI (ushI (((i15 3 2) * (Int32.ofNat 1103515245)) + (nI 12345)) (nI 16)) (nI 21))) - (nI 10))))) 12 ((i15 9 3).toNatClampNeg) (rmI (ushI (((((i15 3 2) * (Int32.ofNat 1103515245)) + (nI 12345)) * (Int32.ofNat 1103515245)) + (nI 12345)) (nI 16)) (nI 8))) 9 3 ((i15 9 3) + (nI 1))) j)))) ∧ ((nI 0) ≤ x16 ∧ x16 ≤ (nI 3) → (vp_in x16 4) ∧ (((nI 240) ≤ (i15 9 3) → K (mm X (s2 (s2 i15 3 2 (((i15 3 2) * (Int32.ofNat 1103515245)) + (nI 12345))) 3 2 (((((i15 3 2) * (Int32.ofNat 1103515245)) + (nI 12345)) * (Int32.ofNat 1103515245)) + (nI 12345))) j)) ∧ (¬ ((nI 240) ≤ (i15 9 3)) → (vp_in (i15 9 3) 240) ∧ K (mm X (s2 (s2 (s2 (s2 (s2 (s2 i15 3 2 (((i15 3 2) * (Int32.ofNat 1103515245)) + (nI 12345))) 3 2 (((((i15 3 2) * (Int32.ofNat 1103515245)) + (nI 12345)) * (Int32.ofNat 1103515245)) + (nI 12345))) 10 ((i15 9 3).toNatClampNeg) x16) 11 ((i15 9 3).toNatClampNeg) (mxI (nI 0) (mnI (nI 999) ((((nI 500) + (i15 5 ((x16).toNatClampNeg))) + (rmI (ushI (((i15 3 2) * (Int32.ofNat 1103515245)) + (nI 12345)) (nI 16)) (nI 21))) - (nI 10))))) 12 ((i15 9 3).toNatClampNeg) (rmI (ushI (((((i15 3 2) * (Int32.ofNat 1103515245)) + (nI 12345)) * (Int32.ofNat 1103515245)) + (nI 12345)) (nI 16)) (nI 8))) 9 3 ((i15 9 3) + (nI 1))) j))))))))) : WV (d + 4) 9 [.ref 3, .ref 9] (mm X i j) K := te_9 (d + 3) 3 9 (mm X i j) (qV K) ⟨rfl, (te_129 (d + 3) 9 (mm X i j) _ ⟨rfl, ⟨_, rfl, ⟨fun e1 => ⟨rfl, (p_133 (d + 3) X i j 9 (DO9 X) ((i 9 3) - (nI 1)) _ ⟨(h.1 (e1)).1, ⟨rfl, (Exists.elim (h.1 (e1)).2 fun x3 h12 => Exists.elim h12 fun i2 h13 => EvI.use h13.1 ⟨fun _ => ⟨rfl, (p_134 (d + 3) X i2 j 9 (DO9 X) ((i 9 3) - (nI 1)) _ ⟨h13.2.1, (tc_9_42 (d + 3) 3 9 x3 (dyv (i2 9 3) (i2 11) ((i 9 3) - (nI 1))) (mm X i2 j) _ ⟨rfl, (te_5 (d + 2) 3 x3 (mm X i2 j) _ (p_1463 (d + 1) X i2 j x3 _ ⟨fun e5 => ⟨_, rfl, ⟨rfl, (te_7 (d + 3) 3 (nI 21) (mm X i2 j) _ ⟨rfl, ⟨rfl, ⟨fun e6 => absurd e6 (show ¬ ((nI 21) ≤ 0) by decide), fun _ => ⟨rfl, ⟨(by decide), ⟨_, rfl, (te_1465 (d + 3) ((((dyv (i2 9 3) (i2 11) ((i 9 3) - (nI 1))) + (nI 0)) + (rmI (ushI (((i2 3 2) * (Int32.ofNat 1103515245)) + (nI 12345)) (nI 16)) (nI 21))) - (nI 10)) (mm X (s2 i2 3 2 (((i2 3 2) * (Int32.ofNat 1103515245)) + (nI 12345))) j) _ ⟨_, rfl, ⟨rfl, (te_7 (d + 3) 3 (nI 8) (mm X (s2 i2 3 2 (((i2 3 2) * (Int32.ofNat 1103515245)) + (nI 12345))) j) _ ⟨rfl, ⟨rfl, ⟨fun e7 => absurd e7 (show ¬ ((nI 8) ≤ 0) by decide), fun _ => ⟨rfl, ⟨(by decide), ⟨_, rfl, ⟨rfl, (te_131 (d + 3) 9 x3 (mxI (nI 0) (mnI (nI 999) ((((dyv (i2 9 3) (i2 11) ((i 9 3) - (nI 1))) + (nI 0)) + (rmI (ushI (((i2 3 2) * (Int32.ofNat 1103515245)) + (nI 12345)) (nI 16)) (nI 21))) - (nI 10)))) (rmI (ushI (((((i2 3 2) * (Int32.ofNat 1103515245)) + (nI 12345)) * (Int32.ofNat 1103515245)) + (nI 12345)) (nI 16)) (nI 8)) (mm X (s2 (s2 i2 3 2 (((i2 3 2) * (Int32.ofNat 1103515245)) + (nI 12345))) 3 2 (((((i2 3 2) * (Int32.ofNat 1103515245)) + (nI 12345)) * (Int32.ofNat 1103515245)) + (nI 12345))) j) _ ⟨rfl, ⟨fun e8 => ⟨rfl, ⟨rfl, ((h13.2.2.1 ((bi_z e5))).1 (e8))⟩⟩, fun e8 => ⟨rfl, ⟨rfl, ⟨⟨rfl, ((h13.2.2.1 ((bi_z e5))).2 (e8)).1⟩, ⟨rfl, ⟨rfl, ⟨⟨rfl, ((h13.2.2.1 ((bi_z e5))).2 (e8)).1⟩, ⟨rfl, ⟨rfl, ⟨⟨rfl, ((h13.2.2.1 ((bi_z e5))).2 (e8)).1⟩, (tc_131_40 (d + 3) 9 (mm X (s2 (s2 (s2 (s2 (s2 i2 3 2 (((i2 3 2) * (Int32.ofNat 1103515245)) + (nI 12345))) 3 2 (((((i2 3 2) * (Int32.ofNat 1103515245)) + (nI 12345)) * (Int32.ofNat 1103515245)) + (nI 12345))) 10 ((i2 9 3).toNatClampNeg) x3) 11 ((i2 9 3).toNatClampNeg) (mxI (nI 0) (mnI (nI 999) ((((dyv (i2 9 3) (i2 11) ((i 9 3) - (nI 1))) + (nI 0)) + (rmI (ushI (((i2 3 2) * (Int32.ofNat 1103515245)) + (nI 12345)) (nI 16)) (nI 21))) - (nI 10))))) 12 ((i2 9 3).toNatClampNeg) (rmI (ushI (((((i2 3 2) * (Int32.ofNat 1103515245)) + (nI 12345)) * (Int32.ofNat 1103515245)) + (nI 12345)) (nI 16)) (nI 8))) j) _ ⟨rfl, ⟨rfl, ⟨rfl, ⟨rfl, ((h13.2.2.1 ((bi_z e5))).2 (e8)).2⟩⟩⟩⟩)⟩⟩⟩⟩⟩⟩⟩⟩⟩⟩⟩)⟩⟩⟩⟩⟩⟩⟩)⟩⟩)⟩⟩⟩⟩⟩⟩)⟩⟩, fun e5 => ⟨rfl, ⟨⟨rfl, (h13.2.2.2 ((bi_n e5))).1⟩, ⟨_, rfl, ⟨rfl, (te_7 (d + 3) 3 (nI 21) (mm X i2 j) _ ⟨rfl, ⟨rfl, ⟨fun e9 => absurd e9 (show ¬ ((nI 21) ≤ 0) by decide), fun _ => ⟨rfl, ⟨(by decide), ⟨_, rfl, (te_1465 (d + 3) ((((dyv (i2 9 3) (i2 11) ((i 9 3) - (nI 1))) + (i2 5 ((x3).toNatClampNeg))) + (rmI (ushI (((i2 3 2) * (Int32.ofNat 1103515245)) + (nI 12345)) (nI 16)) (nI 21))) - (nI 10)) (mm X (s2 i2 3 2 (((i2 3 2) * (Int32.ofNat 1103515245)) + (nI 12345))) j) _ ⟨_, rfl, ⟨rfl, (te_7 (d + 3) 3 (nI 8) (mm X (s2 i2 3 2 (((i2 3 2) * (Int32.ofNat 1103515245)) + (nI 12345))) j) _ ⟨rfl, ⟨rfl, ⟨fun e10 => absurd e10 (show ¬ ((nI 8) ≤ 0) by decide), fun _ => ⟨rfl, ⟨(by decide), ⟨_, rfl, ⟨rfl, (te_131 (d + 3) 9 x3 (mxI (nI 0) (mnI (nI 999) ((((dyv (i2 9 3) (i2 11) ((i 9 3) - (nI 1))) + (i2 5 ((x3).toNatClampNeg))) + (rmI (ushI (((i2 3 2) * (Int32.ofNat 1103515245)) + (nI 12345)) (nI 16)) (nI 21))) - (nI 10)))) (rmI (ushI (((((i2 3 2) * (Int32.ofNat 1103515245)) + (nI 12345)) * (Int32.ofNat 1103515245)) + (nI 12345)) (nI 16)) (nI 8)) (mm X (s2 (s2 i2 3 2 (((i2 3 2) * (Int32.ofNat 1103515245)) + (nI 12345))) 3 2 (((((i2 3 2) * (Int32.ofNat 1103515245)) + (nI 12345)) * (Int32.ofNat 1103515245)) + (nI 12345))) j) _ ⟨rfl, ⟨fun e11 => ⟨rfl, ⟨rfl, ((h13.2.2.2 ((bi_n e5))).2.1 (e11))⟩⟩, fun e11 => ⟨rfl, ⟨rfl, ⟨⟨rfl, ((h13.2.2.2 ((bi_n e5))).2.2 (e11)).1⟩, ⟨rfl, ⟨rfl, ⟨⟨rfl, ((h13.2.2.2 ((bi_n e5))).2.2 (e11)).1⟩, ⟨rfl, ⟨rfl, ⟨⟨rfl, ((h13.2.2.2 ((bi_n e5))).2.2 (e11)).1⟩, (tc_131_40 (d + 3) 9 (mm X (s2 (s2 (s2 (s2 (s2 i2 3 2 (((i2 3 2) * (Int32.ofNat 1103515245)) + (nI 12345))) 3 2 (((((i2 3 2) * (Int32.ofNat 1103515245)) + (nI 12345)) * (Int32.ofNat 1103515245)) + (nI 12345))) 10 ((i2 9 3).toNatClampNeg) x3) 11 ((i2 9 3).toNatClampNeg) (mxI (nI 0) (mnI (nI 999) ((((dyv (i2 9 3) (i2 11) ((i 9 3) - (nI 1))) + (i2 5 ((x3).toNatClampNeg))) + (rmI (ushI (((i2 3 2) * (Int32.ofNat 1103515245)) + (nI 12345)) (nI 16)) (nI 21))) - (nI 10))))) 12 ((i2 9 3).toNatClampNeg) (rmI (ushI (((((i2 3 2) * (Int32.ofNat 1103515245)) + (nI 12345)) * (Int32.ofNat 1103515245)) + (nI 12345)) (nI 16)) (nI 8))) j) _ ⟨rfl, ⟨rfl, ⟨rfl, ⟨rfl, ((h13.2.2.2 ((bi_n e5))).2.2 (e11)).2⟩⟩⟩⟩)⟩⟩⟩⟩⟩⟩⟩⟩⟩⟩⟩)⟩⟩⟩⟩⟩⟩⟩)⟩⟩)⟩⟩⟩⟩⟩⟩)⟩⟩⟩⟩⟩))⟩)⟩)⟩, fun e4 => absurd ((e1)) e4⟩)⟩⟩)⟩, fun e1 => ⟨rfl, (Exists.elim (h.2 (e1)) fun x16 h25 => Exists.elim h25 fun i15 h26 => EvI.use h26.1 ⟨fun e17 => absurd e17 ((e1)), fun _ => (tc_9_42 (d + 3) 3 9 x16 (nI 500) (mm X i15 j) _ ⟨rfl, (te_5 (d + 2) 3 x16 (mm X i15 j) _ (p_1463 (d + 1) X i15 j x16 _ ⟨fun e18 => ⟨_, rfl, ⟨rfl, (te_7 (d + 3) 3 (nI 21) (mm X i15 j) _ ⟨rfl, ⟨rfl, ⟨fun e19 => absurd e19 (show ¬ ((nI 21) ≤ 0) by decide), fun _ => ⟨rfl, ⟨(by decide), ⟨_, rfl, (te_1465 (d + 3) (((nI 500) + (rmI (ushI (((i15 3 2) * (Int32.ofNat 1103515245)) + (nI 12345)) (nI 16)) (nI 21))) - (nI 10)) (mm X (s2 i15 3 2 (((i15 3 2) * (Int32.ofNat 1103515245)) + (nI 12345))) j) _ ⟨_, rfl, ⟨rfl, (te_7 (d + 3) 3 (nI 8) (mm X (s2 i15 3 2 (((i15 3 2) * (Int32.ofNat 1103515245)) + (nI 12345))) j) _ ⟨rfl, ⟨rfl, ⟨fun e20 => absurd e20 (show ¬ ((nI 8) ≤ 0) by decide), fun _ => ⟨rfl, ⟨(by decide), ⟨_, rfl, ⟨rfl, (te_131 (d + 3) 9 x16 (mxI (nI 0) (mnI (nI 999) (((nI 500) + (rmI (ushI (((i15 3 2) * (Int32.ofNat 1103515245)) + (nI 12345)) (nI 16)) (nI 21))) - (nI 10)))) (rmI (ushI (((((i15 3 2) * (Int32.ofNat 1103515245)) + (nI 12345)) * (Int32.ofNat 1103515245)) + (nI 12345)) (nI 16)) (nI 8)) (mm X (s2 (s2 i15 3 2 (((i15 3 2) * (Int32.ofNat 1103515245)) + (nI 12345))) 3 2 (((((i15 3 2) * (Int32.ofNat 1103515245)) + (nI 12345)) * (Int32.ofNat 1103515245)) + (nI 12345))) j) _ ⟨rfl, ⟨fun e21 => ⟨rfl, ⟨rfl, ((h26.2.1 ((bi_z e18))).1 (e21))⟩⟩, fun e21 => ⟨rfl, ⟨rfl, ⟨⟨rfl, ((h26.2.1 ((bi_z e18))).2 (e21)).1⟩, ⟨rfl, ⟨rfl, ⟨⟨rfl, ((h26.2.1 ((bi_z e18))).2 (e21)).1⟩, ⟨rfl, ⟨rfl, ⟨⟨rfl, ((h26.2.1 ((bi_z e18))).2 (e21)).1⟩, (tc_131_40 (d + 3) 9 (mm X (s2 (s2 (s2 (s2 (s2 i15 3 2 (((i15 3 2) * (Int32.ofNat 1103515245)) + (nI 12345))) 3 2 (((((i15 3 2) * (Int32.ofNat 1103515245)) + (nI 12345)) * (Int32.ofNat 1103515245)) + (nI 12345))) 10 ((i15 9 3).toNatClampNeg) x16) 11 ((i15 9 3).toNatClampNeg) (mxI (nI 0) (mnI (nI 999) (((nI 500) + (rmI (ushI (((i15 3 2) * (Int32.ofNat 1103515245)) + (nI 12345)) (nI 16)) (nI 21))) - (nI 10))))) 12 ((i15 9 3).toNatClampNeg) (rmI (ushI (((((i15 3 2) * (Int32.ofNat 1103515245)) + (nI 12345)) * (Int32.ofNat 1103515245)) + (nI 12345)) (nI 16)) (nI 8))) j) _ ⟨rfl, ⟨rfl, ⟨rfl, ⟨rfl, ((h26.2.1 ((bi_z e18))).2 (e21)).2⟩⟩⟩⟩)⟩⟩⟩⟩⟩⟩⟩⟩⟩⟩⟩)⟩⟩⟩⟩⟩⟩⟩)⟩⟩)⟩⟩⟩⟩⟩⟩)⟩⟩, fun e18 => ⟨rfl, ⟨⟨rfl, (h26.2.2 ((bi_n e18))).1⟩, ⟨_, rfl, ⟨rfl, (te_7 (d + 3) 3 (nI 21) (mm X i15 j) _ ⟨rfl, ⟨rfl, ⟨fun e22 => absurd e22 (show ¬ ((nI 21) ≤ 0) by decide), fun _ => ⟨rfl, ⟨(by decide), ⟨_, rfl, (te_1465 (d + 3) ((((nI 500) + (i15 5 ((x16).toNatClampNeg))) + (rmI (ushI (((i15 3 2) * (Int32.ofNat 1103515245)) + (nI 12345)) (nI 16)) (nI 21))) - (nI 10)) (mm X (s2 i15 3 2 (((i15 3 2) * (Int32.ofNat 1103515245)) + (nI 12345))) j) _ ⟨_, rfl, ⟨rfl, (te_7 (d + 3) 3 (nI 8) (mm X (s2 i15 3 2 (((i15 3 2) * (Int32.ofNat 1103515245)) + (nI 12345))) j) _ ⟨rfl, ⟨rfl, ⟨fun e23 => absurd e23 (show ¬ ((nI 8) ≤ 0) by decide), fun _ => ⟨rfl, ⟨(by decide), ⟨_, rfl, ⟨rfl, (te_131 (d + 3) 9 x16 (mxI (nI 0) (mnI (nI 999) ((((nI 500) + (i15 5 ((x16).toNatClampNeg))) + (rmI (ushI (((i15 3 2) * (Int32.ofNat 1103515245)) + (nI 12345)) (nI 16)) (nI 21))) - (nI 10)))) (rmI (ushI (((((i15 3 2) * (Int32.ofNat 1103515245)) + (nI 12345)) * (Int32.ofNat 1103515245)) + (nI 12345)) (nI 16)) (nI 8)) (mm X (s2 (s2 i15 3 2 (((i15 3 2) * (Int32.ofNat 1103515245)) + (nI 12345))) 3 2 (((((i15 3 2) * (Int32.ofNat 1103515245)) + (nI 12345)) * (Int32.ofNat 1103515245)) + (nI 12345))) j) _ ⟨rfl, ⟨fun e24 => ⟨rfl, ⟨rfl, ((h26.2.2 ((bi_n e18))).2.1 (e24))⟩⟩, fun e24 => ⟨rfl, ⟨rfl, ⟨⟨rfl, ((h26.2.2 ((bi_n e18))).2.2 (e24)).1⟩, ⟨rfl, ⟨rfl, ⟨⟨rfl, ((h26.2.2 ((bi_n e18))).2.2 (e24)).1⟩, ⟨rfl, ⟨rfl, ⟨⟨rfl, ((h26.2.2 ((bi_n e18))).2.2 (e24)).1⟩, (tc_131_40 (d + 3) 9 (mm X (s2 (s2 (s2 (s2 (s2 i15 3 2 (((i15 3 2) * (Int32.ofNat 1103515245)) + (nI 12345))) 3 2 (((((i15 3 2) * (Int32.ofNat 1103515245)) + (nI 12345)) * (Int32.ofNat 1103515245)) + (nI 12345))) 10 ((i15 9 3).toNatClampNeg) x16) 11 ((i15 9 3).toNatClampNeg) (mxI (nI 0) (mnI (nI 999) ((((nI 500) + (i15 5 ((x16).toNatClampNeg))) + (rmI (ushI (((i15 3 2) * (Int32.ofNat 1103515245)) + (nI 12345)) (nI 16)) (nI 21))) - (nI 10))))) 12 ((i15 9 3).toNatClampNeg) (rmI (ushI (((((i15 3 2) * (Int32.ofNat 1103515245)) + (nI 12345)) * (Int32.ofNat 1103515245)) + (nI 12345)) (nI 16)) (nI 8))) j) _ ⟨rfl, ⟨rfl, ⟨rfl, ⟨rfl, ((h26.2.2 ((bi_n e18))).2.2 (e24)).2⟩⟩⟩⟩)⟩⟩⟩⟩⟩⟩⟩⟩⟩⟩⟩)⟩⟩⟩⟩⟩⟩⟩)⟩⟩)⟩⟩⟩⟩⟩⟩)⟩⟩⟩⟩⟩))⟩)⟩)⟩⟩⟩⟩)⟩
theorem c_9_9 (d : Nat) (X : XS) (i : Nat → Nat → Int32) (j : Nat → Nat → Int64) {W : Nat → Nat} (hW : ∀ q, q < 16 → i 4 q = nI (W q) ∧ W q < 10) {n : Nat} (hn : n < 240) {w a k : Nat → Int32} (hD : DY X 9 i n w a k) {l : Nat} (hl : l < 4) (l0 : n = 0 → l = 0) (l1 : 0 < n → w (n - 1) = nI l) {a0 : Int32} (b0 : n = 0 → a0 = nI 500) (b1 : 0 < n → a (n - 1) = a0) {v : Nat} {r : Int32} (h : DW W l (i 3 2) v r)
    (h1 : w n = nI v) (h2 : a n = mkA a0 (i 5 v) (rn r)) (h3 : k n = mkK (rn (rn r))) :
    ∃ i', EvV (d + 4) 9 [.ref 3, .ref 9] (mm X i j) (mm X i' j) ∧ i' 3 2 = rn (rn r) ∧ DY X 9 i' (n + 1) w a k ∧ (∀ b, b ≠ 3 → b ≠ 9 → b ≠ 10 → b ≠ 11 → b ≠ 12 → i' b = i b) := by
  have e1 := hD.1.1
  have hv4 := h.lt hl
  obtain ⟨iA, hA⟩ : ∃ iA, iA = s2 i 3 2 r := ⟨_, rfl⟩
  have fA : ∀ b, b ≠ 3 → iA b = i b := fun b hb => by rw [hA, s2_ne hb]
  have rA : iA 3 2 = r := by rw [hA, s2_self]
  have v0 : nI 0 ≤ nI v ∧ nI v ≤ nI 3 := ⟨nI_le (by omega) (by omega), nI_le (by omega) (by decide)⟩
  have hDA : DY X 9 iA n w a k := hD.kp (fA 9 (by decide)) (fA 10 (by decide)) (fA 11 (by decide)) (fA 12 (by decide))
  have fin : ∃ i', i' = (s2 (s2 (s2 (s2 (s2 (s2 iA 3 2 (rn r)) 3 2 (rn (rn r))) 10 n (nI v)) 11 n (mkA a0 (i 5 v) (rn r))) 12 n (mkK (rn (rn r)))) 9 3 (nI n + nI 1)) ∧ i' 3 2 = rn (rn r) ∧ DY X 9 i' (n + 1) w a k ∧ (∀ b, b ≠ 3 → b ≠ 9 → b ≠ 10 → b ≠ 11 → b ≠ 12 → i' b = i b) := by
    refine ⟨_, rfl, ?_, ?_, fun b x3 x4 x5 x6 x7 => ?_⟩
    · rw [s2_ne (show 3 ≠ 9 by decide), s2_ne (show 3 ≠ 12 by decide), s2_ne (show 3 ≠ 11 by decide), s2_ne (show 3 ≠ 10 by decide), s2_self]
    · refine dy_add (p := 10) (q := 11) (r := 12) rfl rfl rfl ⟨by decide, by decide, by decide, by decide, by decide, by decide⟩ ?_ hn h1 h2 h3
      have g : ∀ b, b ≠ 3 → (s2 (s2 iA 3 2 (rn r)) 3 2 (rn (rn r))) b = iA b := fun b hb => by rw [s2_ne hb, s2_ne hb]
      exact hDA.kp (g 9 (by decide)) (g 10 (by decide)) (g 11 (by decide)) (g 12 (by decide))
    · rw [s2_ne x4, s2_ne x7, s2_ne x6, s2_ne x5, s2_ne x3, s2_ne x3]; exact fA b x3
  obtain ⟨i', hi', q1, q2, q3⟩ := fin
  refine ⟨i', ?_, q1, q2, q3⟩
  have eA : iA 9 3 = nI n := (congrFun (fA 9 (by decide)) 3).trans e1
  refine s_9_9 _ X i j _ ?_
  rw [e1]
  refine br_c (fun z => ?_) (fun z => ?_)
  · have n0 : 0 < n := by
      refine Nat.pos_of_ne_zero fun e => ?_
      subst e
      exact absurd z (by decide)
    refine ⟨nI_le (by omega) (by decide), nI v, iA, ?_, ?_⟩
    · have hh := c_8 (d := d) X i j hW hl h
      rw [← hA] at hh
      have hw1 : dyv (nI n) (i 10) (nI (n - 1)) = nI l := by
        have q := hD.dw (t := n - 1) (by omega)
        rw [e1] at q
        exact q.trans ((wv_in (by omega)).trans (l1 n0))
      rw [pk_sub (by omega), hw1]
      exact hh
    · rw [eA, rA, tc_nI (by omega), tc_nI (by omega)]
      refine ⟨nI_le (by omega) (by decide), bq_f v0 ⟨vp_in_nI (by omega) (by decide), br_f (nI_ge hn (by decide)) ⟨vp_in_nI hn (by decide), ?_⟩⟩⟩
      rw [hi']
      have ea : dyv (nI n) (iA 11) (nI n - nI 1) = a0 := by
        have q := hDA.da (t := n - 1) (by omega)
        rw [eA] at q
        rw [pk_sub (by omega)]
        exact q.trans ((wv_in (by omega)).trans (b1 n0))
      rw [ea, fA 5 (by decide)]
      rfl
  · have n0 : n = 0 := Classical.byContradiction fun e => z (by rw [pk_sub (by omega)]; exact nI_pos' (by omega))
    refine ⟨nI v, iA, ?_, ?_⟩
    · have hh := c_8 (d := d) X i j hW hl h
      rw [← hA, l0 n0] at hh
      exact hh
    · rw [eA, rA, tc_nI (by omega), tc_nI (by omega)]
      refine bq_f v0 ⟨vp_in_nI (by omega) (by decide), br_f (nI_ge hn (by decide)) ⟨vp_in_nI hn (by decide), ?_⟩⟩
      rw [hi', b0 n0, fA 5 (by decide)]
      rfl

set_option maxRecDepth 100000 in
theorem s_1552 (d : Nat) (X : XS) (i : Nat → Nat → Int32) (j : Nat → Nat → Int64)  (K : AM → Prop) (h : ((¬ ((i 42 0) = 0) → (vp_in ((i 42 0) - (nI 1)) 240) ∧ WP (d + 1) 1552 (27, [(0, .ref 42), (1, .int (i 43 (((i 42 0) - (nI 1)).toNatClampNeg))), (2, .int (nI 0)), (3, .int (nI 0))], [], (mm X i j)) (qV K)) ∧ ((i 42 0) = 0 → WP (d + 1) 1552 (27, [(0, .ref 42), (1, .int (nI 0)), (2, .int (nI 0)), (3, .int (nI 0))], [], (mm X i j)) (qV K)))) : WV (d + 1) 1552 [.ref 42] (mm X i j) K := te_1552 d 42 (mm X i j) (qV K) ⟨rfl, ⟨fun e1 => ⟨rfl, ⟨rfl, ⟨⟨rfl, (h.1 (e1)).1⟩, (h.1 (e1)).2⟩⟩⟩, fun e1 => (h.2 ((Classical.byContradiction e1)))⟩⟩
set_option maxRecDepth 100000 in
theorem s_1552_27 (d : Nat) (X : XS) (i : Nat → Nat → Int32) (j : Nat → Nat → Int64) (v1 : Int32) (v2 : Int32) (v3 : Int32) (Q : Option (Option Value) → AM → Prop) (h : (((nI 4) ≤ v3 → ((v2 ≤ 0 → ((¬ ((i 42 0) = 0) → (vp_in ((i 42 0) - (nI 1)) 240) ∧ (vp_in v1 4) ∧ (vp_in (i 42 0) 240) ∧ Q (some none) (mm X (s2 (s2 (s2 (s2 (s2 (s2 i 42 6 (((i 42 6) * (Int32.ofNat 1103515245)) + (nI 12345))) 42 6 (((((i 42 6) * (Int32.ofNat 1103515245)) + (nI 12345)) * (Int32.ofNat 1103515245)) + (nI 12345))) 43 ((i 42 0).toNatClampNeg) v1) 44 ((i 42 0).toNatClampNeg) (mxI (nI 0) (mnI (nI 999) ((((i 44 (((i 42 0) - (nI 1)).toNatClampNeg)) + (i 47 ((v1).toNatClampNeg))) + (rmI (ushI (((i 42 6) * (Int32.ofNat 1103515245)) + (nI 12345)) (nI 16)) (nI 21))) - (nI 10))))) 45 ((i 42 0).toNatClampNeg) (rmI (ushI (((((i 42 6) * (Int32.ofNat 1103515245)) + (nI 12345)) * (Int32.ofNat 1103515245)) + (nI 12345)) (nI 16)) (nI 8))) 42 0 ((i 42 0) + (nI 1))) j)) ∧ ((i 42 0) = 0 → (vp_in v1 4) ∧ (vp_in (i 42 0) 240) ∧ Q (some none) (mm X (s2 (s2 (s2 (s2 (s2 (s2 i 42 6 (((i 42 6) * (Int32.ofNat 1103515245)) + (nI 12345))) 42 6 (((((i 42 6) * (Int32.ofNat 1103515245)) + (nI 12345)) * (Int32.ofNat 1103515245)) + (nI 12345))) 43 ((i 42 0).toNatClampNeg) v1) 44 ((i 42 0).toNatClampNeg) (mxI (nI 0) (mnI (nI 999) ((((nI 500) + (i 47 ((v1).toNatClampNeg))) + (rmI (ushI (((i 42 6) * (Int32.ofNat 1103515245)) + (nI 12345)) (nI 16)) (nI 21))) - (nI 10))))) 45 ((i 42 0).toNatClampNeg) (rmI (ushI (((((i 42 6) * (Int32.ofNat 1103515245)) + (nI 12345)) * (Int32.ofNat 1103515245)) + (nI 12345)) (nI 16)) (nI 8))) 42 0 ((i 42 0) + (nI 1))) j)))) ∧ (¬ (v2 ≤ 0) → (¬ v2 = 0) ∧ WP (d + 1) 1552 (68, [(0, .ref 42), (1, .int (nI 0)), (3, .int (rmI (ushI (((i 42 6) * (Int32.ofNat 1103515245)) + (nI 12345)) (nI 16)) v2)), (4, .int ((nI 4) * v1))], [], (mm X (s2 i 42 6 (((i 42 6) * (Int32.ofNat 1103515245)) + (nI 12345))) j)) Q))) ∧ (¬ ((nI 4) ≤ v3) → (vp_in (((nI 4) * v1) + v3) 16) ∧ WP (d + 1) 1552 (27, [(0, .ref 42), (1, .int v1), (2, .int (v2 + (i 46 ((((nI 4) * v1) + v3).toNatClampNeg)))), (3, .int (v3 + (nI 1)))], [], (mm X i j)) Q))) : WP (d + 1) 1552 (27, [(0, .ref 42), (1, .int v1), (2, .int v2), (3, .int v3)], [], mm X i j) Q := tc_1552_27 d 42 v1 v2 v3 (mm X i j) Q ⟨fun e2 => ⟨fun e3 => ⟨rfl, ⟨fun e4 => ⟨rfl, ⟨rfl, ⟨⟨rfl, (((h.1 (e2)).1 (e3)).1 (e4)).1⟩, ⟨rfl, ⟨⟨rfl, (((h.1 (e2)).1 (e3)).1 (e4)).2.1⟩, ⟨rfl, (te_1551 d 42 (nI 21) (mm X i j) _ ⟨rfl, ⟨rfl, ⟨rfl, ⟨(by decide), ⟨_, rfl, (tc_1552_141 d 42 v1 ((((i 44 (((i 42 0) - (nI 1)).toNatClampNeg)) + (i 47 ((v1).toNatClampNeg))) + (rmI (ushI (((i 42 6) * (Int32.ofNat 1103515245)) + (nI 12345)) (nI 16)) (nI 21))) - (nI 10)) (mm X (s2 i 42 6 (((i 42 6) * (Int32.ofNat 1103515245)) + (nI 12345))) j) _ ⟨rfl, (te_1551 d 42 (nI 8) (mm X (s2 i 42 6 (((i 42 6) * (Int32.ofNat 1103515245)) + (nI 12345))) j) _ ⟨rfl, ⟨rfl, ⟨rfl, ⟨(by decide), ⟨_, rfl, ⟨rfl, (te_1548 d 42 v1 (mxI (nI 0) (mnI (nI 999) ((((i 44 (((i 42 0) - (nI 1)).toNatClampNeg)) + (i 47 ((v1).toNatClampNeg))) + (rmI (ushI (((i 42 6) * (Int32.ofNat 1103515245)) + (nI 12345)) (nI 16)) (nI 21))) - (nI 10)))) (rmI (ushI (((((i 42 6) * (Int32.ofNat 1103515245)) + (nI 12345)) * (Int32.ofNat 1103515245)) + (nI 12345)) (nI 16)) (nI 8)) (mm X (s2 (s2 i 42 6 (((i 42 6) * (Int32.ofNat 1103515245)) + (nI 12345))) 42 6 (((((i 42 6) * (Int32.ofNat 1103515245)) + (nI 12345)) * (Int32.ofNat 1103515245)) + (nI 12345))) j) _ ⟨rfl, ⟨rfl, ⟨⟨rfl, (((h.1 (e2)).1 (e3)).1 (e4)).2.2.1⟩, ⟨rfl, ⟨rfl, ⟨⟨rfl, (((h.1 (e2)).1 (e3)).1 (e4)).2.2.1⟩, ⟨rfl, ⟨rfl, ⟨⟨rfl, (((h.1 (e2)).1 (e3)).1 (e4)).2.2.1⟩, (tc_1548_30 d 42 (mm X (s2 (s2 (s2 (s2 (s2 i 42 6 (((i 42 6) * (Int32.ofNat 1103515245)) + (nI 12345))) 42 6 (((((i 42 6) * (Int32.ofNat 1103515245)) + (nI 12345)) * (Int32.ofNat 1103515245)) + (nI 12345))) 43 ((i 42 0).toNatClampNeg) v1) 44 ((i 42 0).toNatClampNeg) (mxI (nI 0) (mnI (nI 999) ((((i 44 (((i 42 0) - (nI 1)).toNatClampNeg)) + (i 47 ((v1).toNatClampNeg))) + (rmI (ushI (((i 42 6) * (Int32.ofNat 1103515245)) + (nI 12345)) (nI 16)) (nI 21))) - (nI 10))))) 45 ((i 42 0).toNatClampNeg) (rmI (ushI (((((i 42 6) * (Int32.ofNat 1103515245)) + (nI 12345)) * (Int32.ofNat 1103515245)) + (nI 12345)) (nI 16)) (nI 8))) j) _ ⟨rfl, ⟨rfl, ⟨rfl, (((h.1 (e2)).1 (e3)).1 (e4)).2.2.2⟩⟩⟩)⟩⟩⟩⟩⟩⟩⟩⟩⟩)⟩⟩⟩⟩⟩⟩)⟩)⟩⟩⟩⟩⟩)⟩⟩⟩⟩⟩⟩, fun e4 => ⟨rfl, ⟨⟨rfl, (((h.1 (e2)).1 (e3)).2 ((Classical.byContradiction e4))).1⟩, ⟨rfl, (te_1551 d 42 (nI 21) (mm X i j) _ ⟨rfl, ⟨rfl, ⟨rfl, ⟨(by decide), ⟨_, rfl, (tc_1552_141 d 42 v1 ((((nI 500) + (i 47 ((v1).toNatClampNeg))) + (rmI (ushI (((i 42 6) * (Int32.ofNat 1103515245)) + (nI 12345)) (nI 16)) (nI 21))) - (nI 10)) (mm X (s2 i 42 6 (((i 42 6) * (Int32.ofNat 1103515245)) + (nI 12345))) j) _ ⟨rfl, (te_1551 d 42 (nI 8) (mm X (s2 i 42 6 (((i 42 6) * (Int32.ofNat 1103515245)) + (nI 12345))) j) _ ⟨rfl, ⟨rfl, ⟨rfl, ⟨(by decide), ⟨_, rfl, ⟨rfl, (te_1548 d 42 v1 (mxI (nI 0) (mnI (nI 999) ((((nI 500) + (i 47 ((v1).toNatClampNeg))) + (rmI (ushI (((i 42 6) * (Int32.ofNat 1103515245)) + (nI 12345)) (nI 16)) (nI 21))) - (nI 10)))) (rmI (ushI (((((i 42 6) * (Int32.ofNat 1103515245)) + (nI 12345)) * (Int32.ofNat 1103515245)) + (nI 12345)) (nI 16)) (nI 8)) (mm X (s2 (s2 i 42 6 (((i 42 6) * (Int32.ofNat 1103515245)) + (nI 12345))) 42 6 (((((i 42 6) * (Int32.ofNat 1103515245)) + (nI 12345)) * (Int32.ofNat 1103515245)) + (nI 12345))) j) _ ⟨rfl, ⟨rfl, ⟨⟨rfl, (((h.1 (e2)).1 (e3)).2 ((Classical.byContradiction e4))).2.1⟩, ⟨rfl, ⟨rfl, ⟨⟨rfl, (((h.1 (e2)).1 (e3)).2 ((Classical.byContradiction e4))).2.1⟩, ⟨rfl, ⟨rfl, ⟨⟨rfl, (((h.1 (e2)).1 (e3)).2 ((Classical.byContradiction e4))).2.1⟩, (tc_1548_30 d 42 (mm X (s2 (s2 (s2 (s2 (s2 i 42 6 (((i 42 6) * (Int32.ofNat 1103515245)) + (nI 12345))) 42 6 (((((i 42 6) * (Int32.ofNat 1103515245)) + (nI 12345)) * (Int32.ofNat 1103515245)) + (nI 12345))) 43 ((i 42 0).toNatClampNeg) v1) 44 ((i 42 0).toNatClampNeg) (mxI (nI 0) (mnI (nI 999) ((((nI 500) + (i 47 ((v1).toNatClampNeg))) + (rmI (ushI (((i 42 6) * (Int32.ofNat 1103515245)) + (nI 12345)) (nI 16)) (nI 21))) - (nI 10))))) 45 ((i 42 0).toNatClampNeg) (rmI (ushI (((((i 42 6) * (Int32.ofNat 1103515245)) + (nI 12345)) * (Int32.ofNat 1103515245)) + (nI 12345)) (nI 16)) (nI 8))) j) _ ⟨rfl, ⟨rfl, ⟨rfl, (((h.1 (e2)).1 (e3)).2 ((Classical.byContradiction e4))).2.2⟩⟩⟩)⟩⟩⟩⟩⟩⟩⟩⟩⟩)⟩⟩⟩⟩⟩⟩)⟩)⟩⟩⟩⟩⟩)⟩⟩⟩⟩⟩, fun e3 => ⟨rfl, (te_1551 d 42 v2 (mm X i j) _ ⟨rfl, ⟨rfl, ⟨rfl, ⟨((h.1 (e2)).2 (e3)).1, ⟨_, rfl, ((h.1 (e2)).2 (e3)).2⟩⟩⟩⟩⟩)⟩⟩, fun e2 => ⟨rfl, ⟨⟨rfl, (h.2 (e2)).1⟩, (h.2 (e2)).2⟩⟩⟩
set_option maxRecDepth 100000 in
theorem s_1552_68 (d : Nat) (X : XS) (i : Nat → Nat → Int32) (j : Nat → Nat → Int64) (v1 : Int32) (v3 : Int32) (v4 : Int32) (Q : Option (Option Value) → AM → Prop) (h : (vp_in (v4 + v1) 16) ∧ ((v3 < (i 46 ((v4 + v1).toNatClampNeg)) → ((¬ ((i 42 0) = 0) → (vp_in ((i 42 0) - (nI 1)) 240) ∧ (vp_in v1 4) ∧ (vp_in (i 42 0) 240) ∧ Q (some none) (mm X (s2 (s2 (s2 (s2 (s2 (s2 i 42 6 (((i 42 6) * (Int32.ofNat 1103515245)) + (nI 12345))) 42 6 (((((i 42 6) * (Int32.ofNat 1103515245)) + (nI 12345)) * (Int32.ofNat 1103515245)) + (nI 12345))) 43 ((i 42 0).toNatClampNeg) v1) 44 ((i 42 0).toNatClampNeg) (mxI (nI 0) (mnI (nI 999) ((((i 44 (((i 42 0) - (nI 1)).toNatClampNeg)) + (i 47 ((v1).toNatClampNeg))) + (rmI (ushI (((i 42 6) * (Int32.ofNat 1103515245)) + (nI 12345)) (nI 16)) (nI 21))) - (nI 10))))) 45 ((i 42 0).toNatClampNeg) (rmI (ushI (((((i 42 6) * (Int32.ofNat 1103515245)) + (nI 12345)) * (Int32.ofNat 1103515245)) + (nI 12345)) (nI 16)) (nI 8))) 42 0 ((i 42 0) + (nI 1))) j)) ∧ ((i 42 0) = 0 → (vp_in v1 4) ∧ (vp_in (i 42 0) 240) ∧ Q (some none) (mm X (s2 (s2 (s2 (s2 (s2 (s2 i 42 6 (((i 42 6) * (Int32.ofNat 1103515245)) + (nI 12345))) 42 6 (((((i 42 6) * (Int32.ofNat 1103515245)) + (nI 12345)) * (Int32.ofNat 1103515245)) + (nI 12345))) 43 ((i 42 0).toNatClampNeg) v1) 44 ((i 42 0).toNatClampNeg) (mxI (nI 0) (mnI (nI 999) ((((nI 500) + (i 47 ((v1).toNatClampNeg))) + (rmI (ushI (((i 42 6) * (Int32.ofNat 1103515245)) + (nI 12345)) (nI 16)) (nI 21))) - (nI 10))))) 45 ((i 42 0).toNatClampNeg) (rmI (ushI (((((i 42 6) * (Int32.ofNat 1103515245)) + (nI 12345)) * (Int32.ofNat 1103515245)) + (nI 12345)) (nI 16)) (nI 8))) 42 0 ((i 42 0) + (nI 1))) j)))) ∧ (¬ (v3 < (i 46 ((v4 + v1).toNatClampNeg))) → WP (d + 1) 1552 (68, [(0, .ref 42), (1, .int (v1 + (nI 1))), (3, .int (v3 - (i 46 ((v4 + v1).toNatClampNeg)))), (4, .int v4)], [], (mm X i j)) Q))) : WP (d + 1) 1552 (68, [(0, .ref 42), (1, .int v1), (3, .int v3), (4, .int v4)], [], mm X i j) Q := tc_1552_68 d 42 v1 v3 v4 (mm X i j) Q ⟨rfl, ⟨⟨rfl, h.1⟩, ⟨fun e5 => ⟨rfl, ⟨fun e6 => ⟨rfl, ⟨rfl, ⟨⟨rfl, ((h.2.1 (e5)).1 (e6)).1⟩, ⟨rfl, ⟨⟨rfl, ((h.2.1 (e5)).1 (e6)).2.1⟩, ⟨rfl, (te_1551 d 42 (nI 21) (mm X i j) _ ⟨rfl, ⟨rfl, ⟨rfl, ⟨(by decide), ⟨_, rfl, (tc_1552_141 d 42 v1 ((((i 44 (((i 42 0) - (nI 1)).toNatClampNeg)) + (i 47 ((v1).toNatClampNeg))) + (rmI (ushI (((i 42 6) * (Int32.ofNat 1103515245)) + (nI 12345)) (nI 16)) (nI 21))) - (nI 10)) (mm X (s2 i 42 6 (((i 42 6) * (Int32.ofNat 1103515245)) + (nI 12345))) j) _ ⟨rfl, (te_1551 d 42 (nI 8) (mm X (s2 i 42 6 (((i 42 6) * (Int32.ofNat 1103515245)) + (nI 12345))) j) _ ⟨rfl, ⟨rfl, ⟨rfl, ⟨(by decide), ⟨_, rfl, ⟨rfl, (te_1548 d 42 v1 (mxI (nI 0) (mnI (nI 999) ((((i 44 (((i 42 0) - (nI 1)).toNatClampNeg)) + (i 47 ((v1).toNatClampNeg))) + (rmI (ushI (((i 42 6) * (Int32.ofNat 1103515245)) + (nI 12345)) (nI 16)) (nI 21))) - (nI 10)))) (rmI (ushI (((((i 42 6) * (Int32.ofNat 1103515245)) + (nI 12345)) * (Int32.ofNat 1103515245)) + (nI 12345)) (nI 16)) (nI 8)) (mm X (s2 (s2 i 42 6 (((i 42 6) * (Int32.ofNat 1103515245)) + (nI 12345))) 42 6 (((((i 42 6) * (Int32.ofNat 1103515245)) + (nI 12345)) * (Int32.ofNat 1103515245)) + (nI 12345))) j) _ ⟨rfl, ⟨rfl, ⟨⟨rfl, ((h.2.1 (e5)).1 (e6)).2.2.1⟩, ⟨rfl, ⟨rfl, ⟨⟨rfl, ((h.2.1 (e5)).1 (e6)).2.2.1⟩, ⟨rfl, ⟨rfl, ⟨⟨rfl, ((h.2.1 (e5)).1 (e6)).2.2.1⟩, (tc_1548_30 d 42 (mm X (s2 (s2 (s2 (s2 (s2 i 42 6 (((i 42 6) * (Int32.ofNat 1103515245)) + (nI 12345))) 42 6 (((((i 42 6) * (Int32.ofNat 1103515245)) + (nI 12345)) * (Int32.ofNat 1103515245)) + (nI 12345))) 43 ((i 42 0).toNatClampNeg) v1) 44 ((i 42 0).toNatClampNeg) (mxI (nI 0) (mnI (nI 999) ((((i 44 (((i 42 0) - (nI 1)).toNatClampNeg)) + (i 47 ((v1).toNatClampNeg))) + (rmI (ushI (((i 42 6) * (Int32.ofNat 1103515245)) + (nI 12345)) (nI 16)) (nI 21))) - (nI 10))))) 45 ((i 42 0).toNatClampNeg) (rmI (ushI (((((i 42 6) * (Int32.ofNat 1103515245)) + (nI 12345)) * (Int32.ofNat 1103515245)) + (nI 12345)) (nI 16)) (nI 8))) j) _ ⟨rfl, ⟨rfl, ⟨rfl, ((h.2.1 (e5)).1 (e6)).2.2.2⟩⟩⟩)⟩⟩⟩⟩⟩⟩⟩⟩⟩)⟩⟩⟩⟩⟩⟩)⟩)⟩⟩⟩⟩⟩)⟩⟩⟩⟩⟩⟩, fun e6 => ⟨rfl, ⟨⟨rfl, ((h.2.1 (e5)).2 ((Classical.byContradiction e6))).1⟩, ⟨rfl, (te_1551 d 42 (nI 21) (mm X i j) _ ⟨rfl, ⟨rfl, ⟨rfl, ⟨(by decide), ⟨_, rfl, (tc_1552_141 d 42 v1 ((((nI 500) + (i 47 ((v1).toNatClampNeg))) + (rmI (ushI (((i 42 6) * (Int32.ofNat 1103515245)) + (nI 12345)) (nI 16)) (nI 21))) - (nI 10)) (mm X (s2 i 42 6 (((i 42 6) * (Int32.ofNat 1103515245)) + (nI 12345))) j) _ ⟨rfl, (te_1551 d 42 (nI 8) (mm X (s2 i 42 6 (((i 42 6) * (Int32.ofNat 1103515245)) + (nI 12345))) j) _ ⟨rfl, ⟨rfl, ⟨rfl, ⟨(by decide), ⟨_, rfl, ⟨rfl, (te_1548 d 42 v1 (mxI (nI 0) (mnI (nI 999) ((((nI 500) + (i 47 ((v1).toNatClampNeg))) + (rmI (ushI (((i 42 6) * (Int32.ofNat 1103515245)) + (nI 12345)) (nI 16)) (nI 21))) - (nI 10)))) (rmI (ushI (((((i 42 6) * (Int32.ofNat 1103515245)) + (nI 12345)) * (Int32.ofNat 1103515245)) + (nI 12345)) (nI 16)) (nI 8)) (mm X (s2 (s2 i 42 6 (((i 42 6) * (Int32.ofNat 1103515245)) + (nI 12345))) 42 6 (((((i 42 6) * (Int32.ofNat 1103515245)) + (nI 12345)) * (Int32.ofNat 1103515245)) + (nI 12345))) j) _ ⟨rfl, ⟨rfl, ⟨⟨rfl, ((h.2.1 (e5)).2 ((Classical.byContradiction e6))).2.1⟩, ⟨rfl, ⟨rfl, ⟨⟨rfl, ((h.2.1 (e5)).2 ((Classical.byContradiction e6))).2.1⟩, ⟨rfl, ⟨rfl, ⟨⟨rfl, ((h.2.1 (e5)).2 ((Classical.byContradiction e6))).2.1⟩, (tc_1548_30 d 42 (mm X (s2 (s2 (s2 (s2 (s2 i 42 6 (((i 42 6) * (Int32.ofNat 1103515245)) + (nI 12345))) 42 6 (((((i 42 6) * (Int32.ofNat 1103515245)) + (nI 12345)) * (Int32.ofNat 1103515245)) + (nI 12345))) 43 ((i 42 0).toNatClampNeg) v1) 44 ((i 42 0).toNatClampNeg) (mxI (nI 0) (mnI (nI 999) ((((nI 500) + (i 47 ((v1).toNatClampNeg))) + (rmI (ushI (((i 42 6) * (Int32.ofNat 1103515245)) + (nI 12345)) (nI 16)) (nI 21))) - (nI 10))))) 45 ((i 42 0).toNatClampNeg) (rmI (ushI (((((i 42 6) * (Int32.ofNat 1103515245)) + (nI 12345)) * (Int32.ofNat 1103515245)) + (nI 12345)) (nI 16)) (nI 8))) j) _ ⟨rfl, ⟨rfl, ⟨rfl, ((h.2.1 (e5)).2 ((Classical.byContradiction e6))).2.2⟩⟩⟩)⟩⟩⟩⟩⟩⟩⟩⟩⟩)⟩⟩⟩⟩⟩⟩)⟩)⟩⟩⟩⟩⟩)⟩⟩⟩⟩⟩, fun e5 => ⟨rfl, ⟨⟨rfl, h.1⟩, (h.2.2 (e5))⟩⟩⟩⟩⟩
theorem mk_fin {d : Nat} {X : XS} {i : Nat → Nat → Int32} {j : Nat → Nat → Int64} {n v : Nat} {Q : Option (Option Value) → AM → Prop} (hn : n < 240) (hv : v < 4) (e0 : i 42 0 = nI n) (hq : ∀ a0, (n = 0 → a0 = nI 500) → (0 < n → a0 = i 44 (n - 1)) → Q (some none) (mm X (s2 (s2 (s2 (s2 (s2 (s2 i 42 6 (rn (i 42 6))) 42 6 (rn (rn (i 42 6)))) 43 n (nI v)) 44 n (mkA a0 (i 47 v) (rn (i 42 6)))) 45 n (mkK (rn (rn (i 42 6))))) 42 0 (nI n + nI 1)) j)) : ((¬ ((i 42 0) = 0) → (vp_in ((i 42 0) - (nI 1)) 240) ∧ (vp_in (nI v) 4) ∧ (vp_in (i 42 0) 240) ∧ Q (some none) (mm X (s2 (s2 (s2 (s2 (s2 (s2 i 42 6 (((i 42 6) * (Int32.ofNat 1103515245)) + (nI 12345))) 42 6 (((((i 42 6) * (Int32.ofNat 1103515245)) + (nI 12345)) * (Int32.ofNat 1103515245)) + (nI 12345))) 43 ((i 42 0).toNatClampNeg) (nI v)) 44 ((i 42 0).toNatClampNeg) (mxI (nI 0) (mnI (nI 999) ((((i 44 (((i 42 0) - (nI 1)).toNatClampNeg)) + (i 47 (((nI v)).toNatClampNeg))) + (rmI (ushI (((i 42 6) * (Int32.ofNat 1103515245)) + (nI 12345)) (nI 16)) (nI 21))) - (nI 10))))) 45 ((i 42 0).toNatClampNeg) (rmI (ushI (((((i 42 6) * (Int32.ofNat 1103515245)) + (nI 12345)) * (Int32.ofNat 1103515245)) + (nI 12345)) (nI 16)) (nI 8))) 42 0 ((i 42 0) + (nI 1))) j)) ∧ ((i 42 0) = 0 → (vp_in (nI v) 4) ∧ (vp_in (i 42 0) 240) ∧ Q (some none) (mm X (s2 (s2 (s2 (s2 (s2 (s2 i 42 6 (((i 42 6) * (Int32.ofNat 1103515245)) + (nI 12345))) 42 6 (((((i 42 6) * (Int32.ofNat 1103515245)) + (nI 12345)) * (Int32.ofNat 1103515245)) + (nI 12345))) 43 ((i 42 0).toNatClampNeg) (nI v)) 44 ((i 42 0).toNatClampNeg) (mxI (nI 0) (mnI (nI 999) ((((nI 500) + (i 47 (((nI v)).toNatClampNeg))) + (rmI (ushI (((i 42 6) * (Int32.ofNat 1103515245)) + (nI 12345)) (nI 16)) (nI 21))) - (nI 10))))) 45 ((i 42 0).toNatClampNeg) (rmI (ushI (((((i 42 6) * (Int32.ofNat 1103515245)) + (nI 12345)) * (Int32.ofNat 1103515245)) + (nI 12345)) (nI 16)) (nI 8))) 42 0 ((i 42 0) + (nI 1))) j))) := by
  rw [e0, tc_nI (by omega), tc_nI (by omega)]
  by_cases z : n = 0
  · subst z
    exact bq_f rfl ⟨vp_in_nI hv (by decide), vp_in_nI hn (by decide), hq (nI 500) (fun _ => rfl) (fun h => absurd h (by decide))⟩
  · refine bq_t (by rw [nIz (by omega)]; exact z) ?_
    rw [pk_sub (by omega), tc_nI (by omega)]
    exact ⟨vp_in_nI (by omega) (by decide), vp_in_nI hv (by decide), vp_in_nI hn (by decide), hq _ (fun h => absurd h z) (fun _ => rfl)⟩
theorem c_1552 (d : Nat) (X : XS) (i : Nat → Nat → Int32) (j : Nat → Nat → Int64) {W : Nat → Nat} (hW : ∀ q, q < 16 → i 46 q = nI (W q) ∧ W q < 10) {n : Nat} (hn : n < 240) {w a k : Nat → Int32} (hD : DR i n w a k) {l : Nat} (hl : l < 4) (l0 : n = 0 → l = 0) (l1 : 0 < n → w (n - 1) = nI l) {a0 : Int32} (b0 : n = 0 → a0 = nI 500) (b1 : 0 < n → a (n - 1) = a0) {v : Nat} {r : Int32} (h : DW W l (i 42 6) v r)
    (h1 : w n = nI v) (h2 : a n = mkA a0 (i 47 v) (rn r)) (h3 : k n = mkK (rn (rn r))) :
    ∃ i', EvV (d + 1) 1552 [.ref 42] (mm X i j) (mm X i' j) ∧ i' 42 6 = rn (rn r) ∧ DR i' (n + 1) w a k ∧ (∀ b, b ≠ 42 → b ≠ 43 → b ≠ 44 → b ≠ 45 → i' b = i b) ∧ (∀ k, k ≠ 0 → k ≠ 6 → i' 42 k = i 42 k) ∧ ∀ t, t ≠ n → i' 43 t = i 43 t ∧ i' 44 t = i 44 t ∧ i' 45 t = i 45 t := by
  have e1 := hD.1.1
  have hv4 := h.lt hl
  obtain ⟨iA, hA⟩ : ∃ iA, iA = s2 i 42 6 r := ⟨_, rfl⟩
  have fA : ∀ b, b ≠ 42 → iA b = i b := fun b hb => by rw [hA, s2_ne hb]
  have gA : ∀ k, k ≠ 6 → iA 42 k = i 42 k := fun b hb => by rw [hA, s2_ne2 hb]
  have rA : iA 42 6 = r := by rw [hA, s2_self]
  obtain ⟨i', hi'⟩ : ∃ i', i' = (s2 (s2 (s2 (s2 (s2 (s2 iA 42 6 (rn r)) 42 6 (rn (rn r))) 43 n (nI v)) 44 n (mkA a0 (i 47 v) (rn r))) 45 n (mkK (rn (rn r)))) 42 0 (nI n + nI 1)) := ⟨_, rfl⟩
  have hQ : ∀ a0', (n = 0 → a0' = nI 500) → (0 < n → a0' = iA 44 (n - 1)) → (s2 (s2 (s2 (s2 (s2 (s2 iA 42 6 (rn (iA 42 6))) 42 6 (rn (rn (iA 42 6)))) 43 n (nI v)) 44 n (mkA a0' (iA 47 v) (rn (iA 42 6)))) 45 n (mkK (rn (rn (iA 42 6))))) 42 0 (nI n + nI 1)) = i' := fun a0' z1 z2 => by
    rw [rA, hi', fA 47 (by decide)]
    have : a0' = a0 := by
      by_cases z : n = 0
      · rw [z1 z, b0 z]
      · rw [z2 (by omega), ← b1 (by omega), fA 44 (by decide)]; exact (hD.2 (n - 1) (by omega)).2.1
    rw [this]
  refine ⟨i', ?_, ?_, ?_, fun b x1 x2 x3 x4 => ?_, fun k k0 k6 => ?_, fun t ht => ?_⟩
  · have main : WP (d + 1) 1552 (27, [(0, .ref 42), (1, .int (nI l)), (2, .int (nI 0)), (3, .int (nI 0))], [], mm X i j) (qV fun M2 => M2 = mm X i' j) := by
      have ix : ∀ e, (nI 4 * nI l + nI e) = nI (4 * l + e) := fun e => by rw [pk_mul, nI_add]
      have hS := psN_b (W := W) (fun q hq => (hW q hq).2) hl (e := 4) (by omega)
      refine lup 4 (fun e (_ : Unit) => True) (fun e _ => (27, [(0, .ref 42), (1, .int (nI l)), (2, .int (nI (psN W (4 * l) e))), (3, .int (nI e))], [], mm X i j)) ?_ ?_ 0 () (Nat.zero_le _) trivial
      · intro _ _
        refine s_1552_27 _ X i j _ _ _ _ (br_t (Int32.le_refl _) ?_)
        rcases h with ⟨h1, rfl, rfl⟩ | ⟨h1, rfl, h2, h3, h4⟩
        · have hAi : iA = i := by rw [hA, s2_id]
          rw [hAi] at hQ
          refine br_t (by rw [h1]; exact Int32.le_refl _) (mk_fin (d := d) hn hl e1 fun a0' z1 z2 => ?_)
          rw [hQ a0' z1 z2]; exact qV_of rfl
        · refine br_f (nI_nle h1 (by omega)) ⟨by rw [nIz (by omega)]; omega, ?_⟩
          rw [show i 42 6 * Int32.ofNat 1103515245 + nI 12345 = rn (i 42 6) from rfl, rm16 _ h1 (by omega), ← hA, pk_mul]
          obtain ⟨f, hf⟩ : ∃ f, f = hi16 (rn (i 42 6)) % psN W (4 * l) 4 := ⟨_, rfl⟩
          rw [← hf] at h3 h4 ⊢
          have hf4 : f < 40 := by have := Nat.mod_lt (hi16 (rn (i 42 6))) h1; omega
          refine lup v (fun e (_ : Unit) => True) (fun e _ => (68, [(0, .ref 42), (1, .int (nI e)), (3, .int (nI (f - psN W (4 * l) e))), (4, .int (nI (4 * l)))], [], mm X iA j)) ?_ ?_ 0 () (Nat.zero_le _) trivial
          · intro _ _
            refine s_1552_68 _ X iA j _ _ _ _ ?_
            rw [nI_add, tc_nI (by omega), fA 46 (by decide), (hW _ (by omega)).1]
            have h5 : psN W (4 * l) (v + 1) = psN W (4 * l) v + W (4 * l + v) := rfl
            have h6 := (hW (4 * l + v) (by omega)).2
            refine ⟨vp_in_nI (by omega) (by decide), br_t (nI_lt (by omega) (by omega)) (mk_fin (d := d) hn h2 (by rw [gA 0 (by decide)]; exact e1) fun a0' z1 z2 => ?_)⟩
            rw [hQ a0' z1 z2]; exact qV_of rfl
          · intro e _ he _ go
            refine s_1552_68 _ X iA j _ _ _ _ ?_
            rw [nI_add, tc_nI (by omega), fA 46 (by decide), (hW _ (by omega)).1]
            have h5 : psN W (4 * l) (e + 1) = psN W (4 * l) e + W (4 * l + e) := rfl
            have h6 := psN_le (W := W) (b := 4 * l) (show e + 1 ≤ v by omega)
            have h7 := (hW (4 * l + e) (by omega)).2
            refine ⟨vp_in_nI (by omega) (by decide), br_f (nI_nlt (by omega) (by omega)) ?_⟩
            rw [pk_sub (by omega), nI_add, show f - psN W (4 * l) e - W (4 * l + e) = f - psN W (4 * l) (e + 1) by omega]
            exact go () trivial
      · intro e _ he _ go
        refine s_1552_27 _ X i j _ _ _ _ (br_f (nI_ge he (by decide)) ?_)
        rw [ix e, tc_nI (by omega), (hW _ (by omega)).1, nI_add, nI_add]
        exact ⟨vp_in_nI (by omega) (by decide), go () trivial⟩
    refine s_1552 _ X i j _ ?_
    rw [e1]
    by_cases z : n = 0
    · subst z
      refine bq_f rfl ?_
      rw [l0 rfl] at main
      exact main
    · refine bq_t (by rw [nIz (by omega)]; exact z) ?_
      rw [pk_sub (by omega), tc_nI (by omega), (hD.2 (n - 1) (by omega)).1, l1 (by omega)]
      exact ⟨vp_in_nI (by omega) (by decide), main⟩
  · rw [hi', s2_ne2 (by decide), s2_ne (show 42 ≠ 45 by decide), s2_ne (show 42 ≠ 44 by decide), s2_ne (show 42 ≠ 43 by decide), s2_self]
  · rw [hi']
    refine dr_add (w := w) (a := a) (k := k) ⟨⟨?_, hD.1.2⟩, fun t ht => ?_⟩ hn h1 h2 h3
    · rw [s2_ne2 (by decide), s2_ne2 (by decide), gA 0 (by decide)]; exact e1
    · rw [s2_ne (show 43 ≠ 42 by decide), s2_ne (show 43 ≠ 42 by decide), s2_ne (show 44 ≠ 42 by decide), s2_ne (show 44 ≠ 42 by decide), s2_ne (show 45 ≠ 42 by decide), s2_ne (show 45 ≠ 42 by decide), fA 43 (by decide), fA 44 (by decide), fA 45 (by decide)]
      exact hD.2 t ht
  · rw [hi', s2_ne x1, s2_ne x4, s2_ne x3, s2_ne x2, s2_ne x1, s2_ne x1]; exact fA b x1
  · rw [hi', s2_ne2 k0, s2_ne (show 42 ≠ 45 by decide), s2_ne (show 42 ≠ 44 by decide), s2_ne (show 42 ≠ 43 by decide), s2_ne2 k6, s2_ne2 k6]; exact gA k k6
  · have q43 := congrFun (fA 43 (by decide)) t
    have q44 := congrFun (fA 44 (by decide)) t
    have q45 := congrFun (fA 45 (by decide)) t
    rw [hi']
    simp [s2_ap, ht, q43, q44, q45]
/-- the days made, one behind another: weather, air, drawn number, sky -/
abbrev MS : Type := Nat × Int32 × Int32 × Int32
def mkst (W : Nat → Nat) (sp : Nat → Int32) (s : MS) : MS := ((dwf W s.1 s.2.2.1).1, mkA s.2.1 (sp (dwf W s.1 s.2.2.1).1) (rn (dwf W s.1 s.2.2.1).2), rn (rn (dwf W s.1 s.2.2.1).2), mkK (rn (rn (dwf W s.1 s.2.2.1).2)))
def mks (W : Nat → Nat) (sp : Nat → Int32) (s0 : MS) : Nat → MS
  | 0 => s0
  | e + 1 => mkst W sp (mks W sp s0 e)
theorem mks_lt {W : Nat → Nat} {sp : Nat → Int32} {s0 : MS} (h0 : s0.1 < 4) : ∀ e, (mks W sp s0 e).1 < 4
  | 0 => h0
  | e + 1 => (DW_f W _ _).lt (mks_lt h0 e)
theorem mks_air {W : Nat → Nat} {sp : Nat → Int32} {s0 : MS} (e : Nat) : ∃ m, m < 1000 ∧ (mks W sp s0 (e + 1)).2.1 = nI m := clA_in _
