/-! ===== how the hands go ===== -/
def nsc (X : XS) (a : Nat) : Prop := ¬ (10 ≤ xt X a ∧ xt X a < 40)
theorem nsc_of {X : XS} {a t : Nat} (h : xt X a = t) (h2 : (Nat.ble 10 t && Nat.ble t 39) = false) : nsc X a := fun z => by
  rw [h] at z
  rw [Bool.and_eq_false_iff] at h2
  rcases h2 with h2 | h2
  · have : Nat.ble 10 t = true := Nat.ble_eq.mpr z.1
    rw [h2] at this; cases this
  · have : Nat.ble t 39 = true := Nat.ble_eq.mpr (by omega)
    rw [h2] at this; cases this
/-- what a call that changes no state leaves as it was -/
def Kp (X : XS) (i i' : Nat → Nat → Int32) : Prop := (∀ b, ¬ (10 ≤ xt X b ∧ xt X b < 50) → b ≠ 42 → i' b = i b) ∧ (∀ k, k < 35 → i' 42 k = i 42 k)
/-- the class's part of it -/
def FrC (X : XS) (i i' : Nat → Nat → Int32) : Prop := ∀ b, (xt X b < 10 ∨ 50 ≤ xt X b ∨ xt X b = 40) → i' b = i b
/-- the reference's part of it -/
def FrR (X : XS) (i i' : Nat → Nat → Int32) : Prop := (∀ b, xt X b ≠ 40 → b ≠ 42 → i' b = i b) ∧ (∀ k, k < 35 → i' 42 k = i 42 k)
theorem FrC.rf {X : XS} {i : Nat → Nat → Int32} : FrC X i i := fun _ _ => rfl
theorem FrC.tr {X : XS} {i i' i'' : Nat → Nat → Int32} (h : FrC X i i') (h2 : FrC X i' i'') : FrC X i i'' := fun b hb => (h2 b hb).trans (h b hb)
theorem FrR.rf {X : XS} {i : Nat → Nat → Int32} : FrR X i i := ⟨fun _ _ _ => rfl, fun _ _ => rfl⟩
theorem FrR.tr {X : XS} {i i' i'' : Nat → Nat → Int32} (h : FrR X i i') (h2 : FrR X i' i'') : FrR X i i'' := ⟨fun b hb h4 => (h2.1 b hb h4).trans (h.1 b hb h4), fun k hk => (h2.2 k hk).trans (h.2 k hk)⟩
theorem FrC.kp {X : XS} {i i' : Nat → Nat → Int32} (h : FrC X i i') : Kp X i i' := ⟨fun b hb _ => h b (by omega), fun k _ => by rw [h 42 (Or.inl (show (0 : Nat) < 10 by decide))]⟩
theorem FrR.kp {X : XS} {i i' : Nat → Nat → Int32} (h : FrR X i i') : Kp X i i' := ⟨fun b hb h4 => h.1 b (by omega) h4, h.2⟩
theorem Kp.rf {X : XS} {i : Nat → Nat → Int32} : Kp X i i := ⟨fun _ _ _ => rfl, fun _ _ => rfl⟩
theorem Kp.tr {X : XS} {i i' i'' : Nat → Nat → Int32} (h : Kp X i i') (h2 : Kp X i' i'') : Kp X i i'' := ⟨fun b hb h4 => (h2.1 b hb h4).trans (h.1 b hb h4), fun k hk => (h2.2 k hk).trans (h.2 k hk)⟩
def DT (X : XS) (o : Nat) : Prop := nsc X o ∧ nsc X (xr X o 0) ∧ nsc X (xr X o 1) ∧ nsc X (xr X o 2)
theorem DT9 (X : XS) : DT X 9 := ⟨nsc_of (t := 0) rfl rfl, nsc_of (t := 0) rfl rfl, nsc_of (t := 0) rfl rfl, nsc_of (t := 0) rfl rfl⟩
theorem DT13 (X : XS) : DT X 13 := ⟨nsc_of (t := 41) rfl rfl, nsc_of (t := 42) rfl rfl, nsc_of (t := 43) rfl rfl, nsc_of (t := 44) rfl rfl⟩
def GT (X : XS) (g c : Nat) : Prop := c < 4 ∧ xt X g = 60 + c ∧ xt X (xr X g 4) = 50 + c ∧ xt X (xr X g 6) = 10 + c ∧ xt X (xr X g 7) = 20 + c
set_option maxRecDepth 100000 in
theorem s_261 (d : Nat) (X : XS) (i : Nat → Nat → Int32) (j : Nat → Nat → Int64) (a0 : Nat) (h0 : GO X a0) (a1 : Nat) (h1 : DO X a1) (K : AM → Prop) (h : WP (d + 2) 261 (4, [(0, .ref a0), (1, .ref a1), (2, .int (nI 0)), (3, .int (nI 0))], [], (mm X i j)) (qV K)) : WV (d + 2) 261 [.ref a0, .ref a1] (mm X i j) K := te_261 (d + 1) a0 a1 (mm X i j) (qV K) h
set_option maxRecDepth 100000 in
theorem s_261_4 (d : Nat) (X : XS) (i : Nat → Nat → Int32) (j : Nat → Nat → Int64) (v0 : Nat) (h0 : GO X v0) (v1 : Nat) (h1 : DO X v1) (v2 : Int32) (v3 : Int32) (Q : Option (Option Value) → AM → Prop) (h : (((i v1 3) ≤ v3 → Q (some none) (mm X i j)) ∧ (¬ ((i v1 3) ≤ v3) → (((nI 240) ≤ v3 → Q (some none) (mm X i j)) ∧ (¬ ((nI 240) ≤ v3) → ((i v1 3) ≤ (nI 240)) ∧ ((v3 = 0 → (vp_in v3 240) ∧ ((((s2 i (xr X v0 6) ((v3).toNatClampNeg) (((dyv (i v1 3) (i (xr X v1 1)) v3) + (i v0 1)) - (i v0 0))) v0 3) = 0 → WP (d + 2) 261 (4, [(0, .ref v0), (1, .ref v1), (2, .int ((s2 (s2 i (xr X v0 6) ((v3).toNatClampNeg) (((dyv (i v1 3) (i (xr X v1 1)) v3) + (i v0 1)) - (i v0 0))) (xr X v0 7) ((v3).toNatClampNeg) ((s2 i (xr X v0 6) ((v3).toNatClampNeg) (((dyv (i v1 3) (i (xr X v1 1)) v3) + (i v0 1)) - (i v0 0))) (xr X v0 6) ((v3).toNatClampNeg))) (xr X v0 7) ((v3).toNatClampNeg))), (3, .int (v3 + (nI 1)))], [], (mm X (s2 (s2 i (xr X v0 6) ((v3).toNatClampNeg) (((dyv (i v1 3) (i (xr X v1 1)) v3) + (i v0 1)) - (i v0 0))) (xr X v0 7) ((v3).toNatClampNeg) ((s2 i (xr X v0 6) ((v3).toNatClampNeg) (((dyv (i v1 3) (i (xr X v1 1)) v3) + (i v0 1)) - (i v0 0))) (xr X v0 6) ((v3).toNatClampNeg))) j)) Q) ∧ (¬ (((s2 i (xr X v0 6) ((v3).toNatClampNeg) (((dyv (i v1 3) (i (xr X v1 1)) v3) + (i v0 1)) - (i v0 0))) v0 3) = 0) → WP (d + 2) 261 (4, [(0, .ref v0), (1, .ref v1), (2, .int ((s2 (s2 i (xr X v0 6) ((v3).toNatClampNeg) (((dyv (i v1 3) (i (xr X v1 1)) v3) + (i v0 1)) - (i v0 0))) (xr X v0 7) ((v3).toNatClampNeg) (((dyv (i v1 3) (i (xr X v1 1)) v3) + (i v0 1)) - (i v0 0))) (xr X v0 7) ((v3).toNatClampNeg))), (3, .int (v3 + (nI 1)))], [], (mm X (s2 (s2 i (xr X v0 6) ((v3).toNatClampNeg) (((dyv (i v1 3) (i (xr X v1 1)) v3) + (i v0 1)) - (i v0 0))) (xr X v0 7) ((v3).toNatClampNeg) (((dyv (i v1 3) (i (xr X v1 1)) v3) + (i v0 1)) - (i v0 0))) j)) Q))) ∧ (¬ (v3 = 0) → (((abI ((((dyv (i v1 3) (i (xr X v1 1)) v3) + (i v0 1)) - (i v0 0)) - v2)) ≤ (i v0 2) → (vp_in v3 240) ∧ ((((s2 i (xr X v0 6) ((v3).toNatClampNeg) v2) v0 3) = 0 → WP (d + 2) 261 (4, [(0, .ref v0), (1, .ref v1), (2, .int ((s2 (s2 i (xr X v0 6) ((v3).toNatClampNeg) v2) (xr X v0 7) ((v3).toNatClampNeg) ((s2 i (xr X v0 6) ((v3).toNatClampNeg) v2) (xr X v0 6) ((v3).toNatClampNeg))) (xr X v0 7) ((v3).toNatClampNeg))), (3, .int (v3 + (nI 1)))], [], (mm X (s2 (s2 i (xr X v0 6) ((v3).toNatClampNeg) v2) (xr X v0 7) ((v3).toNatClampNeg) ((s2 i (xr X v0 6) ((v3).toNatClampNeg) v2) (xr X v0 6) ((v3).toNatClampNeg))) j)) Q) ∧ (¬ (((s2 i (xr X v0 6) ((v3).toNatClampNeg) v2) v0 3) = 0) → WP (d + 2) 261 (4, [(0, .ref v0), (1, .ref v1), (2, .int ((s2 (s2 i (xr X v0 6) ((v3).toNatClampNeg) v2) (xr X v0 7) ((v3).toNatClampNeg) (((dyv (i v1 3) (i (xr X v1 1)) v3) + (i v0 1)) - (i v0 0))) (xr X v0 7) ((v3).toNatClampNeg))), (3, .int (v3 + (nI 1)))], [], (mm X (s2 (s2 i (xr X v0 6) ((v3).toNatClampNeg) v2) (xr X v0 7) ((v3).toNatClampNeg) (((dyv (i v1 3) (i (xr X v1 1)) v3) + (i v0 1)) - (i v0 0))) j)) Q))) ∧ (¬ ((abI ((((dyv (i v1 3) (i (xr X v1 1)) v3) + (i v0 1)) - (i v0 0)) - v2)) ≤ (i v0 2)) → (vp_in v3 240) ∧ ((((s2 i (xr X v0 6) ((v3).toNatClampNeg) (((dyv (i v1 3) (i (xr X v1 1)) v3) + (i v0 1)) - (i v0 0))) v0 3) = 0 → WP (d + 2) 261 (4, [(0, .ref v0), (1, .ref v1), (2, .int ((s2 (s2 i (xr X v0 6) ((v3).toNatClampNeg) (((dyv (i v1 3) (i (xr X v1 1)) v3) + (i v0 1)) - (i v0 0))) (xr X v0 7) ((v3).toNatClampNeg) ((s2 i (xr X v0 6) ((v3).toNatClampNeg) (((dyv (i v1 3) (i (xr X v1 1)) v3) + (i v0 1)) - (i v0 0))) (xr X v0 6) ((v3).toNatClampNeg))) (xr X v0 7) ((v3).toNatClampNeg))), (3, .int (v3 + (nI 1)))], [], (mm X (s2 (s2 i (xr X v0 6) ((v3).toNatClampNeg) (((dyv (i v1 3) (i (xr X v1 1)) v3) + (i v0 1)) - (i v0 0))) (xr X v0 7) ((v3).toNatClampNeg) ((s2 i (xr X v0 6) ((v3).toNatClampNeg) (((dyv (i v1 3) (i (xr X v1 1)) v3) + (i v0 1)) - (i v0 0))) (xr X v0 6) ((v3).toNatClampNeg))) j)) Q) ∧ (¬ (((s2 i (xr X v0 6) ((v3).toNatClampNeg) (((dyv (i v1 3) (i (xr X v1 1)) v3) + (i v0 1)) - (i v0 0))) v0 3) = 0) → WP (d + 2) 261 (4, [(0, .ref v0), (1, .ref v1), (2, .int ((s2 (s2 i (xr X v0 6) ((v3).toNatClampNeg) (((dyv (i v1 3) (i (xr X v1 1)) v3) + (i v0 1)) - (i v0 0))) (xr X v0 7) ((v3).toNatClampNeg) (((dyv (i v1 3) (i (xr X v1 1)) v3) + (i v0 1)) - (i v0 0))) (xr X v0 7) ((v3).toNatClampNeg))), (3, .int (v3 + (nI 1)))], [], (mm X (s2 (s2 i (xr X v0 6) ((v3).toNatClampNeg) (((dyv (i v1 3) (i (xr X v1 1)) v3) + (i v0 1)) - (i v0 0))) (xr X v0 7) ((v3).toNatClampNeg) (((dyv (i v1 3) (i (xr X v1 1)) v3) + (i v0 1)) - (i v0 0))) j)) Q))))))))))) : WP (d + 2) 261 (4, [(0, .ref v0), (1, .ref v1), (2, .int v2), (3, .int v3)], [], mm X i j) Q := tc_261_4 (d + 1) v0 v1 v2 v3 (mm X i j) Q ⟨h1.1, (te_129 (d + 1) v1 (mm X i j) _ ⟨h1.1, ⟨_, rfl, ⟨fun e1 => (h.1 (e1)), fun e1 => ⟨fun e2 => ((h.2 (e1)).1 (e2)), fun e2 => ⟨h0.1, (te_260 d v0 v1 v3 (mm X i j) _ ⟨h1.1, (p_134 d X i j v1 h1 v3 _ ⟨((h.2 (e1)).2 (e2)).1, ⟨h0.1, ⟨h0.1, ⟨_, rfl, ⟨h0.1, ⟨fun e3 => ⟨⟨h0.2.2.1.1, (vin_of h0.2.2.1.2 (((h.2 (e1)).2 (e2)).2.1 (e3)).1)⟩, (tc_261_57 (d + 1) v0 v1 v3 (((dyv (i v1 3) (i (xr X v1 1)) v3) + (i v0 1)) - (i v0 0)) (mm X (s2 i (xr X v0 6) ((v3).toNatClampNeg) (((dyv (i v1 3) (i (xr X v1 1)) v3) + (i v0 1)) - (i v0 0))) j) _ ⟨h0.1, ⟨h0.1, ⟨fun e4 => ⟨h0.1, ⟨⟨h0.2.2.1.1, (vin_of h0.2.2.1.2 (((h.2 (e1)).2 (e2)).2.1 (e3)).1)⟩, ⟨⟨h0.2.2.2.1, (vin_of h0.2.2.2.2 (((h.2 (e1)).2 (e2)).2.1 (e3)).1)⟩, (tc_261_81 (d + 1) v0 v1 v3 (mm X (s2 (s2 i (xr X v0 6) ((v3).toNatClampNeg) (((dyv (i v1 3) (i (xr X v1 1)) v3) + (i v0 1)) - (i v0 0))) (xr X v0 7) ((v3).toNatClampNeg) ((s2 i (xr X v0 6) ((v3).toNatClampNeg) (((dyv (i v1 3) (i (xr X v1 1)) v3) + (i v0 1)) - (i v0 0))) (xr X v0 6) ((v3).toNatClampNeg))) j) _ ⟨h0.1, ⟨⟨h0.2.2.2.1, (vin_of h0.2.2.2.2 (((h.2 (e1)).2 (e2)).2.1 (e3)).1)⟩, ((((h.2 (e1)).2 (e2)).2.1 (e3)).2.1 (e4))⟩⟩)⟩⟩⟩, fun e4 => ⟨⟨h0.2.2.2.1, (vin_of h0.2.2.2.2 (((h.2 (e1)).2 (e2)).2.1 (e3)).1)⟩, (tc_261_81 (d + 1) v0 v1 v3 (mm X (s2 (s2 i (xr X v0 6) ((v3).toNatClampNeg) (((dyv (i v1 3) (i (xr X v1 1)) v3) + (i v0 1)) - (i v0 0))) (xr X v0 7) ((v3).toNatClampNeg) (((dyv (i v1 3) (i (xr X v1 1)) v3) + (i v0 1)) - (i v0 0))) j) _ ⟨h0.1, ⟨⟨h0.2.2.2.1, (vin_of h0.2.2.2.2 (((h.2 (e1)).2 (e2)).2.1 (e3)).1)⟩, ((((h.2 (e1)).2 (e2)).2.1 (e3)).2.2 (e4))⟩⟩)⟩⟩⟩⟩)⟩, fun e3 => ⟨h0.1, ⟨fun e5 => ⟨⟨h0.2.2.1.1, (vin_of h0.2.2.1.2 ((((h.2 (e1)).2 (e2)).2.2 (e3)).1 (e5)).1)⟩, (tc_261_57 (d + 1) v0 v1 v3 (((dyv (i v1 3) (i (xr X v1 1)) v3) + (i v0 1)) - (i v0 0)) (mm X (s2 i (xr X v0 6) ((v3).toNatClampNeg) v2) j) _ ⟨h0.1, ⟨h0.1, ⟨fun e6 => ⟨h0.1, ⟨⟨h0.2.2.1.1, (vin_of h0.2.2.1.2 ((((h.2 (e1)).2 (e2)).2.2 (e3)).1 (e5)).1)⟩, ⟨⟨h0.2.2.2.1, (vin_of h0.2.2.2.2 ((((h.2 (e1)).2 (e2)).2.2 (e3)).1 (e5)).1)⟩, (tc_261_81 (d + 1) v0 v1 v3 (mm X (s2 (s2 i (xr X v0 6) ((v3).toNatClampNeg) v2) (xr X v0 7) ((v3).toNatClampNeg) ((s2 i (xr X v0 6) ((v3).toNatClampNeg) v2) (xr X v0 6) ((v3).toNatClampNeg))) j) _ ⟨h0.1, ⟨⟨h0.2.2.2.1, (vin_of h0.2.2.2.2 ((((h.2 (e1)).2 (e2)).2.2 (e3)).1 (e5)).1)⟩, (((((h.2 (e1)).2 (e2)).2.2 (e3)).1 (e5)).2.1 (e6))⟩⟩)⟩⟩⟩, fun e6 => ⟨⟨h0.2.2.2.1, (vin_of h0.2.2.2.2 ((((h.2 (e1)).2 (e2)).2.2 (e3)).1 (e5)).1)⟩, (tc_261_81 (d + 1) v0 v1 v3 (mm X (s2 (s2 i (xr X v0 6) ((v3).toNatClampNeg) v2) (xr X v0 7) ((v3).toNatClampNeg) (((dyv (i v1 3) (i (xr X v1 1)) v3) + (i v0 1)) - (i v0 0))) j) _ ⟨h0.1, ⟨⟨h0.2.2.2.1, (vin_of h0.2.2.2.2 ((((h.2 (e1)).2 (e2)).2.2 (e3)).1 (e5)).1)⟩, (((((h.2 (e1)).2 (e2)).2.2 (e3)).1 (e5)).2.2 (e6))⟩⟩)⟩⟩⟩⟩)⟩, fun e5 => ⟨⟨h0.2.2.1.1, (vin_of h0.2.2.1.2 ((((h.2 (e1)).2 (e2)).2.2 (e3)).2 (e5)).1)⟩, (tc_261_57 (d + 1) v0 v1 v3 (((dyv (i v1 3) (i (xr X v1 1)) v3) + (i v0 1)) - (i v0 0)) (mm X (s2 i (xr X v0 6) ((v3).toNatClampNeg) (((dyv (i v1 3) (i (xr X v1 1)) v3) + (i v0 1)) - (i v0 0))) j) _ ⟨h0.1, ⟨h0.1, ⟨fun e7 => ⟨h0.1, ⟨⟨h0.2.2.1.1, (vin_of h0.2.2.1.2 ((((h.2 (e1)).2 (e2)).2.2 (e3)).2 (e5)).1)⟩, ⟨⟨h0.2.2.2.1, (vin_of h0.2.2.2.2 ((((h.2 (e1)).2 (e2)).2.2 (e3)).2 (e5)).1)⟩, (tc_261_81 (d + 1) v0 v1 v3 (mm X (s2 (s2 i (xr X v0 6) ((v3).toNatClampNeg) (((dyv (i v1 3) (i (xr X v1 1)) v3) + (i v0 1)) - (i v0 0))) (xr X v0 7) ((v3).toNatClampNeg) ((s2 i (xr X v0 6) ((v3).toNatClampNeg) (((dyv (i v1 3) (i (xr X v1 1)) v3) + (i v0 1)) - (i v0 0))) (xr X v0 6) ((v3).toNatClampNeg))) j) _ ⟨h0.1, ⟨⟨h0.2.2.2.1, (vin_of h0.2.2.2.2 ((((h.2 (e1)).2 (e2)).2.2 (e3)).2 (e5)).1)⟩, (((((h.2 (e1)).2 (e2)).2.2 (e3)).2 (e5)).2.1 (e7))⟩⟩)⟩⟩⟩, fun e7 => ⟨⟨h0.2.2.2.1, (vin_of h0.2.2.2.2 ((((h.2 (e1)).2 (e2)).2.2 (e3)).2 (e5)).1)⟩, (tc_261_81 (d + 1) v0 v1 v3 (mm X (s2 (s2 i (xr X v0 6) ((v3).toNatClampNeg) (((dyv (i v1 3) (i (xr X v1 1)) v3) + (i v0 1)) - (i v0 0))) (xr X v0 7) ((v3).toNatClampNeg) (((dyv (i v1 3) (i (xr X v1 1)) v3) + (i v0 1)) - (i v0 0))) j) _ ⟨h0.1, ⟨⟨h0.2.2.2.1, (vin_of h0.2.2.2.2 ((((h.2 (e1)).2 (e2)).2.2 (e3)).2 (e5)).1)⟩, (((((h.2 (e1)).2 (e2)).2.2 (e3)).2 (e5)).2.2 (e7))⟩⟩)⟩⟩⟩⟩)⟩⟩⟩⟩⟩⟩⟩⟩⟩)⟩)⟩⟩⟩⟩⟩)⟩
theorem c_261 (d : Nat) (X : XS) (i : Nat → Nat → Int32) (j : Nat → Nat → Int64) (g c : Nat) (hg : GO X g) (hT : GT X g c) (o : Nat) (ho : DO X o) (hoT : DT X o) {n : Nat} {w a k : Nat → Int32} (hD : DY X o i n w a k) :
    ∃ i', EvV (d + 2) 261 [.ref g, .ref o] (mm X i j) (mm X i' j) ∧ (∀ b, xt X b ≠ 10 + c → xt X b ≠ 20 + c → i' b = i b) ∧ (∀ t, t < n → i' (xr X g 7) t = rdv (i g 3) a (i g 0) (i g 1) (i g 2) t ∧ i' (xr X g 6) t = hdv (i g 3) a (i g 0) (i g 1) (i g 2) t) := by
  obtain ⟨hc4, t0, t4, t6, t7⟩ := hT
  have n67 : xr X g 6 ≠ xr X g 7 := fun e => by rw [e] at t6; omega
  have n76 : xr X g 7 ≠ xr X g 6 := fun e => n67 e.symm
  have n6 : g ≠ xr X g 6 := fun e => by rw [← e] at t6; omega
  have n7 : g ≠ xr X g 7 := fun e => by rw [← e] at t7; omega
  have hn : n ≤ 240 := hD.1.2
  have main : WV (d + 2) 261 [.ref g, .ref o] (mm X i j) (fun M2 => ∃ i', M2 = mm X i' j ∧ (∀ b, xt X b ≠ 10 + c → xt X b ≠ 20 + c → i' b = i b) ∧ (∀ t, t < n → i' (xr X g 7) t = rdv (i g 3) a (i g 0) (i g 1) (i g 2) t ∧ i' (xr X g 6) t = hdv (i g 3) a (i g 0) (i g 1) (i g 2) t)) := by
    refine s_261 d X i j g hg o ho _ ?_
    refine lup n (fun e (s : Int32 × (Nat → Nat → Int32)) => (∀ b, xt X b ≠ 10 + c → xt X b ≠ 20 + c → s.2 b = i b) ∧ (∀ t, t < e → s.2 (xr X g 7) t = rdv (i g 3) a (i g 0) (i g 1) (i g 2) t ∧ s.2 (xr X g 6) t = hdv (i g 3) a (i g 0) (i g 1) (i g 2) t) ∧ (e = 0 ∨ s.1 = rdv (i g 3) a (i g 0) (i g 1) (i g 2) (e - 1)))
      (fun e s => (4, [(0, .ref g), (1, .ref o), (2, .int s.1), (3, .int (nI e))], [], mm X s.2 j)) ?_ ?_ 0 (nI 0, i) (Nat.zero_le _) ⟨fun _ _ _ => rfl, fun t h => absurd h (by omega), Or.inl rfl⟩
    · rintro ⟨st, i1⟩ ⟨hf, ht, -⟩
      have eo : i1 o = i o := hf o (fun z => hoT.1 (by omega)) (fun z => hoT.1 (by omega))
      refine s_261_4 d X i1 j g hg o ho _ _ _ (br_t (by rw [eo, hD.1.1]; exact Int32.le_refl _) ?_)
      exact qV_of ⟨i1, rfl, hf, ht⟩
    · rintro e ⟨st, i1⟩ he ⟨hf, ht, hs⟩ go
      dsimp only at hf ht hs ⊢
      have eo : i1 o = i o := hf o (fun z => hoT.1 (by omega)) (fun z => hoT.1 (by omega))
      have e0 : i1 (xr X o 0) = i (xr X o 0) := hf _ (fun z => hoT.2.1 (by omega)) (fun z => hoT.2.1 (by omega))
      have e1 : i1 (xr X o 1) = i (xr X o 1) := hf _ (fun z => hoT.2.2.1 (by omega)) (fun z => hoT.2.2.1 (by omega))
      have e2 : i1 (xr X o 2) = i (xr X o 2) := hf _ (fun z => hoT.2.2.2 (by omega)) (fun z => hoT.2.2.2 (by omega))
      have eg : i1 g = i g := hf g (by omega) (by omega)
      have hD1 := hD.kp eo e0 e1 e2
      have etr : dyv (i1 o 3) (i1 (xr X o 1)) (nI e) + i1 g 1 - i1 g 0 = trv a (i g 0) (i g 1) e := by
        rw [hD1.da (by omega), wv_in he, eg]; rfl
      refine s_261_4 d X i1 j g hg o ho _ _ _ (br_f (by rw [hD1.1.1]; exact nI_ge he (by omega)) (br_f (nI_ge (by omega) (by decide)) ⟨hD1.ok, ?_⟩))
      rw [etr, tc_nI (by omega)]
      have next : ∀ (hv : Int32), hv = hdv (i g 3) a (i g 0) (i g 1) (i g 2) e → ∀ rv, rv = rdv (i g 3) a (i g 0) (i g 1) (i g 2) e → WP (d + 2) 261 (4, [(0, .ref g), (1, .ref o), (2, .int rv), (3, .int (nI e + nI 1))], [], mm X (s2 (s2 i1 (xr X g 6) e hv) (xr X g 7) e rv) j) (qV (fun M2 => ∃ i', M2 = mm X i' j ∧ (∀ b, xt X b ≠ 10 + c → xt X b ≠ 20 + c → i' b = i b) ∧ (∀ t, t < n → i' (xr X g 7) t = rdv (i g 3) a (i g 0) (i g 1) (i g 2) t ∧ i' (xr X g 6) t = hdv (i g 3) a (i g 0) (i g 1) (i g 2) t))) := by
        intro hv ehv rv erv
        rw [nI_add]
        refine go (rv, s2 (s2 i1 (xr X g 6) e hv) (xr X g 7) e rv) ⟨fun b h1 h2 => ?_, fun t h1 => ?_, Or.inr erv⟩
        · dsimp only
          rw [s2_ne (fun z => by rw [z] at h2; omega), s2_ne (fun z => by rw [z] at h1; omega)]
          exact hf b h1 h2
        · dsimp only
          by_cases h2 : t = e
          · subst h2
            rw [s2_self, s2_ne n67, s2_self]
            exact ⟨erv, ehv⟩
          · rw [s2_ne2 h2, s2_ne2 h2, s2_ne2 h2, s2_ne2 h2]
            exact ht t (by omega)
      simp only [s2_self, s2_ne n6, eg]
      have hin : vp_in (nI e) 240 := vp_in_nI (by omega) (by decide)
      refine br_c (fun z => ⟨hin, ?_⟩) (fun z => ?_)
      · have e0 : e = 0 := by
          refine Classical.byContradiction fun h => nI_ne0 (by omega) (by omega) z
        subst e0
        exact br_c (fun z2 => next _ rfl _ (by rw [rdv_0 z2]; rfl)) (fun z2 => next _ rfl _ (by rw [rdv_1 z2]))
      · obtain ⟨e', rfl⟩ : ∃ e', e = e' + 1 := ⟨e - 1, by
          have : e ≠ 0 := fun h => z (by rw [h]; rfl)
          omega⟩
        have hs2 : st = rdv (i g 3) a (i g 0) (i g 1) (i g 2) e' := by
          rcases hs with h | h
          · exact absurd h (by omega)
          · exact h
        rw [hs2]
        refine br_c (fun q => ⟨hin, ?_⟩) (fun q => ⟨hin, ?_⟩)
        · exact br_c (fun z2 => next _ (hdv_le q).symm _ ((rdv_0 z2).trans (hdv_le q)).symm) (fun z2 => next _ (hdv_le q).symm _ (by rw [rdv_1 z2]))
        · exact br_c (fun z2 => next _ (hdv_gt q).symm _ ((rdv_0 z2).trans (hdv_gt q)).symm) (fun z2 => next _ (hdv_gt q).symm _ (by rw [rdv_1 z2]))
  obtain ⟨n1, ⟨r, M2⟩, h1, h2, i', h3, h4⟩ := main
  dsimp only at h2 h3
  subst h2; subst h3
  exact ⟨i', ⟨n1, _, h1, rfl, rfl⟩, h4⟩

/-- n glasses hang, the class's as the reference's -/
def R2 (X : XS) (i : Nat → Nat → Int32) (n : Nat) : Prop := n ≤ 4 ∧ i 2 4 = nI n ∧ i 42 7 = nI n ∧ ∀ g, g < n → GO X (xr X 17 g) ∧ GT X (xr X 17 g) g ∧ (i (xr X 17 g) 0 = i 48 g ∧ i (xr X 17 g) 1 = i 49 g ∧ i (xr X 17 g) 2 = i 50 g ∧ i (xr X 17 g) 3 = i 51 g) ∧ (i 51 g = 0 ∨ i 51 g = 1) ∧ ∃ mc, mc ≤ 8 ∧ i (xr X 17 g) 5 = nI mc ∧ i 53 g = nI mc ∧ ∀ q, q < mc → i (xr X (xr X 17 g) 4) q = i 52 (8 * g + q)
theorem R2.gl {X : XS} {i : Nat → Nat → Int32} {n : Nat} (h : R2 X i n) : GLs X i := ⟨n, h.1, h.2.1, fun g hg => (h.2.2.2 g hg).1⟩
theorem xt_c {X : XS} {i i' : Nat → Nat → Int32} (h : Kp X i i') (b t : Nat) (e : xt X b = t) (e2 : (Nat.ble 10 t && Nat.ble t 49) = false) (h4 : b ≠ 42) : i' b = i b := h.1 b (fun z => by
  rw [e] at z
  rw [Bool.and_eq_false_iff] at e2
  rcases e2 with e2 | e2
  · have : Nat.ble 10 t = true := Nat.ble_eq.mpr z.1
    rw [e2] at this; cases this
  · have : Nat.ble t 49 = true := Nat.ble_eq.mpr (by omega)
    rw [e2] at this; cases this) h4
theorem ne42 {X : XS} {b : Nat} (h : 50 ≤ xt X b) : b ≠ 42 := fun e => by
  subst e
  exact absurd (show 50 ≤ 0 from h) (by decide)
theorem R2.kp {X : XS} {i i' : Nat → Nat → Int32} {n : Nat} (h : R2 X i n) (k : Kp X i i') : R2 X i' n := by
  refine ⟨h.1, by rw [xt_c k 2 0 rfl rfl (by decide)]; exact h.2.1, by rw [k.2 7 (by decide)]; exact h.2.2.1, fun g hg => ?_⟩
  obtain ⟨a1, a2, a3, a4, mc, a5, a6, a7, a8⟩ := h.2.2.2 g hg
  have e1 : i' (xr X 17 g) = i (xr X 17 g) := k.1 _ (by have := a2.2.1; omega) (ne42 (X := X) (by have := a2.2.1; omega))
  have e2 : i' (xr X (xr X 17 g) 4) = i (xr X (xr X 17 g) 4) := k.1 _ (by have := a2.2.2.1; omega) (ne42 (X := X) (by have := a2.2.2.1; omega))
  rw [e1]
  rw [xt_c k 48 0 rfl rfl (by decide), xt_c k 49 0 rfl rfl (by decide), xt_c k 50 0 rfl rfl (by decide), xt_c k 51 0 rfl rfl (by decide), xt_c k 52 0 rfl rfl (by decide), xt_c k 53 0 rfl rfl (by decide), e2]
  exact ⟨a1, a2, a3, a4, mc, a5, a6, a7, a8⟩
/-- what is read and where the hand stands, as the reference has the glass -/
noncomputable def rdR (i : Nat → Nat → Int32) (a : Nat → Int32) (g t : Nat) : Int32 := rdv (i 51 g) a (i 48 g) (i 49 g) (i 50 g) t
noncomputable def hdR (i : Nat → Nat → Int32) (a : Nat → Int32) (g t : Nat) : Int32 := hdv (i 51 g) a (i 48 g) (i 49 g) (i 50 g) t
/-- the glasses were looked at for n days of air a -/
def LK (X : XS) (i : Nat → Nat → Int32) (ng n : Nat) (a : Nat → Int32) : Prop := ∀ g, g < ng → ∀ t, t < n → i (xr X (xr X 17 g) 7) t = rdR i a g t ∧ i (xr X (xr X 17 g) 6) t = hdR i a g t
set_option maxRecDepth 100000 in
theorem s_1473 (d : Nat) (X : XS) (i : Nat → Nat → Int32) (j : Nat → Nat → Int64) (a1 : Nat) (h1 : DO X a1) (K : AM → Prop) (h : WP (d + 3) 1473 (2, [(0, .ref 2), (1, .ref a1), (2, .int (nI 0))], [], (mm X i j)) (qV K)) : WV (d + 3) 1473 [.ref 2, .ref a1] (mm X i j) K := te_1473 (d + 2) 2 a1 (mm X i j) (qV K) h
set_option maxRecDepth 100000 in
theorem s_1473_2 (d : Nat) (X : XS) (i : Nat → Nat → Int32) (j : Nat → Nat → Int64) (v1 : Nat) (h1 : DO X v1) (v2 : Int32) (Q : Option (Option Value) → AM → Prop) (h : (((i 2 4) ≤ v2 → Q (some none) (mm X i j)) ∧ (¬ ((i 2 4) ≤ v2) → (GLs X i) ∧ ((¬ ((nI 0) ≤ v2 ∧ v2 ≤ ((i 2 4) - (nI 1)))) → WP (d + 3) 1473 (2, [(0, .ref 2), (1, .ref v1), (2, .int (v2 + (nI 1)))], [], (mm X i j)) Q) ∧ (((nI 0) ≤ v2 ∧ v2 ≤ ((i 2 4) - (nI 1))) → (GO X (xr X 17 (v2.toNatClampNeg))) → (∃ (i8 : Nat → Nat → Int32), EvV (d + 2) 261 [.ref (xr X 17 (v2.toNatClampNeg)), .ref v1] (mm X i j) (mm X i8 j) ∧ WP (d + 3) 1473 (2, [(0, .ref 2), (1, .ref v1), (2, .int (v2 + (nI 1)))], [], (mm X i8 j)) Q))))) : WP (d + 3) 1473 (2, [(0, .ref 2), (1, .ref v1), (2, .int v2)], [], mm X i j) Q := tc_1473_2 (d + 2) 2 v1 v2 (mm X i j) Q ⟨rfl, ⟨fun e1 => (h.1 (e1)), fun e1 => ⟨rfl, (p_1467 (d + 1) X i j v2 _ ⟨(h.2 (e1)).1, (fun h3 => ⟨fun _ => ((h.2 (e1)).2.1 h3), fun e4 => absurd rfl e4⟩), (fun h5 h6 => ⟨fun e7 => absurd e7 (nz_k (h6.1)), fun _ => ⟨h6.1, (Exists.elim ((h.2 (e1)).2.2 h5 h6) fun i8 h9 => EvV.use h9.1 h9.2)⟩⟩)⟩)⟩⟩⟩
theorem c_1473 (d : Nat) (X : XS) (i : Nat → Nat → Int32) (j : Nat → Nat → Int64) {ng : Nat} (h2 : R2 X i ng) (o : Nat) (ho : DO X o) (hoT : DT X o) {n : Nat} {w a k : Nat → Int32} (hD : DY X o i n w a k) :
    ∃ i', EvV (d + 3) 1473 [.ref 2, .ref o] (mm X i j) (mm X i' j) ∧ (∀ b, ¬ (10 ≤ xt X b ∧ xt X b < 30) → i' b = i b) ∧ LK X i' ng n a := by
  have main : WV (d + 3) 1473 [.ref 2, .ref o] (mm X i j) (fun M2 => ∃ i', M2 = mm X i' j ∧ (∀ b, ¬ (10 ≤ xt X b ∧ xt X b < 30) → i' b = i b) ∧ LK X i' ng n a) := by
    refine s_1473 d X i j o ho _ ?_
    refine lup ng (fun e (i1 : Nat → Nat → Int32) => (∀ b, ¬ (10 ≤ xt X b ∧ xt X b < 30) → i1 b = i b) ∧ LK X i1 e n a)
      (fun e i1 => (2, [(0, .ref 2), (1, .ref o), (2, .int (nI e))], [], mm X i1 j)) ?_ ?_ 0 i (Nat.zero_le _) ⟨fun _ _ => rfl, fun g h => absurd h (by omega)⟩
    · rintro i1 ⟨hf, hl⟩
      have e2 : i1 2 = i 2 := hf 2 (fun z => absurd (show 10 ≤ 0 from z.1) (by decide))
      refine s_1473_2 d X i1 j o ho _ _ (br_t (by rw [e2, h2.2.1]; exact Int32.le_refl _) ?_)
      exact qV_of ⟨i1, rfl, hf, hl⟩
    · rintro e i1 he ⟨hf, hl⟩ go
      have kk : Kp X i i1 := ⟨fun b hb _ => hf b (by omega), fun k _ => by rw [hf 42 (fun z => absurd (show 10 ≤ 0 from z.1) (by decide))]⟩
      have h21 := h2.kp kk
      have h4 := h2.1
      refine s_1473_2 d X i1 j o ho _ _ (br_f (by rw [h21.2.1]; exact nI_ge he (by omega)) ⟨h21.gl, ?_, ?_⟩)
      · intro z
        rw [h21.2.1] at z
        exact absurd (idx_in (by omega) he) z
      · intro _ hG
        rw [tc_nI (by omega)] at hG ⊢
        obtain ⟨a1, a2, a3, a4, -⟩ := h21.2.2.2 e he
        have hD1 : DY X o i1 n w a k := hD.kp (hf _ (fun z => hoT.1 ⟨z.1, by omega⟩)) (hf _ (fun z => hoT.2.1 ⟨z.1, by omega⟩)) (hf _ (fun z => hoT.2.2.1 ⟨z.1, by omega⟩)) (hf _ (fun z => hoT.2.2.2 ⟨z.1, by omega⟩))
        obtain ⟨i2, hE, hf2, hl2⟩ := c_261 d X i1 j _ e a1 a2 o ho hoT hD1
        refine ⟨i2, hE, ?_⟩
        rw [nI_add]
        have hc := a2.1
        refine go i2 ⟨fun b hb => (hf2 b (by omega) (by omega)).trans (hf b hb), fun g hg t ht => ?_⟩
        have c48 : i2 48 = i1 48 := hf2 48 (fun z => absurd (show 0 = 10 + e from z) (by omega)) (fun z => absurd (show 0 = 20 + e from z) (by omega))
        have c49 : i2 49 = i1 49 := hf2 49 (fun z => absurd (show 0 = 10 + e from z) (by omega)) (fun z => absurd (show 0 = 20 + e from z) (by omega))
        have c50 : i2 50 = i1 50 := hf2 50 (fun z => absurd (show 0 = 10 + e from z) (by omega)) (fun z => absurd (show 0 = 20 + e from z) (by omega))
        have c51 : i2 51 = i1 51 := hf2 51 (fun z => absurd (show 0 = 10 + e from z) (by omega)) (fun z => absurd (show 0 = 20 + e from z) (by omega))
        unfold rdR hdR
        rw [c48, c49, c50, c51]
        by_cases hge : g = e
        · subst hge
          have := hl2 t ht
          rw [a3.1, a3.2.1, a3.2.2.1, a3.2.2.2] at this
          exact this
        · obtain ⟨-, b2, -⟩ := h21.2.2.2 g (by omega)
          rw [hf2 _ (by have := b2.2.2.2.2; omega) (by have := b2.2.2.2.2; omega), hf2 _ (by have := b2.2.2.2.1; omega) (by have := b2.2.2.2.1; omega)]
          exact hl g (by omega) t ht
  obtain ⟨n1, ⟨r, M2⟩, h1, h2, i', h3, h4⟩ := main
  dsimp only at h2 h3
  subst h2; subst h3
  exact ⟨i', ⟨n1, _, h1, rfl, rfl⟩, h4⟩
