/-! ===== STUB: to be replaced ===== -/
/-- what a reading of the reference leaves as it was -/
def FrP (X : XS) (i i' : Nat → Nat → Int32) : Prop := (∀ b, xt X b ≠ 40 → b ≠ 42 → i' b = i b) ∧ (∀ k, k < 38 → i' 42 k = i 42 k)
theorem FrP.rf {X : XS} {i : Nat → Nat → Int32} : FrP X i i := ⟨fun _ _ _ => rfl, fun _ _ => rfl⟩
theorem FrP.tr {X : XS} {i i' i'' : Nat → Nat → Int32} (h : FrP X i i') (h2 : FrP X i' i'') : FrP X i i'' := ⟨fun b hb h4 => (h2.1 b hb h4).trans (h.1 b hb h4), fun k hk => (h2.2 k hk).trans (h.2 k hk)⟩
theorem FrP.fr {X : XS} {i i' : Nat → Nat → Int32} (h : FrP X i i') : FrR X i i' := ⟨h.1, fun k hk => h.2 k (by omega)⟩
theorem c_1586 (d : Nat) (X : XS) (i : Nat → Nat → Int32) (j : Nat → Nat → Int64) {ng no n : Nat} (h2 : R2 X i ng) (h4 : R4 X i no ng) (hn : n ≤ 240) (hS : SHW i i ng n) {s t : Nat} (hs : s < no) (ht : t < n) :
    ∃ i', EvI (d + 260) 1586 [.ref 42, .int (nI s), .int (nI t)] (mm X i j) (vlF X i (i 43) (i 44) (i 45) s t) (mm X i' j) ∧ (∀ b, b ≠ 42 → i' b = i b) ∧ (∀ k, k < 38 ∨ 44 ≤ k → i' 42 k = i 42 k) := sorry
