/-! ===== a thing is read ===== -/
def PRES (th : Int32 → Int32) (t : Nat → Nat) (n N : Nat) (i0 : Nat → Nat → Int32) (L : Nat) (st0 : List Int32) (wt0 : List Nat) (m0 : Nat → Bool) (br p : Nat) (x : Int32) (i' : Nat → Nat → Int32) : Prop :=
  (∃ p', p < p' ∧ p' ≤ N ∧ StP i0 i' p' (kI (-1)) ∧ PK th t N L L st0 wt0 m0 br p' x) ∨ (∃ p' w, p' ≤ N ∧ StP i0 i' p' (nI w) ∧ PBAD t n N w)
/-- the method y reads from p, within depth D -/
def PT (X : XS) (i0 : Nat → Nat → Int32) (j : Nat → Nat → Int64) (th : Int32 → Int32) (t : Nat → Nat) (n N y L D p : Nat) : Prop :=
  ∀ (cd0 wt0 : List Nat) (m0 : Nat → Bool) (br dg0 : Nat) (st0 : List Int32) (i : Nat → Nat → Int32), scn t p = some (cd0, wt0, m0, br, dg0, true) → (L < 5 → hdW wt0 < L) → evL th cd0 = some st0 → br ≤ 5 → (L ≤ 3 → m0 br = false) → StP i0 i p (kI (-1)) →
    ∃ x i', EvI D y [.ref 42, .int (nI br)] (mm X i j) x (mm X i' j) ∧ PRES th t n N i0 L st0 wt0 m0 br p x i'
theorem PT.up {X : XS} {i0 : Nat → Nat → Int32} {j : Nat → Nat → Int64} {th : Int32 → Int32} {t : Nat → Nat} {n N y L D D' p : Nat} (h : PT X i0 j th t n N y L D p) (hd : D ≤ D') : PT X i0 j th t n N y L D' p := by
  intro cd0 wt0 m0 br dg0 st0 i h1 h2 h3 h4 h5 h6
  obtain ⟨x, i', hE, hR⟩ := h cd0 wt0 m0 br dg0 st0 i h1 h2 h3 h4 h5 h6
  exact ⟨x, i', hE.up hd, hR⟩
/-- what letters are worth -/
def LETS (X : XS) (i0 : Nat → Nat → Int32) (j : Nat → Nat → Int64) (th : Int32 → Int32) : Prop := ∀ b, b < 256 → isLt b = true → ∀ i p w, StP i0 i p w → (¬ i0 42 42 = kI (-1) → EvI 2 1584 [.ref 42, .int ((sb b).toUInt32 % 65536).toInt32] (mm X i j) (th (nI (1000 + b))) (mm X i j)) ∧ (i0 42 42 = kI (-1) → th (nI (1000 + b)) = nI 0)
theorem jn33 (x r : Int32) : jnI (nI 33) x r = bi (x = 0) := by unfold jnI; rw [if_pos (by decide)]
theorem jn126 (x r : Int32) : jnI (nI 126) x r = -x := by
  unfold jnI
  rw [if_neg (by decide), if_neg (by decide), if_neg (by decide), if_neg (by decide), if_neg (by decide), if_neg (by decide), if_neg (by decide), if_neg (by decide)]
theorem tk_dig1 {cd wt : List Nat} {m : Nat → Bool} {br dg b : Nat} (h : isDg b = true) : tk (cd, wt, m, br, dg, true) b = some (cd ++ [b - 48], wt, m, br, 1, false) := by unfold tk; simp only [h, if_true]
theorem tk_dig2 {cd wt : List Nat} {m : Nat → Bool} {br dg b v : Nat} (h : isDg b = true) (h1 : 0 < dg) (h2 : dg < 3) : tk (cd ++ [v], wt, m, br, dg, false) b = some (cd ++ [v * 10 + (b - 48)], wt, m, br, dg + 1, false) := by
  unfold tk
  simp only [h, if_true]
  rw [if_neg (by simp; omega)]
  simp
theorem tk_let {cd wt : List Nat} {m : Nat → Bool} {br dg b : Nat} (h : isDg b = false) (h2 : isLt b = true) : tk (cd, wt, m, br, dg, true) b = some (cd ++ [1000 + b], wt, m, br, 0, false) := by unfold tk; simp only [h, h2, if_true, Bool.false_eq_true, if_false]
theorem tk_33 {cd wt : List Nat} {m : Nat → Bool} {br dg : Nat} : tk (cd, wt, m, br, dg, true) 33 = some (cd, 33 :: wt, m, br, dg, true) := rfl
theorem tk_45 {cd wt : List Nat} {m : Nat → Bool} {br dg : Nat} : tk (cd, wt, m, br, dg, true) 45 = some (cd, 126 :: wt, m, br, dg, true) := rfl
theorem tk_40 {cd wt : List Nat} {m : Nat → Bool} {br dg : Nat} (h : br < 5) : tk (cd, wt, m, br, dg, true) 40 = some (cd, 40 :: wt, (fun q => if q = br + 1 then false else m q), br + 1, dg, true) := by
  show (if (40 : Nat) = 40 ∧ br < 5 then _ else none) = _
  rw [if_pos ⟨rfl, h⟩]
theorem tk_bad {cd wt : List Nat} {m : Nat → Bool} {br dg b : Nat} (h : isDg b = false) (h2 : isLt b = false) (h3 : b ≠ 33) (h4 : b ≠ 45) (h5 : b = 40 → ¬ br < 5) : tk (cd, wt, m, br, dg, true) b = none := by
  unfold tk
  simp only [h, h2, Bool.false_eq_true, if_false]
  rw [if_neg h3, if_neg h4, if_neg (fun z => h5 z.1 z.2)]
theorem tk_41 {cd pre wt : List Nat} {m : Nat → Bool} {br dg : Nat} (hb : 0 < br) (hp : ∀ y, y ∈ pre → 1 ≤ stN y) : tk (cd, pre ++ 40 :: wt, m, br, dg, false) 41 = some (cd ++ up1 pre, wt, m, br - 1, 0, false) := by
  have e := popW_pre (s := 1) (wt := 40 :: wt) (show stN 40 < 1 by decide) (pre := pre) (cd := cd) hp
  show (if br = 0 then none else some ((popW 1 cd (pre ++ 40 :: wt)).1, (popW 1 cd (pre ++ 40 :: wt)).2.tail, m, br - 1, 0, false)) = _
  rw [if_neg (by omega), e]; rfl
def ltL : List Nat := [119, 112, 102, 116, 121, 107, 100]
theorem isLt_of : ∀ b, b < 256 → (isLt b = true ↔ b = 119 ∨ b = 112 ∨ b = 102 ∨ b = 116 ∨ b = 121 ∨ b = 107 ∨ b = 100) := by decide +kernel
theorem lt_dg : ∀ b, b < 256 → isLt b = true → isDg b = false := by decide +kernel
set_option maxRecDepth 100000 in
theorem s_1582 (d : Nat) (X : XS) (i : Nat → Nat → Int32) (j : Nat → Nat → Int64) (a1 : Int32) (K : Int32 → AM → Prop) (h : (hvO (i 42 38) (i 42 39) (i 42 40)) ∧ (((hvI (i 42 38) (i 42 39) (i 42 40) (i 54)) = (nI 33) → (∃ (x4 : Int32), ∃ (i3 : Nat → Nat → Int32), EvI (d + 2) 1582 [.ref 42, .int a1] (mm X (s2 i 42 40 ((i 42 40) + (nI 1))) j) x4 (mm X i3 j) ∧ ((¬ (x4 = 0) → K (nI 0) (mm X i3 j)) ∧ (x4 = 0 → K (nI 1) (mm X i3 j))))) ∧ (¬ ((hvI (i 42 38) (i 42 39) (i 42 40) (i 54)) = (nI 33)) → (((hvI (i 42 38) (i 42 39) (i 42 40) (i 54)) = (nI 45) → (∃ (x13 : Int32), ∃ (i12 : Nat → Nat → Int32), EvI (d + 2) 1582 [.ref 42, .int a1] (mm X (s2 i 42 40 ((i 42 40) + (nI 1))) j) x13 (mm X i12 j) ∧ K (-x13) (mm X i12 j))) ∧ (¬ ((hvI (i 42 38) (i 42 39) (i 42 40) (i 54)) = (nI 45)) → ((¬ ((hvI (i 42 38) (i 42 39) (i 42 40) (i 54)) = (nI 40)) → ((¬ ((nI 48) ≤ (hvI (i 42 38) (i 42 39) (i 42 40) (i 54)) ∧ (hvI (i 42 38) (i 42 39) (i 42 40) (i 54)) ≤ (nI 57)) → (((hvI (i 42 38) (i 42 39) (i 42 40) (i 54)) = (nI 119) → ((¬ ((i 42 42) = (kI (-1))) → (∃ (x22 : Int32), EvI (d + 2) 1584 [.ref 42, .int (((hvI (i 42 38) (i 42 39) (i 42 40) (i 54)).toUInt32 % 65536).toInt32)] (mm X (s2 i 42 40 ((i 42 40) + (nI 1))) j) x22 (mm X (s2 i 42 40 ((i 42 40) + (nI 1))) j) ∧ K x22 (mm X (s2 i 42 40 ((i 42 40) + (nI 1))) j))) ∧ ((i 42 42) = (kI (-1)) → K (nI 0) (mm X (s2 i 42 40 ((i 42 40) + (nI 1))) j)))) ∧ (¬ ((hvI (i 42 38) (i 42 39) (i 42 40) (i 54)) = (nI 119)) → (((hvI (i 42 38) (i 42 39) (i 42 40) (i 54)) = (nI 112) → ((¬ ((i 42 42) = (kI (-1))) → (∃ (x27 : Int32), EvI (d + 2) 1584 [.ref 42, .int (((hvI (i 42 38) (i 42 39) (i 42 40) (i 54)).toUInt32 % 65536).toInt32)] (mm X (s2 i 42 40 ((i 42 40) + (nI 1))) j) x27 (mm X (s2 i 42 40 ((i 42 40) + (nI 1))) j) ∧ K x27 (mm X (s2 i 42 40 ((i 42 40) + (nI 1))) j))) ∧ ((i 42 42) = (kI (-1)) → K (nI 0) (mm X (s2 i 42 40 ((i 42 40) + (nI 1))) j)))) ∧ (¬ ((hvI (i 42 38) (i 42 39) (i 42 40) (i 54)) = (nI 112)) → (((hvI (i 42 38) (i 42 39) (i 42 40) (i 54)) = (nI 102) → ((¬ ((i 42 42) = (kI (-1))) → (∃ (x32 : Int32), EvI (d + 2) 1584 [.ref 42, .int (((hvI (i 42 38) (i 42 39) (i 42 40) (i 54)).toUInt32 % 65536).toInt32)] (mm X (s2 i 42 40 ((i 42 40) + (nI 1))) j) x32 (mm X (s2 i 42 40 ((i 42 40) + (nI 1))) j) ∧ K x32 (mm X (s2 i 42 40 ((i 42 40) + (nI 1))) j))) ∧ ((i 42 42) = (kI (-1)) → K (nI 0) (mm X (s2 i 42 40 ((i 42 40) + (nI 1))) j)))) ∧ (¬ ((hvI (i 42 38) (i 42 39) (i 42 40) (i 54)) = (nI 102)) → (((hvI (i 42 38) (i 42 39) (i 42 40) (i 54)) = (nI 116) → ((¬ ((i 42 42) = (kI (-1))) → (∃ (x37 : Int32), EvI (d + 2) 1584 [.ref 42, .int (((hvI (i 42 38) (i 42 39) (i 42 40) (i 54)).toUInt32 % 65536).toInt32)] (mm X (s2 i 42 40 ((i 42 40) + (nI 1))) j) x37 (mm X (s2 i 42 40 ((i 42 40) + (nI 1))) j) ∧ K x37 (mm X (s2 i 42 40 ((i 42 40) + (nI 1))) j))) ∧ ((i 42 42) = (kI (-1)) → K (nI 0) (mm X (s2 i 42 40 ((i 42 40) + (nI 1))) j)))) ∧ (¬ ((hvI (i 42 38) (i 42 39) (i 42 40) (i 54)) = (nI 116)) → (((hvI (i 42 38) (i 42 39) (i 42 40) (i 54)) = (nI 121) → ((¬ ((i 42 42) = (kI (-1))) → (∃ (x42 : Int32), EvI (d + 2) 1584 [.ref 42, .int (((hvI (i 42 38) (i 42 39) (i 42 40) (i 54)).toUInt32 % 65536).toInt32)] (mm X (s2 i 42 40 ((i 42 40) + (nI 1))) j) x42 (mm X (s2 i 42 40 ((i 42 40) + (nI 1))) j) ∧ K x42 (mm X (s2 i 42 40 ((i 42 40) + (nI 1))) j))) ∧ ((i 42 42) = (kI (-1)) → K (nI 0) (mm X (s2 i 42 40 ((i 42 40) + (nI 1))) j)))) ∧ (¬ ((hvI (i 42 38) (i 42 39) (i 42 40) (i 54)) = (nI 121)) → (((hvI (i 42 38) (i 42 39) (i 42 40) (i 54)) = (nI 107) → ((¬ ((i 42 42) = (kI (-1))) → (∃ (x47 : Int32), EvI (d + 2) 1584 [.ref 42, .int (((hvI (i 42 38) (i 42 39) (i 42 40) (i 54)).toUInt32 % 65536).toInt32)] (mm X (s2 i 42 40 ((i 42 40) + (nI 1))) j) x47 (mm X (s2 i 42 40 ((i 42 40) + (nI 1))) j) ∧ K x47 (mm X (s2 i 42 40 ((i 42 40) + (nI 1))) j))) ∧ ((i 42 42) = (kI (-1)) → K (nI 0) (mm X (s2 i 42 40 ((i 42 40) + (nI 1))) j)))) ∧ (¬ ((hvI (i 42 38) (i 42 39) (i 42 40) (i 54)) = (nI 107)) → (((hvI (i 42 38) (i 42 39) (i 42 40) (i 54)) = (nI 100) → ((¬ ((i 42 42) = (kI (-1))) → (∃ (x52 : Int32), EvI (d + 2) 1584 [.ref 42, .int (((hvI (i 42 38) (i 42 39) (i 42 40) (i 54)).toUInt32 % 65536).toInt32)] (mm X (s2 i 42 40 ((i 42 40) + (nI 1))) j) x52 (mm X (s2 i 42 40 ((i 42 40) + (nI 1))) j) ∧ K x52 (mm X (s2 i 42 40 ((i 42 40) + (nI 1))) j))) ∧ ((i 42 42) = (kI (-1)) → K (nI 0) (mm X (s2 i 42 40 ((i 42 40) + (nI 1))) j)))) ∧ (¬ ((hvI (i 42 38) (i 42 39) (i 42 40) (i 54)) = (nI 100)) → ((¬ ((i 42 41) = (kI (-1))) → K (nI 0) (mm X i j)) ∧ ((i 42 41) = (kI (-1)) → K (nI 0) (mm X (s2 i 42 41 (i 42 40)) j)))))))))))))))))) ∧ ((nI 48) ≤ (hvI (i 42 38) (i 42 39) (i 42 40) (i 54)) ∧ (hvI (i 42 38) (i 42 39) (i 42 40) (i 54)) ≤ (nI 57) → WP (d + 3) 1582 (120, [(0, .ref 42), (3, .int (nI 0)), (4, .int (nI 0))], [], (mm X i j)) (qI K)))) ∧ ((hvI (i 42 38) (i 42 39) (i 42 40) (i 54)) = (nI 40) → ((¬ (a1 = (nI 5)) → (∃ (x60 : Int32), ∃ (i59 : Nat → Nat → Int32), EvI (d + 2) 1578 [.ref 42, .int (a1 + (nI 1))] (mm X (s2 i 42 40 ((i 42 40) + (nI 1))) j) x60 (mm X i59 j) ∧ ((¬ ((i59 42 41) = (kI (-1))) → K x60 (mm X i59 j)) ∧ ((i59 42 41) = (kI (-1)) → (hvO (i59 42 38) (i59 42 39) (i59 42 40)) ∧ (((hvI (i59 42 38) (i59 42 39) (i59 42 40) (i59 54)) = (nI 41) → K x60 (mm X (s2 i59 42 40 ((i59 42 40) + (nI 1))) j)) ∧ (¬ ((hvI (i59 42 38) (i59 42 39) (i59 42 40) (i59 54)) = (nI 41)) → K x60 (mm X (s2 i59 42 41 (i59 42 40)) j))))))) ∧ (a1 = (nI 5) → ((¬ ((i 42 41) = (kI (-1))) → K (nI 0) (mm X i j)) ∧ ((i 42 41) = (kI (-1)) → K (nI 0) (mm X (s2 i 42 41 (i 42 40)) j)))))))))))) : WI (d + 3) 1582 [.ref 42, .int a1] (mm X i j) K := te_1582 (d + 2) 42 a1 (mm X i j) (qI K) ⟨rfl, (te_1575 (d + 1) 42 (nI 33) (mm X i j) _ ⟨rfl, (p_1574 (d + 1) X i j  _ ⟨h.1, ⟨fun e1 => ⟨rfl, ⟨rfl, ⟨k1_01, ⟨_, rfl, ⟨fun e2 => absurd e2 (show ¬ ((nI 1) = 0) by decide), fun _ => ⟨rfl, (Exists.elim (h.2.1 (e1)) fun x4 h6 => Exists.elim h6 fun i3 h7 => EvI.use h7.1 ⟨fun e5 => ⟨_, rfl, (h7.2.1 (e5))⟩, fun e5 => ⟨_, rfl, (h7.2.2 ((Classical.byContradiction e5)))⟩⟩)⟩⟩⟩⟩⟩⟩, fun e1 => ⟨k0_01, ⟨_, rfl, ⟨fun _ => ⟨rfl, (te_1575 (d + 1) 42 (nI 45) (mm X i j) _ ⟨rfl, (p_1574 (d + 1) X i j  _ ⟨h.1, ⟨fun e10 => ⟨rfl, ⟨rfl, ⟨k1_01, ⟨_, rfl, ⟨fun e11 => absurd e11 (show ¬ ((nI 1) = 0) by decide), fun _ => ⟨rfl, (Exists.elim ((h.2.2 (e1)).1 (e10)) fun x13 h14 => Exists.elim h14 fun i12 h15 => EvI.use h15.1 ⟨_, rfl, h15.2⟩)⟩⟩⟩⟩⟩⟩, fun e10 => ⟨k0_01, ⟨_, rfl, ⟨fun _ => ⟨rfl, (p_1574 (d + 2) X i j  _ ⟨h.1, ⟨fun e18 => ⟨rfl, (p_1574 (d + 2) X i j  _ ⟨h.1, (p_1538 (d + 2) X i j (hvI (i 42 38) (i 42 39) (i 42 40) (i 54)) (nI 48) (nI 57) _ ⟨fun e19 => ⟨fun e20 => (tc_1582_219 (d + 2) 42 (hvI (i 42 38) (i 42 39) (i 42 40) (i 54)) (mm X i j) _ ⟨rfl, ⟨rfl, ⟨rfl, ⟨fun e21 => ⟨rfl, (Exists.elim ((((((h.2.2 (e1)).2 (e10)).1 (e18)).1 ((bi_z e19))).1 (e20)).1 (e21)) fun x22 h23 => EvI.use h23.1 ⟨_, rfl, h23.2⟩)⟩, fun e21 => ⟨_, rfl, ((((((h.2.2 (e1)).2 (e10)).1 (e18)).1 ((bi_z e19))).1 (e20)).2 ((Classical.byContradiction e21)))⟩⟩⟩⟩⟩), fun e20 => ⟨fun e25 => (tc_1582_219 (d + 2) 42 (hvI (i 42 38) (i 42 39) (i 42 40) (i 54)) (mm X i j) _ ⟨rfl, ⟨rfl, ⟨rfl, ⟨fun e26 => ⟨rfl, (Exists.elim (((((((h.2.2 (e1)).2 (e10)).1 (e18)).1 ((bi_z e19))).2 (e20)).1 (e25)).1 (e26)) fun x27 h28 => EvI.use h28.1 ⟨_, rfl, h28.2⟩)⟩, fun e26 => ⟨_, rfl, (((((((h.2.2 (e1)).2 (e10)).1 (e18)).1 ((bi_z e19))).2 (e20)).1 (e25)).2 ((Classical.byContradiction e26)))⟩⟩⟩⟩⟩), fun e25 => ⟨fun e30 => (tc_1582_219 (d + 2) 42 (hvI (i 42 38) (i 42 39) (i 42 40) (i 54)) (mm X i j) _ ⟨rfl, ⟨rfl, ⟨rfl, ⟨fun e31 => ⟨rfl, (Exists.elim ((((((((h.2.2 (e1)).2 (e10)).1 (e18)).1 ((bi_z e19))).2 (e20)).2 (e25)).1 (e30)).1 (e31)) fun x32 h33 => EvI.use h33.1 ⟨_, rfl, h33.2⟩)⟩, fun e31 => ⟨_, rfl, ((((((((h.2.2 (e1)).2 (e10)).1 (e18)).1 ((bi_z e19))).2 (e20)).2 (e25)).1 (e30)).2 ((Classical.byContradiction e31)))⟩⟩⟩⟩⟩), fun e30 => ⟨fun e35 => (tc_1582_219 (d + 2) 42 (hvI (i 42 38) (i 42 39) (i 42 40) (i 54)) (mm X i j) _ ⟨rfl, ⟨rfl, ⟨rfl, ⟨fun e36 => ⟨rfl, (Exists.elim (((((((((h.2.2 (e1)).2 (e10)).1 (e18)).1 ((bi_z e19))).2 (e20)).2 (e25)).2 (e30)).1 (e35)).1 (e36)) fun x37 h38 => EvI.use h38.1 ⟨_, rfl, h38.2⟩)⟩, fun e36 => ⟨_, rfl, (((((((((h.2.2 (e1)).2 (e10)).1 (e18)).1 ((bi_z e19))).2 (e20)).2 (e25)).2 (e30)).1 (e35)).2 ((Classical.byContradiction e36)))⟩⟩⟩⟩⟩), fun e35 => ⟨fun e40 => (tc_1582_219 (d + 2) 42 (hvI (i 42 38) (i 42 39) (i 42 40) (i 54)) (mm X i j) _ ⟨rfl, ⟨rfl, ⟨rfl, ⟨fun e41 => ⟨rfl, (Exists.elim ((((((((((h.2.2 (e1)).2 (e10)).1 (e18)).1 ((bi_z e19))).2 (e20)).2 (e25)).2 (e30)).2 (e35)).1 (e40)).1 (e41)) fun x42 h43 => EvI.use h43.1 ⟨_, rfl, h43.2⟩)⟩, fun e41 => ⟨_, rfl, ((((((((((h.2.2 (e1)).2 (e10)).1 (e18)).1 ((bi_z e19))).2 (e20)).2 (e25)).2 (e30)).2 (e35)).1 (e40)).2 ((Classical.byContradiction e41)))⟩⟩⟩⟩⟩), fun e40 => ⟨fun e45 => (tc_1582_219 (d + 2) 42 (hvI (i 42 38) (i 42 39) (i 42 40) (i 54)) (mm X i j) _ ⟨rfl, ⟨rfl, ⟨rfl, ⟨fun e46 => ⟨rfl, (Exists.elim (((((((((((h.2.2 (e1)).2 (e10)).1 (e18)).1 ((bi_z e19))).2 (e20)).2 (e25)).2 (e30)).2 (e35)).2 (e40)).1 (e45)).1 (e46)) fun x47 h48 => EvI.use h48.1 ⟨_, rfl, h48.2⟩)⟩, fun e46 => ⟨_, rfl, (((((((((((h.2.2 (e1)).2 (e10)).1 (e18)).1 ((bi_z e19))).2 (e20)).2 (e25)).2 (e30)).2 (e35)).2 (e40)).1 (e45)).2 ((Classical.byContradiction e46)))⟩⟩⟩⟩⟩), fun e45 => ⟨fun e50 => (tc_1582_219 (d + 2) 42 (hvI (i 42 38) (i 42 39) (i 42 40) (i 54)) (mm X i j) _ ⟨rfl, ⟨rfl, ⟨rfl, ⟨fun e51 => ⟨rfl, (Exists.elim ((((((((((((h.2.2 (e1)).2 (e10)).1 (e18)).1 ((bi_z e19))).2 (e20)).2 (e25)).2 (e30)).2 (e35)).2 (e40)).2 (e45)).1 (e50)).1 (e51)) fun x52 h53 => EvI.use h53.1 ⟨_, rfl, h53.2⟩)⟩, fun e51 => ⟨_, rfl, ((((((((((((h.2.2 (e1)).2 (e10)).1 (e18)).1 ((bi_z e19))).2 (e20)).2 (e25)).2 (e30)).2 (e35)).2 (e40)).2 (e45)).1 (e50)).2 ((Classical.byContradiction e51)))⟩⟩⟩⟩⟩), fun e50 => ⟨rfl, (te_1577 (d + 1) 42 (mm X i j) _ ⟨rfl, (te_1576 (d + 1) 42 (mm X i j) _ ⟨rfl, ⟨fun e55 => ⟨k0_01, ⟨_, rfl, ⟨fun _ => ⟨rfl, ⟨_, rfl, ((((((((((((h.2.2 (e1)).2 (e10)).1 (e18)).1 ((bi_z e19))).2 (e20)).2 (e25)).2 (e30)).2 (e35)).2 (e40)).2 (e45)).2 (e50)).1 (e55))⟩⟩, fun e56 => absurd (show (nI 0) = 0 by decide) e56⟩⟩⟩, fun e55 => ⟨k1_01, ⟨_, rfl, ⟨fun e57 => absurd e57 (show ¬ ((nI 1) = 0) by decide), fun _ => ⟨rfl, ⟨rfl, ⟨rfl, ⟨_, rfl, ((((((((((((h.2.2 (e1)).2 (e10)).1 (e18)).1 ((bi_z e19))).2 (e20)).2 (e25)).2 (e30)).2 (e35)).2 (e40)).2 (e45)).2 (e50)).2 ((Classical.byContradiction e55)))⟩⟩⟩⟩⟩⟩⟩⟩⟩)⟩)⟩⟩⟩⟩⟩⟩⟩⟩, fun e19 => ((((h.2.2 (e1)).2 (e10)).1 (e18)).2 ((bi_n e19)))⟩)⟩)⟩, fun e18 => ⟨fun e58 => ⟨rfl, ⟨rfl, ⟨rfl, (Exists.elim ((((h.2.2 (e1)).2 (e10)).2 ((Classical.byContradiction e18))).1 (e58)) fun x60 h69 => Exists.elim h69 fun i59 h70 => EvI.use h70.1 ⟨rfl, (te_1576 (d + 2) 42 (mm X i59 j) _ ⟨rfl, ⟨fun e61 => ⟨k0_01, ⟨_, rfl, ⟨fun _ => ⟨_, rfl, (h70.2.1 (e61))⟩, fun e62 => absurd (show (nI 0) = 0 by decide) e62⟩⟩⟩, fun e61 => ⟨k1_01, ⟨_, rfl, ⟨fun e63 => absurd e63 (show ¬ ((nI 1) = 0) by decide), fun _ => ⟨rfl, (te_1575 (d + 1) 42 (nI 41) (mm X i59 j) _ ⟨rfl, (p_1574 (d + 1) X i59 j  _ ⟨(h70.2.2 ((Classical.byContradiction e61))).1, ⟨fun e64 => ⟨rfl, ⟨rfl, ⟨k1_01, ⟨_, rfl, ⟨fun _ => ⟨_, rfl, ((h70.2.2 ((Classical.byContradiction e61))).2.1 (e64))⟩, fun e65 => absurd (show ¬ (nI 1) = 0 by decide) e65⟩⟩⟩⟩⟩, fun e64 => ⟨k0_01, ⟨_, rfl, ⟨fun e66 => absurd e66 (show ¬ (¬ (nI 0) = 0) by decide), fun _ => ⟨rfl, (te_1577 (d + 1) 42 (mm X i59 j) _ ⟨rfl, (te_1576 (d + 1) 42 (mm X i59 j) _ ⟨rfl, ⟨fun e67 => absurd e67 (fun z => z ((Classical.byContradiction e61))), fun _ => ⟨k1_01, ⟨_, rfl, ⟨fun e68 => absurd e68 (show ¬ ((nI 1) = 0) by decide), fun _ => ⟨rfl, ⟨rfl, ⟨rfl, ⟨_, rfl, ((h70.2.2 ((Classical.byContradiction e61))).2.2 (e64))⟩⟩⟩⟩⟩⟩⟩⟩⟩)⟩)⟩⟩⟩⟩⟩⟩)⟩)⟩⟩⟩⟩⟩⟩)⟩)⟩⟩⟩, fun e58 => ⟨rfl, (te_1577 (d + 1) 42 (mm X i j) _ ⟨rfl, (te_1576 (d + 1) 42 (mm X i j) _ ⟨rfl, ⟨fun e72 => ⟨k0_01, ⟨_, rfl, ⟨fun _ => ⟨rfl, ⟨_, rfl, (((((h.2.2 (e1)).2 (e10)).2 ((Classical.byContradiction e18))).2 ((Classical.byContradiction e58))).1 (e72))⟩⟩, fun e73 => absurd (show (nI 0) = 0 by decide) e73⟩⟩⟩, fun e72 => ⟨k1_01, ⟨_, rfl, ⟨fun e74 => absurd e74 (show ¬ ((nI 1) = 0) by decide), fun _ => ⟨rfl, ⟨rfl, ⟨rfl, ⟨_, rfl, (((((h.2.2 (e1)).2 (e10)).2 ((Classical.byContradiction e18))).2 ((Classical.byContradiction e58))).2 ((Classical.byContradiction e72)))⟩⟩⟩⟩⟩⟩⟩⟩⟩)⟩)⟩⟩⟩⟩)⟩, fun e17 => absurd (show (nI 0) = 0 by decide) e17⟩⟩⟩⟩⟩)⟩)⟩, fun e9 => absurd (show (nI 0) = 0 by decide) e9⟩⟩⟩⟩⟩)⟩)⟩
set_option maxRecDepth 100000 in
theorem s_1582_120 (d : Nat) (X : XS) (i : Nat → Nat → Int32) (j : Nat → Nat → Int64) (v3 : Int32) (v4 : Int32) (Q : Option (Option Value) → AM → Prop) (h : (((nI 3) ≤ v4 → Q (some (some (.int v3))) (mm X i j)) ∧ (¬ ((nI 3) ≤ v4) → (hvO (i 42 38) (i 42 39) (i 42 40)) ∧ ((¬ ((nI 48) ≤ (hvI (i 42 38) (i 42 39) (i 42 40) (i 54)) ∧ (hvI (i 42 38) (i 42 39) (i 42 40) (i 54)) ≤ (nI 57)) → Q (some (some (.int v3))) (mm X i j)) ∧ ((nI 48) ≤ (hvI (i 42 38) (i 42 39) (i 42 40) (i 54)) ∧ (hvI (i 42 38) (i 42 39) (i 42 40) (i 54)) ≤ (nI 57) → WP (d + 3) 1582 (120, [(0, .ref 42), (3, .int ((((nI 10) * v3) + (hvI (i 42 38) (i 42 39) (i 42 40) (i 54))) - (nI 48))), (4, .int (v4 + (nI 1)))], [], (mm X (s2 i 42 40 ((i 42 40) + (nI 1))) j)) Q))))) : WP (d + 3) 1582 (120, [(0, .ref 42), (3, .int v3), (4, .int v4)], [], mm X i j) Q := tc_1582_120 (d + 2) 42 v3 v4 (mm X i j) Q ⟨fun e75 => (h.1 (e75)), fun e75 => ⟨rfl, (p_1574 (d + 2) X i j  _ ⟨(h.2 (e75)).1, (p_1538 (d + 2) X i j (hvI (i 42 38) (i 42 39) (i 42 40) (i 54)) (nI 48) (nI 57) _ ⟨fun e76 => ((h.2 (e75)).2.1 ((bi_z e76))), fun e76 => ⟨rfl, (p_1574 (d + 2) X i j  _ ⟨(h.2 (e75)).1, ⟨rfl, ⟨rfl, ((h.2 (e75)).2.2 ((bi_n e76)))⟩⟩⟩)⟩⟩)⟩)⟩⟩
theorem pt_thing {X : XS} {i0 : Nat → Nat → Int32} {j : Nat → Nat → Int64} {th : Int32 → Int32} {t : Nat → Nat} {s n N p : Nat} (hT : TXT i0 s n t) (hNe : N = min n 40) (hN : ∀ v, v < 1000 → th (nI v) = nI v) (hL : LETS X i0 j th) (hp : p ≤ N)
    (ihT : p < N → PT X i0 j th t n N 1582 5 (5 * (40 - (p + 1)) + 3) (p + 1)) (ihE : p < N → PT X i0 j th t n N 1578 1 (5 * (40 - (p + 1)) + 7) (p + 1)) : PT X i0 j th t n N 1582 5 (5 * (40 - p) + 3) p := by
  intro cd0 wt0 m0 br dg0 st0 i hsc hw hev hbr hm hst
  have h256 : ∀ q, q < N → t q < 256 := fun q hq => (hT.2.2.2.2 q (by omega)).1
  have hv := hv_of hT hst (by omega)
  rw [← hNe] at hv
  have h42 : i 42 42 = i0 42 42 := hst.2.1 42 (by decide) (by decide)
  have wr : i 42 41 = kI (-1) := hst.2.2.2
  -- a fault at p
  have badp : ∀ (K : Int32 → AM → Prop), (∀ i', StP i0 i' p (nI p) → K (nI 0) (mm X i' j)) → ((¬ (i 42 41 = kI (-1)) → K (nI 0) (mm X i j)) ∧ (i 42 41 = kI (-1) → K (nI 0) (mm X (s2 i 42 41 (i 42 40)) j))) := fun K h => ⟨fun z => absurd wr z, fun _ => h _ hst.bad⟩
  have bad : (p < N → tk (cd0, wt0, m0, br, dg0, true) (t p) = none) → PBAD t n N p := fun h => ⟨hp, _, hsc, h, fun _ => Or.inr (Or.inl rfl)⟩
  refine EvI.exx (s_1582 (5 * (40 - p)) X i j (nI br) _ ⟨hv.1, ?_⟩)
  rw [hv.2]
  refine br_c (fun z => ?_) (fun z33 => br_c (fun z => ?_) (fun z45 => bq_c (fun z40 => bq_c (fun zd => ?_) (fun z => ?_)) (fun z => bq_c (fun z5 => ?_) (fun z5 => ?_))))
  · -- not
    obtain ⟨pN, hb⟩ := (hb_eq (h256 p) (by decide)).mp z
    obtain ⟨x, i1, hE, hR⟩ := ihT pN cd0 (33 :: wt0) m0 br dg0 st0 _ (scn_s hsc (by rw [hb]; exact tk_33)) (fun z => absurd z (by decide)) hev hbr (fun z => absurd z (by decide)) hst.adv
    have fin : ∀ y, y = bi (x = 0) → PRES th t n N i0 5 st0 wt0 m0 br p y i1 := by
      intro y hy
      rcases hR with ⟨p', h1, h2, h3, h4⟩ | h
      · refine Or.inl ⟨p', by omega, h2, h3, ?_⟩
        have := h4.un (b := 33) (by decide) rfl
        rw [jn33] at this
        rw [hy]; exact this
      · exact Or.inr h
    exact ⟨x, i1, hE.up (by omega), bq_c (fun y => ⟨i1, rfl, fin _ (bi_f y).symm⟩) (fun y => ⟨i1, rfl, fin _ (bi_t y).symm⟩)⟩
  · -- minus
    obtain ⟨pN, hb⟩ := (hb_eq (h256 p) (by decide)).mp z
    obtain ⟨x, i1, hE, hR⟩ := ihT pN cd0 (126 :: wt0) m0 br dg0 st0 _ (scn_s hsc (by rw [hb]; exact tk_45)) (fun z => absurd z (by decide)) hev hbr (fun z => absurd z (by decide)) hst.adv
    refine ⟨x, i1, hE.up (by omega), i1, rfl, ?_⟩
    rcases hR with ⟨p', h1, h2, h3, h4⟩ | h
    · refine Or.inl ⟨p', by omega, h2, h3, ?_⟩
      have := h4.un (b := 126) (by decide) rfl
      rw [jn126] at this
      exact this
    · exact Or.inr h
  · -- a letter, or nothing
    have nd : p < N → isDg (t p) = false := fun pN => by
      cases h : isDg (t p) with
      | false => rfl
      | true => exact absurd ((hb_dg (h256 p)).mpr ⟨pN, h⟩) zd
    have LB : p < N → isLt (t p) = true → ((¬ (i 42 42 = kI (-1)) → ∃ x : Int32, EvI (5 * (40 - p) + 2) 1584 [.ref 42, .int (((hbN t N p).toUInt32 % 65536).toInt32)] (mm X (s2 i 42 40 (i 42 40 + nI 1)) j) x (mm X (s2 i 42 40 (i 42 40 + nI 1)) j) ∧ ∃ i', mm X (s2 i 42 40 (i 42 40 + nI 1)) j = mm X i' j ∧ PRES th t n N i0 5 st0 wt0 m0 br p x i') ∧ (i 42 42 = kI (-1) → ∃ i', mm X (s2 i 42 40 (i 42 40 + nI 1)) j = mm X i' j ∧ PRES th t n N i0 5 st0 wt0 m0 br p (nI 0) i')) := by
      intro pN hl
      have hs := scn_s hsc (tk_let (wt := wt0) (m := m0) (br := br) (dg := dg0) (cd := cd0) (nd pN) hl)
      have hk : PK th t N 5 5 st0 wt0 m0 br (p + 1) (th (nI (1000 + t p))) := ⟨_, [], m0, 0, hs, fun y hy => absurd hy (by simp), by
        rw [show up1 [] = [] from rfl, List.append_nil, evL_s th _ _ hev, stp_let (h256 p pN) hl], fun _ _ => rfl, fun _ => rfl, fun _ _ => Or.inl rfl, fun _ => PSt5 _ _⟩
      have ha := hst.adv
      obtain ⟨l1, l2⟩ := hL (t p) (h256 p pN) hl _ _ _ ha
      have ehb : hbN t N p = sb (t p) := if_pos pN
      refine ⟨fun y => ⟨_, by rw [ehb]; exact (l1 (by rw [← h42]; exact y)).up (by omega), _, rfl, Or.inl ⟨p + 1, by omega, by omega, ha, hk⟩⟩, fun y => ⟨_, rfl, Or.inl ⟨p + 1, by omega, by omega, ha, ?_⟩⟩⟩
      rw [← l2 (by rw [← h42]; exact y)]; exact hk
    have lt := fun pN => isLt_of (t p) (h256 p pN)
    refine br_c (fun z => ?_) (fun y1 => br_c (fun z => ?_) (fun y2 => br_c (fun z => ?_) (fun y3 => br_c (fun z => ?_) (fun y4 => br_c (fun z => ?_) (fun y5 => br_c (fun z => ?_) (fun y6 => br_c (fun z => ?_) (fun y7 => badp (fun x M2 => ∃ i', M2 = mm X i' j ∧ PRES th t n N i0 5 st0 wt0 m0 br p x i') ?_)))))))
    · obtain ⟨pN, hb⟩ := (hb_eq (h256 p) (by decide)).mp z; exact LB pN ((lt pN).mpr (by omega))
    · obtain ⟨pN, hb⟩ := (hb_eq (h256 p) (by decide)).mp z; exact LB pN ((lt pN).mpr (by omega))
    · obtain ⟨pN, hb⟩ := (hb_eq (h256 p) (by decide)).mp z; exact LB pN ((lt pN).mpr (by omega))
    · obtain ⟨pN, hb⟩ := (hb_eq (h256 p) (by decide)).mp z; exact LB pN ((lt pN).mpr (by omega))
    · obtain ⟨pN, hb⟩ := (hb_eq (h256 p) (by decide)).mp z; exact LB pN ((lt pN).mpr (by omega))
    · obtain ⟨pN, hb⟩ := (hb_eq (h256 p) (by decide)).mp z; exact LB pN ((lt pN).mpr (by omega))
    · obtain ⟨pN, hb⟩ := (hb_eq (h256 p) (by decide)).mp z; exact LB pN ((lt pN).mpr (by omega))
    · intro i' hs'
      refine ⟨i', rfl, Or.inr ⟨p, p, hp, hs', bad fun pN => tk_bad (nd pN) ?_ ?_ ?_ ?_⟩⟩
      · cases h : isLt (t p) with
        | false => rfl
        | true =>
          have g : ∀ c, c < 128 → t p = c → hbN t N p = nI c := fun c hc e => (hb_eq (h256 p) hc).mpr ⟨pN, e⟩
          rcases (lt pN).mp h with e | e | e | e | e | e | e
          · exact absurd (g _ (by decide) e) y1
          · exact absurd (g _ (by decide) e) y2
          · exact absurd (g _ (by decide) e) y3
          · exact absurd (g _ (by decide) e) y4
          · exact absurd (g _ (by decide) e) y5
          · exact absurd (g _ (by decide) e) y6
          · exact absurd (g _ (by decide) e) y7
      · exact fun e => z33 ((hb_eq (h256 p) (by decide)).mpr ⟨pN, e⟩)
      · exact fun e => z45 ((hb_eq (h256 p) (by decide)).mpr ⟨pN, e⟩)
      · exact fun e => absurd ((hb_eq (h256 p) (by decide)).mpr ⟨pN, e⟩) z40
  · -- digits
    obtain ⟨pN, hd⟩ := (hb_dg (h256 p)).mp z
    refine lwh (fun (u : Nat × Nat × (Nat → Nat → Int32)) => u.1 ≤ 3 ∧ p + u.1 ≤ N ∧ u.2.1 < 10 ^ u.1 ∧ StP i0 u.2.2 (p + u.1) (kI (-1)) ∧ (0 < u.1 → scn t (p + u.1) = some (cd0 ++ [u.2.1], wt0, m0, br, u.1, false))) (fun u => 3 - u.1) (fun u => (120, [(0, .ref 42), (3, .int (nI u.2.1)), (4, .int (nI u.1))], [], mm X u.2.2 j)) ?_ (0, 0, i) ⟨show 0 ≤ 3 by decide, hp, show 0 < 10 ^ 0 by decide, hst, fun h => absurd (show 0 < 0 from h) (by decide)⟩
    rintro ⟨k, v, i1⟩ ⟨h1, h2, h3, h4, h5⟩ go
    dsimp only at h1 h2 h3 h4 h5 go ⊢
    have v1000 : v < 1000 := Nat.lt_of_lt_of_le h3 (Nat.pow_le_pow_right (by decide) h1)
    have hv1 := hv_of hT h4 (by omega)
    rw [← hNe] at hv1
    have exit : 0 < k → (p + k < N → isDg (t (p + k)) = true → 3 ≤ k) → ∃ i', mm X i1 j = mm X i' j ∧ PRES th t n N i0 5 st0 wt0 m0 br p (nI v) i' := fun k0 hk => ⟨i1, rfl, Or.inl ⟨p + k, by omega, h2, h4, _, [], m0, k, h5 k0, fun y hy => absurd hy (by simp), by
        rw [show up1 [] = [] from rfl, List.append_nil, evL_s th _ _ hev, stp_num hN v1000], fun _ _ => rfl, fun _ => rfl, fun a b => Or.inr (hk a b), fun _ => PSt5 _ _⟩⟩
    refine s_1582_120 _ X i1 j _ _ _ (br_c (fun y => ?_) (fun y => ⟨hv1.1, ?_⟩))
    · have k3 : 3 ≤ k := (nI_leI (by decide) (by omega)).mp y
      exact ⟨_, rfl, exit (by omega) (fun _ _ => k3)⟩
    · have k3 : k < 3 := Nat.not_le.mp fun h => y (nI_le h (by omega))
      rw [hv1.2]
      refine bq_c (fun y2 => ?_) (fun y2 => ?_)
      · have nd : p + k < N → isDg (t (p + k)) = true → False := fun a b => y2 ((hb_dg (h256 _)).mpr ⟨a, b⟩)
        refine ⟨_, rfl, exit (Nat.pos_of_ne_zero fun e => ?_) (fun a b => absurd (nd a b) id)⟩
        subst e
        exact nd pN hd
      · obtain ⟨pkN, hdk⟩ := (hb_dg (h256 _)).mp y2
        have ehb : hbN t N (p + k) = sb (t (p + k)) := if_pos pkN
        obtain ⟨q1, q2, q3⟩ := sb_dv _ (h256 _ pkN) hdk
        have ha := h4.adv
        have g := go (k + 1, v * 10 + (t (p + k) - 48), _) ⟨by show k + 1 ≤ 3; omega, by show p + (k + 1) ≤ N; omega, ?_, ha, fun _ => ?_⟩ (by show 3 - (k + 1) < 3 - k; omega)
        · rw [ehb, q1, pk_mul, nI_add, pk_sub (by omega), nI_add k 1, show 10 * v + t (p + k) - 48 = v * 10 + (t (p + k) - 48) by omega]
          exact g
        · show v * 10 + (t (p + k) - 48) < 10 ^ (k + 1)
          rw [Nat.pow_succ]; omega
        · show scn t (p + k + 1) = some (cd0 ++ [v * 10 + (t (p + k) - 48)], wt0, m0, br, k + 1, false)
          by_cases k0 : k = 0
          · subst k0
            have v0 : v = 0 := by simpa using h3
            subst v0
            rw [show 0 * 10 + (t (p + 0) - 48) = t (p + 0) - 48 by omega]
            exact scn_s hsc (tk_dig1 hd)
          · exact scn_s (h5 (by omega)) (tk_dig2 hdk (by omega) (by omega))
  · -- a bracket
    obtain ⟨pN, hb⟩ := (hb_eq (h256 p) (by decide)).mp z
    have br5 : br < 5 := by
      have : br ≠ 5 := fun e => z5 (by rw [e])
      omega
    obtain ⟨x, i1, hE, hR⟩ := ihE pN cd0 (40 :: wt0) (fun q => if q = br + 1 then false else m0 q) (br + 1) dg0 st0 _ (scn_s hsc (by rw [hb]; exact tk_40 br5)) (fun _ => show stN 40 < 1 by decide) hev (by omega) (fun _ => if_pos rfl) hst.adv
    rw [nI_add]
    refine ⟨x, i1, hE.up (by omega), ?_⟩
    rcases hR with ⟨p', h1, h2, h3, h4⟩ | ⟨p', w, h1, h2, h3⟩
    · have hv1 := hv_of hT h3 (by omega)
      rw [← hNe] at hv1
      refine bq_f h3.2.2.2 ⟨hv1.1, ?_⟩
      rw [hv1.2]
      obtain ⟨c, pre, m1, dg, g1, g2, g3, g4, g5, g6, g7⟩ := h4
      refine br_c (fun y => ⟨_, rfl, Or.inl ⟨p' + 1, by omega, ?_, h3.adv, c ++ up1 pre, [], m1, 0, ?_, fun y hy => absurd hy (by simp), ?_, fun q hq => ?_, fun _ => ?_, fun _ _ => Or.inl rfl, fun _ => PSt5 _ _⟩⟩) (fun y => ⟨_, rfl, Or.inr ⟨p', p', h2, h3.bad, h2, _, g1, fun pN' => ?_, fun _ => Or.inr (Or.inr (Nat.succ_pos _))⟩⟩)
      · obtain ⟨a, -⟩ := (hb_eq (h256 p') (by decide)).mp y; omega
      · obtain ⟨a, e⟩ := (hb_eq (h256 p') (by decide)).mp y
        exact scn_s g1 (by rw [e]; exact tk_41 (Nat.succ_pos _) g2)
      · rw [show up1 [] = [] from rfl, List.append_nil]; exact g3
      · rw [g4 q (by omega)]; exact if_neg (by omega)
      · rw [g4 br (by omega)]; exact if_neg (by omega)
      · obtain ⟨s1, s2', s3, s4⟩ := g7 pN'
        obtain ⟨s5, s6⟩ := s1 (by decide)
        exact tk_none (fun h => g6 pN' h) (fun e => absurd ((hb_eq (h256 p') (by decide)).mpr ⟨pN', e⟩) y) ⟨s5, s6, s3 (by decide), s4 (by decide)⟩ (s2' (by decide))
    · refine bq_t (by rw [h2.2.2.2]; have := h3.1; exact nIm1 (by omega)) ⟨i1, rfl, Or.inr ⟨p', w, h1, h2, h3⟩⟩
  · -- one bracket too many
    obtain ⟨pN, hb⟩ := (hb_eq (h256 p) (by decide)).mp z
    have br5 : br = 5 := (nI_eq (by omega) (by decide)).mp z5
    refine badp (fun x M2 => ∃ i', M2 = mm X i' j ∧ PRES th t n N i0 5 st0 wt0 m0 br p x i') fun i' hs' => ⟨i', rfl, Or.inr ⟨p, p, hp, hs', bad fun _ => ?_⟩⟩
    rw [hb]
    exact tk_bad rfl rfl (by decide) (by decide) (fun _ => by omega)
