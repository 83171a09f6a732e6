/-! ===== the law answers 1, and makes few cells ===== -/
theorem law_loop {D L : Nat} (hL : L < 2 ^ 31) {w0 : Nat} : ∀ (m t : Nat) (X : XS) (i : Nat → Nat → Int32) (j : Nat → Nat → Int64), L ≤ 7 * t + 7 * m + 6 → Rel X i j → xl X 1 = L → 7 * t ≤ L → xn X ≤ 76 + 4 * t → xu X ≤ w0 + 600 * t →
    WP (D + 302) 1669 (23, [(0, .ref 1), (1, .ref 2), (2, .ref 42), (3, .ref 77), (4, .int (nI (7 * t)))], [], mm X i j) (fun r M => r = some (some (.int 1)) ∧ nn M ≤ 76 + 4 * L ∧ us M ≤ w0 + 600 * L) := by
  intro m
  induction m with
  | zero =>
    intro t X i j hm h hl ht hx hu
    have e7 : (nI L - kI 7).toInt = (L : Int) - 7 := by
      rw [Int32.toInt_sub, nI_toInt hL, show (kI 7).toInt = 7 from rfl]
      exact Int.bmod_eq_of_le_mul_two (by omega) (by omega)
    have hlM : ln (mm X i j) 1 = L := hl
    refine tc_1669_23 (D + 301) 1 2 42 77 _ (mm X i j) _ ⟨⟨show 20 ≤ 27 by decide, show 27 ≤ 27 by decide, fun z => z.2 rfl⟩, fun _ => ⟨Or.inr rfl, rfl, ?_, ?_⟩, fun z => absurd ?_ z⟩
    · show xn X ≤ _; omega
    · show xu X ≤ _; omega
    · rw [hlM, Int32.lt_iff_toInt_lt]
      show (nI L - kI 7).toInt < _
      rw [e7, nI_toInt (by omega)]; omega
  | succ m ih =>
    intro t X i j hm h hl ht hx hu
    have e7 : (nI L - kI 7).toInt = (L : Int) - 7 := by
      rw [Int32.toInt_sub, nI_toInt hL, show (kI 7).toInt = 7 from rfl]
      exact Int.bmod_eq_of_le_mul_two (by omega) (by omega)
    have hlM : ln (mm X i j) 1 = L := hl
    refine tc_1669_23 (D + 301) 1 2 42 77 _ (mm X i j) _ ⟨⟨show 20 ≤ 27 by decide, show 27 ≤ 27 by decide, fun z => z.2 rfl⟩, fun _ => ⟨Or.inr rfl, rfl, ?_, ?_⟩, fun z => ?_⟩
    · show xn X ≤ _; omega
    · show xu X ≤ _; omega
    · rw [hlM, Int32.lt_iff_toInt_lt] at z
      have z2 : ¬ (nI L - kI 7).toInt < (nI (7 * t)).toInt := z
      rw [e7, nI_toInt (by omega)] at z2
      have hv : ∀ k : Nat, k ≤ 6 → vp_in (nI (7 * t) + kI k) (ln (mm X i j) 1) := by
        intro k hk
        rw [hlM, kI_nat, nI_add]
        exact vp_in_nI (by omega) hL
      refine ⟨⟨rfl, by have := hv 0 (by decide); rw [kI_nat, nI_add] at this; exact this⟩, law_sw h hv ?_⟩
      rintro M2 ⟨X', i', j', rfl, h', g1, g2, g3⟩ sc
      refine tc_1669_2725 (D + 301) 1 2 42 77 _ (mm X' i' j') _ ?_
      rw [show kI 7 = nI 7 from rfl, nI_add, show 7 * t + 7 = 7 * (t + 1) by omega]
      have e6 : w0 + 600 * (t + 1) = w0 + 600 * t + 600 := by rw [Nat.mul_add, Nat.mul_one, Nat.add_assoc]
      have g6 : xu X' ≤ w0 + 600 * (t + 1) := by rw [e6]; exact Nat.le_trans g3 (Nat.add_le_add_right hu 600)
      exact ih (t + 1) X' i' j' (by omega) h' (sc.2.1.trans hl) (by omega) (by omega) g6
theorem law_all (L : Nat) (hL : L < 2 ^ 31) (xs : Nat → Int32) : WC 302 1669 [.ref 1] (M0 L xs) (fun r M => r = some (some (.int 1)) ∧ nn M ≤ 76 + 4 * L ∧ us M ≤ uE + 600 * L) := by
  refine boot 299 L xs (tc_1669_20 301 1 2 42 77 _ _ ?_)
  rw [mm0]
  exact law_loop hL (w0 := uE) L 0 (X0 L) (iE xs) (fun _ _ => 0) (by omega) (rel0 L xs) (by rw [xl0]; rfl) (by omega) (Nat.le_refl _) (Nat.le_refl _)
theorem uE_le : uE ≤ 20000 := by decide +kernel
/-- the run of the law -/
theorem law_run (L : Nat) (hL : L < 2 ^ 31) (xs : Nat → Int32) : ∃ (n : Nat) (M : AM), run n 302 1669 (0, [(0, .ref 1)], [], M0 L xs) = some (some (some (.int 1)), M) ∧ nn M ≤ 76 + 4 * L ∧ us M ≤ 20000 + 600 * L := by
  obtain ⟨n, ⟨r, M⟩, h1, h2, h3, h4⟩ := law_all L hL xs
  dsimp only at h2 h3 h4
  subst h2
  refine ⟨n, M, ?_, h3, by have := uE_le; omega⟩
  unfold cee at h1
  exact h1
