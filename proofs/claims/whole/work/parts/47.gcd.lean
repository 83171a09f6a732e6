/-! ===== the greatest common divisor ===== -/
theorem rmL_mod (x y : Int64) : (rmL x y).toInt = x.toInt.tmod y.toInt := by
  rw [← Int64.toInt_mod]
  unfold rmL
  have h1 := Int64.le_toInt (x % y)
  have h2 := Int64.toInt_lt (x % y)
  rw [Int64.toInt_sub, Int64.toInt_mul, Int64.toInt_div, Int.bmod_mul_bmod, Int.sub_bmod_bmod, Int.mul_comm (x.toInt.tdiv y.toInt), ← Int.tmod_def, ← Int64.toInt_mod]
  exact Int.bmod_eq_of_le_mul_two (by omega) (by omega)
theorem rmL_abs (x y : Int64) : (rmL x y).toInt.natAbs = x.toInt.natAbs % y.toInt.natAbs := by
  rw [rmL_mod, Int.natAbs_tmod]
def gcf : Nat → Int64 → Int64 → Int64
  | 0, a, _ => a
  | n + 1, a, b => if b = 0 then a else gcf n b (rmL a b)
/-- the rest is 0 within n steps -/
def rz : Nat → Int64 → Int64 → Prop
  | 0, _, b => b = 0
  | n + 1, a, b => b = 0 ∨ rz n b (rmL a b)
theorem rz_s : ∀ {n : Nat} {a b : Int64}, rz n a b → rz (n + 1) a b
  | 0, _, _, h => Or.inl h
  | n + 1, a, b, h => h.elim Or.inl fun z => Or.inr (rz_s z)
theorem rz_0 : ∀ (n : Nat) (a : Int64), rz n a 0
  | 0, _ => rfl
  | _ + 1, _ => Or.inl rfl
theorem rz_of : ∀ (k : Nat) (a b : Int64), b.toInt.natAbs < 2 ^ k → rz (2 * k) a b
  | 0, a, b, h => by
    have : b.toInt = 0 := by omega
    show b = 0
    rw [← Int64.toInt_inj, this]; rfl
  | k + 1, a, b, h => by
    show rz (2 * k + 1 + 1) a b
    by_cases hb : b = 0
    · exact Or.inl hb
    · refine Or.inr ?_
      by_cases hr : rmL a b = 0
      · exact Or.inl hr
      · refine Or.inr (rz_of k _ _ ?_)
        have hb0 : 0 < b.toInt.natAbs := by
          refine Nat.pos_of_ne_zero fun z => hb ?_
          rw [← Int64.toInt_inj, Int.natAbs_eq_zero.mp z]; rfl
        have hr0 : 0 < (rmL a b).toInt.natAbs := by
          refine Nat.pos_of_ne_zero fun z => hr ?_
          rw [← Int64.toInt_inj, Int.natAbs_eq_zero.mp z]; rfl
        have e1 : (rmL a b).toInt.natAbs < b.toInt.natAbs := by rw [rmL_abs]; exact Nat.mod_lt _ hb0
        rw [rmL_abs b]
        have m1 := Nat.mod_lt b.toInt.natAbs hr0
        have m2 := Nat.div_add_mod b.toInt.natAbs (rmL a b).toInt.natAbs
        have m3 : 1 ≤ b.toInt.natAbs / (rmL a b).toInt.natAbs := (Nat.le_div_iff_mul_le hr0).mpr (by omega)
        have m4 : (rmL a b).toInt.natAbs * 1 ≤ (rmL a b).toInt.natAbs * (b.toInt.natAbs / (rmL a b).toInt.natAbs) := Nat.mul_le_mul_left _ m3
        rw [Nat.pow_succ] at h
        omega
theorem rz_all (a b : Int64) : rz 130 a b := by
  have h1 := Int64.le_toInt b
  have h2 := Int64.toInt_lt b
  exact rz_of 65 a b (by omega)
theorem gcf_st : ∀ {n : Nat} {a b : Int64}, rz n a b → ∀ m, n ≤ m → gcf m a b = gcf n a b
  | 0, a, b, h, m, _ => by
    cases m with
    | zero => rfl
    | succ m => exact if_pos (show b = 0 from h)
  | n + 1, a, b, h, m, hm => by
    obtain ⟨m, rfl⟩ : ∃ m', m = m' + 1 := ⟨m - 1, by omega⟩
    by_cases hb : b = 0
    · rw [gcf, gcf, if_pos hb, if_pos hb]
    · rw [gcf, gcf, if_neg hb, if_neg hb]
      exact gcf_st (h.elim (fun z => absurd z hb) id) m (by omega)
def gcL (a b : Int64) : Int64 := gcf 130 a b
theorem L0 : Int64.ofNat 0 = 0 := rfl
set_option maxRecDepth 100000 in
theorem s_644 (d : Nat) (X : XS) (i : Nat → Nat → Int32) (j : Nat → Nat → Int64) (a0 : Int64) (a2 : Int64) (K : Int64 → AM → Prop) (h : WP d 644 (9, [(4, .long a0), (6, .long a2), (8, .int (nI 0))], [], (mm X i j)) (qL K)) : WL d 644 [.long a0, .long a2] (mm X i j) K := te_644 d a0 a2 (mm X i j) (qL K) h
set_option maxRecDepth 100000 in
theorem s_644_9 (d : Nat) (X : XS) (i : Nat → Nat → Int32) (j : Nat → Nat → Int64) (v4 : Int64) (v6 : Int64) (v8 : Int32) (Q : Option (Option Value) → AM → Prop) (h : (((nI 1000) ≤ v8 → Q (some (some (.long v4))) (mm X i j)) ∧ (¬ ((nI 1000) ≤ v8) → ((v6 = (Int64.ofNat 0) → Q (some (some (.long v4))) (mm X i j)) ∧ (¬ (v6 = (Int64.ofNat 0)) → (¬ v6 = 0) ∧ WP d 644 (9, [(4, .long v6), (6, .long (rmL v4 v6)), (8, .int (v8 + (nI 1)))], [], (mm X i j)) Q))))) : WP d 644 (9, [(4, .long v4), (6, .long v6), (8, .int v8)], [], mm X i j) Q := tc_644_9 d v4 v6 v8 (mm X i j) Q ⟨fun e1 => (h.1 (e1)), fun e1 => ⟨fun e2 => ((h.2 (e1)).1 ((lc_eq.1 e2))), fun e2 => ⟨((h.2 (e1)).2 ((fun z => e2 (lc_eq.2 z)))).1, ((h.2 (e1)).2 ((fun z => e2 (lc_eq.2 z)))).2⟩⟩⟩
theorem c_644 (d : Nat) (X : XS) (i : Nat → Nat → Int32) (j : Nat → Nat → Int64) (a b : Int64) : EvL d 644 [.long a, .long b] (mm X i j) (gcL a b) (mm X i j) := by
  refine s_644 d X i j a b _ ?_
  have e0 : gcL a b = gcf 1000 a b := (gcf_st (rz_all a b) 1000 (by decide)).symm
  rw [e0]
  refine lup 1000 (fun t (q : Int64 × Int64) => gcf 1000 a b = gcf (1000 - t) q.1 q.2) (fun t q => (9, [(4, .long q.1), (6, .long q.2), (8, .int (nI t))], [], mm X i j)) ?_ ?_ 0 (a, b) (Nat.zero_le _) rfl
  · rintro ⟨x, y⟩ h
    exact s_644_9 d X i j _ _ _ _ (br_t (Int32.le_refl _) (qL_of ⟨h.symm, rfl⟩))
  · rintro t ⟨x, y⟩ ht h go
    dsimp only at h ⊢
    obtain ⟨m, em⟩ : ∃ m, 1000 - t = m + 1 := ⟨999 - t, by omega⟩
    rw [em] at h
    refine s_644_9 d X i j _ _ _ _ (br_f (nI_ge ht (by decide)) ?_)
    rw [L0, nI_add]
    refine br_c (fun z => qL_of ⟨?_, rfl⟩) (fun z => ⟨z, go (y, rmL x y) ?_⟩)
    · rw [h, gcf, if_pos z]
    · dsimp only
      rw [h, gcf, if_neg z, show 1000 - (t + 1) = m by omega]
set_option maxRecDepth 100000 in
theorem s_1541 (d : Nat) (X : XS) (i : Nat → Nat → Int32) (j : Nat → Nat → Int64) (a0 : Int64) (a2 : Int64) (K : Int64 → AM → Prop) (h : WP d 1541 (6, [(4, .long a0), (6, .long a2)], [], (mm X i j)) (qL K)) : WL d 1541 [.long a0, .long a2] (mm X i j) K := te_1541 d a0 a2 (mm X i j) (qL K) h
set_option maxRecDepth 100000 in
theorem s_1541_6 (d : Nat) (X : XS) (i : Nat → Nat → Int32) (j : Nat → Nat → Int64) (v4 : Int64) (v6 : Int64) (Q : Option (Option Value) → AM → Prop) (h : ((v6 = (Int64.ofNat 0) → Q (some (some (.long v4))) (mm X i j)) ∧ (¬ (v6 = (Int64.ofNat 0)) → (¬ v6 = 0) ∧ WP d 1541 (6, [(4, .long v6), (6, .long (rmL v4 v6))], [], (mm X i j)) Q))) : WP d 1541 (6, [(4, .long v4), (6, .long v6)], [], mm X i j) Q := tc_1541_6 d v4 v6 (mm X i j) Q ⟨fun e1 => (h.1 ((lc_eq.1 e1))), fun e1 => ⟨(h.2 ((fun z => e1 (lc_eq.2 z)))).1, (h.2 ((fun z => e1 (lc_eq.2 z)))).2⟩⟩
theorem c_1541 (d : Nat) (X : XS) (i : Nat → Nat → Int32) (j : Nat → Nat → Int64) (a b : Int64) : EvL d 1541 [.long a, .long b] (mm X i j) (gcL a b) (mm X i j) := by
  refine s_1541 d X i j a b _ ?_
  have key : ∀ n x y, rz n x y → WP d 1541 (6, [(4, .long x), (6, .long y)], [], mm X i j) (qL (fun x' M2 => x' = gcf n x y ∧ M2 = mm X i j)) := by
    intro n
    induction n with
    | zero =>
      intro x y h
      refine s_1541_6 d X i j _ _ _ ?_
      rw [L0]
      exact br_t h (qL_of ⟨rfl, rfl⟩)
    | succ n ih =>
      intro x y h
      refine s_1541_6 d X i j _ _ _ ?_
      rw [L0]
      refine br_c (fun z => qL_of ⟨?_, rfl⟩) (fun z => ⟨z, ?_⟩)
      · rw [gcf, if_pos z]
      · rw [gcf, if_neg z]
        exact ih _ _ (h.elim (fun w => absurd w z) id)
  exact key 130 a b (rz_all a b)
/-- it is 0 of two zeros alone -/
theorem gcf_ne : ∀ (n : Nat) (a b : Int64), rz n a b → (a ≠ 0 ∨ b ≠ 0) → gcf n a b ≠ 0
  | 0, a, b, h, hn => hn.elim id fun z => absurd h z
  | n + 1, a, b, h, hn => by
    by_cases hb : b = 0
    · rw [gcf, if_pos hb]; exact hn.elim id fun z => absurd hb z
    · rw [gcf, if_neg hb]
      exact gcf_ne n _ _ (h.elim (fun w => absurd w hb) id) (Or.inl hb)
theorem gcL_ne {a b : Int64} (h : a ≠ 0 ∨ b ≠ 0) : ¬ gcL a b = 0 := gcf_ne 130 a b (rz_all a b) h
theorem toL_ne {m : Nat} (h0 : 0 < m) (h : m < 2 ^ 31) : (nI m).toInt64 ≠ 0 := by
  rw [nI_l h]
  intro e
  rw [← Int64.toInt_inj, lN_toInt h] at e
  have : (0 : Int64).toInt = 0 := rfl
  omega
