/-! ===== at the law's loop's begin the relation stands ===== -/
def X0 (L : Nat) : XS := (Kr 76, Lr L 76, rE, 76, uE, fun _ => 0)
theorem cnd0 {b : Bool} {x y : Nat} (h1 : x = 0) (h2 : y = 0) : cond b x y = 0 := by cases b <;> assumption
theorem GRz (a m : Nat) : GR a (m + 64) = 0 := by
  unfold GR
  repeat' first
    | rfl
    | apply cnd0
theorem rEz (a m : Nat) : rE a (m + 64) = 0 := by
  unfold rE rD rC
  repeat rw [s2_ne2 (by omega)]
set_option maxRecDepth 100000 in
theorem rE_GR (a k : Nat) (ha : a < 78) : rE a k = GR a k := by
  by_cases h : k < 64
  · have : ∀ a, a < 78 → ∀ k, k < 64 → rE a k = GR a k := by decide +kernel
    exact this a ha k h
  · obtain ⟨m, rfl⟩ : ∃ m, k = m + 64 := ⟨k - 64, by omega⟩
    rw [rEz, GRz]
theorem xk0 (L : Nat) : xk (X0 L) = Kr 76 := by
  funext a
  unfold xk
  by_cases h : a ≤ 77
  · rw [ble_t h]; show KD a = cond (Nat.ble a 77) (KD a) 0; rw [ble_t h]; rfl
  · rw [ble_f (by omega)]; rfl
theorem xl0 (L : Nat) : xl (X0 L) = Lr L 76 := by
  funext a
  unfold xl
  by_cases h1 : a = 1
  · subst h1; rfl
  · have e1 : Nat.beq a 1 = false := by rw [← Bool.not_eq_true]; exact fun z => h1 (Nat.eq_of_beq_eq_true z)
    by_cases h : a ≤ 77
    · rw [ble_t h, e1]; show LN a = cond (Nat.beq a 1) L (cond (Nat.ble a 77) (LN a) 0); rw [e1, ble_t h]; rfl
    · rw [ble_f (by omega)]; rfl
theorem xr0 (L : Nat) : xr (X0 L) = rE := by
  funext a k
  unfold xr
  by_cases h : a ≤ 77
  · rw [ble_t h]
    show cond (Nat.beq a 17 || (Nat.beq a 23 || Nat.beq a 24)) (rE a k) (GR a k) = rE a k
    rw [← rE_GR a k (by omega)]
    cases (Nat.beq a 17 || (Nat.beq a 23 || Nat.beq a 24)) <;> rfl
  · rw [ble_f (by omega)]; rfl
theorem mm0 (L : Nat) (xs : Nat → Int32) : bM L 76 uE (iE xs) rE = mm (X0 L) (iE xs) (fun _ _ => 0) := by
  unfold mm bM
  rw [xk0, xl0, xr0]
  rfl
theorem iE_0 (xs : Nat → Int32) {c : Nat} (h : (!Nat.beq c 1 && (!Nat.beq c 3 && (!Nat.beq c 4 && (!Nat.beq c 26 && (!Nat.beq c 28 && (!Nat.beq c 42 && (!Nat.beq c 46 && (!Nat.beq c 62 && !Nat.beq c 63)))))))) = true) : iE xs c = fun _ => 0 := by
  simp only [Bool.and_eq_true, Bool.not_eq_true'] at h
  have ne : ∀ {b : Nat}, Nat.beq c b = false → c ≠ b := fun z e => by subst e; rw [Nat.beq_refl] at z; cases z
  unfold iE iD iC
  rw [f2_ne (ne h.2.2.2.2.2.2.2.1) (ne h.2.2.2.2.2.2.2.2), fI_ne (ne h.2.2.2.2.2.2.1), s2_ne (ne h.2.2.2.2.2.1), fI_ne (ne h.2.2.2.2.1), fI_ne (ne h.2.2.2.1), fI_ne (ne h.2.2.1), s2_ne (ne h.2.1)]
  unfold iA
  rw [h.1]; rfl
theorem iE_1 (xs : Nat → Int32) : iE xs 1 = xs := by
  unfold iE iD iC
  rw [f2_ne (by decide) (by decide), fI_ne (by decide), s2_ne (by decide), fI_ne (by decide), fI_ne (by decide), fI_ne (by decide), s2_ne (by decide)]
  rfl
theorem iE_42 (xs : Nat → Int32) {k : Nat} (h : k ≠ 6) : iE xs 42 k = 0 := by
  unfold iE iD iC
  rw [f2_ne (by decide) (by decide), fI_ne (by decide), s2_ne2 h, fI_ne (by decide), fI_ne (by decide), fI_ne (by decide), s2_ne (by decide)]
  rfl
theorem iE_426 (xs : Nat → Int32) : iE xs 42 6 = kI 1 := by
  unfold iE iD iC
  rw [f2_ne (by decide) (by decide), fI_ne (by decide), s2_self]
theorem iE_3 (xs : Nat → Int32) : iE xs 3 2 = kI 1 := by
  unfold iE iD iC
  rw [f2_ne (by decide) (by decide), fI_ne (by decide), s2_ne (by decide), fI_ne (by decide), fI_ne (by decide), fI_ne (by decide), s2_self]
theorem iE_4 (xs : Nat → Int32) {q : Nat} (h : q < 16) : iE xs 4 q = 1 := by
  unfold iE iD iC
  rw [f2_ne (by decide) (by decide), fI_ne (by decide), s2_ne (by decide), fI_ne (by decide), fI_ne (by decide), fI_at h]
theorem iE_46 (xs : Nat → Int32) {q : Nat} (h : q < 16) : iE xs 46 q = kI 1 := by
  unfold iE iD iC
  rw [f2_ne (by decide) (by decide), fI_at h]
theorem iE_26 (xs : Nat → Int32) {q : Nat} (h : q < 240) : iE xs 26 q = kI (-1) := by
  unfold iE iD iC
  rw [f2_ne (by decide) (by decide), fI_ne (by decide), s2_ne (by decide), fI_ne (by decide), fI_at h]
theorem iE_28 (xs : Nat → Int32) {q : Nat} (h : q < 240) : iE xs 28 q = kI (-1) := by
  unfold iE iD iC
  rw [f2_ne (by decide) (by decide), fI_ne (by decide), s2_ne (by decide), fI_at h]
theorem iE_62 (xs : Nat → Int32) {q : Nat} (h : q < 240) : iE xs 62 q = kI (-1) := by
  unfold iE iD
  rw [f2_a h]
theorem iE_63 (xs : Nat → Int32) {q : Nat} (h : q < 240) : iE xs 63 q = kI (-1) := by
  unfold iE iD
  rw [f2_b h]
theorem rel0 (L : Nat) (xs : Nat → Int32) : Rel (X0 L) (iE xs) (fun _ _ => 0) := by
  have z : (0 : Int32) = nI 0 := rfl
  refine ⟨⟨Nat.le_refl _, fun b hb => ?_⟩, ⟨⟨0, ?_⟩, ?_, ⟨0, ?_, 0, ?_⟩, ⟨0, ?_⟩, ⟨0, ?_⟩, ?_, ⟨0, ?_⟩⟩, ?_, ?_⟩
  · unfold xt
    rw [ble_f (show 77 < b from by have : xn (X0 L) = 76 := rfl; omega)]; rfl
  · refine ⟨iE_42 xs (by decide), ⟨⟨?_, by decide⟩, fun t ht => absurd ht (by omega)⟩, fun t ht => absurd ht (by omega)⟩
    rw [iE_0 xs rfl]; rfl
  · refine ⟨(iE_3 xs).trans (iE_426 xs).symm, fun q hq => ⟨(iE_4 xs hq).trans (iE_46 xs hq).symm, 1, by decide, iE_46 xs hq⟩, fun q _ => ?_, fun p _ => ?_⟩
    · rw [iE_0 xs (c := 5) rfl, iE_0 xs (c := 47) rfl]
    · rw [iE_0 xs (c := 6) rfl, iE_0 xs (c := 66) rfl, iE_0 xs (c := 7) rfl, iE_0 xs (c := 67) rfl, iE_0 xs (c := 8) rfl, iE_0 xs (c := 68) rfl]
      exact ⟨rfl, Or.inl rfl, rfl, rfl, 0, by decide, rfl⟩
  · refine ⟨by decide, ?_, iE_42 xs (by decide), fun g hg => absurd hg (by omega)⟩
    rw [iE_0 xs rfl]; rfl
  · refine ⟨by decide, ?_, iE_42 xs (by decide), fun g hg => absurd hg (by omega)⟩
    rw [iE_0 xs rfl]; rfl
  · refine ⟨by decide, ?_, iE_42 xs (by decide), fun g hg => absurd hg (by omega)⟩
    rw [iE_0 xs rfl]; rfl
  · refine ⟨by decide, ?_, iE_42 xs (by decide), fun g hg => absurd hg (by omega)⟩
    rw [iE_0 xs rfl]; rfl
  · refine ⟨⟨?_, fun t ht => ⟨(iE_26 xs ht).trans (iE_63 xs ht).symm, Or.inl (iE_63 xs ht)⟩⟩, ?_, fun t ht => ⟨(iE_28 xs ht).trans (iE_62 xs ht).symm, Or.inl (iE_62 xs ht)⟩⟩
    · rw [iE_0 xs rfl, ct_zero fun t ht q => q (iE_63 xs ht)]; rfl
    · rw [iE_0 xs rfl, ct_zero fun t ht q => q (iE_62 xs ht)]; rfl
  · refine ⟨by decide, ?_, iE_42 xs (by decide), fun g hg => absurd hg (by omega), fun g hg => ?_⟩
    · rw [iE_0 xs rfl]; rfl
    · rw [iE_0 xs (c := 48) rfl, iE_0 xs (c := 49) rfl, iE_0 xs (c := 50) rfl]
      show (nI 0 ≤ (0 : Int32) ∧ (0 : Int32) ≤ nI 300) ∧ (kI (-50) ≤ (0 : Int32) ∧ (0 : Int32) ≤ nI 50) ∧ (nI 0 ≤ (0 : Int32) ∧ (0 : Int32) ≤ nI 40)
      decide
  · refine ⟨0, by decide, ?_, iE_42 xs (by decide), fun g hg => absurd hg (by omega)⟩
    rw [iE_0 xs rfl]; rfl
  · intro v _
    rw [iE_0 xs (c := 34) rfl, iE_0 xs (c := 35) rfl]; exact ⟨rfl, rfl⟩
