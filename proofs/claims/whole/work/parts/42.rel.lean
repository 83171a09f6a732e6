/-! ===== the relation of the class's part to the reference's ===== -/
theorem xt_fix (X : XS) {a : Nat} (h : a ≤ 77) : xt X a = TF a := by
  unfold xt
  rw [show Nat.ble a 77 = true from Nat.ble_eq.mpr h]; rfl
theorem TF_lt (a : Nat) : TF a < 50 := by
  by_cases h : a ≤ 77
  · have : ∀ a, a < 78 → TF a < 50 := by decide
    exact this a (by omega)
  · have : TF a = 0 ∨ TF a < 50 := by
      right
      unfold TF
      simp only [cond_eq_ite]
      repeat' split
      all_goals decide
    omega
theorem xt_big {X : XS} {a : Nat} (h : 50 ≤ xt X a) : 77 < a := by
  refine Classical.byContradiction fun z => ?_
  have := TF_lt a
  rw [xt_fix X (by omega)] at h
  omega
/-- what is alike of two memories: fixed cells but E, others but those of tags T, fields of 42 but F, of 2 but G -/
def Ag (X : XS) (E : Nat → Bool) (T : Nat → Prop) (F G : Nat → Bool) (i i' : Nat → Nat → Int32) : Prop :=
  (∀ b, b ≤ 77 → E b = false → b ≠ 42 → b ≠ 2 → i' b = i b) ∧ (∀ b, 77 < b → ¬ T (xt X b) → i' b = i b) ∧ (∀ k, F k = false → i' 42 k = i 42 k) ∧ (∀ k, G k = false → i' 2 k = i 2 k)
def scrB (b : Nat) : Bool := Nat.ble 10 (TF b) && Nat.ble (TF b) 49
theorem Kp.ag {X : XS} {i i' : Nat → Nat → Int32} (h : Kp X i i') : Ag X scrB (fun t => 10 ≤ t ∧ t < 50) (fun k => Nat.ble 35 k) (fun _ => false) i i' := by
  refine ⟨fun b hb he h42 _ => h.1 b (fun z => ?_) h42, fun b hb ht => h.1 b ht (by omega), fun k hk => h.2 k ?_, fun k _ => by rw [h.1 2 (fun z => absurd (show 10 ≤ 0 from z.1) (by decide)) (by decide)]⟩
  · rw [xt_fix X hb] at z
    unfold scrB at he
    rw [Bool.and_eq_false_iff] at he
    rcases he with he | he
    · rw [Nat.ble_eq.mpr z.1] at he; cases he
    · rw [Nat.ble_eq.mpr (by omega)] at he; cases he
  · refine Classical.byContradiction fun z => ?_
    dsimp only at hk
    rw [show Nat.ble 35 k = true from Nat.ble_eq.mpr (by omega)] at hk; cases hk
section Ags
variable {X : XS} {E : Nat → Bool} {T : Nat → Prop} {F G : Nat → Bool} {i i' : Nat → Nat → Int32} {j j' : Nat → Nat → Int64}
theorem Ag.f (h : Ag X E T F G i i') (b : Nat) (hb : (Nat.ble b 77 && (!E b && (!Nat.beq b 42 && !Nat.beq b 2))) = true) : i' b = i b := by
  simp only [Bool.and_eq_true, Bool.not_eq_true'] at hb
  exact h.1 b (Nat.le_of_ble_eq_true hb.1) hb.2.1 (fun e => by rw [e] at hb; exact absurd hb.2.2.1 (by decide)) (fun e => by rw [e] at hb; exact absurd hb.2.2.2 (by decide))
theorem Ag.d (h : Ag X E T F G i i') {b t : Nat} (e : xt X b = t) (ht : 50 ≤ t) (hT : ¬ T t) : i' b = i b := h.2.1 b (xt_big (X := X) (by omega)) (by rw [e]; exact hT)
def R0 (X : XS) (i : Nat → Nat → Int32) (n : Nat) : Prop := i 42 0 = nI n ∧ DY X 9 i n (i 43) (i 44) (i 45) ∧ ∀ t, t < n → (∃ m, m < 4 ∧ i 43 t = nI m) ∧ ∃ m, m < 1000 ∧ i 44 t = nI m
theorem R0.ag {n : Nat} (h : R0 X i n) (g : Ag X E T F G i i') (q : (F 0 || (E 9 || (E 10 || (E 11 || (E 12 || (E 43 || (E 44 || E 45))))))) = false) : R0 X i' n := by
  simp only [Bool.or_eq_false_iff] at q
  obtain ⟨a, b⟩ := h
  have e : ∀ c, E c = false → (Nat.ble c 77 && (!Nat.beq c 42 && !Nat.beq c 2)) = true → i' c = i c := fun c h1 h2 => g.f c (by rw [h1]; simpa using h2)
  refine ⟨by rw [g.2.2.1 0 q.1]; exact a, ?_⟩
  rw [e 43 q.2.2.2.2.2.1 rfl, e 44 q.2.2.2.2.2.2.1 rfl, e 45 q.2.2.2.2.2.2.2 rfl]
  exact ⟨b.1.kp (e 9 q.2.1 rfl) (e 10 q.2.2.1 rfl) (e 11 q.2.2.2.1 rfl) (e 12 q.2.2.2.2.1 rfl), b.2⟩
def R1 (i : Nat → Nat → Int32) : Prop := i 3 2 = i 42 6 ∧ (∀ q, q < 16 → i 4 q = i 46 q ∧ ∃ m, m < 10 ∧ i 46 q = nI m) ∧ (∀ q, q < 4 → i 5 q = i 47 q) ∧ (∀ p, p < 3 → i 6 p = i 66 p ∧ (i 66 p = 0 ∨ i 66 p = 1) ∧ i 7 p = i 67 p ∧ i 8 p = i 68 p ∧ ∃ m, m ≤ 240 ∧ i 67 p = nI m)
theorem R1.ag (h : R1 i) (g : Ag X E T F G i i') (q : (F 6 || (E 3 || (E 4 || (E 5 || (E 6 || (E 7 || (E 8 || (E 46 || (E 47 || (E 66 || (E 67 || E 68))))))))))) = false) : R1 i' := by
  simp only [Bool.or_eq_false_iff] at q
  have e : ∀ c, E c = false → (Nat.ble c 77 && (!Nat.beq c 42 && !Nat.beq c 2)) = true → i' c = i c := fun c h1 h2 => g.f c (by rw [h1]; simpa using h2)
  unfold R1
  rw [g.2.2.1 6 q.1, e 3 q.2.1 rfl, e 4 q.2.2.1 rfl, e 5 q.2.2.2.1 rfl, e 6 q.2.2.2.2.1 rfl, e 7 q.2.2.2.2.2.1 rfl, e 8 q.2.2.2.2.2.2.1 rfl, e 46 q.2.2.2.2.2.2.2.1 rfl, e 47 q.2.2.2.2.2.2.2.2.1 rfl, e 66 q.2.2.2.2.2.2.2.2.2.1 rfl, e 67 q.2.2.2.2.2.2.2.2.2.2.1 rfl, e 68 q.2.2.2.2.2.2.2.2.2.2.2 rfl]
  exact h
theorem R2.ag {n : Nat} (h : R2 X i n) (g : Ag X E T F G i i') (q : (F 7 || (G 4 || (E 48 || (E 49 || (E 50 || (E 51 || (E 52 || E 53))))))) = false) (hT : ∀ t, (50 ≤ t ∧ t < 54) ∨ (60 ≤ t ∧ t < 64) → ¬ T t) : R2 X i' n := by
  simp only [Bool.or_eq_false_iff] at q
  have e : ∀ c, E c = false → (Nat.ble c 77 && (!Nat.beq c 42 && !Nat.beq c 2)) = true → i' c = i c := fun c h1 h2 => g.f c (by rw [h1]; simpa using h2)
  refine ⟨h.1, by rw [g.2.2.2 4 q.2.1]; exact h.2.1, by rw [g.2.2.1 7 q.1]; exact h.2.2.1, fun c hc => ?_⟩
  have hh := h.2.2.2 c hc
  have h4 := hh.2.1.1
  rw [g.d hh.2.1.2.1 (by omega) (hT _ (by omega)), g.d hh.2.1.2.2.1 (by omega) (hT _ (by omega)), e 48 q.2.2.1 rfl, e 49 q.2.2.2.1 rfl, e 50 q.2.2.2.2.1 rfl, e 51 q.2.2.2.2.2.1 rfl, e 52 q.2.2.2.2.2.2.1 rfl, e 53 q.2.2.2.2.2.2.2 rfl]
  exact hh
def R3 (i : Nat → Nat → Int32) (tn : Nat) : Prop := tn ≤ 60 ∧ i 18 1 = nI tn ∧ i 42 33 = nI tn ∧ ∀ q, q < tn → ∃ b, b < 256 ∧ i 19 q = nI b ∧ i 69 q = (nI b).toInt8.toInt32
theorem R3.ag {n : Nat} (h : R3 i n) (g : Ag X E T F G i i') (q : (F 33 || (E 18 || (E 19 || E 69))) = false) : R3 i' n := by
  simp only [Bool.or_eq_false_iff] at q
  have e : ∀ c, E c = false → (Nat.ble c 77 && (!Nat.beq c 42 && !Nat.beq c 2)) = true → i' c = i c := fun c h1 h2 => g.f c (by rw [h1]; simpa using h2)
  unfold R3
  rw [g.2.2.1 33 q.1, e 18 q.2.1 rfl, e 19 q.2.2.1 rfl, e 69 q.2.2.2 rfl]
  exact h
theorem R4.ag {no ng : Nat} (h : R4 X i no ng) (g : Ag X E T F G i i') (q : (F 14 || (G 7 || (E 54 || (E 55 || E 56)))) = false) (hT : ∀ t, 80 ≤ t ∧ t < 90 → ¬ T t) : R4 X i' no ng := by
  simp only [Bool.or_eq_false_iff] at q
  have e : ∀ c, E c = false → (Nat.ble c 77 && (!Nat.beq c 42 && !Nat.beq c 2)) = true → i' c = i c := fun c h1 h2 => g.f c (by rw [h1]; simpa using h2)
  refine ⟨h.1, by rw [g.2.2.2 7 q.2.1]; exact h.2.1, by rw [g.2.2.1 14 q.1]; exact h.2.2.1, fun c hc => ?_⟩
  have hh := h.2.2.2 c hc
  have h4 := hh.2.1.1
  rw [g.d hh.2.1.2.2.1 (by omega) (hT _ (by omega)), e 54 q.2.2.1 rfl, e 55 q.2.2.2.1 rfl, e 56 q.2.2.2.2 rfl]
  exact hh
theorem R5.ag {np : Nat} (h : R5 X i np) (g : Ag X E T F G i i') (q : (F 18 || (G 9 || (E 57 || (E 58 || (E 59 || (E 60 || E 61)))))) = false) (hT : ∀ t, 90 ≤ t ∧ t < 96 → ¬ T t) : R5 X i' np := by
  simp only [Bool.or_eq_false_iff] at q
  have e : ∀ c, E c = false → (Nat.ble c 77 && (!Nat.beq c 42 && !Nat.beq c 2)) = true → i' c = i c := fun c h1 h2 => g.f c (by rw [h1]; simpa using h2)
  refine ⟨h.1, by rw [g.2.2.2 9 q.2.1]; exact h.2.1, by rw [g.2.2.1 18 q.1]; exact h.2.2.1, fun c hc => ?_⟩
  have hh := h.2.2.2 c hc
  have h4 := h.1
  rw [g.d hh.2.1 (by omega) (hT _ (by omega)), e 57 q.2.2.1 rfl, e 58 q.2.2.2.1 rfl, e 59 q.2.2.2.2.1 rfl, e 60 q.2.2.2.2.2.1 rfl, e 61 q.2.2.2.2.2.2 rfl]
  exact hh
def R6 (i : Nat → Nat → Int32) : Prop := (i 25 1 = nI (ct (fun t => ¬ i 63 t = kI (-1)) 240) ∧ ∀ t, t < 240 → i 26 t = i 63 t ∧ (i 63 t = kI (-1) ∨ ∃ m, m < 4 ∧ i 63 t = nI m)) ∧
  (i 27 1 = nI (ct (fun t => ¬ i 62 t = kI (-1)) 240) ∧ ∀ t, t < 240 → i 28 t = i 62 t ∧ (i 62 t = kI (-1) ∨ ∃ m, m < 101 ∧ i 62 t = nI m))
theorem R6.ag (h : R6 i) (g : Ag X E T F G i i') (q : (E 25 || (E 26 || (E 27 || (E 28 || (E 62 || E 63))))) = false) : R6 i' := by
  simp only [Bool.or_eq_false_iff] at q
  have e : ∀ c, E c = false → (Nat.ble c 77 && (!Nat.beq c 42 && !Nat.beq c 2)) = true → i' c = i c := fun c h1 h2 => g.f c (by rw [h1]; simpa using h2)
  unfold R6
  rw [e 25 q.1 rfl, e 26 q.2.1 rfl, e 27 q.2.2.1 rfl, e 28 q.2.2.2.1 rfl, e 62 q.2.2.2.2.1 rfl, e 63 q.2.2.2.2.2 rfl]
  exact h
/-- how the reference's glasses hang, lean and stick, within their bounds -/
def RB (i : Nat → Nat → Int32) : Prop := ∀ g, g < 4 → (nI 0 ≤ i 48 g ∧ i 48 g ≤ nI 300) ∧ (kI (-50) ≤ i 49 g ∧ i 49 g ≤ nI 50) ∧ (nI 0 ≤ i 50 g ∧ i 50 g ≤ nI 40)
theorem RB.cg {i i' : Nat → Nat → Int32} (h : RB i) (e1 : i' 48 = i 48) (e2 : i' 49 = i 49) (e3 : i' 50 = i 50) : RB i' := by unfold RB; rw [e1, e2, e3]; exact h
def R7 (i : Nat → Nat → Int32) (ns : Nat) : Prop := ns ≤ 20 ∧ i 2 14 = nI ns ∧ i 42 26 = nI ns ∧ (∀ q, q < ns → i 29 q = i 64 q ∧ i 30 q = i 65 q) ∧ RB i
theorem R7.ag {n : Nat} (h : R7 i n) (g : Ag X E T F G i i') (q : (F 26 || (G 14 || (E 29 || (E 30 || (E 64 || (E 65 || (E 48 || (E 49 || E 50)))))))) = false) : R7 i' n := by
  simp only [Bool.or_eq_false_iff] at q
  have e : ∀ c, E c = false → (Nat.ble c 77 && (!Nat.beq c 42 && !Nat.beq c 2)) = true → i' c = i c := fun c h1 h2 => g.f c (by rw [h1]; simpa using h2)
  unfold R7 RB
  rw [g.2.2.1 26 q.1, g.2.2.2 14 q.2.1, e 29 q.2.2.1 rfl, e 30 q.2.2.2.1 rfl, e 64 q.2.2.2.2.1 rfl, e 65 q.2.2.2.2.2.1 rfl, e 48 q.2.2.2.2.2.2.1 rfl, e 49 q.2.2.2.2.2.2.2.1 rfl, e 50 q.2.2.2.2.2.2.2.2 rfl]
  exact h
def R8 (i : Nat → Nat → Int32) (j : Nat → Nat → Int64) : Prop := ∃ n, n ≤ 20 ∧ i 40 1 = nI n ∧ i 42 35 = nI n ∧ ∀ q, q < n → j 41 q = j 70 q
theorem R8.ag (h : R8 i j) (g : Ag X E T F G i i') (q : (F 35 || E 40) = false) : R8 i' j := by
  simp only [Bool.or_eq_false_iff] at q
  unfold R8
  rw [g.2.2.1 35 q.1, g.f 40 (by rw [q.2]; rfl)]
  exact h
theorem RZ.ag (h : RZ i) (g : Ag X E T F G i i') (q : (E 34 || E 35) = false) : RZ i' := by
  simp only [Bool.or_eq_false_iff] at q
  unfold RZ
  rw [g.f 34 (by rw [q.1]; rfl), g.f 35 (by rw [q.2]; rfl)]
  exact h
end Ags
/-- all but the row and the sets' counts -/
def Cor (X : XS) (i : Nat → Nat → Int32) : Prop := (∃ n, R0 X i n) ∧ R1 i ∧ (∃ ng, R2 X i ng ∧ ∃ no, R4 X i no ng) ∧ (∃ tn, R3 i tn) ∧ (∃ np, R5 X i np) ∧ R6 i ∧ ∃ ns, R7 i ns
/-- names not yet given have no tag -/
def NX (X : XS) : Prop := 76 ≤ xn X ∧ ∀ b, xn X + 2 ≤ b → xt X b = 0
def Rel (X : XS) (i : Nat → Nat → Int32) (j : Nat → Nat → Int64) : Prop := NX X ∧ Cor X i ∧ R8 i j ∧ RZ i
theorem Cor.kp {X : XS} {i i' : Nat → Nat → Int32} (h : Cor X i) (k : Kp X i i') : Cor X i' := by
  obtain ⟨⟨n, h0⟩, h1, ⟨ng, h2, no, h4⟩, ⟨tn, h3⟩, ⟨np, h5⟩, h6, ns, h7⟩ := h
  have g := k.ag
  exact ⟨⟨n, h0.ag g rfl⟩, h1.ag g rfl, ⟨ng, h2.kp k, no, h4.kp k⟩, ⟨tn, h3.ag g rfl⟩, ⟨np, h5.kp k⟩, h6.ag g rfl, ns, h7.ag g rfl⟩
/-- how far a call may make cells -/
def Grw (X X' : XS) : Prop := xn X ≤ xn X' ∧ xn X' ≤ xn X + 4 ∧ xu X' ≤ xu X + 600
theorem Grw.rf {X : XS} : Grw X X := ⟨Nat.le_refl _, by omega, by omega⟩
/-- thrown alone is changed -/
theorem Rel.th {X : XS} {i : Nat → Nat → Int32} {j : Nat → Nat → Int64} (h : Rel X i j) (v : Int32) : Rel X (s2 i 42 36 v) j := by
  have k : Kp X i (s2 i 42 36 v) := ⟨fun b _ h42 => s2_ne h42, fun k hk => s2_ne2 (by omega)⟩
  refine ⟨h.1, h.2.1.kp k, ?_, ?_⟩
  · unfold R8
    rw [s2_ne (show 40 ≠ 42 by decide), s2_ne2 (show 35 ≠ 36 by decide)]; exact h.2.2.1
  · unfold RZ
    rw [s2_ne (show 34 ≠ 42 by decide), s2_ne (show 35 ≠ 42 by decide)]; exact h.2.2.2
theorem Rel.ou {X : XS} {i : Nat → Nat → Int32} {j : Nat → Nat → Int64} (h : Rel X i j) (v : Int64) : Rel X i (s2 j 77 0 v) := by
  refine ⟨h.1, h.2.1, ?_, h.2.2.2⟩
  unfold R8
  rw [s2_ne (show 41 ≠ 77 by decide), s2_ne (show 70 ≠ 77 by decide)]; exact h.2.2.1
