/-! ===== small methods ===== -/
set_option maxRecDepth 100000 in
theorem s_1462 (d : Nat) (X : XS) (i : Nat → Nat → Int32) (j : Nat → Nat → Int64) (a0 : Int32) (a1 : Int32) (a2 : Int32) (K : Int32 → AM → Prop) (h : ((a0 < a1 → K (nI 0) (mm X i j)) ∧ (¬ (a0 < a1) → ((a2 < a0 → K (nI 0) (mm X i j)) ∧ (¬ (a2 < a0) → K (nI 1) (mm X i j)))))) : WI d 1462 [.int a0, .int a1, .int a2] (mm X i j) K := te_1462 d a0 a1 a2 (mm X i j) (qI K) ⟨fun e1 => ⟨k0_01, ⟨_, rfl, (h.1 (e1))⟩⟩, fun e1 => ⟨fun e2 => ⟨k0_01, ⟨_, rfl, ((h.2 (e1)).1 (e2))⟩⟩, fun e2 => ⟨k1_01, ⟨_, rfl, ((h.2 (e1)).2 (e2))⟩⟩⟩⟩
set_option maxRecDepth 100000 in
theorem s_1538 (d : Nat) (X : XS) (i : Nat → Nat → Int32) (j : Nat → Nat → Int64) (a0 : Int32) (a1 : Int32) (a2 : Int32) (K : Int32 → AM → Prop) (h : ((a0 < a1 → K (nI 0) (mm X i j)) ∧ (¬ (a0 < a1) → ((a2 < a0 → K (nI 0) (mm X i j)) ∧ (¬ (a2 < a0) → K (nI 1) (mm X i j)))))) : WI d 1538 [.int a0, .int a1, .int a2] (mm X i j) K := te_1538 d a0 a1 a2 (mm X i j) (qI K) ⟨fun e1 => ⟨k0_01, ⟨_, rfl, (h.1 (e1))⟩⟩, fun e1 => ⟨fun e2 => ⟨k0_01, ⟨_, rfl, ((h.2 (e1)).1 (e2))⟩⟩, fun e2 => ⟨k1_01, ⟨_, rfl, ((h.2 (e1)).2 (e2))⟩⟩⟩⟩
theorem p_1462 (d : Nat) (X : XS) (i : Nat → Nat → Int32) (j : Nat → Nat → Int64) (a0 a1 a2 : Int32) (K : Int32 → AM → Prop) (h : K (bi (a1 ≤ a0 ∧ a0 ≤ a2)) (mm X i j)) : WI d 1462 [.int a0, .int a1, .int a2] (mm X i j) K := by
  refine s_1462 d X i j a0 a1 a2 K ⟨fun h1 => ?_, fun h1 => ⟨fun h2 => ?_, fun h2 => ?_⟩⟩
  · rw [bi_f (fun z => absurd z.1 (by rw [Int32.not_le]; exact h1))] at h; exact h
  · rw [bi_f (fun z => absurd z.2 (by rw [Int32.not_le]; exact h2))] at h; exact h
  · rw [bi_t ⟨Int32.not_lt.mp h1, Int32.not_lt.mp h2⟩] at h; exact h
theorem p_1538 (d : Nat) (X : XS) (i : Nat → Nat → Int32) (j : Nat → Nat → Int64) (a0 a1 a2 : Int32) (K : Int32 → AM → Prop) (h : K (bi (a1 ≤ a0 ∧ a0 ≤ a2)) (mm X i j)) : WI d 1538 [.int a0, .int a1, .int a2] (mm X i j) K := by
  refine s_1538 d X i j a0 a1 a2 K ⟨fun h1 => ?_, fun h1 => ⟨fun h2 => ?_, fun h2 => ?_⟩⟩
  · rw [bi_f (fun z => absurd z.1 (by rw [Int32.not_le]; exact h1))] at h; exact h
  · rw [bi_f (fun z => absurd z.2 (by rw [Int32.not_le]; exact h2))] at h; exact h
  · rw [bi_t ⟨Int32.not_lt.mp h1, Int32.not_lt.mp h2⟩] at h; exact h
set_option maxRecDepth 100000 in
theorem s_1463 (d : Nat) (X : XS) (i : Nat → Nat → Int32) (j : Nat → Nat → Int64) (a0 : Int32) (K : Int32 → AM → Prop) (h : K (bi ((nI 0) ≤ a0 ∧ a0 ≤ (nI 3))) (mm X i j)) : WI (d + 1) 1463 [.int a0] (mm X i j) K := te_1463 d a0 (mm X i j) (qI K) (p_1462 d X i j a0 (nI 0) (nI 3) _ ⟨(bi_01 _), ⟨_, rfl, h⟩⟩)
set_option maxRecDepth 100000 in
theorem s_1544 (d : Nat) (X : XS) (i : Nat → Nat → Int32) (j : Nat → Nat → Int64) (a0 : Int32) (K : Int32 → AM → Prop) (h : K (bi ((nI 0) ≤ a0 ∧ a0 ≤ (nI 3))) (mm X i j)) : WI (d + 1) 1544 [.int a0] (mm X i j) K := te_1544 d a0 (mm X i j) (qI K) (p_1538 d X i j a0 (nI 0) (nI 3) _ ⟨(bi_01 _), ⟨_, rfl, h⟩⟩)
set_option maxRecDepth 100000 in
theorem s_1464 (d : Nat) (X : XS) (i : Nat → Nat → Int32) (j : Nat → Nat → Int64) (a0 : Int32) (a1 : Int32) (K : Int32 → AM → Prop) (h : ((¬ ((nI 1) ≤ a0 ∧ a0 ≤ (nI 3)) → K (nI 0) (mm X i j)) ∧ ((nI 1) ≤ a0 ∧ a0 ≤ (nI 3) → ((¬ ((nI 1) ≤ a1 ∧ a1 ≤ (nI 9)) → K (nI 0) (mm X i j)) ∧ ((nI 1) ≤ a1 ∧ a1 ≤ (nI 9) → K (nI 1) (mm X i j)))))) : WI (d + 1) 1464 [.int a0, .int a1] (mm X i j) K := te_1464 d a0 a1 (mm X i j) (qI K) (p_1462 d X i j a0 (nI 1) (nI 3) _ ⟨fun e1 => ⟨k0_01, ⟨_, rfl, (h.1 ((bi_z e1)))⟩⟩, fun e1 => (p_1462 d X i j a1 (nI 1) (nI 9) _ ⟨fun e2 => ⟨k0_01, ⟨_, rfl, ((h.2 ((bi_n e1))).1 ((bi_z e2)))⟩⟩, fun e2 => ⟨k1_01, ⟨_, rfl, ((h.2 ((bi_n e1))).2 ((bi_n e2)))⟩⟩⟩)⟩)
set_option maxRecDepth 100000 in
theorem s_1588 (d : Nat) (X : XS) (i : Nat → Nat → Int32) (j : Nat → Nat → Int64) (a0 : Int32) (a1 : Int32) (K : Int32 → AM → Prop) (h : ((¬ ((nI 1) ≤ a0 ∧ a0 ≤ (nI 3)) → K (nI 0) (mm X i j)) ∧ ((nI 1) ≤ a0 ∧ a0 ≤ (nI 3) → ((¬ ((nI 1) ≤ a1 ∧ a1 ≤ (nI 9)) → K (nI 0) (mm X i j)) ∧ ((nI 1) ≤ a1 ∧ a1 ≤ (nI 9) → K (nI 1) (mm X i j)))))) : WI (d + 1) 1588 [.int a0, .int a1] (mm X i j) K := te_1588 d a0 a1 (mm X i j) (qI K) (p_1538 d X i j a0 (nI 1) (nI 3) _ ⟨fun e1 => ⟨k0_01, ⟨_, rfl, (h.1 ((bi_z e1)))⟩⟩, fun e1 => (p_1538 d X i j a1 (nI 1) (nI 9) _ ⟨fun e2 => ⟨k0_01, ⟨_, rfl, ((h.2 ((bi_n e1))).1 ((bi_z e2)))⟩⟩, fun e2 => ⟨k1_01, ⟨_, rfl, ((h.2 ((bi_n e1))).2 ((bi_n e2)))⟩⟩⟩)⟩)
theorem p_1463 (d : Nat) (X : XS) (i : Nat → Nat → Int32) (j : Nat → Nat → Int64) (a0 : Int32) (K : Int32 → AM → Prop) (h : K (bi (nI 0 ≤ a0 ∧ a0 ≤ nI 3)) (mm X i j)) : WI (d + 1) 1463 [.int a0] (mm X i j) K := s_1463 d X i j a0 K h
theorem p_1544 (d : Nat) (X : XS) (i : Nat → Nat → Int32) (j : Nat → Nat → Int64) (a0 : Int32) (K : Int32 → AM → Prop) (h : K (bi (nI 0 ≤ a0 ∧ a0 ≤ nI 3)) (mm X i j)) : WI (d + 1) 1544 [.int a0] (mm X i j) K := s_1544 d X i j a0 K h
theorem p_1464 (d : Nat) (X : XS) (i : Nat → Nat → Int32) (j : Nat → Nat → Int64) (a0 a1 : Int32) (K : Int32 → AM → Prop) (h : K (bi ((nI 1 ≤ a0 ∧ a0 ≤ nI 3) ∧ (nI 1 ≤ a1 ∧ a1 ≤ nI 9))) (mm X i j)) : WI (d + 1) 1464 [.int a0, .int a1] (mm X i j) K := by
  refine s_1464 d X i j a0 a1 K ⟨fun h1 => ?_, fun h1 => ⟨fun h2 => ?_, fun h2 => ?_⟩⟩
  · rw [bi_f (fun z => h1 z.1)] at h; exact h
  · rw [bi_f (fun z => h2 z.2)] at h; exact h
  · rw [bi_t ⟨h1, h2⟩] at h; exact h
theorem p_1588 (d : Nat) (X : XS) (i : Nat → Nat → Int32) (j : Nat → Nat → Int64) (a0 a1 : Int32) (K : Int32 → AM → Prop) (h : K (bi ((nI 1 ≤ a0 ∧ a0 ≤ nI 3) ∧ (nI 1 ≤ a1 ∧ a1 ≤ nI 9))) (mm X i j)) : WI (d + 1) 1588 [.int a0, .int a1] (mm X i j) K := by
  refine s_1588 d X i j a0 a1 K ⟨fun h1 => ?_, fun h1 => ⟨fun h2 => ?_, fun h2 => ?_⟩⟩
  · rw [bi_f (fun z => h1 z.1)] at h; exact h
  · rw [bi_f (fun z => h2 z.2)] at h; exact h
  · rw [bi_t ⟨h1, h2⟩] at h; exact h
