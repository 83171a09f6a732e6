/-! ===== surveys: what stood and what came ===== -/
noncomputable def coI (P : Prop) (c l s m e : Int32) : Int32 := @ite _ P (Classical.propDecidable _) (c * m + s * e) (l * e)
def saP (c l s m e : Int32) : Prop := c * m + s * e < l * e
def sOn (s : Int32) (f : Nat → Int32) (x : Int32) : Prop := ¬ x < 0 ∧ x < s ∧ ¬ f x.toNatClampNeg = 0
noncomputable def stO (s : Int32) (f : Nat → Int32) (x b : Int32) : Int32 := @ite _ (x < 0 ∨ s ≤ x) (Classical.propDecidable _) (nI 0) ((f x.toNatClampNeg &&& b) &&& nI 1023)
noncomputable def tkI (i : Nat → Nat → Int32) (A B : Prop) : Nat → Nat → Int32 := s2 (s2 (s2 (s2 i 36 0 (i 36 0 + bi (A ∧ B))) 36 1 (i 36 1 + bi (A ∧ ¬ B))) 36 2 (i 36 2 + bi (¬ A ∧ B))) 36 3 (i 36 3 + bi (¬ A ∧ ¬ B))
def vdI (a b c d : Int32) : Int32 := if a + b = 0 then kI (-2) else if a * (a + b + c + d) - (a + b) * (a + c) = 0 then nI 0 else if a * (a + b + c + d) - (a + b) * (a + c) ≤ 0 then nI 2 else nI 1
set_option maxRecDepth 100000 in
theorem s_519 (d : Nat) (X : XS) (i : Nat → Nat → Int32) (j : Nat → Nat → Int64) (a0 : Nat) (h0 : PO X a0) (a1 : Int32) (a2 : Int32) (a3 : Int32) (K : Int32 → AM → Prop) (h : ((a1 = 0 → K ((i a0 1) * a3) (mm X i j)) ∧ (¬ (a1 = 0) → K (((i a0 0) * a2) + ((i a0 2) * a3)) (mm X i j)))) : WI d 519 [.ref a0, .int a1, .int a2, .int a3] (mm X i j) K := te_519 d a0 a1 a2 a3 (mm X i j) (qI K) ⟨fun e1 => ⟨h0, ⟨_, rfl, (h.1 (e1))⟩⟩, fun e1 => ⟨h0, ⟨h0, ⟨_, rfl, (h.2 (e1))⟩⟩⟩⟩
set_option maxRecDepth 100000 in
theorem s_520 (d : Nat) (X : XS) (i : Nat → Nat → Int32) (j : Nat → Nat → Int64) (a0 : Nat) (h0 : PO X a0) (a1 : Int32) (a2 : Int32) (K : Int32 → AM → Prop) (h : ((((i a0 1) * a2) ≤ (((i a0 0) * a1) + ((i a0 2) * a2)) → K (nI 0) (mm X i j)) ∧ (¬ (((i a0 1) * a2) ≤ (((i a0 0) * a1) + ((i a0 2) * a2))) → K (nI 1) (mm X i j)))) : WI (d + 1) 520 [.ref a0, .int a1, .int a2] (mm X i j) K := te_520 d a0 a1 a2 (mm X i j) (qI K) ⟨h0, (te_519 d a0 (nI 1) a1 a2 (mm X i j) _ ⟨fun e1 => absurd e1 (by decide), fun _ => ⟨h0, ⟨h0, ⟨_, rfl, ⟨h0, (te_519 d a0 (nI 0) a1 a2 (mm X i j) _ ⟨fun _ => ⟨h0, ⟨_, rfl, ⟨fun e3 => ⟨k0_01, ⟨_, rfl, (h.1 (e3))⟩⟩, fun e3 => ⟨k1_01, ⟨_, rfl, (h.2 (e3))⟩⟩⟩⟩⟩, fun e2 => absurd (by decide) e2⟩)⟩⟩⟩⟩⟩)⟩
set_option maxRecDepth 100000 in
theorem s_772 (d : Nat) (X : XS) (i : Nat → Nat → Int32) (j : Nat → Nat → Int64) (a1 : Int32) (K : Int32 → AM → Prop) (h : ((a1 < 0 → K (nI 0) (mm X i j)) ∧ (¬ (a1 < 0) → (((i 31 2) ≤ a1 → K (nI 0) (mm X i j)) ∧ (¬ ((i 31 2) ≤ a1) → (vp_in a1 240) ∧ (((i 32 ((a1).toNatClampNeg)) = 0 → K (nI 0) (mm X i j)) ∧ (¬ ((i 32 ((a1).toNatClampNeg)) = 0) → K (nI 1) (mm X i j)))))))) : WI d 772 [.ref 31, .int a1] (mm X i j) K := te_772 d 31 a1 (mm X i j) (qI K) ⟨fun e1 => ⟨k0_01, ⟨_, rfl, (h.1 (e1))⟩⟩, fun e1 => ⟨rfl, ⟨fun e2 => ⟨k0_01, ⟨_, rfl, ((h.2 (e1)).1 (e2))⟩⟩, fun e2 => ⟨rfl, ⟨⟨rfl, ((h.2 (e1)).2 (e2)).1⟩, ⟨fun e3 => ⟨k0_01, ⟨_, rfl, (((h.2 (e1)).2 (e2)).2.1 (e3))⟩⟩, fun e3 => ⟨k1_01, ⟨_, rfl, (((h.2 (e1)).2 (e2)).2.2 (e3))⟩⟩⟩⟩⟩⟩⟩⟩
set_option maxRecDepth 100000 in
theorem s_773 (d : Nat) (X : XS) (i : Nat → Nat → Int32) (j : Nat → Nat → Int64) (a1 : Int32) (K : Int32 → AM → Prop) (h : ((a1 < 0 → K (nI 0) (mm X i j)) ∧ (¬ (a1 < 0) → (((i 31 2) ≤ a1 → K (nI 0) (mm X i j)) ∧ (¬ ((i 31 2) ≤ a1) → (vp_in a1 240) ∧ (((i 33 ((a1).toNatClampNeg)) = 0 → K (nI 0) (mm X i j)) ∧ (¬ ((i 33 ((a1).toNatClampNeg)) = 0) → K (nI 1) (mm X i j)))))))) : WI d 773 [.ref 31, .int a1] (mm X i j) K := te_773 d 31 a1 (mm X i j) (qI K) ⟨fun e1 => ⟨k0_01, ⟨_, rfl, (h.1 (e1))⟩⟩, fun e1 => ⟨rfl, ⟨fun e2 => ⟨k0_01, ⟨_, rfl, ((h.2 (e1)).1 (e2))⟩⟩, fun e2 => ⟨rfl, ⟨⟨(Or.inl rfl), ((h.2 (e1)).2 (e2)).1⟩, ⟨fun e3 => ⟨k0_01, ⟨_, rfl, (((h.2 (e1)).2 (e2)).2.1 (e3))⟩⟩, fun e3 => ⟨k1_01, ⟨_, rfl, (((h.2 (e1)).2 (e2)).2.2 (e3))⟩⟩⟩⟩⟩⟩⟩⟩
set_option maxRecDepth 100000 in
theorem s_779 (d : Nat) (X : XS) (i : Nat → Nat → Int32) (j : Nat → Nat → Int64) (a1 : Int32) (a2 : Int32) (K : Int32 → AM → Prop) (h : ((a1 < 0 → K (nI 0) (mm X i j)) ∧ (¬ (a1 < 0) → (((i 31 2) ≤ a1 → K (nI 0) (mm X i j)) ∧ (¬ ((i 31 2) ≤ a1) → (vp_in a1 240) ∧ K (((i 32 ((a1).toNatClampNeg)) &&& a2) &&& (nI 1023)) (mm X i j)))))) : WI d 779 [.ref 31, .int a1, .int a2] (mm X i j) K := te_779 d 31 a1 a2 (mm X i j) (qI K) ⟨fun e1 => ⟨_, rfl, (h.1 (e1))⟩, fun e1 => ⟨rfl, ⟨fun e2 => ⟨_, rfl, ((h.2 (e1)).1 (e2))⟩, fun e2 => ⟨rfl, ⟨⟨rfl, ((h.2 (e1)).2 (e2)).1⟩, ⟨_, rfl, ((h.2 (e1)).2 (e2)).2⟩⟩⟩⟩⟩⟩
set_option maxRecDepth 100000 in
theorem s_898 (d : Nat) (X : XS) (i : Nat → Nat → Int32) (j : Nat → Nat → Int64) (a1 : Int32) (a2 : Int32) (K : AM → Prop) (h : ((a1 = 0 → ((a2 = 0 → K (mm X (s2 (s2 (s2 (s2 i 36 0 ((i 36 0) + (nI 0))) 36 1 ((i 36 1) + (nI 0))) 36 2 ((i 36 2) + (nI 0))) 36 3 ((i 36 3) + (nI 1))) j)) ∧ (¬ (a2 = 0) → K (mm X (s2 (s2 (s2 (s2 i 36 0 ((i 36 0) + (nI 0))) 36 1 ((i 36 1) + (nI 0))) 36 2 ((i 36 2) + (nI 1))) 36 3 ((i 36 3) + (nI 0))) j)))) ∧ (¬ (a1 = 0) → ((a2 = 0 → K (mm X (s2 (s2 (s2 (s2 i 36 0 ((i 36 0) + (nI 0))) 36 1 ((i 36 1) + (nI 1))) 36 2 ((i 36 2) + (nI 0))) 36 3 ((i 36 3) + (nI 0))) j)) ∧ (¬ (a2 = 0) → K (mm X (s2 (s2 (s2 (s2 i 36 0 ((i 36 0) + (nI 1))) 36 1 ((i 36 1) + (nI 0))) 36 2 ((i 36 2) + (nI 0))) 36 3 ((i 36 3) + (nI 0))) j)))))) : WV d 898 [.ref 36, .int a1, .int a2] (mm X i j) K := te_898 d 36 a1 a2 (mm X i j) (qV K) ⟨rfl, ⟨fun e1 => ⟨rfl, (tc_898_22 d 36 a1 a2 (mm X (s2 i 36 0 ((i 36 0) + (nI 0))) j) _ ⟨rfl, ⟨fun _ => ⟨rfl, (tc_898_44 d 36 a1 a2 (mm X (s2 (s2 i 36 0 ((i 36 0) + (nI 0))) 36 1 ((i 36 1) + (nI 0))) j) _ ⟨rfl, ⟨fun e3 => absurd e3 (fun z => z (e1)), fun _ => ⟨fun e4 => ⟨rfl, (tc_898_66 d 36 a1 a2 (mm X (s2 (s2 (s2 i 36 0 ((i 36 0) + (nI 0))) 36 1 ((i 36 1) + (nI 0))) 36 2 ((i 36 2) + (nI 0))) j) _ ⟨rfl, ⟨fun e5 => absurd e5 (fun z => z (e1)), fun _ => ⟨fun e6 => absurd e6 (fun z => z (e4)), fun _ => ⟨rfl, ⟨rfl, ((h.1 (e1)).1 (e4))⟩⟩⟩⟩⟩)⟩, fun e4 => ⟨rfl, (tc_898_66 d 36 a1 a2 (mm X (s2 (s2 (s2 i 36 0 ((i 36 0) + (nI 0))) 36 1 ((i 36 1) + (nI 0))) 36 2 ((i 36 2) + (nI 1))) j) _ ⟨rfl, ⟨fun e7 => absurd e7 (fun z => z (e1)), fun _ => ⟨fun _ => ⟨rfl, ⟨rfl, ((h.1 (e1)).2 (e4))⟩⟩, fun e8 => absurd ((e4)) e8⟩⟩⟩)⟩⟩⟩⟩)⟩, fun e2 => absurd ((e1)) e2⟩⟩)⟩, fun e1 => ⟨fun e9 => ⟨rfl, (tc_898_22 d 36 a1 a2 (mm X (s2 i 36 0 ((i 36 0) + (nI 0))) j) _ ⟨rfl, ⟨fun e10 => absurd e10 ((e1)), fun _ => ⟨fun e11 => absurd e11 (fun z => z (e9)), fun _ => ⟨rfl, (tc_898_44 d 36 a1 a2 (mm X (s2 (s2 i 36 0 ((i 36 0) + (nI 0))) 36 1 ((i 36 1) + (nI 1))) j) _ ⟨rfl, ⟨fun _ => ⟨rfl, (tc_898_66 d 36 a1 a2 (mm X (s2 (s2 (s2 i 36 0 ((i 36 0) + (nI 0))) 36 1 ((i 36 1) + (nI 1))) 36 2 ((i 36 2) + (nI 0))) j) _ ⟨rfl, ⟨fun _ => ⟨rfl, ⟨rfl, ((h.2 (e1)).1 (e9))⟩⟩, fun e13 => absurd ((e1)) e13⟩⟩)⟩, fun e12 => absurd ((e1)) e12⟩⟩)⟩⟩⟩⟩)⟩, fun e9 => ⟨rfl, (tc_898_22 d 36 a1 a2 (mm X (s2 i 36 0 ((i 36 0) + (nI 1))) j) _ ⟨rfl, ⟨fun e14 => absurd e14 ((e1)), fun _ => ⟨fun _ => ⟨rfl, (tc_898_44 d 36 a1 a2 (mm X (s2 (s2 i 36 0 ((i 36 0) + (nI 1))) 36 1 ((i 36 1) + (nI 0))) j) _ ⟨rfl, ⟨fun _ => ⟨rfl, (tc_898_66 d 36 a1 a2 (mm X (s2 (s2 (s2 i 36 0 ((i 36 0) + (nI 1))) 36 1 ((i 36 1) + (nI 0))) 36 2 ((i 36 2) + (nI 0))) j) _ ⟨rfl, ⟨fun _ => ⟨rfl, ⟨rfl, ((h.2 (e1)).2 (e9))⟩⟩, fun e17 => absurd ((e1)) e17⟩⟩)⟩, fun e16 => absurd ((e1)) e16⟩⟩)⟩, fun e15 => absurd ((e9)) e15⟩⟩⟩)⟩⟩⟩⟩
set_option maxRecDepth 100000 in
theorem s_907 (d : Nat) (X : XS) (i : Nat → Nat → Int32) (j : Nat → Nat → Int64)  (K : Int32 → AM → Prop) (h : ((¬ (((i 36 0) + (i 36 1)) = 0) → ((¬ ((((i 36 0) * ((((i 36 0) + (i 36 1)) + (i 36 2)) + (i 36 3))) - (((i 36 0) + (i 36 1)) * ((i 36 0) + (i 36 2)))) = 0) → (((((i 36 0) * ((((i 36 0) + (i 36 1)) + (i 36 2)) + (i 36 3))) - (((i 36 0) + (i 36 1)) * ((i 36 0) + (i 36 2)))) ≤ 0 → K (nI 2) (mm X i j)) ∧ (¬ ((((i 36 0) * ((((i 36 0) + (i 36 1)) + (i 36 2)) + (i 36 3))) - (((i 36 0) + (i 36 1)) * ((i 36 0) + (i 36 2)))) ≤ 0) → K (nI 1) (mm X i j)))) ∧ ((((i 36 0) * ((((i 36 0) + (i 36 1)) + (i 36 2)) + (i 36 3))) - (((i 36 0) + (i 36 1)) * ((i 36 0) + (i 36 2)))) = 0 → K (nI 0) (mm X i j)))) ∧ (((i 36 0) + (i 36 1)) = 0 → K (kI (-2)) (mm X i j)))) : WI (d + 2) 907 [.ref 36] (mm X i j) K := te_907 (d + 1) 36 (mm X i j) (qI K) ⟨rfl, (te_903 (d + 1) 36 (mm X i j) _ ⟨rfl, ⟨rfl, ⟨_, rfl, ⟨fun e1 => ⟨rfl, (te_906 d 36 (mm X i j) _ ⟨rfl, ⟨rfl, (te_905 d 36 (mm X i j) _ ⟨rfl, ⟨rfl, ⟨rfl, ⟨rfl, ⟨_, rfl, ⟨rfl, (te_903 d 36 (mm X i j) _ ⟨rfl, ⟨rfl, ⟨_, rfl, ⟨rfl, (te_904 d 36 (mm X i j) _ ⟨rfl, ⟨rfl, ⟨_, rfl, ⟨_, rfl, ⟨fun e2 => ⟨fun e3 => ⟨_, rfl, (((h.1 (e1)).1 (e2)).1 (e3))⟩, fun e3 => ⟨_, rfl, (((h.1 (e1)).1 (e2)).2 (e3))⟩⟩, fun e2 => ⟨_, rfl, ((h.1 (e1)).2 ((Classical.byContradiction e2)))⟩⟩⟩⟩⟩⟩)⟩⟩⟩⟩)⟩⟩⟩⟩⟩⟩)⟩⟩)⟩, fun e1 => ⟨_, rfl, (h.2 ((Classical.byContradiction e1)))⟩⟩⟩⟩⟩)⟩
theorem p_519 (d : Nat) (X : XS) (i : Nat → Nat → Int32) (j : Nat → Nat → Int64) (a0 : Nat) (h0 : PO X a0) (P : Prop) (a2 a3 : Int32) (K : Int32 → AM → Prop) (h : K (coI P (i a0 0) (i a0 1) (i a0 2) a2 a3) (mm X i j)) : WI d 519 [.ref a0, .int (bi P), .int a2, .int a3] (mm X i j) K := by
  unfold coI at h
  refine s_519 d X i j a0 h0 _ a2 a3 K (br_c (fun z => ?_) (fun z => ?_))
  · rw [if_neg (bi_z z)] at h; exact h
  · rw [if_pos (bi_n z)] at h; exact h
theorem p_520 (d : Nat) (X : XS) (i : Nat → Nat → Int32) (j : Nat → Nat → Int64) (a0 : Nat) (h0 : PO X a0) (a1 a2 : Int32) (K : Int32 → AM → Prop) (h : K (bi (saP (i a0 0) (i a0 1) (i a0 2) a1 a2)) (mm X i j)) : WI (d + 1) 520 [.ref a0, .int a1, .int a2] (mm X i j) K := by
  obtain ⟨h1, h2⟩ := b_c (K := fun x => K x (mm X i j)) h
  exact s_520 d X i j a0 h0 a1 a2 K (br_c (fun z => h2 (Int32.not_lt.mpr z)) (fun z => h1 (Int32.not_le.mp z)))
theorem p_772 (d : Nat) (X : XS) (i : Nat → Nat → Int32) (j : Nat → Nat → Int64) (a1 : Int32) (K : Int32 → AM → Prop) (h : i 31 2 ≤ nI 240 ∧ K (bi (sOn (i 31 2) (i 32) a1)) (mm X i j)) : WI d 772 [.ref 31, .int a1] (mm X i j) K := by
  obtain ⟨h1, h2⟩ := b_c (K := fun x => K x (mm X i j)) h.2
  exact s_772 d X i j a1 K (br_c (fun z => h2 fun q => q.1 z) (fun z => br_c (fun z2 => h2 fun q => absurd z2 (Int32.not_le.mpr q.2.1)) (fun z2 => ⟨vin_lt (by decide) z (Int32.not_le.mp z2) h.1, br_c (fun z3 => h2 fun q => q.2.2 z3) (fun z3 => h1 ⟨z, Int32.not_le.mp z2, z3⟩)⟩)))
theorem p_773 (d : Nat) (X : XS) (i : Nat → Nat → Int32) (j : Nat → Nat → Int64) (a1 : Int32) (K : Int32 → AM → Prop) (h : i 31 2 ≤ nI 240 ∧ K (bi (sOn (i 31 2) (i 33) a1)) (mm X i j)) : WI d 773 [.ref 31, .int a1] (mm X i j) K := by
  obtain ⟨h1, h2⟩ := b_c (K := fun x => K x (mm X i j)) h.2
  exact s_773 d X i j a1 K (br_c (fun z => h2 fun q => q.1 z) (fun z => br_c (fun z2 => h2 fun q => absurd z2 (Int32.not_le.mpr q.2.1)) (fun z2 => ⟨vin_lt (by decide) z (Int32.not_le.mp z2) h.1, br_c (fun z3 => h2 fun q => q.2.2 z3) (fun z3 => h1 ⟨z, Int32.not_le.mp z2, z3⟩)⟩)))
theorem p_779 (d : Nat) (X : XS) (i : Nat → Nat → Int32) (j : Nat → Nat → Int64) (a1 a2 : Int32) (K : Int32 → AM → Prop) (h : i 31 2 ≤ nI 240 ∧ K (stO (i 31 2) (i 32) a1 a2) (mm X i j)) : WI d 779 [.ref 31, .int a1, .int a2] (mm X i j) K := by
  have h2 := h.2
  unfold stO at h2
  refine s_779 d X i j a1 a2 K (br_c (fun z => ?_) (fun z => br_c (fun z2 => ?_) (fun z2 => ⟨vin_lt (by decide) z (Int32.not_le.mp z2) h.1, ?_⟩)))
  · rw [if_pos (Or.inl z)] at h2; exact h2
  · rw [if_pos (Or.inr z2)] at h2; exact h2
  · rw [if_neg (fun q => q.elim z z2)] at h2; exact h2
theorem p_898 (d : Nat) (X : XS) (i : Nat → Nat → Int32) (j : Nat → Nat → Int64) (A B : Prop) (K : AM → Prop) (h : K (mm X (tkI i A B) j)) : WV d 898 [.ref 36, .int (bi A), .int (bi B)] (mm X i j) K := by
  unfold tkI at h
  refine s_898 d X i j _ _ K (br_c (fun z => br_c (fun z2 => ?_) (fun z2 => ?_)) (fun z => br_c (fun z2 => ?_) (fun z2 => ?_)))
  · have hA := bi_z z
    have hB := bi_z z2
    rw [bi_f (fun q => hA q.1), bi_f (fun q => hA q.1), bi_f (fun q => hB q.2), bi_t ⟨hA, hB⟩] at h; exact h
  · have hA := bi_z z
    have hB := bi_n z2
    rw [bi_f (fun q => hA q.1), bi_f (fun q => hA q.1), bi_t ⟨hA, hB⟩, bi_f (fun q => q.2 hB)] at h; exact h
  · have hA := bi_n z
    have hB := bi_z z2
    rw [bi_f (fun q => hB q.2), bi_t ⟨hA, hB⟩, bi_f (fun q => hB q.2), bi_f (fun q => q.1 hA)] at h; exact h
  · have hA := bi_n z
    have hB := bi_n z2
    rw [bi_t ⟨hA, hB⟩, bi_f (fun q => q.2 hB), bi_f (fun q => q.1 hA), bi_f (fun q => q.1 hA)] at h; exact h
theorem p_907 (d : Nat) (X : XS) (i : Nat → Nat → Int32) (j : Nat → Nat → Int64) (K : Int32 → AM → Prop) (h : K (vdI (i 36 0) (i 36 1) (i 36 2) (i 36 3)) (mm X i j)) : WI (d + 2) 907 [.ref 36] (mm X i j) K := by
  unfold vdI at h
  refine s_907 d X i j K (bq_c (fun z => bq_c (fun z2 => br_c (fun z3 => ?_) (fun z3 => ?_)) (fun z2 => ?_)) (fun z => ?_))
  · rw [if_neg z, if_neg z2, if_pos z3] at h; exact h
  · rw [if_neg z, if_neg z2, if_neg z3] at h; exact h
  · rw [if_neg z, if_pos z2] at h; exact h
  · rw [if_pos z] at h; exact h
/-- which of the first e signs told as bits stand on day t -/
noncomputable def stF (X : XS) (i : Nat → Nat → Int32) (w a k : Nat → Int32) (bits : Int32) (t : Nat) : Nat → Int32
  | 0 => nI 0
  | e + 1 => @ite _ (¬ (shrI bits (nI e) &&& nI 1) = 0 ∧ ¬ vlF X i w a k e t = 0) (Classical.propDecidable _) (stF X i w a k bits t e ||| shlI (nI 1) (nI e)) (stF X i w a k bits t e)
theorem stF_kp {X : XS} {i i' : Nat → Nat → Int32} {no ng : Nat} (h : R4 X i no ng) (k : Kp X i i') (w a kk : Nat → Int32) (bits : Int32) (t : Nat) : ∀ e, e ≤ no → stF X i' w a kk bits t e = stF X i w a kk bits t e
  | 0, _ => rfl
  | e + 1, he => by
    unfold stF
    rw [stF_kp h k w a kk bits t e (by omega), vlF_kp h k w a kk (by omega) t]
theorem bnar_bi (P : Prop) : bnar 21 (bi P) = bi P := by
  rcases bi_01 P with e | e <;> rw [e] <;> rfl
theorem mx_sub {n q : Nat} (hn : n < 2 ^ 30) (hq : q < 2 ^ 30) : mxI (nI 0) (nI n - nI q) = nI (n - q) := by
  unfold mxI
  by_cases h : q < n
  · rw [show nI n - nI q = nI (n - q) from pk_sub (by omega), if_pos (nI_lt (by omega) (by omega))]
  · by_cases h2 : n = q
    · subst h2
      rw [show nI n - nI n = nI (n - n) from pk_sub (by omega), Nat.sub_self, if_neg (nI_nlt (Nat.le_refl _) (by decide))]
    · rw [if_neg, show n - q = 0 by omega]
      intro z
      have := pk_sneg (a := n) (b := q) hq (by omega)
      rw [Int32.lt_iff_toInt_lt] at z this
      have e : (nI 0).toInt = 0 := rfl
      have e2 : (0 : Int32).toInt = 0 := rfl
      omega
/-- the survey holds kn days: what stood, what came -/
def SV (i : Nat → Nat → Int32) (kn : Nat) (so : Nat → Int32) (ca : Nat → Prop) : Prop := i 31 2 = nI kn ∧ kn ≤ 240 ∧ ∀ t, t < kn → i 32 t = so t ∧ i 33 t = bi (ca t)
section SVs
variable {i : Nat → Nat → Int32} {kn : Nat} {so : Nat → Int32} {ca : Nat → Prop}
theorem SV.ok (h : SV i kn so ca) : i 31 2 ≤ nI 240 := by rw [h.1]; exact nI_le h.2.1 (by decide)
theorem SV.st (h : SV i kn so ca) {t : Nat} (ht : t < kn) : sOn (i 31 2) (i 32) (nI t) ↔ ¬ so t = 0 := by
  have hk := h.2.1
  unfold sOn
  rw [h.1, tc_nI (by omega), (h.2.2 t ht).1]
  exact ⟨fun q => q.2.2, fun q => ⟨nI_pos (by omega), nI_lt ht (by omega), q⟩⟩
theorem SV.cm (h : SV i kn so ca) {t : Nat} (ht : t < kn) : sOn (i 31 2) (i 33) (nI t) ↔ ca t := by
  have hk := h.2.1
  unfold sOn
  rw [h.1, tc_nI (by omega), (h.2.2 t ht).2, bi_eq0]
  exact ⟨fun q => Classical.byContradiction q.2.2, fun q => ⟨nI_pos (by omega), nI_lt ht (by omega), fun z => z q⟩⟩
theorem SV.sx (h : SV i kn so ca) {t : Nat} (ht : t < kn) (b : Int32) : stO (i 31 2) (i 32) (nI t) b = (so t &&& b) &&& nI 1023 := by
  have hk := h.2.1
  unfold stO
  rw [h.1, tc_nI (by omega), (h.2.2 t ht).1, if_neg]
  rintro (z | z)
  · exact nI_pos (by omega) z
  · exact nI_ge ht (by omega) z
theorem SV.kp (h : SV i kn so ca) {i' : Nat → Nat → Int32} (e0 : i' 31 = i 31) (e1 : i' 32 = i 32) (e2 : i' 33 = i 33) : SV i' kn so ca := by
  unfold SV at h ⊢
  rw [e0, e1, e2]; exact h
theorem SV.cg (h : SV i kn so ca) {so' : Nat → Int32} {ca' : Nat → Prop} (e : ∀ t, t < kn → so t = so' t ∧ (ca t ↔ ca' t)) : SV i kn so' ca' :=
  ⟨h.1, h.2.1, fun t ht => ⟨(h.2.2 t ht).1.trans (e t ht).1, (h.2.2 t ht).2.trans (bi_cg (e t ht).2)⟩⟩
end SVs
set_option maxRecDepth 100000 in
theorem s_1477 (d : Nat) (X : XS) (i : Nat → Nat → Int32) (j : Nat → Nat → Int64) (a1 : Nat) (h1 : DO X a1) (a2 : Int32) (a3 : Int32) (K : Int32 → AM → Prop) (h : WP (d + 3) 1477 (6, [(0, .ref 2), (1, .ref a1), (2, .int a2), (3, .int a3), (4, .int (nI 0)), (5, .int (nI 0))], [], (mm X i j)) (qI K)) : WI (d + 3) 1477 [.ref 2, .ref a1, .int a2, .int a3] (mm X i j) K := te_1477 (d + 2) 2 a1 a2 a3 (mm X i j) (qI K) h
set_option maxRecDepth 100000 in
theorem s_1477_6 (d : Nat) (X : XS) (i : Nat → Nat → Int32) (j : Nat → Nat → Int64) (v1 : Nat) (h1 : DO X v1) (v2 : Int32) (v3 : Int32) (v4 : Int32) (v5 : Int32) (Q : Option (Option Value) → AM → Prop) (h : (((i 2 7) ≤ v5 → Q (some (some (.int v4))) (mm X i j)) ∧ (¬ ((i 2 7) ≤ v5) → ((((shrI v2 v5) &&& (nI 1)) = 0 → WP (d + 3) 1477 (6, [(0, .ref 2), (1, .ref v1), (2, .int v2), (3, .int v3), (4, .int v4), (5, .int (v5 + (nI 1)))], [], (mm X i j)) Q) ∧ (¬ (((shrI v2 v5) &&& (nI 1)) = 0) → (SGs X i) ∧ ((¬ ((nI 0) ≤ v5 ∧ v5 ≤ ((i 2 7) - (nI 1)))) → WP (d + 3) 1477 (6, [(0, .ref 2), (1, .ref v1), (2, .int v2), (3, .int v3), (4, .int v4), (5, .int (v5 + (nI 1)))], [], (mm X i j)) Q) ∧ (((nI 0) ≤ v5 ∧ v5 ≤ ((i 2 7) - (nI 1))) → (OO X (xr X 23 (v5.toNatClampNeg))) → (∃ (x11 : Int32), ∃ (i10 : Nat → Nat → Int32), EvI (d + 2) 387 [.ref (xr X 23 (v5.toNatClampNeg)), .ref v1, .int v3] (mm X i j) x11 (mm X i10 j) ∧ ((x11 = 0 → WP (d + 3) 1477 (6, [(0, .ref 2), (1, .ref v1), (2, .int v2), (3, .int v3), (4, .int v4), (5, .int (v5 + (nI 1)))], [], (mm X i10 j)) Q) ∧ (¬ (x11 = 0) → WP (d + 3) 1477 (6, [(0, .ref 2), (1, .ref v1), (2, .int v2), (3, .int v3), (4, .int (v4 ||| (shlI (nI 1) v5))), (5, .int (v5 + (nI 1)))], [], (mm X i10 j)) Q))))))))) : WP (d + 3) 1477 (6, [(0, .ref 2), (1, .ref v1), (2, .int v2), (3, .int v3), (4, .int v4), (5, .int v5)], [], mm X i j) Q := tc_1477_6 (d + 2) 2 v1 v2 v3 v4 v5 (mm X i j) Q ⟨rfl, ⟨fun e1 => (h.1 (e1)), fun e1 => ⟨fun e2 => ⟨fun _ => (tc_1477_60 (d + 2) 2 v1 v2 v3 v4 v5 (mm X i j) _ ((h.2 (e1)).1 (e2))), fun e3 => absurd rfl e3⟩, fun e2 => ⟨rfl, (p_1468 (d + 1) X i j v5 _ ⟨((h.2 (e1)).2 (e2)).1, (fun h5 => ⟨fun _ => (tc_1477_60 (d + 2) 2 v1 v2 v3 v4 v5 (mm X i j) _ (((h.2 (e1)).2 (e2)).2.1 h5)), fun e6 => absurd rfl e6⟩), (fun h7 h8 => ⟨fun e9 => absurd e9 (nz_k (h8.1)), fun _ => ⟨h8.1, (Exists.elim (((h.2 (e1)).2 (e2)).2.2 h7 h8) fun x11 h13 => Exists.elim h13 fun i10 h14 => EvI.use h14.1 ⟨fun e12 => (tc_1477_60 (d + 2) 2 v1 v2 v3 v4 v5 (mm X i10 j) _ (h14.2.1 (e12))), fun e12 => (tc_1477_60 (d + 2) 2 v1 v2 v3 (v4 ||| (shlI (nI 1) v5)) v5 (mm X i10 j) _ (h14.2.2 (e12)))⟩)⟩⟩)⟩)⟩⟩⟩⟩
theorem c_1477 (d : Nat) (X : XS) (i : Nat → Nat → Int32) (j : Nat → Nat → Int64) {ng no n : Nat} {w a k : Nat → Int32} (h2 : R2 X i ng) (h4 : R4 X i no ng) (hL : LK X i ng n a) (o : Nat) (ho : DO X o) (hoT : DT X o) (hD : DY X o i n w a k) (bits : Int32) {t : Nat} (ht : t < n) :
    ∃ i', EvI (d + 3) 1477 [.ref 2, .ref o, .int bits, .int (nI t)] (mm X i j) (stF X i w a k bits t no) (mm X i' j) ∧ (∀ b, ¬ (30 ≤ xt X b ∧ xt X b < 40) → i' b = i b) := by
  have main : WI (d + 3) 1477 [.ref 2, .ref o, .int bits, .int (nI t)] (mm X i j) (fun x M2 => ∃ i', x = stF X i w a k bits t no ∧ M2 = mm X i' j ∧ (∀ b, ¬ (30 ≤ xt X b ∧ xt X b < 40) → i' b = i b)) := by
    refine s_1477 d X i j o ho bits (nI t) _ ?_
    refine lup no (fun e (q : Int32 × (Nat → Nat → Int32)) => q.1 = stF X i w a k bits t e ∧ (∀ b, ¬ (30 ≤ xt X b ∧ xt X b < 40) → q.2 b = i b))
      (fun e q => (6, [(0, .ref 2), (1, .ref o), (2, .int bits), (3, .int (nI t)), (4, .int q.1), (5, .int (nI e))], [], mm X q.2 j)) ?_ ?_ 0 (nI 0, i) (Nat.zero_le _) ⟨rfl, fun _ _ => rfl⟩
    · rintro ⟨st, i1⟩ ⟨hs, hf⟩
      dsimp only at hs hf ⊢
      have e2 : i1 2 = i 2 := hf 2 (fun z => absurd (show 30 ≤ 0 from z.1) (by decide))
      refine s_1477_6 d X i1 j o ho _ _ _ _ _ (br_t (by rw [e2, h4.2.1]; exact Int32.le_refl _) ?_)
      exact qI_of ⟨i1, hs, rfl, hf⟩
    · rintro e ⟨st, i1⟩ he ⟨hs, hf⟩ go
      dsimp only at hs hf ⊢
      have hno := h4.1
      have kk : Kp X i i1 := ⟨fun b hb _ => hf b (by omega), fun k _ => by rw [hf 42 (fun z => absurd (show 30 ≤ 0 from z.1) (by decide))]⟩
      have h41 := h4.kp kk
      have h21 := h2.kp kk
      have e1 : ∀ b, nsc X b → i1 b = i b := fun b hb => hf b (fun z => hb (by omega))
      have hD1 := hD.kp (e1 _ hoT.1) (e1 _ hoT.2.1) (e1 _ hoT.2.2.1) (e1 _ hoT.2.2.2)
      have hL1 := hL.up kk (fun g hg => by
        have hG := (h2.2.2.2 g hg).2.1
        have hg4 := hG.1
        exact ⟨hf _ (fun e => by have := hG.2.2.2.2; omega), hf _ (fun e => by have := hG.2.2.2.1; omega)⟩)
      refine s_1477_6 d X i1 j o ho _ _ _ _ _ (br_f (by rw [h41.2.1]; exact nI_ge he (by omega)) ?_)
      rw [nI_add]
      refine br_c (fun z => go (st, i1) ⟨?_, hf⟩) (fun z => ⟨h41.sg, ?_, ?_⟩)
      · rw [hs, stF, if_neg (fun q => q.1 z)]
      · intro q
        rw [h41.2.1] at q
        exact absurd (idx_in (by omega) he) q
      · intro _ hO
        rw [tc_nI (by omega)] at hO ⊢
        obtain ⟨i2, hE, hf2⟩ := c_387v d X i1 j h21 h41 hL1 o ho hoT hD1 he ht
        have hf3 : ∀ b, ¬ (30 ≤ xt X b ∧ xt X b < 40) → i2 b = i b := fun b hb => (hf2 b (by omega)).trans (hf b hb)
        refine ⟨_, i2, hE, br_c (fun y => go (st, i2) ⟨?_, hf3⟩) (fun y => go (_, i2) ⟨?_, hf3⟩)⟩
        · rw [vlF_kp h4 kk w a k he t] at y
          rw [hs, stF, if_neg (fun q => q.2 y)]
        · rw [vlF_kp h4 kk w a k he t] at y
          rw [hs, stF, if_pos ⟨z, y⟩]
  obtain ⟨n1, ⟨r, M2⟩, h1, x, h2, i', h3, h4, h5⟩ := main
  dsimp only at h2 h4
  subst h2; subst h4; subst h3
  exact ⟨i', ⟨n1, _, h1, _, rfl, rfl, rfl⟩, h5⟩
set_option maxRecDepth 100000 in
theorem s_1476 (d : Nat) (X : XS) (i : Nat → Nat → Int32) (j : Nat → Nat → Int64) (a1 : Nat) (h1 : DO X a1) (a2 : Int32) (a3 : Int32) (a4 : Int32) (K : AM → Prop) (h : (∃ (i1 : Nat → Nat → Int32), EvV (d + 3) 1473 [.ref 2, .ref a1] (mm X i j) (mm X i1 j) ∧ WP (d + 4) 1476 (23, [(0, .ref 2), (1, .ref a1), (2, .int a2), (3, .int a3), (4, .int a4), (5, .int (mxI (nI 0) (((s2 i1 31 2 (nI 0)) a1 3) - a4))), (6, .int (nI 0))], [], (mm X (s2 i1 31 2 (nI 0)) j)) (qV K))) : WV (d + 4) 1476 [.ref 2, .ref a1, .int a2, .int a3, .int a4] (mm X i j) K := te_1476 (d + 3) 2 a1 a2 a3 a4 (mm X i j) (qV K) ⟨rfl, (Exists.elim h fun i1 h2 => EvV.use h2.1 ⟨rfl, ⟨rfl, (te_769 (d + 3) 31 (mm X i1 j) _ ⟨rfl, ⟨rfl, ⟨h1.1, (te_136 (d + 3) a1 a4 (mm X (s2 i1 31 2 (nI 0)) j) _ ⟨h1.1, ⟨_, rfl, h2.2⟩⟩)⟩⟩⟩)⟩⟩)⟩
set_option maxRecDepth 100000 in
theorem s_1476_23 (d : Nat) (X : XS) (i : Nat → Nat → Int32) (j : Nat → Nat → Int64) (v1 : Nat) (h1 : DO X v1) (v2 : Int32) (v3 : Int32) (v4 : Int32) (v5 : Int32) (v6 : Int32) (Q : Option (Option Value) → AM → Prop) (h : ((v5 ≤ v6 → Q (some none) (mm X i j)) ∧ (¬ (v5 ≤ v6) → (∃ (x6 : Int32), ∃ (i5 : Nat → Nat → Int32), EvI (d + 3) 1477 [.ref 2, .ref v1, .int v2, .int v6] (mm X i j) x6 (mm X i5 j) ∧ (∃ (P7 : Prop), EvI (d + 3) 137 [.ref v1, .int v6, .int v3, .int v4] (mm X i5 j) (bi P7) (mm X i5 j) ∧ (((nI 240) ≤ (i5 31 2) → WP (d + 4) 1476 (23, [(0, .ref 2), (1, .ref v1), (2, .int v2), (3, .int v3), (4, .int v4), (5, .int v5), (6, .int (v6 + (nI 1)))], [], (mm X i5 j)) Q) ∧ (¬ ((nI 240) ≤ (i5 31 2)) → (vp_in (i5 31 2) 240) ∧ WP (d + 4) 1476 (23, [(0, .ref 2), (1, .ref v1), (2, .int v2), (3, .int v3), (4, .int v4), (5, .int v5), (6, .int (v6 + (nI 1)))], [], (mm X (s2 (s2 (s2 i5 32 ((i5 31 2).toNatClampNeg) x6) 33 ((i5 31 2).toNatClampNeg) (bnar 21 (bi P7))) 31 2 ((i5 31 2) + (nI 1))) j)) Q))))))) : WP (d + 4) 1476 (23, [(0, .ref 2), (1, .ref v1), (2, .int v2), (3, .int v3), (4, .int v4), (5, .int v5), (6, .int v6)], [], mm X i j) Q := tc_1476_23 (d + 3) 2 v1 v2 v3 v4 v5 v6 (mm X i j) Q ⟨fun e4 => (h.1 (e4)), fun e4 => ⟨rfl, ⟨rfl, (Exists.elim (h.2 (e4)) fun x6 h11 => Exists.elim h11 fun i5 h12 => EvI.use h12.1 ⟨h1.1, (Exists.elim h12.2 fun P7 h9 => EvI.use h9.1 ⟨rfl, (te_770 (d + 3) 31 x6 (bi P7) (mm X i5 j) _ ⟨rfl, ⟨fun e8 => ⟨rfl, (h9.2.1 (e8))⟩, fun e8 => ⟨rfl, ⟨rfl, ⟨⟨rfl, (h9.2.2 (e8)).1⟩, ⟨rfl, ⟨rfl, ⟨⟨(Or.inl rfl), (h9.2.2 (e8)).1⟩, ⟨rfl, ⟨rfl, ⟨rfl, (h9.2.2 (e8)).2⟩⟩⟩⟩⟩⟩⟩⟩⟩⟩⟩)⟩)⟩)⟩⟩⟩
theorem c_1476 (d : Nat) (X : XS) (i : Nat → Nat → Int32) (j : Nat → Nat → Int64) {ng no n : Nat} {w a k : Nat → Int32} (h2 : R2 X i ng) (h4 : R4 X i no ng) (o : Nat) (ho : DO X o) (hoT : DT X o) (ho31 : o ≠ 31 ∧ (∀ q, q < 3 → xr X o q ≠ 31 ∧ xr X o q ≠ 32 ∧ xr X o q ≠ 33) ∧ o ≠ 32 ∧ o ≠ 33) (hD : DY X o i n w a k) (bits c : Int32) {q : Nat} (hq : q ≤ 9) :
    ∃ i', EvV (d + 4) 1476 [.ref 2, .ref o, .int bits, .int c, .int (nI q)] (mm X i j) (mm X i' j) ∧ (∀ b, ¬ (10 ≤ xt X b ∧ xt X b < 40) → b ≠ 31 → b ≠ 32 → b ≠ 33 → i' b = i b) ∧ LK X i' ng n a ∧ SV i' (n - q) (fun t => stF X i w a k bits t no) (fun t => cmP n w c t q) := by
  have hn := hD.1.2
  have n31 : ∀ b, b = 31 ∨ b = 32 ∨ b = 33 → xt X b = 45 := fun b hb => by
    rcases hb with rfl | rfl | rfl <;> rfl
  have main : WV (d + 4) 1476 [.ref 2, .ref o, .int bits, .int c, .int (nI q)] (mm X i j) (fun M2 => ∃ i', M2 = mm X i' j ∧ (∀ b, ¬ (10 ≤ xt X b ∧ xt X b < 40) → b ≠ 31 → b ≠ 32 → b ≠ 33 → i' b = i b) ∧ LK X i' ng n a ∧ SV i' (n - q) (fun t => stF X i w a k bits t no) (fun t => cmP n w c t q)) := by
    refine s_1476 d X i j o ho bits c (nI q) _ ?_
    obtain ⟨i1, hE1, hf1, hL1⟩ := c_1473 d X i j h2 o ho hoT hD
    refine ⟨i1, hE1, ?_⟩
    rw [s2_ne (show o ≠ 31 from ho31.1), hf1 o (fun z => hoT.1 (by omega)), hD.1.1, mx_sub (by omega) (by omega)]
    refine lup (n - q) (fun e (i2 : Nat → Nat → Int32) => (∀ b, ¬ (10 ≤ xt X b ∧ xt X b < 40) → b ≠ 31 → b ≠ 32 → b ≠ 33 → i2 b = i b) ∧ LK X i2 ng n a ∧ SV i2 e (fun t => stF X i w a k bits t no) (fun t => cmP n w c t q))
      (fun e i2 => (23, [(0, .ref 2), (1, .ref o), (2, .int bits), (3, .int c), (4, .int (nI q)), (5, .int (nI (n - q))), (6, .int (nI e))], [], mm X i2 j)) ?_ ?_ 0 (s2 i1 31 2 (nI 0)) (Nat.zero_le _) ?_
    · rintro i2 ⟨hf, hL, hS⟩
      exact s_1476_23 d X i2 j o ho _ _ _ _ _ _ (br_t (Int32.le_refl _) (qV_of ⟨i2, rfl, hf, hL, hS⟩))
    · rintro e i2 he ⟨hf, hL, hS⟩ go
      have kk : Kp X i i2 := ⟨fun b hb _ => hf b (by omega) (fun z => by have := n31 b (by omega); omega) (fun z => by have := n31 b (by omega); omega) (fun z => by have := n31 b (by omega); omega), fun k _ => by rw [hf 42 (fun z => absurd (show 10 ≤ 0 from z.1) (by decide)) (by decide) (by decide) (by decide)]⟩
      have hD2 : DY X o i2 n w a k := hD.kp (hf _ hoT.1 ho31.1 ho31.2.2.1 ho31.2.2.2) (hf _ hoT.2.1 (ho31.2.1 0 (by decide)).1 (ho31.2.1 0 (by decide)).2.1 (ho31.2.1 0 (by decide)).2.2) (hf _ hoT.2.2.1 (ho31.2.1 1 (by decide)).1 (ho31.2.1 1 (by decide)).2.1 (ho31.2.1 1 (by decide)).2.2) (hf _ hoT.2.2.2 (ho31.2.1 2 (by decide)).1 (ho31.2.1 2 (by decide)).2.1 (ho31.2.1 2 (by decide)).2.2)
      obtain ⟨i3, hE3, hf3⟩ := c_1477 d X i2 j (h2.kp kk) (h4.kp kk) hL o ho hoT hD2 bits (show e < n by omega)
      have e3 : ∀ b, nsc X b → i3 b = i2 b := fun b hb => hf3 b (fun z => hb (by omega))
      have hD3 := hD2.kp (e3 _ hoT.1) (e3 _ hoT.2.1) (e3 _ hoT.2.2.1) (e3 _ hoT.2.2.2)
      have f31 : i3 31 = i2 31 := e3 31 (nsc_of (t := 45) rfl rfl)
      have f32 : i3 32 = i2 32 := e3 32 (nsc_of (t := 45) rfl rfl)
      have f33 : i3 33 = i2 33 := e3 33 (nsc_of (t := 45) rfl rfl)
      refine s_1476_23 d X i2 j o ho _ _ _ _ _ _ (br_f (nI_ge he (by omega)) ⟨_, i3, hE3, _, c_137 _ X i3 j o ho hD3 e q c (by omega), ?_⟩)
      rw [f31, hS.1, bnar_bi, tc_nI (by omega), nI_add]
      refine br_f (nI_ge (by omega) (by decide)) ⟨vp_in_nI (by omega) (by decide), ?_⟩
      rw [stF_kp h4 kk w a k bits e no (Nat.le_refl _)]
      have hf' : ∀ b, ¬ (10 ≤ xt X b ∧ xt X b < 40) → b ≠ 31 → b ≠ 32 → b ≠ 33 → (s2 (s2 (s2 i3 32 e (stF X i w a k bits e no)) 33 e (bi (cmP n w c e q))) 31 2 (nI (e + 1))) b = i b := fun b hb h31 h32 h33 => by
        rw [s2_ne h31, s2_ne h33, s2_ne h32, hf3 b (fun z => hb (by omega))]
        exact hf b hb h31 h32 h33
      refine go _ ⟨hf', ?_, ?_⟩
      · have kk2 : Kp X i2 (s2 (s2 (s2 i3 32 e (stF X i w a k bits e no)) 33 e (bi (cmP n w c e q))) 31 2 (nI (e + 1))) := ⟨fun b hb _ => by
          have h31 : b ≠ 31 := fun z => by have := n31 b (by omega); omega
          have h32 : b ≠ 32 := fun z => by have := n31 b (by omega); omega
          have h33 : b ≠ 33 := fun z => by have := n31 b (by omega); omega
          rw [s2_ne h31, s2_ne h33, s2_ne h32]; exact hf3 b (by omega), fun k _ => by
          rw [s2_ne (show 42 ≠ 31 by decide), s2_ne (show 42 ≠ 33 by decide), s2_ne (show 42 ≠ 32 by decide), hf3 42 (fun z => absurd (show 30 ≤ 0 from z.1) (by decide))]⟩
        refine hL.up kk2 fun g hg => ?_
        have hG := (h2.2.2.2 g hg).2.1
        have hg4 := hG.1
        have hne : ∀ b, 10 ≤ xt X b → xt X b < 30 → b ≠ 31 ∧ b ≠ 32 ∧ b ≠ 33 := fun b h1 h2 => ⟨fun z => by have := n31 b (by omega); omega, fun z => by have := n31 b (by omega); omega, fun z => by have := n31 b (by omega); omega⟩
        have q7 := hne (xr X (xr X 17 g) 7) (by have := hG.2.2.2.2; omega) (by have := hG.2.2.2.2; omega)
        have q6 := hne (xr X (xr X 17 g) 6) (by have := hG.2.2.2.1; omega) (by have := hG.2.2.2.1; omega)
        rw [s2_ne q7.1, s2_ne q7.2.2, s2_ne q7.2.1, s2_ne q6.1, s2_ne q6.2.2, s2_ne q6.2.1]
        exact ⟨hf3 _ (fun e => by have := hG.2.2.2.2; omega), hf3 _ (fun e => by have := hG.2.2.2.1; omega)⟩
      · refine ⟨s2_self _ _ _ _, by omega, fun t ht => ?_⟩
        rw [s2_ne (show 32 ≠ 31 by decide), s2_ne (show 33 ≠ 31 by decide), s2_ne (show 32 ≠ 33 by decide)]
        by_cases h : t = e
        · subst h
          rw [s2_self, s2_self]; exact ⟨rfl, rfl⟩
        · rw [s2_ne2 h, s2_ne2 h, s2_ne (show 33 ≠ 32 by decide), f32, f33]
          exact hS.2.2 t (by omega)
    · refine ⟨fun b hb h31 _ _ => by rw [s2_ne h31]; exact hf1 b (by omega), ?_, s2_self _ _ _ _, by omega, fun t ht => absurd ht (by omega)⟩
      have kk2 : Kp X i1 (s2 i1 31 2 (nI 0)) := ⟨fun b hb _ => by rw [s2_ne (fun z => by have := n31 b (by omega); omega)], fun k _ => by rw [s2_ne (show 42 ≠ 31 by decide)]⟩
      refine hL1.up kk2 fun g hg => ?_
      have hG := (h2.2.2.2 g hg).2.1
      have hg4 := hG.1
      rw [s2_ne (fun z => by have := n31 _ (Or.inl z); have := hG.2.2.2.2; omega), s2_ne (fun z => by have := n31 _ (Or.inl z); have := hG.2.2.2.1; omega)]
      exact ⟨rfl, rfl⟩
  obtain ⟨n1, ⟨r, M2⟩, h1, h2, i', h3, h4⟩ := main
  dsimp only at h2 h3
  subst h2; subst h3
  exact ⟨i', ⟨n1, _, h1, rfl, rfl⟩, h4⟩
