/-! ===== the class's scanner, its links and the whole ===== -/
theorem CWr.pop {i i' : Nat → Nat → Int32} {cd wt : List Nat} (h : CWr i cd wt) (e3 : i' 18 3 = i 18 3) (e5 : i' 18 5 = nI (wt.length - 1)) (e20 : i' 20 = i 20) (e21 : i' 21 = i 21) : CWr i' cd wt.tail := by
  obtain ⟨h1, h2, h3, h4, h5⟩ := h
  refine ⟨e3.trans h1, by rw [e20]; exact h2, by rw [e5, List.length_tail], ?_, fun x hx => h5 x (List.mem_of_mem_tail hx)⟩
  rw [e21]
  cases wt with
  | nil => trivial
  | cons x r => exact h4.2
section steps2
variable {X : XS} {i : Nat → Nat → Int32} {j : Nat → Nat → Int64} {b : Nat} {cd wt : List Nat} {m : Nat → Bool} {br dg : Nat} {wa : Bool}
set_option maxRecDepth 100000 in
theorem s_1034 (d : Nat) (X : XS) (i : Nat → Nat → Int32) (j : Nat → Nat → Int64)  (K : Int32 → AM → Prop) (h : ((¬ ((i 18 7) = 0) → (∃ (i2 : Nat → Nat → Int32), EvV (d + 1) 1036 [.ref 18, .int (nI 1)] (mm X i j) (mm X i2 j) ∧ K (nI 1) (mm X (s2 (s2 (s2 i2 18 5 (mxI (nI 0) ((i2 18 5) - (nI 1)))) 18 7 ((i2 18 7) - (nI 1))) 18 8 (nI 0)) j))) ∧ ((i 18 7) = 0 → K (nI 0) (mm X i j)))) : WI (d + 2) 1034 [.ref 18] (mm X i j) K := te_1034 (d + 1) 18 (mm X i j) (qI K) ⟨rfl, ⟨fun e1 => ⟨rfl, (Exists.elim (h.1 (e1)) fun i2 h3 => EvV.use h3.1 ⟨rfl, ⟨rfl, ⟨rfl, ⟨rfl, ⟨rfl, ⟨k1_01, ⟨_, rfl, h3.2⟩⟩⟩⟩⟩⟩⟩)⟩, fun e1 => ⟨k0_01, ⟨_, rfl, (h.2 ((Classical.byContradiction e1)))⟩⟩⟩⟩
theorem c_1034 (d : Nat) (h : SCr i cd wt m br dg false) (hl : cd.length + wt.length < 40) : ∃ x i', EvI (d + 2) 1034 [.ref 18] (mm X i j) x (mm X i' j) ∧ TKR 41 cd wt m br dg false i i' x := by
  have h' := h
  obtain ⟨hc, h1, h2, h3, h4, h5, h6⟩ := h
  refine EvI.exx (s_1034 d X i j _ ?_)
  rw [h2]
  refine bq_c (fun z => ?_) (fun z => ⟨i, rfl, FrT.rf, Or.inr ⟨?_, rfl⟩⟩)
  · have b0 : ¬ br = 0 := fun e => z (by rw [e]; rfl)
    obtain ⟨i2, hE, g1, g2, g3, g4⟩ := c_1036 d X i j (s := 1) (by decide) hc (by omega)
    have ht : tk (cd, wt, m, br, dg, false) 41 = some ((popW 1 cd wt).1, (popW 1 cd wt).2.tail, m, br - 1, 0, false) := by
      show (if br = 0 then none else _) = _
      rw [if_neg b0]
    refine ⟨i2, hE, ?_⟩
    rw [g1.2.2.1, g4 7 (by decide) (by decide), h2, mx_sub (by omega) (by decide), pk_sub (by omega)]
    refine ⟨_, rfl, ⟨fun c c1 c2 c3 c4 => ?_, ?_⟩, Or.inl ⟨_, _, _, _, _, _, ht, ⟨g1.pop ?_ ?_ ?_ ?_, fun q hq => ?_, ?_, s2_self _ _ _ _, ?_, by omega, by decide⟩, ?_, rfl⟩⟩
    · rw [s2_ne c1, s2_ne c1, s2_ne c1]; exact g3 c c1 c2
    · rw [s2_ne2 (by decide), s2_ne2 (by decide), s2_ne2 (by decide)]; exact g4 1 (by decide) (by decide)
    · rw [s2_ne2 (by decide), s2_ne2 (by decide), s2_ne2 (by decide)]
    · rw [s2_ne2 (by decide), s2_ne2 (by decide), s2_self]
    · rw [s2_ne (by decide), s2_ne (by decide), s2_ne (by decide)]
    · rw [s2_ne (by decide), s2_ne (by decide), s2_ne (by decide)]
    · rw [s2_ne (by decide), s2_ne (by decide), s2_ne (by decide), g3 22 (by decide) (by decide)]; exact h1 q (by omega)
    · rw [s2_ne2 (by decide), s2_self]
    · rw [s2_ne2 (by decide), s2_ne2 (by decide), s2_ne2 (by decide), g4 9 (by decide) (by decide)]; exact h4
    · rw [List.length_tail]; omega
  · have b0 : br = 0 := (nIz (by omega)).mp z
    show (if br = 0 then none else _) = _
    rw [if_pos b0]
set_option maxRecDepth 100000 in
theorem s_1035 (d : Nat) (X : XS) (i : Nat → Nat → Int32) (j : Nat → Nat → Int64) (a1 : Int32) (K : Int32 → AM → Prop) (h : (((stI a1) < (nI 1) → K (nI 0) (mm X i j)) ∧ (¬ ((stI a1) < (nI 1)) → (((stI a1) ≤ (nI 4) → ((¬ ((stI a1) = (nI 3)) → (((nI 3) < (stI a1) → (∃ (i5 : Nat → Nat → Int32), EvV (d + 1) 1036 [.ref 18, .int (stI a1)] (mm X i j) (mm X i5 j) ∧ (((nI 40) ≤ (i5 18 5) → K (nI 1) (mm X (s2 i5 18 9 (nI 1)) j)) ∧ (¬ ((nI 40) ≤ (i5 18 5)) → (vp_in (i5 18 5) 40) ∧ K (nI 1) (mm X (s2 (s2 (s2 i5 21 ((i5 18 5).toNatClampNeg) a1) 18 5 ((i5 18 5) + (nI 1))) 18 9 (nI 1)) j))))) ∧ (¬ ((nI 3) < (stI a1)) → (vp_in (i 18 7) 6) ∧ (∃ (i10 : Nat → Nat → Int32), EvV (d + 1) 1036 [.ref 18, .int (stI a1)] (mm X (s2 i 22 ((i 18 7).toNatClampNeg) (bnar 21 (nI 0))) j) (mm X i10 j) ∧ (((nI 40) ≤ (i10 18 5) → K (nI 1) (mm X (s2 i10 18 9 (nI 1)) j)) ∧ (¬ ((nI 40) ≤ (i10 18 5)) → (vp_in (i10 18 5) 40) ∧ K (nI 1) (mm X (s2 (s2 (s2 i10 21 ((i10 18 5).toNatClampNeg) a1) 18 5 ((i10 18 5) + (nI 1))) 18 9 (nI 1)) j))))))) ∧ ((stI a1) = (nI 3) → (vp_in (i 18 7) 6) ∧ (((i 22 ((i 18 7).toNatClampNeg)) = 0 → (((nI 3) < (stI a1) → (∃ (i16 : Nat → Nat → Int32), EvV (d + 1) 1036 [.ref 18, .int (stI a1)] (mm X i j) (mm X i16 j) ∧ (((nI 40) ≤ (i16 18 5) → K (nI 1) (mm X (s2 i16 18 9 (nI 1)) j)) ∧ (¬ ((nI 40) ≤ (i16 18 5)) → (vp_in (i16 18 5) 40) ∧ K (nI 1) (mm X (s2 (s2 (s2 i16 21 ((i16 18 5).toNatClampNeg) a1) 18 5 ((i16 18 5) + (nI 1))) 18 9 (nI 1)) j))))) ∧ (¬ ((nI 3) < (stI a1)) → (∃ (i21 : Nat → Nat → Int32), EvV (d + 1) 1036 [.ref 18, .int (stI a1)] (mm X (s2 i 22 ((i 18 7).toNatClampNeg) (bnar 21 (nI 1))) j) (mm X i21 j) ∧ (((nI 40) ≤ (i21 18 5) → K (nI 1) (mm X (s2 i21 18 9 (nI 1)) j)) ∧ (¬ ((nI 40) ≤ (i21 18 5)) → (vp_in (i21 18 5) 40) ∧ K (nI 1) (mm X (s2 (s2 (s2 i21 21 ((i21 18 5).toNatClampNeg) a1) 18 5 ((i21 18 5) + (nI 1))) 18 9 (nI 1)) j))))))) ∧ (¬ ((i 22 ((i 18 7).toNatClampNeg)) = 0) → K (nI 0) (mm X i j)))))) ∧ (¬ ((stI a1) ≤ (nI 4)) → K (nI 0) (mm X i j)))))) : WI (d + 2) 1035 [.ref 18, .int a1] (mm X i j) K := te_1035 (d + 1) 18 a1 (mm X i j) (qI K) (p_386 (d + 1) X i j a1 _ ⟨fun e1 => ⟨k0_01, ⟨_, rfl, (h.1 (e1))⟩⟩, fun e1 => ⟨fun e2 => ⟨fun e3 => ⟨fun e4 => (tc_1035_60 (d + 1) 18 a1 (stI a1) (mm X i j) _ ⟨rfl, (Exists.elim ((((h.2 (e1)).1 (e2)).1 (e3)).1 (e4)) fun i5 h7 => EvV.use h7.1 ⟨rfl, (te_1037 (d + 1) 18 a1 (mm X i5 j) _ ⟨rfl, ⟨fun e6 => ⟨rfl, ⟨⟨rfl, k1_01⟩, ⟨k1_01, ⟨_, rfl, (h7.2.1 (e6))⟩⟩⟩⟩, fun e6 => ⟨rfl, ⟨rfl, ⟨⟨rfl, (h7.2.2 (e6)).1⟩, ⟨rfl, ⟨rfl, ⟨rfl, ⟨⟨rfl, k1_01⟩, ⟨k1_01, ⟨_, rfl, (h7.2.2 (e6)).2⟩⟩⟩⟩⟩⟩⟩⟩⟩⟩⟩)⟩)⟩), fun e4 => ⟨rfl, ⟨rfl, ⟨fun _ => ⟨⟨(Or.inl rfl), ((((h.2 (e1)).1 (e2)).1 (e3)).2 (e4)).1⟩, (tc_1035_60 (d + 1) 18 a1 (stI a1) (mm X (s2 i 22 ((i 18 7).toNatClampNeg) (bnar 21 (nI 0))) j) _ ⟨rfl, (Exists.elim ((((h.2 (e1)).1 (e2)).1 (e3)).2 (e4)).2 fun i10 h12 => EvV.use h12.1 ⟨rfl, (te_1037 (d + 1) 18 a1 (mm X i10 j) _ ⟨rfl, ⟨fun e11 => ⟨rfl, ⟨⟨rfl, k1_01⟩, ⟨k1_01, ⟨_, rfl, (h12.2.1 (e11))⟩⟩⟩⟩, fun e11 => ⟨rfl, ⟨rfl, ⟨⟨rfl, (h12.2.2 (e11)).1⟩, ⟨rfl, ⟨rfl, ⟨rfl, ⟨⟨rfl, k1_01⟩, ⟨k1_01, ⟨_, rfl, (h12.2.2 (e11)).2⟩⟩⟩⟩⟩⟩⟩⟩⟩⟩⟩)⟩)⟩)⟩, fun e9 => absurd ((e3)) e9⟩⟩⟩⟩, fun e3 => ⟨rfl, ⟨rfl, ⟨⟨(Or.inl rfl), (((h.2 (e1)).1 (e2)).2 ((Classical.byContradiction e3))).1⟩, ⟨fun e14 => ⟨fun e15 => (tc_1035_60 (d + 1) 18 a1 (stI a1) (mm X i j) _ ⟨rfl, (Exists.elim (((((h.2 (e1)).1 (e2)).2 ((Classical.byContradiction e3))).2.1 (e14)).1 (e15)) fun i16 h18 => EvV.use h18.1 ⟨rfl, (te_1037 (d + 1) 18 a1 (mm X i16 j) _ ⟨rfl, ⟨fun e17 => ⟨rfl, ⟨⟨rfl, k1_01⟩, ⟨k1_01, ⟨_, rfl, (h18.2.1 (e17))⟩⟩⟩⟩, fun e17 => ⟨rfl, ⟨rfl, ⟨⟨rfl, (h18.2.2 (e17)).1⟩, ⟨rfl, ⟨rfl, ⟨rfl, ⟨⟨rfl, k1_01⟩, ⟨k1_01, ⟨_, rfl, (h18.2.2 (e17)).2⟩⟩⟩⟩⟩⟩⟩⟩⟩⟩⟩)⟩)⟩), fun e15 => ⟨rfl, ⟨rfl, ⟨fun e20 => absurd e20 (fun z => z ((Classical.byContradiction e3))), fun _ => ⟨⟨(Or.inl rfl), (((h.2 (e1)).1 (e2)).2 ((Classical.byContradiction e3))).1⟩, (tc_1035_60 (d + 1) 18 a1 (stI a1) (mm X (s2 i 22 ((i 18 7).toNatClampNeg) (bnar 21 (nI 1))) j) _ ⟨rfl, (Exists.elim (((((h.2 (e1)).1 (e2)).2 ((Classical.byContradiction e3))).2.1 (e14)).2 (e15)) fun i21 h23 => EvV.use h23.1 ⟨rfl, (te_1037 (d + 1) 18 a1 (mm X i21 j) _ ⟨rfl, ⟨fun e22 => ⟨rfl, ⟨⟨rfl, k1_01⟩, ⟨k1_01, ⟨_, rfl, (h23.2.1 (e22))⟩⟩⟩⟩, fun e22 => ⟨rfl, ⟨rfl, ⟨⟨rfl, (h23.2.2 (e22)).1⟩, ⟨rfl, ⟨rfl, ⟨rfl, ⟨⟨rfl, k1_01⟩, ⟨k1_01, ⟨_, rfl, (h23.2.2 (e22)).2⟩⟩⟩⟩⟩⟩⟩⟩⟩⟩⟩)⟩)⟩)⟩⟩⟩⟩⟩, fun e14 => ⟨k0_01, ⟨_, rfl, ((((h.2 (e1)).1 (e2)).2 ((Classical.byContradiction e3))).2.2 (e14))⟩⟩⟩⟩⟩⟩⟩, fun e2 => ⟨k0_01, ⟨_, rfl, ((h.2 (e1)).2 (e2))⟩⟩⟩⟩)
theorem c_1035 (d : Nat) (h : SCr i cd wt m br dg false) (hl : cd.length + wt.length < 40) (hb : b < 256) (hd : isDg b = false) (h41 : b ≠ 41) : ∃ x i', EvI (d + 2) 1035 [.ref 18, .int (nI b)] (mm X i j) x (mm X i' j) ∧ TKR b cd wt m br dg false i i' x := by
  have h' := h
  obtain ⟨hc, h1, h2, h3, h4, h5, h6⟩ := h
  have h55 := stN_5 b
  have hm := h1 br (Nat.le_refl _)
  have none : (stN b = 0 ∨ 4 < stN b ∨ (stN b = 3 ∧ m br = true)) → ∃ i', mm X i j = mm X i' j ∧ TKR b cd wt m br dg false i i' (nI 0) := fun z => ⟨i, rfl, FrT.rf, Or.inr ⟨by
    unfold tk
    simp only [hd, Bool.false_eq_true, if_false]
    rw [if_neg h41, if_pos z], rfl⟩⟩
  -- a link is taken
  have link : ∀ i2 : Nat → Nat → Int32, ¬ (stN b = 0 ∨ 4 < stN b ∨ (stN b = 3 ∧ m br = true)) → (∀ c, c ≠ 22 → i2 c = i c) → (∀ q, q ≤ br → i2 22 q = nI (if (if q = br ∧ stN b ≤ 3 then decide (stN b = 3) else m q) = true then 1 else 0)) →
      ∃ i3, EvV (d + 1) 1036 [.ref 18, .int (nI (stN b))] (mm X i2 j) (mm X i3 j) ∧ (((nI 40) ≤ (i3 18 5) → ∃ i', mm X (s2 i3 18 9 (nI 1)) j = mm X i' j ∧ TKR b cd wt m br dg false i i' (nI 1)) ∧ (¬ ((nI 40) ≤ (i3 18 5)) → (vp_in (i3 18 5) 40) ∧ ∃ i', mm X (s2 (s2 (s2 i3 21 ((i3 18 5).toNatClampNeg) (nI b)) 18 5 ((i3 18 5) + (nI 1))) 18 9 (nI 1)) j = mm X i' j ∧ TKR b cd wt m br dg false i i' (nI 1))) := by
    intro i2 hn f2 f22
    have hc2 : CWr i2 cd wt := by
      obtain ⟨k1, k2, k3, k4, k5⟩ := hc
      exact ⟨by rw [f2 18 (by decide)]; exact k1, fun q hq => by rw [f2 20 (by decide)]; exact k2 q hq, by rw [f2 18 (by decide)]; exact k3, by rw [f2 21 (by decide)]; exact k4, k5⟩
    obtain ⟨i3, hE, g1, g2, g3, g4⟩ := c_1036 d X i2 j (s := stN b) h55 hc2 (by omega)
    have ht : tk (cd, wt, m, br, dg, false) b = some ((popW (stN b) cd wt).1, b :: (popW (stN b) cd wt).2, (fun q => if q = br ∧ stN b ≤ 3 then decide (stN b = 3) else m q), br, dg, true) := by
      unfold tk
      simp only [hd, Bool.false_eq_true, if_false]
      rw [if_neg h41, if_neg hn]
    refine ⟨i3, hE, ?_⟩
    have lw : (popW (stN b) cd wt).2.length < 40 := by omega
    rw [g1.2.2.1, tc_nI (by omega), nI_add]
    refine br_f (nI_ge lw (by decide)) ⟨vp_in_nI lw (by decide), _, rfl, ⟨fun c c1 c2 c3 c4 => ?_, ?_⟩, Or.inl ⟨_, _, _, _, _, _, ht, ⟨g1.aw hb ?_ ?_ ?_ ?_, fun q hq => ?_, ?_, ?_, ?_, h5, h6⟩, ?_, rfl⟩⟩
    · rw [s2_ne c1, s2_ne c1, s2_ne c3, g3 c c1 c2]; exact f2 c c4
    · rw [s2_ne2 (by decide), s2_ne2 (by decide), s2_ne (by decide), g4 1 (by decide) (by decide), f2 18 (by decide)]
    · rw [s2_ne2 (by decide), s2_ne2 (by decide), s2_ne (by decide)]
    · rw [s2_ne2 (by decide), s2_self]
    · rw [s2_ne (by decide), s2_ne (by decide), s2_ne (by decide)]
    · intro q; rw [s2_ne (by decide), s2_ne (by decide), s2_same]
    · rw [s2_ne (by decide), s2_ne (by decide), s2_ne (by decide), g3 22 (by decide) (by decide)]; exact f22 q hq
    · rw [s2_ne2 (by decide), s2_ne2 (by decide), s2_ne (by decide), g4 7 (by decide) (by decide), f2 18 (by decide)]; exact h2
    · rw [s2_ne2 (by decide), s2_ne2 (by decide), s2_ne (by decide), g4 8 (by decide) (by decide), f2 18 (by decide)]; exact h3
    · rw [s2_self]; rfl
    · simp only [List.length_cons]; omega
  have f22 : ∀ v : Int32, stN b ≤ 3 → bnar 21 v = nI (if decide (stN b = 3) = true then 1 else 0) → ∀ q, q ≤ br → (s2 i 22 br (bnar 21 v)) 22 q = nI (if (if q = br ∧ stN b ≤ 3 then decide (stN b = 3) else m q) = true then 1 else 0) := fun v h3 hv q hq => by
    rw [s2_same]
    by_cases z : q = br
    · rw [if_pos z, if_pos (show q = br ∧ stN b ≤ 3 from ⟨z, h3⟩)]; exact hv
    · rw [if_neg z, if_neg (show ¬ (q = br ∧ stN b ≤ 3) from fun e => z e.1)]; exact h1 q hq
  refine EvI.exx (s_1035 d X i j _ _ ?_)
  rw [stI_b b hb, h2, tc_nI (by omega), hm]
  have lt : ∀ c, c < 128 → (nI (stN b) < nI c ↔ stN b < c) := fun c hc => nI_ltI (by omega) (by omega)
  refine br_c (fun z => none (Or.inl (by have := (lt 1 (by decide)).mp z; omega))) (fun z1 => br_c (fun z4 => ?_) (fun z => none (Or.inr (Or.inl (Nat.not_le.mp fun h => z (nI_le h (by decide)))))))
  have s1 : ¬ stN b = 0 := fun e => z1 ((lt 1 (by decide)).mpr (by omega))
  have s4 : stN b ≤ 4 := (nI_leI (by omega) (by decide)).mp z4
  refine bq_c (fun z3 => br_c (fun z => ?_) (fun z => ?_)) (fun z3 => ⟨vp_in_nI (by omega) (by decide), br_c (fun zm => br_c (fun z => ?_) (fun z => ?_)) (fun zm => none (Or.inr (Or.inr ⟨?_, ?_⟩)))⟩)
  · have s3 : 3 < stN b := (nI_ltI (by decide) (by omega)).mp z
    exact link i (by omega) (fun _ _ => rfl) (fun q hq => by rw [if_neg (show ¬ (q = br ∧ stN b ≤ 3) by omega)]; exact h1 q hq)
  · have s3 : ¬ stN b = 3 := fun e => z3 (by rw [e])
    have s3' : stN b ≤ 3 := Nat.not_lt.mp fun e => z (nI_lt e (by omega))
    exact ⟨vp_in_nI (by omega) (by decide), link _ (by omega) (fun c hc => s2_ne hc) (f22 _ s3' (by rw [decide_eq_false s3]; rfl))⟩
  · have s3 : stN b = 3 := (nI_eq (by omega) (by decide)).mp z3
    rw [s3] at z
    exact absurd z (by decide)
  · have s3 : stN b = 3 := (nI_eq (by omega) (by decide)).mp z3
    have mf : m br = false := by
      cases e : m br with
      | false => rfl
      | true => rw [e] at zm; exact absurd zm (by decide)
    exact link _ (by rw [mf]; simp; omega) (fun c hc => s2_ne hc) (f22 _ (by omega) (by rw [decide_eq_true s3]; rfl))
  · exact (nI_eq (by omega) (by decide)).mp z3
  · cases e : m br with
    | true => rfl
    | false => rw [e] at zm; exact absurd rfl zm
set_option maxRecDepth 100000 in
theorem s_1030 (d : Nat) (X : XS) (i : Nat → Nat → Int32) (j : Nat → Nat → Int64) (a1 : Int32) (K : Int32 → AM → Prop) (h : ((a1 < (nI 48) → (((i 18 9) = 0 → ((¬ (a1 = (nI 41)) → (∃ (P6 : Prop), ∃ (i5 : Nat → Nat → Int32), EvI (d + 2) 1035 [.ref 18, .int a1] (mm X i j) (bi P6) (mm X i5 j) ∧ K (bi P6) (mm X i5 j))) ∧ (a1 = (nI 41) → (∃ (P11 : Prop), ∃ (i10 : Nat → Nat → Int32), EvI (d + 2) 1034 [.ref 18] (mm X i j) (bi P11) (mm X i10 j) ∧ K (bi P11) (mm X i10 j))))) ∧ (¬ ((i 18 9) = 0) → (∃ (P17 : Prop), ∃ (i16 : Nat → Nat → Int32), EvI (d + 2) 1033 [.ref 18, .int a1] (mm X i j) (bi P17) (mm X i16 j) ∧ K (bi P17) (mm X i16 j))))) ∧ (¬ (a1 < (nI 48)) → (((nI 57) < a1 → (((i 18 9) = 0 → ((¬ (a1 = (nI 41)) → (∃ (P26 : Prop), ∃ (i25 : Nat → Nat → Int32), EvI (d + 2) 1035 [.ref 18, .int a1] (mm X i j) (bi P26) (mm X i25 j) ∧ K (bi P26) (mm X i25 j))) ∧ (a1 = (nI 41) → (∃ (P31 : Prop), ∃ (i30 : Nat → Nat → Int32), EvI (d + 2) 1034 [.ref 18] (mm X i j) (bi P31) (mm X i30 j) ∧ K (bi P31) (mm X i30 j))))) ∧ (¬ ((i 18 9) = 0) → (∃ (P37 : Prop), ∃ (i36 : Nat → Nat → Int32), EvI (d + 2) 1033 [.ref 18, .int a1] (mm X i j) (bi P37) (mm X i36 j) ∧ K (bi P37) (mm X i36 j))))) ∧ (¬ ((nI 57) < a1) → (((i 18 9) = 0 → (∃ (P44 : Prop), ∃ (i43 : Nat → Nat → Int32), EvI (d + 2) 1032 [.ref 18, .int (a1 - (nI 48))] (mm X i j) (bi P44) (mm X i43 j) ∧ K (bi P44) (mm X i43 j))) ∧ (¬ ((i 18 9) = 0) → (∃ (P50 : Prop), ∃ (i49 : Nat → Nat → Int32), EvI (d + 2) 1031 [.ref 18, .int (a1 - (nI 48))] (mm X i j) (bi P50) (mm X i49 j) ∧ K (bi P50) (mm X i49 j))))))))) : WI (d + 3) 1030 [.ref 18, .int a1] (mm X i j) K := te_1030 (d + 2) 18 a1 (mm X i j) (qI K) ⟨fun e1 => (tc_1030_18 (d + 2) 18 a1 (nI 0) (mm X i j) _ ⟨rfl, ⟨fun e2 => ⟨fun _ => ⟨fun e4 => ⟨rfl, (Exists.elim (((h.1 (e1)).1 (e2)).1 (e4)) fun P6 h7 => Exists.elim h7 fun i5 h8 => EvI.use h8.1 ⟨(bi_01 _), ⟨_, rfl, h8.2⟩⟩)⟩, fun e4 => ⟨rfl, (Exists.elim (((h.1 (e1)).1 (e2)).2 ((Classical.byContradiction e4))) fun P11 h12 => Exists.elim h12 fun i10 h13 => EvI.use h13.1 ⟨(bi_01 _), ⟨_, rfl, h13.2⟩⟩)⟩⟩, fun e3 => absurd (show (nI 0) = 0 by decide) e3⟩, fun e2 => ⟨fun _ => ⟨rfl, (Exists.elim ((h.1 (e1)).2 (e2)) fun P17 h18 => Exists.elim h18 fun i16 h19 => EvI.use h19.1 ⟨(bi_01 _), ⟨_, rfl, h19.2⟩⟩)⟩, fun e15 => absurd (show (nI 0) = 0 by decide) e15⟩⟩⟩), fun e1 => ⟨fun e21 => (tc_1030_18 (d + 2) 18 a1 (nI 0) (mm X i j) _ ⟨rfl, ⟨fun e22 => ⟨fun _ => ⟨fun e24 => ⟨rfl, (Exists.elim ((((h.2 (e1)).1 (e21)).1 (e22)).1 (e24)) fun P26 h27 => Exists.elim h27 fun i25 h28 => EvI.use h28.1 ⟨(bi_01 _), ⟨_, rfl, h28.2⟩⟩)⟩, fun e24 => ⟨rfl, (Exists.elim ((((h.2 (e1)).1 (e21)).1 (e22)).2 ((Classical.byContradiction e24))) fun P31 h32 => Exists.elim h32 fun i30 h33 => EvI.use h33.1 ⟨(bi_01 _), ⟨_, rfl, h33.2⟩⟩)⟩⟩, fun e23 => absurd (show (nI 0) = 0 by decide) e23⟩, fun e22 => ⟨fun _ => ⟨rfl, (Exists.elim (((h.2 (e1)).1 (e21)).2 (e22)) fun P37 h38 => Exists.elim h38 fun i36 h39 => EvI.use h39.1 ⟨(bi_01 _), ⟨_, rfl, h39.2⟩⟩)⟩, fun e35 => absurd (show (nI 0) = 0 by decide) e35⟩⟩⟩), fun e21 => (tc_1030_18 (d + 2) 18 a1 (nI 1) (mm X i j) _ ⟨rfl, ⟨fun e41 => ⟨fun e42 => absurd e42 (show ¬ ((nI 1) = 0) by decide), fun _ => ⟨rfl, (Exists.elim (((h.2 (e1)).2 (e21)).1 (e41)) fun P44 h45 => Exists.elim h45 fun i43 h46 => EvI.use h46.1 ⟨(bi_01 _), ⟨_, rfl, h46.2⟩⟩)⟩⟩, fun e41 => ⟨fun e48 => absurd e48 (show ¬ ((nI 1) = 0) by decide), fun _ => ⟨rfl, (Exists.elim (((h.2 (e1)).2 (e21)).2 (e41)) fun P50 h51 => Exists.elim h51 fun i49 h52 => EvI.use h52.1 ⟨(bi_01 _), ⟨_, rfl, h52.2⟩⟩)⟩⟩⟩⟩)⟩⟩
theorem c_1030 (d : Nat) (h : SCr i cd wt m br dg wa) (hl : cd.length + wt.length < 40) (hb : b < 256) : ∃ x i', EvI (d + 3) 1030 [.ref 18, .int (nI b)] (mm X i j) x (mm X i' j) ∧ TKR b cd wt m br dg wa i i' x := by
  have hw : i 18 9 = nI (if wa then 1 else 0) := h.2.2.2.2.1
  have eq : ∀ c, c < 128 → (nI b = nI c ↔ b = c) := fun c hc => nI_eq (by omega) (by omega)
  have lt : ∀ c, c < 128 → (nI b < nI c ↔ b < c) := fun c hc => nI_ltI (by omega) (by omega)
  have gt : ∀ c, c < 128 → (nI c < nI b ↔ c < b) := fun c hc => nI_ltI (by omega) (by omega)
  have dgi : isDg b = true ↔ 48 ≤ b ∧ b ≤ 57 := by unfold isDg; rw [Bool.and_eq_true, Nat.ble_eq, Nat.ble_eq]
  have use : ∀ {y : Nat} {as : List Value}, (∃ x i', EvI (d + 2) y as (mm X i j) x (mm X i' j) ∧ TKR b cd wt m br dg wa i i' x) → ∃ (P : Prop) (i5 : Nat → Nat → Int32), EvI (d + 2) y as (mm X i j) (bi P) (mm X i5 j) ∧ ∃ i', mm X i5 j = mm X i' j ∧ TKR b cd wt m br dg wa i i' (bi P) := by
    rintro y as ⟨x, i', hE, hT⟩
    obtain ⟨P, rfl⟩ := hT.bi
    exact ⟨P, i', hE, i', rfl, hT⟩
  refine EvI.exx (s_1030 d X i j _ _ ?_)
  have nodig : isDg b = false → ((i 18 9 = 0 → ((¬ (nI b = nI 41) → ∃ (P : Prop) (i5 : Nat → Nat → Int32), EvI (d + 2) 1035 [.ref 18, .int (nI b)] (mm X i j) (bi P) (mm X i5 j) ∧ ∃ i', mm X i5 j = mm X i' j ∧ TKR b cd wt m br dg wa i i' (bi P)) ∧ (nI b = nI 41 → ∃ (P : Prop) (i5 : Nat → Nat → Int32), EvI (d + 2) 1034 [.ref 18] (mm X i j) (bi P) (mm X i5 j) ∧ ∃ i', mm X i5 j = mm X i' j ∧ TKR b cd wt m br dg wa i i' (bi P)))) ∧ (¬ (i 18 9 = 0) → ∃ (P : Prop) (i5 : Nat → Nat → Int32), EvI (d + 2) 1033 [.ref 18, .int (nI b)] (mm X i j) (bi P) (mm X i5 j) ∧ ∃ i', mm X i5 j = mm X i' j ∧ TKR b cd wt m br dg wa i i' (bi P))) := by
    intro hd
    rw [hw]
    cases wa with
    | false =>
      refine br_t rfl (bq_c (fun z => use (c_1035 d h hl hb hd (fun e => z (by rw [e])))) (fun z => ?_))
      have e := (eq 41 (by decide)).mp z
      subst e
      exact use (c_1034 d h hl)
    | true => exact br_f (by decide) (use (c_1033 (d + 1) h hl hb hd))
  refine br_c (fun z => nodig ?_) (fun z => br_c (fun z2 => nodig ?_) (fun z2 => ?_))
  · have := (lt 48 (by decide)).mp z
    rw [← Bool.not_eq_true, dgi]; omega
  · have := (gt 57 (by decide)).mp z2
    rw [← Bool.not_eq_true, dgi]; omega
  · have hd : isDg b = true := dgi.mpr ⟨Nat.not_lt.mp fun e => z ((lt 48 (by decide)).mpr e), Nat.not_lt.mp fun e => z2 ((gt 57 (by decide)).mpr e)⟩
    rw [hw]
    cases wa with
    | false => exact br_t rfl (use (c_1032 (d + 2) h hl hb hd))
    | true => exact br_f (by decide) (use (c_1031 (d + 1) h hl hb hd))
end steps2
set_option maxRecDepth 100000 in
theorem s_1027 (d : Nat) (X : XS) (i : Nat → Nat → Int32) (j : Nat → Nat → Int64) (a1 : Int32) (K : Int32 → AM → Prop) (h : ((a1 < 0 → K (nI 0) (mm X i j)) ∧ (¬ (a1 < 0) → ((a1 ≤ (i 18 1) → K (nI 1) (mm X (s2 i 18 1 a1) j)) ∧ (¬ (a1 ≤ (i 18 1)) → K (nI 0) (mm X i j)))))) : WI d 1027 [.ref 18, .int a1] (mm X i j) K := te_1027 d 18 a1 (mm X i j) (qI K) ⟨fun e1 => ⟨k0_01, ⟨_, rfl, (h.1 (e1))⟩⟩, fun e1 => ⟨rfl, ⟨fun e2 => ⟨rfl, ⟨k1_01, ⟨_, rfl, ((h.2 (e1)).1 (e2))⟩⟩⟩, fun e2 => ⟨k0_01, ⟨_, rfl, ((h.2 (e1)).2 (e2))⟩⟩⟩⟩⟩
set_option maxRecDepth 100000 in
theorem s_1028 (d : Nat) (X : XS) (i : Nat → Nat → Int32) (j : Nat → Nat → Int64)  (K : Int32 → AM → Prop) (h : WP (d + 4) 1028 (34, [(0, .ref 18), (1, .int (nI 0))], [], (mm X (s2 (s2 (s2 (s2 (s2 (s2 i 18 3 (nI 0)) 18 5 (nI 0)) 18 7 (nI 0)) 18 8 (nI 0)) 18 9 (nI 1)) 22 0 (bnar 21 (nI 0))) j)) (qI K)) : WI (d + 4) 1028 [.ref 18] (mm X i j) K := te_1028 (d + 3) 18 (mm X i j) (qI K) ⟨rfl, ⟨rfl, ⟨rfl, (tc_1028_15 (d + 3) 18 (mm X (s2 (s2 (s2 i 18 3 (nI 0)) 18 5 (nI 0)) 18 7 (nI 0)) j) _ ⟨rfl, ⟨⟨rfl, k1_01⟩, ⟨rfl, ⟨⟨(Or.inl rfl), (vpk 0 6 rfl)⟩, (tc_1028_32 (d + 3) 18 (mm X (s2 (s2 (s2 (s2 (s2 (s2 i 18 3 (nI 0)) 18 5 (nI 0)) 18 7 (nI 0)) 18 8 (nI 0)) 18 9 (nI 1)) 22 0 (bnar 21 (nI 0))) j) _ h)⟩⟩⟩⟩)⟩⟩⟩
set_option maxRecDepth 100000 in
theorem s_1028_34 (d : Nat) (X : XS) (i : Nat → Nat → Int32) (j : Nat → Nat → Int64) (v1 : Int32) (Q : Option (Option Value) → AM → Prop) (h : (((i 18 1) ≤ v1 → ((¬ ((i 18 9) = 0) → Q (some (some (.int (i 18 1)))) (mm X i j)) ∧ ((i 18 9) = 0 → (((i 18 7) ≤ 0 → (∃ (i4 : Nat → Nat → Int32), EvV (d + 3) 1036 [.ref 18, .int (nI 1)] (mm X i j) (mm X i4 j) ∧ Q (some (some (.int (kI (-1))))) (mm X i4 j))) ∧ (¬ ((i 18 7) ≤ 0) → Q (some (some (.int (i 18 1)))) (mm X i j)))))) ∧ (¬ ((i 18 1) ≤ v1) → (((nI 40) ≤ v1 → Q (some (some (.int v1))) (mm X i j)) ∧ (¬ ((nI 40) ≤ v1) → (vp_in v1 60) ∧ (∃ (P9 : Prop), ∃ (i8 : Nat → Nat → Int32), EvI (d + 3) 1030 [.ref 18, .int (i 19 ((v1).toNatClampNeg))] (mm X i j) (bi P9) (mm X i8 j) ∧ ((P9 → WP (d + 4) 1028 (34, [(0, .ref 18), (1, .int (v1 + (nI 1)))], [], (mm X i8 j)) Q) ∧ (¬ (P9) → Q (some (some (.int v1))) (mm X i8 j))))))))) : WP (d + 4) 1028 (34, [(0, .ref 18), (1, .int v1)], [], mm X i j) Q := tc_1028_34 (d + 3) 18 v1 (mm X i j) Q ⟨rfl, ⟨fun e1 => ⟨rfl, ⟨fun e2 => ⟨rfl, ((h.1 (e1)).1 (e2))⟩, fun e2 => ⟨rfl, ⟨fun e3 => ⟨rfl, (Exists.elim (((h.1 (e1)).2 ((Classical.byContradiction e2))).1 (e3)) fun i4 h5 => EvV.use h5.1 h5.2)⟩, fun e3 => ⟨rfl, (((h.1 (e1)).2 ((Classical.byContradiction e2))).2 (e3))⟩⟩⟩⟩⟩, fun e1 => ⟨fun e7 => ((h.2 (e1)).1 (e7)), fun e7 => ⟨rfl, ⟨⟨rfl, ((h.2 (e1)).2 (e7)).1⟩, ⟨rfl, (Exists.elim ((h.2 (e1)).2 (e7)).2 fun P9 h11 => Exists.elim h11 fun i8 h12 => EvI.use h12.1 ⟨fun e10 => (h12.2.1 ((bi_n e10))), fun e10 => (h12.2.2 ((bi_nn e10)))⟩)⟩⟩⟩⟩⟩⟩
/-- the class finds where the text is wrong, or its code -/
theorem c_1028 (d : Nat) (X : XS) (i : Nat → Nat → Int32) (j : Nat → Nat → Int64) {t : Nat → Nat} {n : Nat} (hn : n ≤ 60) (e1 : i 18 1 = nI n) (ht : ∀ q, q < n → t q < 256 ∧ i 19 q = nI (t q)) :
    ∃ x i', EvI (d + 4) 1028 [.ref 18] (mm X i j) x (mm X i' j) ∧ FrT i i' ∧ ((x = kI (-1) ∧ n ≤ 40 ∧ ∃ c0 w m dg, scn t n = some (c0, w, m, 0, dg, false) ∧ CWr i' (popW 1 c0 w).1 (popW 1 c0 w).2 ∧ (popW 1 c0 w).1.length ≤ 40) ∨ ∃ w, x = nI w ∧ PBAD t n (min n 40) w) := by
  refine EvI.exx (s_1028 d X i j _ ?_)
  obtain ⟨iS, hiS⟩ : ∃ iS, iS = s2 (s2 (s2 (s2 (s2 (s2 i 18 3 (nI 0)) 18 5 (nI 0)) 18 7 (nI 0)) 18 8 (nI 0)) 18 9 (nI 1)) 22 0 (bnar 21 (nI 0)) := ⟨_, rfl⟩
  rw [← hiS]
  refine lwh (fun (u : Nat × (Nat → Nat → Int32)) => u.1 ≤ n ∧ u.1 ≤ 40 ∧ FrT i u.2 ∧ ∃ cd wt m br dg wa, scn t u.1 = some (cd, wt, m, br, dg, wa) ∧ SCr u.2 cd wt m br dg wa ∧ cd.length + wt.length ≤ u.1) (fun u => n - u.1) (fun u => (34, [(0, .ref 18), (1, .int (nI u.1))], [], mm X u.2 j)) ?_ (0, iS) ⟨Nat.zero_le _, Nat.zero_le _, ⟨fun b c1 c2 c3 c4 => ?_, ?_⟩, [], [], fun _ => false, 0, 0, true, rfl, ⟨⟨?_, fun q hq => absurd hq (by simp), ?_, trivial, fun x hx => absurd hx (by simp)⟩, fun q hq => ?_, ?_, ?_, ?_, by decide, by decide⟩, Nat.zero_le _⟩
  · rintro ⟨p, i1⟩ ⟨h1, h2, h3, cd, wt, m, br, dg, wa, hs, hS, hlen⟩ go
    dsimp only at h1 h2 h3 hs hS hlen go ⊢
    have f1 : i1 18 1 = nI n := h3.2.trans e1
    refine s_1028_34 d X i1 j _ _ ?_
    rw [f1, hS.2.2.2.2.1, hS.2.2.1]
    refine br_c (fun z => ?_) (fun z => ?_)
    · have pn : p = n := by
        have := (nI_leI (by omega) (by omega)).mp z
        omega
      subst pn
      have bad : (wa = true ∨ 0 < br) → ∃ i', mm X i1 j = mm X i' j ∧ FrT i i' ∧ ((nI p = kI (-1) ∧ p ≤ 40 ∧ ∃ c0 w m dg, scn t p = some (c0, w, m, 0, dg, false) ∧ CWr i' (popW 1 c0 w).1 (popW 1 c0 w).2 ∧ (popW 1 c0 w).1.length ≤ 40) ∨ ∃ w, nI p = nI w ∧ PBAD t p (min p 40) w) := fun y => ⟨i1, rfl, h3, Or.inr ⟨p, rfl, by omega, _, hs, fun h => absurd h (by omega), fun _ => Or.inr y⟩⟩
      cases wa with
      | true => exact bq_t (by decide) (qI_of (bad (Or.inl rfl)))
      | false =>
        refine bq_f rfl (br_c (fun y => ?_) (fun y => qI_of (bad (Or.inr ?_))))
        · have b0 : br = 0 := Nat.eq_zero_of_not_pos fun h => nI_nle h (by have := hS.2.2.2.2.2.1; omega) y
          subst b0
          obtain ⟨i2, hE, g1, g2, g3, g4⟩ := c_1036 (d + 2) X i1 j (s := 1) (by decide) hS.1 (by omega)
          refine ⟨i2, hE, qI_of ⟨i2, rfl, h3.tr ⟨fun b c1 c2 _ _ => g3 b c1 c2, g4 1 (by decide) (by decide)⟩, Or.inl ⟨rfl, h2, cd, wt, m, dg, hs, g1, by omega⟩⟩⟩
        · exact Nat.pos_of_ne_zero fun e => y (by rw [e]; exact Int32.le_refl _)
    · have pn : p < n := Nat.not_le.mp fun h => z (nI_le h (by omega))
      refine br_c (fun y => qI_of ⟨i1, rfl, h3, Or.inr ⟨p, rfl, ?_⟩⟩) (fun y => ⟨vp_in_nI (by omega) (by decide), ?_⟩)
      · have p40 : p = 40 := by
          have := (nI_leI (by decide) (by omega)).mp y
          omega
        exact ⟨by omega, _, hs, fun h => absurd h (by omega), fun _ => Or.inl (by omega)⟩
      · have p40 : p < 40 := Nat.not_le.mp fun h => y (nI_le h (by omega))
        obtain ⟨b256, et⟩ := ht p pn
        rw [tc_nI (by omega), h3.1 19 (by decide) (by decide) (by decide) (by decide), et]
        obtain ⟨x, i2, hE, hT⟩ := c_1030 (X := X) (j := j) d hS (by omega) b256
        obtain ⟨P, rfl⟩ := hT.bi
        refine ⟨P, i2, hE, br_c (fun hP => ?_) (fun hP => qI_of ⟨i2, rfl, h3.tr hT.1, Or.inr ⟨p, rfl, ?_⟩⟩)⟩
        · rw [nI_add]
          rcases hT.2 with ⟨cd', wt', m', br', dg', wa', k1, k2, k3, -⟩ | ⟨-, k2⟩
          · exact go (p + 1, i2) ⟨pn, p40, h3.tr hT.1, cd', wt', m', br', dg', wa', scn_s hs k1, k2, by show _ ≤ p + 1; omega⟩ (by show n - (p + 1) < n - p; omega)
          · rw [bi_t hP] at k2; exact absurd k2 (by decide)
        · rcases hT.2 with ⟨cd', wt', m', br', dg', wa', k1, k2, k3, k4⟩ | ⟨k1, -⟩
          · rw [bi_f hP] at k4; exact absurd k4 (by decide)
          · exact ⟨by omega, _, hs, fun _ => k1, fun h => absurd h (by omega)⟩
  · show iS b = i b
    rw [hiS, s2_ne c4, s2_ne c1, s2_ne c1, s2_ne c1, s2_ne c1, s2_ne c1]
  · show iS 18 1 = i 18 1
    rw [hiS]; simp [s2_ap]
  · show iS 18 3 = nI 0
    rw [hiS]; simp [s2_ap]
  · show iS 18 5 = nI 0
    rw [hiS]; simp [s2_ap]
  · have : q = 0 := by omega
    subst this
    show iS 22 0 = _
    rw [hiS, s2_self]; rfl
  · show iS 18 7 = nI 0
    rw [hiS]; simp [s2_ap]
  · show iS 18 8 = nI 0
    rw [hiS]; simp [s2_ap]
  · show iS 18 9 = nI 1
    rw [hiS]; simp [s2_ap]
