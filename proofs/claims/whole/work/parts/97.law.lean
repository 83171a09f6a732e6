/-! ===== the law's loop: by wip/whole/gen97.py ===== -/
/-- what a call leaves: the relation, and little growth -/
def Kq (X : XS) (M : AM) : Prop := ∃ X' i' j', M = mm X' i' j' ∧ Rel X' i' j' ∧ Grw X X'
theorem Kq.nx (X : XS) : Nx X (Kq X) := fun X' i' j' h g => ⟨X', i', j', rfl, h, g⟩
theorem two {D y1 y2 : Nat} {as1 as2 : List Value} {M : AM} {P : AM → Prop} (k : WI (D + 300) y1 as1 M (fun x1 M1 => WI (D + 300) y2 as2 M1 (fun x2 M2 => x1 = x2 ∧ P M2))) (hm : kd M 1 = 27) {G : Int32 → AM → Prop}
    (g : ∀ x1 M1, SC M M1 → WI (D + 301) y2 as2 M1 (fun x2 M2 => x1 = x2 ∧ P M2 ∧ SC M M2) → G x1 M1) : WI (D + 301) y1 as1 M G := by
  refine (WC.keep k hm).mono (by omega) ?_
  rintro r M1 ⟨⟨x, e, w⟩, sc⟩
  refine ⟨x, e, g x M1 sc ((WC.keep w (sc.k1 hm)).mono (by omega) ?_)⟩
  rintro r2 M2 ⟨⟨x2, e2, e3, p⟩, sc2⟩
  exact ⟨x2, e2, e3, p, sc.trans sc2⟩
theorem thI {D y1 y2 : Nat} {as1 as2 : List Value} {M : AM} {P : AM → Prop} (k : WI (D + 301) y1 as1 M (fun x1 M1 => WI (D + 300) y2 as2 M1 (fun x2 M2 => TO P x1 x2.toInt64 M2))) (hm : kd M 1 = 27) {G : Int32 → AM → Prop}
    (g : ∀ x1 M1, SC M M1 → WI (D + 301) y2 as2 M1 (fun x2 M2 => TO P x1 x2.toInt64 M2 ∧ SC M M2) → G x1 M1) : WI (D + 301) y1 as1 M G := by
  refine (WC.keep k hm).mono (by omega) ?_
  rintro r M1 ⟨⟨x, e, w⟩, sc⟩
  refine ⟨x, e, g x M1 sc ((WC.keep w (sc.k1 hm)).mono (by omega) ?_)⟩
  rintro r2 M2 ⟨⟨x2, e2, p⟩, sc2⟩
  exact ⟨x2, e2, p, sc.trans sc2⟩
theorem thL {D y1 y2 : Nat} {as1 as2 : List Value} {M : AM} {P : AM → Prop} (k : WI (D + 301) y1 as1 M (fun x1 M1 => WL (D + 300) y2 as2 M1 (fun x2 M2 => TO P x1 x2 M2))) (hm : kd M 1 = 27) {G : Int32 → AM → Prop}
    (g : ∀ x1 M1, SC M M1 → WL (D + 301) y2 as2 M1 (fun x2 M2 => TO P x1 x2 M2 ∧ SC M M2) → G x1 M1) : WI (D + 301) y1 as1 M G := by
  refine (WC.keep k hm).mono (by omega) ?_
  rintro r M1 ⟨⟨x, e, w⟩, sc⟩
  refine ⟨x, e, g x M1 sc ((WC.keep w (sc.k1 hm)).mono (by omega) ?_)⟩
  rintro r2 M2 ⟨⟨x2, e2, p⟩, sc2⟩
  exact ⟨x2, e2, p, sc.trans sc2⟩
/-- the end of a case whose call may throw -/
theorem thE {D : Nat} {X : XS} {x1 : Int32} {b : Int64} {M M2 : AM} {Q : Option (Option Value) → AM → Prop} {v4 : Int32} (p : TO (Kq X) x1 b M2) (sc : SC M M2)
    (hn : ∀ M2, Kq X M2 → SC M M2 → WP (D + 302) 1669 (2725, [(0, .ref 1), (1, .ref 2), (2, .ref 42), (3, .ref 77), (4, .int v4)], [], M2) Q) {A B : Prop} {C : AM → Prop} :
    (kd M2 42 = 13) ∧ WI (D + 301) 1537 [.ref 42] M2 (fun x3 M3 => ((x3 = x1 → ((¬ x1 = 0 → WP (D + 302) 1669 (2725, [(0, .ref 1), (1, .ref 2), (2, .ref 42), (3, .ref 77), (4, .int v4)], [], M3) Q) ∧ (¬ (¬ x1 = 0) → (kd M3 77 = 23 ∧ vp_in (kI 0) (ln M3 77)) ∧ (((lg_cmp (gl M3 77 (kI 0).toNatClampNeg) b) = 0 → WP (D + 302) 1669 (2725, [(0, .ref 1), (1, .ref 2), (2, .ref 42), (3, .ref 77), (4, .int v4)], [], M3) Q) ∧ (¬ ((lg_cmp (gl M3 77 (kI 0).toNatClampNeg) b) = 0) → A ∧ C M3))))) ∧ (¬ (x3 = x1) → B ∧ C M3))) := by
  obtain ⟨X', i', j', rfl, e1, e2, p⟩ := p
  refine ⟨rfl, te_1537 (D + 301) 42 (mm X' i' j') _ ⟨rfl, i' 42 36, rfl, fun _ => ⟨fun _ => hn _ p sc, fun z => ⟨⟨rfl, vpk 0 1 rfl⟩, fun _ => hn _ p sc, fun z2 => absurd (lc_eq.mpr (e2 (Classical.byContradiction z))) z2⟩⟩, fun z => absurd e1.symm z⟩⟩
theorem law_0 {D : Nat} {X : XS} {i : Nat → Nat → Int32} {j : Nat → Nat → Int64} {v4 : Int32} {Q : Option (Option Value) → AM → Prop} (h : Rel X i j) (hv : ∀ k : Nat, k ≤ 6 → vp_in (v4 + kI k) (ln (mm X i j) 1)) (hn : ∀ M2, Kq X M2 → SC (mm X i j) M2 → WP (D + 302) 1669 (2725, [(0, .ref 1), (1, .ref 2), (2, .ref 42), (3, .ref 77), (4, .int v4)], [], M2) Q) : WP (D + 302) 1669 (268, [(0, .ref 1), (1, .ref 2), (2, .ref 42), (3, .ref 77), (4, .int v4)], [], mm X i j) Q := by
  have hm : kd (mm X i j) 1 = 27 := rfl
  have hw : 44 < nn (mm X i j) + 2 := Nat.lt_of_lt_of_le (by decide) (Nat.add_le_add_right h.1.1 2)
  refine tc_1669_268 (D + 301) 1 2 42 77 v4 (mm X i j) Q ⟨⟨hm, hv 1 (by decide)⟩, ⟨hm, hv 2 (by decide)⟩, ⟨hm, hv 3 (by decide)⟩, rfl, two (k_0 D h _ _ _ (Kq.nx X)) hm fun x1 M1 sc w => ?_⟩
  rw [sc.1, sc.2.1]
  refine ⟨⟨sc.k1 hm, hv 1 (by decide)⟩, ⟨sc.k1 hm, hv 2 (by decide)⟩, ⟨sc.k1 hm, hv 3 (by decide)⟩, (sc.2.2.2 42 (by omega)).trans rfl, w.mono (Nat.le_refl _) ?_⟩
  rintro r M2 ⟨x2, e, e3, p, sc2⟩
  exact ⟨x2, e, fun _ => hn M2 p sc2, fun z => absurd e3 z⟩
theorem law_1 {D : Nat} {X : XS} {i : Nat → Nat → Int32} {j : Nat → Nat → Int64} {v4 : Int32} {Q : Option (Option Value) → AM → Prop} (h : Rel X i j) (hv : ∀ k : Nat, k ≤ 6 → vp_in (v4 + kI k) (ln (mm X i j) 1)) (hn : ∀ M2, Kq X M2 → SC (mm X i j) M2 → WP (D + 302) 1669 (2725, [(0, .ref 1), (1, .ref 2), (2, .ref 42), (3, .ref 77), (4, .int v4)], [], M2) Q) : WP (D + 302) 1669 (317, [(0, .ref 1), (1, .ref 2), (2, .ref 42), (3, .ref 77), (4, .int v4)], [], mm X i j) Q := by
  have hm : kd (mm X i j) 1 = 27 := rfl
  have hw : 44 < nn (mm X i j) + 2 := Nat.lt_of_lt_of_le (by decide) (Nat.add_le_add_right h.1.1 2)
  refine tc_1669_317 (D + 301) 1 2 42 77 v4 (mm X i j) Q ⟨⟨hm, hv 1 (by decide)⟩, ⟨hm, hv 2 (by decide)⟩, ⟨hm, hv 3 (by decide)⟩, ⟨hm, hv 4 (by decide)⟩, ⟨hm, hv 5 (by decide)⟩, rfl, two (k_1 D h _ _ _ _ _ (Kq.nx X)) hm fun x1 M1 sc w => ?_⟩
  rw [sc.1, sc.2.1]
  refine ⟨⟨sc.k1 hm, hv 1 (by decide)⟩, ⟨sc.k1 hm, hv 2 (by decide)⟩, ⟨sc.k1 hm, hv 3 (by decide)⟩, ⟨sc.k1 hm, hv 4 (by decide)⟩, ⟨sc.k1 hm, hv 5 (by decide)⟩, (sc.2.2.2 42 (by omega)).trans rfl, w.mono (Nat.le_refl _) ?_⟩
  rintro r M2 ⟨x2, e, e3, p, sc2⟩
  exact ⟨x2, e, fun _ => hn M2 p sc2, fun z => absurd e3 z⟩
theorem law_2 {D : Nat} {X : XS} {i : Nat → Nat → Int32} {j : Nat → Nat → Int64} {v4 : Int32} {Q : Option (Option Value) → AM → Prop} (h : Rel X i j) (hv : ∀ k : Nat, k ≤ 6 → vp_in (v4 + kI k) (ln (mm X i j) 1)) (hn : ∀ M2, Kq X M2 → SC (mm X i j) M2 → WP (D + 302) 1669 (2725, [(0, .ref 1), (1, .ref 2), (2, .ref 42), (3, .ref 77), (4, .int v4)], [], M2) Q) : WP (D + 302) 1669 (390, [(0, .ref 1), (1, .ref 2), (2, .ref 42), (3, .ref 77), (4, .int v4)], [], mm X i j) Q := by
  have hm : kd (mm X i j) 1 = 27 := rfl
  have hw : 44 < nn (mm X i j) + 2 := Nat.lt_of_lt_of_le (by decide) (Nat.add_le_add_right h.1.1 2)
  refine tc_1669_390 (D + 301) 1 2 42 77 v4 (mm X i j) Q ⟨⟨hm, hv 1 (by decide)⟩, rfl, two (k_2 D h _ (Kq.nx X)) hm fun x1 M1 sc w => ?_⟩
  rw [sc.1, sc.2.1]
  refine ⟨⟨sc.k1 hm, hv 1 (by decide)⟩, (sc.2.2.2 42 (by omega)).trans rfl, w.mono (Nat.le_refl _) ?_⟩
  rintro r M2 ⟨x2, e, e3, p, sc2⟩
  exact ⟨x2, e, fun _ => hn M2 p sc2, fun z => absurd e3 z⟩
theorem law_3 {D : Nat} {X : XS} {i : Nat → Nat → Int32} {j : Nat → Nat → Int64} {v4 : Int32} {Q : Option (Option Value) → AM → Prop} (h : Rel X i j) (hv : ∀ k : Nat, k ≤ 6 → vp_in (v4 + kI k) (ln (mm X i j) 1)) (hn : ∀ M2, Kq X M2 → SC (mm X i j) M2 → WP (D + 302) 1669 (2725, [(0, .ref 1), (1, .ref 2), (2, .ref 42), (3, .ref 77), (4, .int v4)], [], M2) Q) : WP (D + 302) 1669 (415, [(0, .ref 1), (1, .ref 2), (2, .ref 42), (3, .ref 77), (4, .int v4)], [], mm X i j) Q := by
  have hm : kd (mm X i j) 1 = 27 := rfl
  have hw : 44 < nn (mm X i j) + 2 := Nat.lt_of_lt_of_le (by decide) (Nat.add_le_add_right h.1.1 2)
  refine tc_1669_415 (D + 301) 1 2 42 77 v4 (mm X i j) Q ⟨⟨hm, hv 1 (by decide)⟩, ⟨hm, hv 2 (by decide)⟩, ⟨hm, hv 3 (by decide)⟩, rfl, two (k_3 D h _ _ _ (Kq.nx X)) hm fun x1 M1 sc w => ?_⟩
  rw [sc.1, sc.2.1]
  refine ⟨⟨sc.k1 hm, hv 1 (by decide)⟩, ⟨sc.k1 hm, hv 2 (by decide)⟩, ⟨sc.k1 hm, hv 3 (by decide)⟩, (sc.2.2.2 42 (by omega)).trans rfl, w.mono (Nat.le_refl _) ?_⟩
  rintro r M2 ⟨x2, e, e3, p, sc2⟩
  exact ⟨x2, e, fun _ => hn M2 p sc2, fun z => absurd e3 z⟩
theorem law_4 {D : Nat} {X : XS} {i : Nat → Nat → Int32} {j : Nat → Nat → Int64} {v4 : Int32} {Q : Option (Option Value) → AM → Prop} (h : Rel X i j) (hv : ∀ k : Nat, k ≤ 6 → vp_in (v4 + kI k) (ln (mm X i j) 1)) (hn : ∀ M2, Kq X M2 → SC (mm X i j) M2 → WP (D + 302) 1669 (2725, [(0, .ref 1), (1, .ref 2), (2, .ref 42), (3, .ref 77), (4, .int v4)], [], M2) Q) : WP (D + 302) 1669 (464, [(0, .ref 1), (1, .ref 2), (2, .ref 42), (3, .ref 77), (4, .int v4)], [], mm X i j) Q := by
  have hm : kd (mm X i j) 1 = 27 := rfl
  have hw : 44 < nn (mm X i j) + 2 := Nat.lt_of_lt_of_le (by decide) (Nat.add_le_add_right h.1.1 2)
  refine tc_1669_464 (D + 301) 1 2 42 77 v4 (mm X i j) Q ⟨⟨hm, hv 1 (by decide)⟩, ⟨hm, hv 2 (by decide)⟩, thI (k_4 D h _ _ (Kq.nx X)) hm fun x1 M1 sc w => ?_⟩
  rw [sc.1, sc.2.1]
  refine ⟨⟨sc.k1 hm, hv 1 (by decide)⟩, ⟨sc.k1 hm, hv 2 (by decide)⟩, (sc.2.2.2 42 (by omega)).trans rfl, w.mono (Nat.le_refl _) ?_⟩
  rintro r M2 ⟨x2, e, p, sc2⟩
  exact ⟨x2, e, thE p sc2 hn⟩
theorem law_5 {D : Nat} {X : XS} {i : Nat → Nat → Int32} {j : Nat → Nat → Int64} {v4 : Int32} {Q : Option (Option Value) → AM → Prop} (h : Rel X i j) (hv : ∀ k : Nat, k ≤ 6 → vp_in (v4 + kI k) (ln (mm X i j) 1)) (hn : ∀ M2, Kq X M2 → SC (mm X i j) M2 → WP (D + 302) 1669 (2725, [(0, .ref 1), (1, .ref 2), (2, .ref 42), (3, .ref 77), (4, .int v4)], [], M2) Q) : WP (D + 302) 1669 (532, [(0, .ref 1), (1, .ref 2), (2, .ref 42), (3, .ref 77), (4, .int v4)], [], mm X i j) Q := by
  have hm : kd (mm X i j) 1 = 27 := rfl
  have hw : 44 < nn (mm X i j) + 2 := Nat.lt_of_lt_of_le (by decide) (Nat.add_le_add_right h.1.1 2)
  refine tc_1669_532 (D + 301) 1 2 42 77 v4 (mm X i j) Q ⟨⟨hm, hv 1 (by decide)⟩, rfl, two (k_5 D h _ (Kq.nx X)) hm fun x1 M1 sc w => ?_⟩
  rw [sc.1, sc.2.1]
  refine ⟨⟨sc.k1 hm, hv 1 (by decide)⟩, (sc.2.2.2 42 (by omega)).trans rfl, w.mono (Nat.le_refl _) ?_⟩
  rintro r M2 ⟨x2, e, e3, p, sc2⟩
  exact ⟨x2, e, fun _ => hn M2 p sc2, fun z => absurd e3 z⟩
theorem law_6 {D : Nat} {X : XS} {i : Nat → Nat → Int32} {j : Nat → Nat → Int64} {v4 : Int32} {Q : Option (Option Value) → AM → Prop} (h : Rel X i j) (hv : ∀ k : Nat, k ≤ 6 → vp_in (v4 + kI k) (ln (mm X i j) 1)) (hn : ∀ M2, Kq X M2 → SC (mm X i j) M2 → WP (D + 302) 1669 (2725, [(0, .ref 1), (1, .ref 2), (2, .ref 42), (3, .ref 77), (4, .int v4)], [], M2) Q) : WP (D + 302) 1669 (557, [(0, .ref 1), (1, .ref 2), (2, .ref 42), (3, .ref 77), (4, .int v4)], [], mm X i j) Q := by
  have hm : kd (mm X i j) 1 = 27 := rfl
  have hw : 44 < nn (mm X i j) + 2 := Nat.lt_of_lt_of_le (by decide) (Nat.add_le_add_right h.1.1 2)
  refine tc_1669_557 (D + 301) 1 2 42 77 v4 (mm X i j) Q ⟨⟨hm, hv 1 (by decide)⟩, ⟨hm, hv 2 (by decide)⟩, rfl, two (k_6 D h _ _ (Kq.nx X)) hm fun x1 M1 sc w => ?_⟩
  rw [sc.1, sc.2.1]
  refine ⟨⟨sc.k1 hm, hv 1 (by decide)⟩, ⟨sc.k1 hm, hv 2 (by decide)⟩, (sc.2.2.2 42 (by omega)).trans rfl, w.mono (Nat.le_refl _) ?_⟩
  rintro r M2 ⟨x2, e, e3, p, sc2⟩
  exact ⟨x2, e, fun _ => hn M2 p sc2, fun z => absurd e3 z⟩
theorem law_7 {D : Nat} {X : XS} {i : Nat → Nat → Int32} {j : Nat → Nat → Int64} {v4 : Int32} {Q : Option (Option Value) → AM → Prop} (h : Rel X i j) (hv : ∀ k : Nat, k ≤ 6 → vp_in (v4 + kI k) (ln (mm X i j) 1)) (hn : ∀ M2, Kq X M2 → SC (mm X i j) M2 → WP (D + 302) 1669 (2725, [(0, .ref 1), (1, .ref 2), (2, .ref 42), (3, .ref 77), (4, .int v4)], [], M2) Q) : WP (D + 302) 1669 (594, [(0, .ref 1), (1, .ref 2), (2, .ref 42), (3, .ref 77), (4, .int v4)], [], mm X i j) Q := by
  have hm : kd (mm X i j) 1 = 27 := rfl
  have hw : 44 < nn (mm X i j) + 2 := Nat.lt_of_lt_of_le (by decide) (Nat.add_le_add_right h.1.1 2)
  refine tc_1669_594 (D + 301) 1 2 42 77 v4 (mm X i j) Q ⟨⟨hm, hv 1 (by decide)⟩, ⟨hm, hv 2 (by decide)⟩, ⟨hm, hv 3 (by decide)⟩, rfl, two (k_7 D h _ _ _ (Kq.nx X)) hm fun x1 M1 sc w => ?_⟩
  rw [sc.1, sc.2.1]
  refine ⟨⟨sc.k1 hm, hv 1 (by decide)⟩, ⟨sc.k1 hm, hv 2 (by decide)⟩, ⟨sc.k1 hm, hv 3 (by decide)⟩, (sc.2.2.2 42 (by omega)).trans rfl, w.mono (Nat.le_refl _) ?_⟩
  rintro r M2 ⟨x2, e, e3, p, sc2⟩
  exact ⟨x2, e, fun _ => hn M2 p sc2, fun z => absurd e3 z⟩
theorem law_8 {D : Nat} {X : XS} {i : Nat → Nat → Int32} {j : Nat → Nat → Int64} {v4 : Int32} {Q : Option (Option Value) → AM → Prop} (h : Rel X i j) (hv : ∀ k : Nat, k ≤ 6 → vp_in (v4 + kI k) (ln (mm X i j) 1)) (hn : ∀ M2, Kq X M2 → SC (mm X i j) M2 → WP (D + 302) 1669 (2725, [(0, .ref 1), (1, .ref 2), (2, .ref 42), (3, .ref 77), (4, .int v4)], [], M2) Q) : WP (D + 302) 1669 (643, [(0, .ref 1), (1, .ref 2), (2, .ref 42), (3, .ref 77), (4, .int v4)], [], mm X i j) Q := by
  have hm : kd (mm X i j) 1 = 27 := rfl
  have hw : 44 < nn (mm X i j) + 2 := Nat.lt_of_lt_of_le (by decide) (Nat.add_le_add_right h.1.1 2)
  have e1 : ∀ {M1 : AM} (a : Int32), SC (mm X i j) M1 → kd M1 42 = 13 := fun _ sc => (sc.2.2.2 42 (by omega)).trans rfl
  have one : ∀ (b : Int32), (b = 0 ∨ b = 1) → ∀ {G : Int32 → AM → Prop}, (∀ x1 M1, SC (mm X i j) M1 → WI (D + 301) 1559 [.ref 42, .int (gi (mm X i j) 1 (v4 + (kI 1)).toNatClampNeg), .int b] M1 (fun x2 M2 => x1 = x2 ∧ Kq X M2 ∧ SC (mm X i j) M2) → G x1 M1) → WI (D + 301) 1417 [.ref 2, .int (gi (mm X i j) 1 (v4 + (kI 1)).toNatClampNeg), .int b] (mm X i j) G := fun b hb _ g => two (k_8 D h _ b hb (Kq.nx X)) hm g
  refine tc_1669_643 (D + 301) 1 2 42 77 v4 (mm X i j) Q ⟨⟨hm, hv 1 (by decide)⟩, ⟨hm, hv 2 (by decide)⟩, fun z => ⟨rfl, one (kI 0) (Or.inl rfl) fun x1 M1 sc w => ?_⟩, fun z => ⟨rfl, one (kI 1) (Or.inr rfl) fun x1 M1 sc w => ?_⟩⟩
  · rw [sc.1, sc.2.1]
    refine ⟨⟨sc.k1 hm, hv 1 (by decide)⟩, ⟨sc.k1 hm, hv 2 (by decide)⟩, fun _ => ⟨e1 0 sc, w.mono (Nat.le_refl _) ?_⟩, fun z2 => absurd z z2⟩
    rintro r M2 ⟨x2, e, e3, p, sc2⟩
    exact ⟨x2, e, fun _ => hn M2 p sc2, fun z => absurd e3 z⟩
  · rw [sc.1, sc.2.1]
    refine ⟨⟨sc.k1 hm, hv 1 (by decide)⟩, ⟨sc.k1 hm, hv 2 (by decide)⟩, fun z2 => absurd z2 z, fun _ => ⟨e1 0 sc, w.mono (Nat.le_refl _) ?_⟩⟩
    rintro r M2 ⟨x2, e, e3, p, sc2⟩
    exact ⟨x2, e, fun _ => hn M2 p sc2, fun z => absurd e3 z⟩
theorem law_9 {D : Nat} {X : XS} {i : Nat → Nat → Int32} {j : Nat → Nat → Int64} {v4 : Int32} {Q : Option (Option Value) → AM → Prop} (h : Rel X i j) (hv : ∀ k : Nat, k ≤ 6 → vp_in (v4 + kI k) (ln (mm X i j) 1)) (hn : ∀ M2, Kq X M2 → SC (mm X i j) M2 → WP (D + 302) 1669 (2725, [(0, .ref 1), (1, .ref 2), (2, .ref 42), (3, .ref 77), (4, .int v4)], [], M2) Q) : WP (D + 302) 1669 (696, [(0, .ref 1), (1, .ref 2), (2, .ref 42), (3, .ref 77), (4, .int v4)], [], mm X i j) Q := by
  have hm : kd (mm X i j) 1 = 27 := rfl
  have hw : 44 < nn (mm X i j) + 2 := Nat.lt_of_lt_of_le (by decide) (Nat.add_le_add_right h.1.1 2)
  refine tc_1669_696 (D + 301) 1 2 42 77 v4 (mm X i j) Q ⟨⟨hm, hv 1 (by decide)⟩, ⟨hm, hv 2 (by decide)⟩, rfl, two (k_9 D h _ _ (Kq.nx X)) hm fun x1 M1 sc w => ?_⟩
  rw [sc.1, sc.2.1]
  refine ⟨⟨sc.k1 hm, hv 1 (by decide)⟩, ⟨sc.k1 hm, hv 2 (by decide)⟩, (sc.2.2.2 42 (by omega)).trans rfl, w.mono (Nat.le_refl _) ?_⟩
  rintro r M2 ⟨x2, e, e3, p, sc2⟩
  exact ⟨x2, e, fun _ => hn M2 p sc2, fun z => absurd e3 z⟩
theorem law_10 {D : Nat} {X : XS} {i : Nat → Nat → Int32} {j : Nat → Nat → Int64} {v4 : Int32} {Q : Option (Option Value) → AM → Prop} (h : Rel X i j) (hv : ∀ k : Nat, k ≤ 6 → vp_in (v4 + kI k) (ln (mm X i j) 1)) (hn : ∀ M2, Kq X M2 → SC (mm X i j) M2 → WP (D + 302) 1669 (2725, [(0, .ref 1), (1, .ref 2), (2, .ref 42), (3, .ref 77), (4, .int v4)], [], M2) Q) : WP (D + 302) 1669 (733, [(0, .ref 1), (1, .ref 2), (2, .ref 42), (3, .ref 77), (4, .int v4)], [], mm X i j) Q := by
  have hm : kd (mm X i j) 1 = 27 := rfl
  have hw : 44 < nn (mm X i j) + 2 := Nat.lt_of_lt_of_le (by decide) (Nat.add_le_add_right h.1.1 2)
  refine tc_1669_733 (D + 301) 1 2 42 77 v4 (mm X i j) Q ⟨⟨hm, hv 1 (by decide)⟩, ⟨hm, hv 2 (by decide)⟩, ⟨hm, hv 3 (by decide)⟩, thI (k_10 D h _ _ _ (Kq.nx X)) hm fun x1 M1 sc w => ?_⟩
  rw [sc.1, sc.2.1]
  refine ⟨⟨sc.k1 hm, hv 1 (by decide)⟩, ⟨sc.k1 hm, hv 2 (by decide)⟩, ⟨sc.k1 hm, hv 3 (by decide)⟩, (sc.2.2.2 42 (by omega)).trans rfl, w.mono (Nat.le_refl _) ?_⟩
  rintro r M2 ⟨x2, e, p, sc2⟩
  exact ⟨x2, e, thE p sc2 hn⟩
theorem law_11 {D : Nat} {X : XS} {i : Nat → Nat → Int32} {j : Nat → Nat → Int64} {v4 : Int32} {Q : Option (Option Value) → AM → Prop} (h : Rel X i j) (hv : ∀ k : Nat, k ≤ 6 → vp_in (v4 + kI k) (ln (mm X i j) 1)) (hn : ∀ M2, Kq X M2 → SC (mm X i j) M2 → WP (D + 302) 1669 (2725, [(0, .ref 1), (1, .ref 2), (2, .ref 42), (3, .ref 77), (4, .int v4)], [], M2) Q) : WP (D + 302) 1669 (813, [(0, .ref 1), (1, .ref 2), (2, .ref 42), (3, .ref 77), (4, .int v4)], [], mm X i j) Q := by
  have hm : kd (mm X i j) 1 = 27 := rfl
  have hw : 44 < nn (mm X i j) + 2 := Nat.lt_of_lt_of_le (by decide) (Nat.add_le_add_right h.1.1 2)
  refine tc_1669_813 (D + 301) 1 2 42 77 v4 (mm X i j) Q ⟨⟨hm, hv 1 (by decide)⟩, ⟨hm, hv 2 (by decide)⟩, rfl, two (k_11 D h _ _ (Kq.nx X)) hm fun x1 M1 sc w => ?_⟩
  rw [sc.1, sc.2.1]
  refine ⟨⟨sc.k1 hm, hv 1 (by decide)⟩, ⟨sc.k1 hm, hv 2 (by decide)⟩, (sc.2.2.2 42 (by omega)).trans rfl, w.mono (Nat.le_refl _) ?_⟩
  rintro r M2 ⟨x2, e, e3, p, sc2⟩
  exact ⟨x2, e, fun _ => hn M2 p sc2, fun z => absurd e3 z⟩
theorem law_12 {D : Nat} {X : XS} {i : Nat → Nat → Int32} {j : Nat → Nat → Int64} {v4 : Int32} {Q : Option (Option Value) → AM → Prop} (h : Rel X i j) (hv : ∀ k : Nat, k ≤ 6 → vp_in (v4 + kI k) (ln (mm X i j) 1)) (hn : ∀ M2, Kq X M2 → SC (mm X i j) M2 → WP (D + 302) 1669 (2725, [(0, .ref 1), (1, .ref 2), (2, .ref 42), (3, .ref 77), (4, .int v4)], [], M2) Q) : WP (D + 302) 1669 (850, [(0, .ref 1), (1, .ref 2), (2, .ref 42), (3, .ref 77), (4, .int v4)], [], mm X i j) Q := by
  have hm : kd (mm X i j) 1 = 27 := rfl
  have hw : 44 < nn (mm X i j) + 2 := Nat.lt_of_lt_of_le (by decide) (Nat.add_le_add_right h.1.1 2)
  refine tc_1669_850 (D + 301) 1 2 42 77 v4 (mm X i j) Q ⟨⟨hm, hv 1 (by decide)⟩, ⟨hm, hv 2 (by decide)⟩, rfl, two (k_12 D h _ _ (Kq.nx X)) hm fun x1 M1 sc w => ?_⟩
  rw [sc.1, sc.2.1]
  refine ⟨⟨sc.k1 hm, hv 1 (by decide)⟩, ⟨sc.k1 hm, hv 2 (by decide)⟩, (sc.2.2.2 42 (by omega)).trans rfl, w.mono (Nat.le_refl _) ?_⟩
  rintro r M2 ⟨x2, e, e3, p, sc2⟩
  exact ⟨x2, e, fun _ => hn M2 p sc2, fun z => absurd e3 z⟩
theorem law_13 {D : Nat} {X : XS} {i : Nat → Nat → Int32} {j : Nat → Nat → Int64} {v4 : Int32} {Q : Option (Option Value) → AM → Prop} (h : Rel X i j) (hv : ∀ k : Nat, k ≤ 6 → vp_in (v4 + kI k) (ln (mm X i j) 1)) (hn : ∀ M2, Kq X M2 → SC (mm X i j) M2 → WP (D + 302) 1669 (2725, [(0, .ref 1), (1, .ref 2), (2, .ref 42), (3, .ref 77), (4, .int v4)], [], M2) Q) : WP (D + 302) 1669 (887, [(0, .ref 1), (1, .ref 2), (2, .ref 42), (3, .ref 77), (4, .int v4)], [], mm X i j) Q := by
  have hm : kd (mm X i j) 1 = 27 := rfl
  have hw : 44 < nn (mm X i j) + 2 := Nat.lt_of_lt_of_le (by decide) (Nat.add_le_add_right h.1.1 2)
  refine tc_1669_887 (D + 301) 1 2 42 77 v4 (mm X i j) Q ⟨⟨hm, hv 1 (by decide)⟩, ⟨hm, hv 2 (by decide)⟩, ⟨hm, hv 3 (by decide)⟩, rfl, two (k_13 D h _ _ _ (Kq.nx X)) hm fun x1 M1 sc w => ?_⟩
  rw [sc.1, sc.2.1]
  refine ⟨⟨sc.k1 hm, hv 1 (by decide)⟩, ⟨sc.k1 hm, hv 2 (by decide)⟩, ⟨sc.k1 hm, hv 3 (by decide)⟩, (sc.2.2.2 42 (by omega)).trans rfl, w.mono (Nat.le_refl _) ?_⟩
  rintro r M2 ⟨x2, e, e3, p, sc2⟩
  exact ⟨x2, e, fun _ => hn M2 p sc2, fun z => absurd e3 z⟩
theorem law_14 {D : Nat} {X : XS} {i : Nat → Nat → Int32} {j : Nat → Nat → Int64} {v4 : Int32} {Q : Option (Option Value) → AM → Prop} (h : Rel X i j) (hv : ∀ k : Nat, k ≤ 6 → vp_in (v4 + kI k) (ln (mm X i j) 1)) (hn : ∀ M2, Kq X M2 → SC (mm X i j) M2 → WP (D + 302) 1669 (2725, [(0, .ref 1), (1, .ref 2), (2, .ref 42), (3, .ref 77), (4, .int v4)], [], M2) Q) : WP (D + 302) 1669 (936, [(0, .ref 1), (1, .ref 2), (2, .ref 42), (3, .ref 77), (4, .int v4)], [], mm X i j) Q := by
  have hm : kd (mm X i j) 1 = 27 := rfl
  have hw : 44 < nn (mm X i j) + 2 := Nat.lt_of_lt_of_le (by decide) (Nat.add_le_add_right h.1.1 2)
  refine tc_1669_936 (D + 301) 1 2 42 77 v4 (mm X i j) Q ⟨⟨hm, hv 1 (by decide)⟩, rfl, two (k_14 D h _ (Kq.nx X)) hm fun x1 M1 sc w => ?_⟩
  rw [sc.1, sc.2.1]
  refine ⟨⟨sc.k1 hm, hv 1 (by decide)⟩, (sc.2.2.2 42 (by omega)).trans rfl, w.mono (Nat.le_refl _) ?_⟩
  rintro r M2 ⟨x2, e, e3, p, sc2⟩
  exact ⟨x2, e, fun _ => hn M2 p sc2, fun z => absurd e3 z⟩
theorem law_15 {D : Nat} {X : XS} {i : Nat → Nat → Int32} {j : Nat → Nat → Int64} {v4 : Int32} {Q : Option (Option Value) → AM → Prop} (h : Rel X i j) (hv : ∀ k : Nat, k ≤ 6 → vp_in (v4 + kI k) (ln (mm X i j) 1)) (hn : ∀ M2, Kq X M2 → SC (mm X i j) M2 → WP (D + 302) 1669 (2725, [(0, .ref 1), (1, .ref 2), (2, .ref 42), (3, .ref 77), (4, .int v4)], [], M2) Q) : WP (D + 302) 1669 (961, [(0, .ref 1), (1, .ref 2), (2, .ref 42), (3, .ref 77), (4, .int v4)], [], mm X i j) Q := by
  have hm : kd (mm X i j) 1 = 27 := rfl
  have hw : 44 < nn (mm X i j) + 2 := Nat.lt_of_lt_of_le (by decide) (Nat.add_le_add_right h.1.1 2)
  refine tc_1669_961 (D + 301) 1 2 42 77 v4 (mm X i j) Q ⟨⟨hm, hv 1 (by decide)⟩, rfl, two (k_15 D h _ (Kq.nx X)) hm fun x1 M1 sc w => ?_⟩
  rw [sc.1, sc.2.1]
  refine ⟨⟨sc.k1 hm, hv 1 (by decide)⟩, (sc.2.2.2 42 (by omega)).trans rfl, w.mono (Nat.le_refl _) ?_⟩
  rintro r M2 ⟨x2, e, e3, p, sc2⟩
  exact ⟨x2, e, fun _ => hn M2 p sc2, fun z => absurd e3 z⟩
theorem law_16 {D : Nat} {X : XS} {i : Nat → Nat → Int32} {j : Nat → Nat → Int64} {v4 : Int32} {Q : Option (Option Value) → AM → Prop} (h : Rel X i j) (hv : ∀ k : Nat, k ≤ 6 → vp_in (v4 + kI k) (ln (mm X i j) 1)) (hn : ∀ M2, Kq X M2 → SC (mm X i j) M2 → WP (D + 302) 1669 (2725, [(0, .ref 1), (1, .ref 2), (2, .ref 42), (3, .ref 77), (4, .int v4)], [], M2) Q) : WP (D + 302) 1669 (986, [(0, .ref 1), (1, .ref 2), (2, .ref 42), (3, .ref 77), (4, .int v4)], [], mm X i j) Q := by
  have hm : kd (mm X i j) 1 = 27 := rfl
  have hw : 44 < nn (mm X i j) + 2 := Nat.lt_of_lt_of_le (by decide) (Nat.add_le_add_right h.1.1 2)
  refine tc_1669_986 (D + 301) 1 2 42 77 v4 (mm X i j) Q ⟨⟨hm, hv 1 (by decide)⟩, rfl, two (k_16 D h _ (Kq.nx X)) hm fun x1 M1 sc w => ?_⟩
  rw [sc.1, sc.2.1]
  refine ⟨⟨sc.k1 hm, hv 1 (by decide)⟩, (sc.2.2.2 42 (by omega)).trans rfl, w.mono (Nat.le_refl _) ?_⟩
  rintro r M2 ⟨x2, e, e3, p, sc2⟩
  exact ⟨x2, e, fun _ => hn M2 p sc2, fun z => absurd e3 z⟩
theorem law_17 {D : Nat} {X : XS} {i : Nat → Nat → Int32} {j : Nat → Nat → Int64} {v4 : Int32} {Q : Option (Option Value) → AM → Prop} (h : Rel X i j) (hv : ∀ k : Nat, k ≤ 6 → vp_in (v4 + kI k) (ln (mm X i j) 1)) (hn : ∀ M2, Kq X M2 → SC (mm X i j) M2 → WP (D + 302) 1669 (2725, [(0, .ref 1), (1, .ref 2), (2, .ref 42), (3, .ref 77), (4, .int v4)], [], M2) Q) : WP (D + 302) 1669 (1011, [(0, .ref 1), (1, .ref 2), (2, .ref 42), (3, .ref 77), (4, .int v4)], [], mm X i j) Q := by
  have hm : kd (mm X i j) 1 = 27 := rfl
  have hw : 44 < nn (mm X i j) + 2 := Nat.lt_of_lt_of_le (by decide) (Nat.add_le_add_right h.1.1 2)
  refine tc_1669_1011 (D + 301) 1 2 42 77 v4 (mm X i j) Q ⟨⟨hm, hv 1 (by decide)⟩, ⟨hm, hv 2 (by decide)⟩, thI (k_17 D h _ _ (Kq.nx X)) hm fun x1 M1 sc w => ?_⟩
  rw [sc.1, sc.2.1]
  refine ⟨⟨sc.k1 hm, hv 1 (by decide)⟩, ⟨sc.k1 hm, hv 2 (by decide)⟩, (sc.2.2.2 42 (by omega)).trans rfl, w.mono (Nat.le_refl _) ?_⟩
  rintro r M2 ⟨x2, e, p, sc2⟩
  exact ⟨x2, e, thE p sc2 hn⟩
theorem law_18 {D : Nat} {X : XS} {i : Nat → Nat → Int32} {j : Nat → Nat → Int64} {v4 : Int32} {Q : Option (Option Value) → AM → Prop} (h : Rel X i j) (hv : ∀ k : Nat, k ≤ 6 → vp_in (v4 + kI k) (ln (mm X i j) 1)) (hn : ∀ M2, Kq X M2 → SC (mm X i j) M2 → WP (D + 302) 1669 (2725, [(0, .ref 1), (1, .ref 2), (2, .ref 42), (3, .ref 77), (4, .int v4)], [], M2) Q) : WP (D + 302) 1669 (1079, [(0, .ref 1), (1, .ref 2), (2, .ref 42), (3, .ref 77), (4, .int v4)], [], mm X i j) Q := by
  have hm : kd (mm X i j) 1 = 27 := rfl
  have hw : 44 < nn (mm X i j) + 2 := Nat.lt_of_lt_of_le (by decide) (Nat.add_le_add_right h.1.1 2)
  refine tc_1669_1079 (D + 301) 1 2 42 77 v4 (mm X i j) Q ⟨⟨hm, hv 1 (by decide)⟩, ⟨hm, hv 2 (by decide)⟩, ⟨hm, hv 3 (by decide)⟩, rfl, two (k_18 D h _ _ _ (Kq.nx X)) hm fun x1 M1 sc w => ?_⟩
  rw [sc.1, sc.2.1]
  refine ⟨⟨sc.k1 hm, hv 1 (by decide)⟩, ⟨sc.k1 hm, hv 2 (by decide)⟩, ⟨sc.k1 hm, hv 3 (by decide)⟩, (sc.2.2.2 42 (by omega)).trans rfl, w.mono (Nat.le_refl _) ?_⟩
  rintro r M2 ⟨x2, e, e3, p, sc2⟩
  exact ⟨x2, e, fun _ => hn M2 p sc2, fun z => absurd e3 z⟩
theorem law_19 {D : Nat} {X : XS} {i : Nat → Nat → Int32} {j : Nat → Nat → Int64} {v4 : Int32} {Q : Option (Option Value) → AM → Prop} (h : Rel X i j) (hv : ∀ k : Nat, k ≤ 6 → vp_in (v4 + kI k) (ln (mm X i j) 1)) (hn : ∀ M2, Kq X M2 → SC (mm X i j) M2 → WP (D + 302) 1669 (2725, [(0, .ref 1), (1, .ref 2), (2, .ref 42), (3, .ref 77), (4, .int v4)], [], M2) Q) : WP (D + 302) 1669 (1128, [(0, .ref 1), (1, .ref 2), (2, .ref 42), (3, .ref 77), (4, .int v4)], [], mm X i j) Q := by
  have hm : kd (mm X i j) 1 = 27 := rfl
  have hw : 44 < nn (mm X i j) + 2 := Nat.lt_of_lt_of_le (by decide) (Nat.add_le_add_right h.1.1 2)
  refine tc_1669_1128 (D + 301) 1 2 42 77 v4 (mm X i j) Q ⟨⟨hm, hv 1 (by decide)⟩, ⟨hm, hv 2 (by decide)⟩, ⟨hm, hv 3 (by decide)⟩, rfl, two (k_19 D h _ _ _ (Kq.nx X)) hm fun x1 M1 sc w => ?_⟩
  rw [sc.1, sc.2.1]
  refine ⟨⟨sc.k1 hm, hv 1 (by decide)⟩, ⟨sc.k1 hm, hv 2 (by decide)⟩, ⟨sc.k1 hm, hv 3 (by decide)⟩, (sc.2.2.2 42 (by omega)).trans rfl, w.mono (Nat.le_refl _) ?_⟩
  rintro r M2 ⟨x2, e, e3, p, sc2⟩
  exact ⟨x2, e, fun _ => hn M2 p sc2, fun z => absurd e3 z⟩
theorem law_20 {D : Nat} {X : XS} {i : Nat → Nat → Int32} {j : Nat → Nat → Int64} {v4 : Int32} {Q : Option (Option Value) → AM → Prop} (h : Rel X i j) (hv : ∀ k : Nat, k ≤ 6 → vp_in (v4 + kI k) (ln (mm X i j) 1)) (hn : ∀ M2, Kq X M2 → SC (mm X i j) M2 → WP (D + 302) 1669 (2725, [(0, .ref 1), (1, .ref 2), (2, .ref 42), (3, .ref 77), (4, .int v4)], [], M2) Q) : WP (D + 302) 1669 (1177, [(0, .ref 1), (1, .ref 2), (2, .ref 42), (3, .ref 77), (4, .int v4)], [], mm X i j) Q := by
  have hm : kd (mm X i j) 1 = 27 := rfl
  have hw : 44 < nn (mm X i j) + 2 := Nat.lt_of_lt_of_le (by decide) (Nat.add_le_add_right h.1.1 2)
  refine tc_1669_1177 (D + 301) 1 2 42 77 v4 (mm X i j) Q ⟨⟨hm, hv 1 (by decide)⟩, ⟨hm, hv 2 (by decide)⟩, ⟨hm, hv 3 (by decide)⟩, rfl, two (k_20 D h _ _ _ (Kq.nx X)) hm fun x1 M1 sc w => ?_⟩
  rw [sc.1, sc.2.1]
  refine ⟨⟨sc.k1 hm, hv 1 (by decide)⟩, ⟨sc.k1 hm, hv 2 (by decide)⟩, ⟨sc.k1 hm, hv 3 (by decide)⟩, (sc.2.2.2 42 (by omega)).trans rfl, w.mono (Nat.le_refl _) ?_⟩
  rintro r M2 ⟨x2, e, e3, p, sc2⟩
  exact ⟨x2, e, fun _ => hn M2 p sc2, fun z => absurd e3 z⟩
theorem law_21 {D : Nat} {X : XS} {i : Nat → Nat → Int32} {j : Nat → Nat → Int64} {v4 : Int32} {Q : Option (Option Value) → AM → Prop} (h : Rel X i j) (hv : ∀ k : Nat, k ≤ 6 → vp_in (v4 + kI k) (ln (mm X i j) 1)) (hn : ∀ M2, Kq X M2 → SC (mm X i j) M2 → WP (D + 302) 1669 (2725, [(0, .ref 1), (1, .ref 2), (2, .ref 42), (3, .ref 77), (4, .int v4)], [], M2) Q) : WP (D + 302) 1669 (1226, [(0, .ref 1), (1, .ref 2), (2, .ref 42), (3, .ref 77), (4, .int v4)], [], mm X i j) Q := by
  have hm : kd (mm X i j) 1 = 27 := rfl
  have hw : 44 < nn (mm X i j) + 2 := Nat.lt_of_lt_of_le (by decide) (Nat.add_le_add_right h.1.1 2)
  refine tc_1669_1226 (D + 301) 1 2 42 77 v4 (mm X i j) Q ⟨⟨hm, hv 1 (by decide)⟩, ⟨hm, hv 2 (by decide)⟩, ⟨hm, hv 3 (by decide)⟩, rfl, two (k_21 D h _ _ _ (Kq.nx X)) hm fun x1 M1 sc w => ?_⟩
  rw [sc.1, sc.2.1]
  refine ⟨⟨sc.k1 hm, hv 1 (by decide)⟩, ⟨sc.k1 hm, hv 2 (by decide)⟩, ⟨sc.k1 hm, hv 3 (by decide)⟩, (sc.2.2.2 42 (by omega)).trans rfl, w.mono (Nat.le_refl _) ?_⟩
  rintro r M2 ⟨x2, e, e3, p, sc2⟩
  exact ⟨x2, e, fun _ => hn M2 p sc2, fun z => absurd e3 z⟩
theorem law_22 {D : Nat} {X : XS} {i : Nat → Nat → Int32} {j : Nat → Nat → Int64} {v4 : Int32} {Q : Option (Option Value) → AM → Prop} (h : Rel X i j) (hv : ∀ k : Nat, k ≤ 6 → vp_in (v4 + kI k) (ln (mm X i j) 1)) (hn : ∀ M2, Kq X M2 → SC (mm X i j) M2 → WP (D + 302) 1669 (2725, [(0, .ref 1), (1, .ref 2), (2, .ref 42), (3, .ref 77), (4, .int v4)], [], M2) Q) : WP (D + 302) 1669 (1275, [(0, .ref 1), (1, .ref 2), (2, .ref 42), (3, .ref 77), (4, .int v4)], [], mm X i j) Q := by
  have hm : kd (mm X i j) 1 = 27 := rfl
  have hw : 44 < nn (mm X i j) + 2 := Nat.lt_of_lt_of_le (by decide) (Nat.add_le_add_right h.1.1 2)
  refine tc_1669_1275 (D + 301) 1 2 42 77 v4 (mm X i j) Q ⟨⟨hm, hv 1 (by decide)⟩, ⟨hm, hv 2 (by decide)⟩, ⟨hm, hv 3 (by decide)⟩, rfl, two (k_22 D h _ _ _ (Kq.nx X)) hm fun x1 M1 sc w => ?_⟩
  rw [sc.1, sc.2.1]
  refine ⟨⟨sc.k1 hm, hv 1 (by decide)⟩, ⟨sc.k1 hm, hv 2 (by decide)⟩, ⟨sc.k1 hm, hv 3 (by decide)⟩, (sc.2.2.2 42 (by omega)).trans rfl, w.mono (Nat.le_refl _) ?_⟩
  rintro r M2 ⟨x2, e, e3, p, sc2⟩
  exact ⟨x2, e, fun _ => hn M2 p sc2, fun z => absurd e3 z⟩
theorem law_23 {D : Nat} {X : XS} {i : Nat → Nat → Int32} {j : Nat → Nat → Int64} {v4 : Int32} {Q : Option (Option Value) → AM → Prop} (h : Rel X i j) (hv : ∀ k : Nat, k ≤ 6 → vp_in (v4 + kI k) (ln (mm X i j) 1)) (hn : ∀ M2, Kq X M2 → SC (mm X i j) M2 → WP (D + 302) 1669 (2725, [(0, .ref 1), (1, .ref 2), (2, .ref 42), (3, .ref 77), (4, .int v4)], [], M2) Q) : WP (D + 302) 1669 (1324, [(0, .ref 1), (1, .ref 2), (2, .ref 42), (3, .ref 77), (4, .int v4)], [], mm X i j) Q := by
  have hm : kd (mm X i j) 1 = 27 := rfl
  have hw : 44 < nn (mm X i j) + 2 := Nat.lt_of_lt_of_le (by decide) (Nat.add_le_add_right h.1.1 2)
  refine tc_1669_1324 (D + 301) 1 2 42 77 v4 (mm X i j) Q ⟨⟨hm, hv 1 (by decide)⟩, ⟨hm, hv 2 (by decide)⟩, ⟨hm, hv 3 (by decide)⟩, rfl, two (k_23 D h _ _ _ (Kq.nx X)) hm fun x1 M1 sc w => ?_⟩
  rw [sc.1, sc.2.1]
  refine ⟨⟨sc.k1 hm, hv 1 (by decide)⟩, ⟨sc.k1 hm, hv 2 (by decide)⟩, ⟨sc.k1 hm, hv 3 (by decide)⟩, (sc.2.2.2 42 (by omega)).trans rfl, w.mono (Nat.le_refl _) ?_⟩
  rintro r M2 ⟨x2, e, e3, p, sc2⟩
  exact ⟨x2, e, fun _ => hn M2 p sc2, fun z => absurd e3 z⟩
theorem law_24 {D : Nat} {X : XS} {i : Nat → Nat → Int32} {j : Nat → Nat → Int64} {v4 : Int32} {Q : Option (Option Value) → AM → Prop} (h : Rel X i j) (hv : ∀ k : Nat, k ≤ 6 → vp_in (v4 + kI k) (ln (mm X i j) 1)) (hn : ∀ M2, Kq X M2 → SC (mm X i j) M2 → WP (D + 302) 1669 (2725, [(0, .ref 1), (1, .ref 2), (2, .ref 42), (3, .ref 77), (4, .int v4)], [], M2) Q) : WP (D + 302) 1669 (1373, [(0, .ref 1), (1, .ref 2), (2, .ref 42), (3, .ref 77), (4, .int v4)], [], mm X i j) Q := by
  have hm : kd (mm X i j) 1 = 27 := rfl
  have hw : 44 < nn (mm X i j) + 2 := Nat.lt_of_lt_of_le (by decide) (Nat.add_le_add_right h.1.1 2)
  refine tc_1669_1373 (D + 301) 1 2 42 77 v4 (mm X i j) Q ⟨⟨hm, hv 1 (by decide)⟩, ⟨hm, hv 2 (by decide)⟩, ⟨hm, hv 3 (by decide)⟩, rfl, two (k_24 D h _ _ _ (Kq.nx X)) hm fun x1 M1 sc w => ?_⟩
  rw [sc.1, sc.2.1]
  refine ⟨⟨sc.k1 hm, hv 1 (by decide)⟩, ⟨sc.k1 hm, hv 2 (by decide)⟩, ⟨sc.k1 hm, hv 3 (by decide)⟩, (sc.2.2.2 42 (by omega)).trans rfl, w.mono (Nat.le_refl _) ?_⟩
  rintro r M2 ⟨x2, e, e3, p, sc2⟩
  exact ⟨x2, e, fun _ => hn M2 p sc2, fun z => absurd e3 z⟩
theorem law_25 {D : Nat} {X : XS} {i : Nat → Nat → Int32} {j : Nat → Nat → Int64} {v4 : Int32} {Q : Option (Option Value) → AM → Prop} (h : Rel X i j) (hv : ∀ k : Nat, k ≤ 6 → vp_in (v4 + kI k) (ln (mm X i j) 1)) (hn : ∀ M2, Kq X M2 → SC (mm X i j) M2 → WP (D + 302) 1669 (2725, [(0, .ref 1), (1, .ref 2), (2, .ref 42), (3, .ref 77), (4, .int v4)], [], M2) Q) : WP (D + 302) 1669 (1422, [(0, .ref 1), (1, .ref 2), (2, .ref 42), (3, .ref 77), (4, .int v4)], [], mm X i j) Q := by
  have hm : kd (mm X i j) 1 = 27 := rfl
  have hw : 44 < nn (mm X i j) + 2 := Nat.lt_of_lt_of_le (by decide) (Nat.add_le_add_right h.1.1 2)
  refine tc_1669_1422 (D + 301) 1 2 42 77 v4 (mm X i j) Q ⟨⟨hm, hv 1 (by decide)⟩, rfl, two (k_25 D h _ (Kq.nx X)) hm fun x1 M1 sc w => ?_⟩
  rw [sc.1, sc.2.1]
  refine ⟨⟨sc.k1 hm, hv 1 (by decide)⟩, (sc.2.2.2 42 (by omega)).trans rfl, w.mono (Nat.le_refl _) ?_⟩
  rintro r M2 ⟨x2, e, e3, p, sc2⟩
  exact ⟨x2, e, fun _ => hn M2 p sc2, fun z => absurd e3 z⟩
theorem law_26 {D : Nat} {X : XS} {i : Nat → Nat → Int32} {j : Nat → Nat → Int64} {v4 : Int32} {Q : Option (Option Value) → AM → Prop} (h : Rel X i j) (hv : ∀ k : Nat, k ≤ 6 → vp_in (v4 + kI k) (ln (mm X i j) 1)) (hn : ∀ M2, Kq X M2 → SC (mm X i j) M2 → WP (D + 302) 1669 (2725, [(0, .ref 1), (1, .ref 2), (2, .ref 42), (3, .ref 77), (4, .int v4)], [], M2) Q) : WP (D + 302) 1669 (1447, [(0, .ref 1), (1, .ref 2), (2, .ref 42), (3, .ref 77), (4, .int v4)], [], mm X i j) Q := by
  have hm : kd (mm X i j) 1 = 27 := rfl
  have hw : 44 < nn (mm X i j) + 2 := Nat.lt_of_lt_of_le (by decide) (Nat.add_le_add_right h.1.1 2)
  refine tc_1669_1447 (D + 301) 1 2 42 77 v4 (mm X i j) Q ⟨⟨hm, hv 1 (by decide)⟩, ⟨hm, hv 2 (by decide)⟩, ⟨hm, hv 3 (by decide)⟩, rfl, two (k_26 D h _ _ _ (Kq.nx X)) hm fun x1 M1 sc w => ?_⟩
  rw [sc.1, sc.2.1]
  refine ⟨⟨sc.k1 hm, hv 1 (by decide)⟩, ⟨sc.k1 hm, hv 2 (by decide)⟩, ⟨sc.k1 hm, hv 3 (by decide)⟩, (sc.2.2.2 42 (by omega)).trans rfl, w.mono (Nat.le_refl _) ?_⟩
  rintro r M2 ⟨x2, e, e3, p, sc2⟩
  exact ⟨x2, e, fun _ => hn M2 p sc2, fun z => absurd e3 z⟩
theorem law_27 {D : Nat} {X : XS} {i : Nat → Nat → Int32} {j : Nat → Nat → Int64} {v4 : Int32} {Q : Option (Option Value) → AM → Prop} (h : Rel X i j) (hv : ∀ k : Nat, k ≤ 6 → vp_in (v4 + kI k) (ln (mm X i j) 1)) (hn : ∀ M2, Kq X M2 → SC (mm X i j) M2 → WP (D + 302) 1669 (2725, [(0, .ref 1), (1, .ref 2), (2, .ref 42), (3, .ref 77), (4, .int v4)], [], M2) Q) : WP (D + 302) 1669 (1496, [(0, .ref 1), (1, .ref 2), (2, .ref 42), (3, .ref 77), (4, .int v4)], [], mm X i j) Q := by
  have hm : kd (mm X i j) 1 = 27 := rfl
  have hw : 44 < nn (mm X i j) + 2 := Nat.lt_of_lt_of_le (by decide) (Nat.add_le_add_right h.1.1 2)
  refine tc_1669_1496 (D + 301) 1 2 42 77 v4 (mm X i j) Q ⟨⟨hm, hv 1 (by decide)⟩, ⟨hm, hv 2 (by decide)⟩, ⟨hm, hv 3 (by decide)⟩, ⟨hm, hv 4 (by decide)⟩, rfl, two (k_27 D h _ _ _ _ (Kq.nx X)) hm fun x1 M1 sc w => ?_⟩
  rw [sc.1, sc.2.1]
  refine ⟨⟨sc.k1 hm, hv 1 (by decide)⟩, ⟨sc.k1 hm, hv 2 (by decide)⟩, ⟨sc.k1 hm, hv 3 (by decide)⟩, ⟨sc.k1 hm, hv 4 (by decide)⟩, (sc.2.2.2 42 (by omega)).trans rfl, w.mono (Nat.le_refl _) ?_⟩
  rintro r M2 ⟨x2, e, e3, p, sc2⟩
  exact ⟨x2, e, fun _ => hn M2 p sc2, fun z => absurd e3 z⟩
theorem law_28 {D : Nat} {X : XS} {i : Nat → Nat → Int32} {j : Nat → Nat → Int64} {v4 : Int32} {Q : Option (Option Value) → AM → Prop} (h : Rel X i j) (hv : ∀ k : Nat, k ≤ 6 → vp_in (v4 + kI k) (ln (mm X i j) 1)) (hn : ∀ M2, Kq X M2 → SC (mm X i j) M2 → WP (D + 302) 1669 (2725, [(0, .ref 1), (1, .ref 2), (2, .ref 42), (3, .ref 77), (4, .int v4)], [], M2) Q) : WP (D + 302) 1669 (1557, [(0, .ref 1), (1, .ref 2), (2, .ref 42), (3, .ref 77), (4, .int v4)], [], mm X i j) Q := by
  have hm : kd (mm X i j) 1 = 27 := rfl
  have hw : 44 < nn (mm X i j) + 2 := Nat.lt_of_lt_of_le (by decide) (Nat.add_le_add_right h.1.1 2)
  refine tc_1669_1557 (D + 301) 1 2 42 77 v4 (mm X i j) Q ⟨⟨hm, hv 1 (by decide)⟩, ⟨hm, hv 2 (by decide)⟩, ⟨hm, hv 3 (by decide)⟩, ⟨hm, hv 4 (by decide)⟩, ⟨hm, hv 5 (by decide)⟩, rfl, two (k_28 D h _ _ _ _ _ (Kq.nx X)) hm fun x1 M1 sc w => ?_⟩
  rw [sc.1, sc.2.1]
  refine ⟨⟨sc.k1 hm, hv 1 (by decide)⟩, ⟨sc.k1 hm, hv 2 (by decide)⟩, ⟨sc.k1 hm, hv 3 (by decide)⟩, ⟨sc.k1 hm, hv 4 (by decide)⟩, ⟨sc.k1 hm, hv 5 (by decide)⟩, (sc.2.2.2 42 (by omega)).trans rfl, w.mono (Nat.le_refl _) ?_⟩
  rintro r M2 ⟨x2, e, e3, p, sc2⟩
  exact ⟨x2, e, fun _ => hn M2 p sc2, fun z => absurd e3 z⟩
theorem law_29 {D : Nat} {X : XS} {i : Nat → Nat → Int32} {j : Nat → Nat → Int64} {v4 : Int32} {Q : Option (Option Value) → AM → Prop} (h : Rel X i j) (hv : ∀ k : Nat, k ≤ 6 → vp_in (v4 + kI k) (ln (mm X i j) 1)) (hn : ∀ M2, Kq X M2 → SC (mm X i j) M2 → WP (D + 302) 1669 (2725, [(0, .ref 1), (1, .ref 2), (2, .ref 42), (3, .ref 77), (4, .int v4)], [], M2) Q) : WP (D + 302) 1669 (1630, [(0, .ref 1), (1, .ref 2), (2, .ref 42), (3, .ref 77), (4, .int v4)], [], mm X i j) Q := by
  have hm : kd (mm X i j) 1 = 27 := rfl
  have hw : 44 < nn (mm X i j) + 2 := Nat.lt_of_lt_of_le (by decide) (Nat.add_le_add_right h.1.1 2)
  refine tc_1669_1630 (D + 301) 1 2 42 77 v4 (mm X i j) Q ⟨⟨hm, hv 1 (by decide)⟩, ⟨hm, hv 2 (by decide)⟩, ⟨hm, hv 3 (by decide)⟩, ⟨hm, hv 4 (by decide)⟩, thI (k_29 D h _ _ _ _ (Kq.nx X)) hm fun x1 M1 sc w => ?_⟩
  rw [sc.1, sc.2.1]
  refine ⟨⟨sc.k1 hm, hv 1 (by decide)⟩, ⟨sc.k1 hm, hv 2 (by decide)⟩, ⟨sc.k1 hm, hv 3 (by decide)⟩, ⟨sc.k1 hm, hv 4 (by decide)⟩, (sc.2.2.2 42 (by omega)).trans rfl, w.mono (Nat.le_refl _) ?_⟩
  rintro r M2 ⟨x2, e, p, sc2⟩
  exact ⟨x2, e, thE p sc2 hn⟩
theorem law_30 {D : Nat} {X : XS} {i : Nat → Nat → Int32} {j : Nat → Nat → Int64} {v4 : Int32} {Q : Option (Option Value) → AM → Prop} (h : Rel X i j) (hv : ∀ k : Nat, k ≤ 6 → vp_in (v4 + kI k) (ln (mm X i j) 1)) (hn : ∀ M2, Kq X M2 → SC (mm X i j) M2 → WP (D + 302) 1669 (2725, [(0, .ref 1), (1, .ref 2), (2, .ref 42), (3, .ref 77), (4, .int v4)], [], M2) Q) : WP (D + 302) 1669 (1722, [(0, .ref 1), (1, .ref 2), (2, .ref 42), (3, .ref 77), (4, .int v4)], [], mm X i j) Q := by
  have hm : kd (mm X i j) 1 = 27 := rfl
  have hw : 44 < nn (mm X i j) + 2 := Nat.lt_of_lt_of_le (by decide) (Nat.add_le_add_right h.1.1 2)
  refine tc_1669_1722 (D + 301) 1 2 42 77 v4 (mm X i j) Q ⟨⟨hm, hv 1 (by decide)⟩, ⟨hm, hv 2 (by decide)⟩, ⟨hm, hv 3 (by decide)⟩, ⟨hm, hv 4 (by decide)⟩, ⟨hm, hv 5 (by decide)⟩, rfl, two (k_30 D h _ _ _ _ _ (Kq.nx X)) hm fun x1 M1 sc w => ?_⟩
  rw [sc.1, sc.2.1]
  refine ⟨⟨sc.k1 hm, hv 1 (by decide)⟩, ⟨sc.k1 hm, hv 2 (by decide)⟩, ⟨sc.k1 hm, hv 3 (by decide)⟩, ⟨sc.k1 hm, hv 4 (by decide)⟩, ⟨sc.k1 hm, hv 5 (by decide)⟩, (sc.2.2.2 42 (by omega)).trans rfl, w.mono (Nat.le_refl _) ?_⟩
  rintro r M2 ⟨x2, e, e3, p, sc2⟩
  exact ⟨x2, e, fun _ => hn M2 p sc2, fun z => absurd e3 z⟩
theorem law_31 {D : Nat} {X : XS} {i : Nat → Nat → Int32} {j : Nat → Nat → Int64} {v4 : Int32} {Q : Option (Option Value) → AM → Prop} (h : Rel X i j) (hv : ∀ k : Nat, k ≤ 6 → vp_in (v4 + kI k) (ln (mm X i j) 1)) (hn : ∀ M2, Kq X M2 → SC (mm X i j) M2 → WP (D + 302) 1669 (2725, [(0, .ref 1), (1, .ref 2), (2, .ref 42), (3, .ref 77), (4, .int v4)], [], M2) Q) : WP (D + 302) 1669 (1795, [(0, .ref 1), (1, .ref 2), (2, .ref 42), (3, .ref 77), (4, .int v4)], [], mm X i j) Q := by
  have hm : kd (mm X i j) 1 = 27 := rfl
  have hw : 44 < nn (mm X i j) + 2 := Nat.lt_of_lt_of_le (by decide) (Nat.add_le_add_right h.1.1 2)
  refine tc_1669_1795 (D + 301) 1 2 42 77 v4 (mm X i j) Q ⟨⟨hm, hv 1 (by decide)⟩, ⟨hm, hv 2 (by decide)⟩, ⟨hm, hv 3 (by decide)⟩, ⟨hm, hv 4 (by decide)⟩, rfl, two (k_31 D h _ _ _ _ (Kq.nx X)) hm fun x1 M1 sc w => ?_⟩
  rw [sc.1, sc.2.1]
  refine ⟨⟨sc.k1 hm, hv 1 (by decide)⟩, ⟨sc.k1 hm, hv 2 (by decide)⟩, ⟨sc.k1 hm, hv 3 (by decide)⟩, ⟨sc.k1 hm, hv 4 (by decide)⟩, (sc.2.2.2 42 (by omega)).trans rfl, w.mono (Nat.le_refl _) ?_⟩
  rintro r M2 ⟨x2, e, e3, p, sc2⟩
  exact ⟨x2, e, fun _ => hn M2 p sc2, fun z => absurd e3 z⟩
theorem law_32 {D : Nat} {X : XS} {i : Nat → Nat → Int32} {j : Nat → Nat → Int64} {v4 : Int32} {Q : Option (Option Value) → AM → Prop} (h : Rel X i j) (hv : ∀ k : Nat, k ≤ 6 → vp_in (v4 + kI k) (ln (mm X i j) 1)) (hn : ∀ M2, Kq X M2 → SC (mm X i j) M2 → WP (D + 302) 1669 (2725, [(0, .ref 1), (1, .ref 2), (2, .ref 42), (3, .ref 77), (4, .int v4)], [], M2) Q) : WP (D + 302) 1669 (1856, [(0, .ref 1), (1, .ref 2), (2, .ref 42), (3, .ref 77), (4, .int v4)], [], mm X i j) Q := by
  have hm : kd (mm X i j) 1 = 27 := rfl
  have hw : 44 < nn (mm X i j) + 2 := Nat.lt_of_lt_of_le (by decide) (Nat.add_le_add_right h.1.1 2)
  refine tc_1669_1856 (D + 301) 1 2 42 77 v4 (mm X i j) Q ⟨⟨hm, hv 1 (by decide)⟩, ⟨hm, hv 2 (by decide)⟩, ⟨hm, hv 3 (by decide)⟩, ⟨hm, hv 4 (by decide)⟩, rfl, two (k_32 D h _ _ _ _ (Kq.nx X)) hm fun x1 M1 sc w => ?_⟩
  rw [sc.1, sc.2.1]
  refine ⟨⟨sc.k1 hm, hv 1 (by decide)⟩, ⟨sc.k1 hm, hv 2 (by decide)⟩, ⟨sc.k1 hm, hv 3 (by decide)⟩, ⟨sc.k1 hm, hv 4 (by decide)⟩, (sc.2.2.2 42 (by omega)).trans rfl, w.mono (Nat.le_refl _) ?_⟩
  rintro r M2 ⟨x2, e, e3, p, sc2⟩
  exact ⟨x2, e, fun _ => hn M2 p sc2, fun z => absurd e3 z⟩
theorem law_33 {D : Nat} {X : XS} {i : Nat → Nat → Int32} {j : Nat → Nat → Int64} {v4 : Int32} {Q : Option (Option Value) → AM → Prop} (h : Rel X i j) (hv : ∀ k : Nat, k ≤ 6 → vp_in (v4 + kI k) (ln (mm X i j) 1)) (hn : ∀ M2, Kq X M2 → SC (mm X i j) M2 → WP (D + 302) 1669 (2725, [(0, .ref 1), (1, .ref 2), (2, .ref 42), (3, .ref 77), (4, .int v4)], [], M2) Q) : WP (D + 302) 1669 (1917, [(0, .ref 1), (1, .ref 2), (2, .ref 42), (3, .ref 77), (4, .int v4)], [], mm X i j) Q := by
  have hm : kd (mm X i j) 1 = 27 := rfl
  have hw : 44 < nn (mm X i j) + 2 := Nat.lt_of_lt_of_le (by decide) (Nat.add_le_add_right h.1.1 2)
  refine tc_1669_1917 (D + 301) 1 2 42 77 v4 (mm X i j) Q ⟨⟨hm, hv 1 (by decide)⟩, ⟨hm, hv 2 (by decide)⟩, ⟨hm, hv 3 (by decide)⟩, rfl, two (k_33 D h _ _ _ (Kq.nx X)) hm fun x1 M1 sc w => ?_⟩
  rw [sc.1, sc.2.1]
  refine ⟨⟨sc.k1 hm, hv 1 (by decide)⟩, ⟨sc.k1 hm, hv 2 (by decide)⟩, ⟨sc.k1 hm, hv 3 (by decide)⟩, (sc.2.2.2 42 (by omega)).trans rfl, w.mono (Nat.le_refl _) ?_⟩
  rintro r M2 ⟨x2, e, e3, p, sc2⟩
  exact ⟨x2, e, fun _ => hn M2 p sc2, fun z => absurd e3 z⟩
theorem law_34 {D : Nat} {X : XS} {i : Nat → Nat → Int32} {j : Nat → Nat → Int64} {v4 : Int32} {Q : Option (Option Value) → AM → Prop} (h : Rel X i j) (hv : ∀ k : Nat, k ≤ 6 → vp_in (v4 + kI k) (ln (mm X i j) 1)) (hn : ∀ M2, Kq X M2 → SC (mm X i j) M2 → WP (D + 302) 1669 (2725, [(0, .ref 1), (1, .ref 2), (2, .ref 42), (3, .ref 77), (4, .int v4)], [], M2) Q) : WP (D + 302) 1669 (1966, [(0, .ref 1), (1, .ref 2), (2, .ref 42), (3, .ref 77), (4, .int v4)], [], mm X i j) Q := by
  have hm : kd (mm X i j) 1 = 27 := rfl
  have hw : 44 < nn (mm X i j) + 2 := Nat.lt_of_lt_of_le (by decide) (Nat.add_le_add_right h.1.1 2)
  refine tc_1669_1966 (D + 301) 1 2 42 77 v4 (mm X i j) Q ⟨⟨hm, hv 1 (by decide)⟩, ⟨hm, hv 2 (by decide)⟩, rfl, two (k_34 D h _ _ (Kq.nx X)) hm fun x1 M1 sc w => ?_⟩
  rw [sc.1, sc.2.1]
  refine ⟨⟨sc.k1 hm, hv 1 (by decide)⟩, ⟨sc.k1 hm, hv 2 (by decide)⟩, (sc.2.2.2 42 (by omega)).trans rfl, w.mono (Nat.le_refl _) ?_⟩
  rintro r M2 ⟨x2, e, e3, p, sc2⟩
  exact ⟨x2, e, fun _ => hn M2 p sc2, fun z => absurd e3 z⟩
theorem law_35 {D : Nat} {X : XS} {i : Nat → Nat → Int32} {j : Nat → Nat → Int64} {v4 : Int32} {Q : Option (Option Value) → AM → Prop} (h : Rel X i j) (hv : ∀ k : Nat, k ≤ 6 → vp_in (v4 + kI k) (ln (mm X i j) 1)) (hn : ∀ M2, Kq X M2 → SC (mm X i j) M2 → WP (D + 302) 1669 (2725, [(0, .ref 1), (1, .ref 2), (2, .ref 42), (3, .ref 77), (4, .int v4)], [], M2) Q) : WP (D + 302) 1669 (2003, [(0, .ref 1), (1, .ref 2), (2, .ref 42), (3, .ref 77), (4, .int v4)], [], mm X i j) Q := by
  have hm : kd (mm X i j) 1 = 27 := rfl
  have hw : 44 < nn (mm X i j) + 2 := Nat.lt_of_lt_of_le (by decide) (Nat.add_le_add_right h.1.1 2)
  refine tc_1669_2003 (D + 301) 1 2 42 77 v4 (mm X i j) Q ⟨⟨hm, hv 1 (by decide)⟩, rfl, two (k_35 D h _ (Kq.nx X)) hm fun x1 M1 sc w => ?_⟩
  rw [sc.1, sc.2.1]
  refine ⟨⟨sc.k1 hm, hv 1 (by decide)⟩, (sc.2.2.2 42 (by omega)).trans rfl, w.mono (Nat.le_refl _) ?_⟩
  rintro r M2 ⟨x2, e, e3, p, sc2⟩
  exact ⟨x2, e, fun _ => hn M2 p sc2, fun z => absurd e3 z⟩
theorem law_36 {D : Nat} {X : XS} {i : Nat → Nat → Int32} {j : Nat → Nat → Int64} {v4 : Int32} {Q : Option (Option Value) → AM → Prop} (h : Rel X i j) (hv : ∀ k : Nat, k ≤ 6 → vp_in (v4 + kI k) (ln (mm X i j) 1)) (hn : ∀ M2, Kq X M2 → SC (mm X i j) M2 → WP (D + 302) 1669 (2725, [(0, .ref 1), (1, .ref 2), (2, .ref 42), (3, .ref 77), (4, .int v4)], [], M2) Q) : WP (D + 302) 1669 (2028, [(0, .ref 1), (1, .ref 2), (2, .ref 42), (3, .ref 77), (4, .int v4)], [], mm X i j) Q := by
  have hm : kd (mm X i j) 1 = 27 := rfl
  have hw : 44 < nn (mm X i j) + 2 := Nat.lt_of_lt_of_le (by decide) (Nat.add_le_add_right h.1.1 2)
  refine tc_1669_2028 (D + 301) 1 2 42 77 v4 (mm X i j) Q ⟨⟨hm, hv 1 (by decide)⟩, ⟨hm, hv 2 (by decide)⟩, rfl, two (k_36 D h _ _ (Kq.nx X)) hm fun x1 M1 sc w => ?_⟩
  rw [sc.1, sc.2.1]
  refine ⟨⟨sc.k1 hm, hv 1 (by decide)⟩, ⟨sc.k1 hm, hv 2 (by decide)⟩, (sc.2.2.2 42 (by omega)).trans rfl, w.mono (Nat.le_refl _) ?_⟩
  rintro r M2 ⟨x2, e, e3, p, sc2⟩
  exact ⟨x2, e, fun _ => hn M2 p sc2, fun z => absurd e3 z⟩
theorem law_37 {D : Nat} {X : XS} {i : Nat → Nat → Int32} {j : Nat → Nat → Int64} {v4 : Int32} {Q : Option (Option Value) → AM → Prop} (h : Rel X i j) (hv : ∀ k : Nat, k ≤ 6 → vp_in (v4 + kI k) (ln (mm X i j) 1)) (hn : ∀ M2, Kq X M2 → SC (mm X i j) M2 → WP (D + 302) 1669 (2725, [(0, .ref 1), (1, .ref 2), (2, .ref 42), (3, .ref 77), (4, .int v4)], [], M2) Q) : WP (D + 302) 1669 (2065, [(0, .ref 1), (1, .ref 2), (2, .ref 42), (3, .ref 77), (4, .int v4)], [], mm X i j) Q := by
  have hm : kd (mm X i j) 1 = 27 := rfl
  have hw : 44 < nn (mm X i j) + 2 := Nat.lt_of_lt_of_le (by decide) (Nat.add_le_add_right h.1.1 2)
  refine tc_1669_2065 (D + 301) 1 2 42 77 v4 (mm X i j) Q ⟨⟨hm, hv 1 (by decide)⟩, ⟨hm, hv 2 (by decide)⟩, rfl, two (k_37 D h _ _ (Kq.nx X)) hm fun x1 M1 sc w => ?_⟩
  rw [sc.1, sc.2.1]
  refine ⟨⟨sc.k1 hm, hv 1 (by decide)⟩, ⟨sc.k1 hm, hv 2 (by decide)⟩, (sc.2.2.2 42 (by omega)).trans rfl, w.mono (Nat.le_refl _) ?_⟩
  rintro r M2 ⟨x2, e, e3, p, sc2⟩
  exact ⟨x2, e, fun _ => hn M2 p sc2, fun z => absurd e3 z⟩
theorem law_38 {D : Nat} {X : XS} {i : Nat → Nat → Int32} {j : Nat → Nat → Int64} {v4 : Int32} {Q : Option (Option Value) → AM → Prop} (h : Rel X i j) (hv : ∀ k : Nat, k ≤ 6 → vp_in (v4 + kI k) (ln (mm X i j) 1)) (hn : ∀ M2, Kq X M2 → SC (mm X i j) M2 → WP (D + 302) 1669 (2725, [(0, .ref 1), (1, .ref 2), (2, .ref 42), (3, .ref 77), (4, .int v4)], [], M2) Q) : WP (D + 302) 1669 (2102, [(0, .ref 1), (1, .ref 2), (2, .ref 42), (3, .ref 77), (4, .int v4)], [], mm X i j) Q := by
  have hm : kd (mm X i j) 1 = 27 := rfl
  have hw : 44 < nn (mm X i j) + 2 := Nat.lt_of_lt_of_le (by decide) (Nat.add_le_add_right h.1.1 2)
  refine tc_1669_2102 (D + 301) 1 2 42 77 v4 (mm X i j) Q ⟨⟨hm, hv 1 (by decide)⟩, ⟨hm, hv 2 (by decide)⟩, ⟨hm, hv 3 (by decide)⟩, ⟨hm, hv 4 (by decide)⟩, rfl, two (k_38 D h _ _ _ _ (Kq.nx X)) hm fun x1 M1 sc w => ?_⟩
  rw [sc.1, sc.2.1]
  refine ⟨⟨sc.k1 hm, hv 1 (by decide)⟩, ⟨sc.k1 hm, hv 2 (by decide)⟩, ⟨sc.k1 hm, hv 3 (by decide)⟩, ⟨sc.k1 hm, hv 4 (by decide)⟩, (sc.2.2.2 42 (by omega)).trans rfl, w.mono (Nat.le_refl _) ?_⟩
  rintro r M2 ⟨x2, e, e3, p, sc2⟩
  exact ⟨x2, e, fun _ => hn M2 p sc2, fun z => absurd e3 z⟩
theorem law_39 {D : Nat} {X : XS} {i : Nat → Nat → Int32} {j : Nat → Nat → Int64} {v4 : Int32} {Q : Option (Option Value) → AM → Prop} (h : Rel X i j) (hv : ∀ k : Nat, k ≤ 6 → vp_in (v4 + kI k) (ln (mm X i j) 1)) (hn : ∀ M2, Kq X M2 → SC (mm X i j) M2 → WP (D + 302) 1669 (2725, [(0, .ref 1), (1, .ref 2), (2, .ref 42), (3, .ref 77), (4, .int v4)], [], M2) Q) : WP (D + 302) 1669 (2163, [(0, .ref 1), (1, .ref 2), (2, .ref 42), (3, .ref 77), (4, .int v4)], [], mm X i j) Q := by
  have hm : kd (mm X i j) 1 = 27 := rfl
  have hw : 44 < nn (mm X i j) + 2 := Nat.lt_of_lt_of_le (by decide) (Nat.add_le_add_right h.1.1 2)
  refine tc_1669_2163 (D + 301) 1 2 42 77 v4 (mm X i j) Q ⟨⟨hm, hv 1 (by decide)⟩, ⟨hm, hv 2 (by decide)⟩, ⟨hm, hv 3 (by decide)⟩, ⟨hm, hv 4 (by decide)⟩, rfl, two (k_39 D h _ _ _ _ (Kq.nx X)) hm fun x1 M1 sc w => ?_⟩
  rw [sc.1, sc.2.1]
  refine ⟨⟨sc.k1 hm, hv 1 (by decide)⟩, ⟨sc.k1 hm, hv 2 (by decide)⟩, ⟨sc.k1 hm, hv 3 (by decide)⟩, ⟨sc.k1 hm, hv 4 (by decide)⟩, (sc.2.2.2 42 (by omega)).trans rfl, w.mono (Nat.le_refl _) ?_⟩
  rintro r M2 ⟨x2, e, e3, p, sc2⟩
  exact ⟨x2, e, fun _ => hn M2 p sc2, fun z => absurd e3 z⟩
theorem law_40 {D : Nat} {X : XS} {i : Nat → Nat → Int32} {j : Nat → Nat → Int64} {v4 : Int32} {Q : Option (Option Value) → AM → Prop} (h : Rel X i j) (hv : ∀ k : Nat, k ≤ 6 → vp_in (v4 + kI k) (ln (mm X i j) 1)) (hn : ∀ M2, Kq X M2 → SC (mm X i j) M2 → WP (D + 302) 1669 (2725, [(0, .ref 1), (1, .ref 2), (2, .ref 42), (3, .ref 77), (4, .int v4)], [], M2) Q) : WP (D + 302) 1669 (2224, [(0, .ref 1), (1, .ref 2), (2, .ref 42), (3, .ref 77), (4, .int v4)], [], mm X i j) Q := by
  have hm : kd (mm X i j) 1 = 27 := rfl
  have hw : 44 < nn (mm X i j) + 2 := Nat.lt_of_lt_of_le (by decide) (Nat.add_le_add_right h.1.1 2)
  refine tc_1669_2224 (D + 301) 1 2 42 77 v4 (mm X i j) Q ⟨⟨hm, hv 1 (by decide)⟩, ⟨hm, hv 2 (by decide)⟩, rfl, two (k_40 D h _ _ (Kq.nx X)) hm fun x1 M1 sc w => ?_⟩
  rw [sc.1, sc.2.1]
  refine ⟨⟨sc.k1 hm, hv 1 (by decide)⟩, ⟨sc.k1 hm, hv 2 (by decide)⟩, (sc.2.2.2 42 (by omega)).trans rfl, w.mono (Nat.le_refl _) ?_⟩
  rintro r M2 ⟨x2, e, e3, p, sc2⟩
  exact ⟨x2, e, fun _ => hn M2 p sc2, fun z => absurd e3 z⟩
theorem law_41 {D : Nat} {X : XS} {i : Nat → Nat → Int32} {j : Nat → Nat → Int64} {v4 : Int32} {Q : Option (Option Value) → AM → Prop} (h : Rel X i j) (hv : ∀ k : Nat, k ≤ 6 → vp_in (v4 + kI k) (ln (mm X i j) 1)) (hn : ∀ M2, Kq X M2 → SC (mm X i j) M2 → WP (D + 302) 1669 (2725, [(0, .ref 1), (1, .ref 2), (2, .ref 42), (3, .ref 77), (4, .int v4)], [], M2) Q) : WP (D + 302) 1669 (2261, [(0, .ref 1), (1, .ref 2), (2, .ref 42), (3, .ref 77), (4, .int v4)], [], mm X i j) Q := by
  have hm : kd (mm X i j) 1 = 27 := rfl
  have hw : 44 < nn (mm X i j) + 2 := Nat.lt_of_lt_of_le (by decide) (Nat.add_le_add_right h.1.1 2)
  refine tc_1669_2261 (D + 301) 1 2 42 77 v4 (mm X i j) Q ⟨⟨hm, hv 1 (by decide)⟩, ⟨hm, hv 2 (by decide)⟩, ⟨hm, hv 3 (by decide)⟩, rfl, two (k_41 D h _ _ _ (Kq.nx X)) hm fun x1 M1 sc w => ?_⟩
  rw [sc.1, sc.2.1]
  refine ⟨⟨sc.k1 hm, hv 1 (by decide)⟩, ⟨sc.k1 hm, hv 2 (by decide)⟩, ⟨sc.k1 hm, hv 3 (by decide)⟩, (sc.2.2.2 42 (by omega)).trans rfl, w.mono (Nat.le_refl _) ?_⟩
  rintro r M2 ⟨x2, e, e3, p, sc2⟩
  exact ⟨x2, e, fun _ => hn M2 p sc2, fun z => absurd e3 z⟩
theorem law_42 {D : Nat} {X : XS} {i : Nat → Nat → Int32} {j : Nat → Nat → Int64} {v4 : Int32} {Q : Option (Option Value) → AM → Prop} (h : Rel X i j) (hv : ∀ k : Nat, k ≤ 6 → vp_in (v4 + kI k) (ln (mm X i j) 1)) (hn : ∀ M2, Kq X M2 → SC (mm X i j) M2 → WP (D + 302) 1669 (2725, [(0, .ref 1), (1, .ref 2), (2, .ref 42), (3, .ref 77), (4, .int v4)], [], M2) Q) : WP (D + 302) 1669 (2310, [(0, .ref 1), (1, .ref 2), (2, .ref 42), (3, .ref 77), (4, .int v4)], [], mm X i j) Q := by
  have hm : kd (mm X i j) 1 = 27 := rfl
  have hw : 44 < nn (mm X i j) + 2 := Nat.lt_of_lt_of_le (by decide) (Nat.add_le_add_right h.1.1 2)
  refine tc_1669_2310 (D + 301) 1 2 42 77 v4 (mm X i j) Q ⟨⟨hm, hv 1 (by decide)⟩, ⟨hm, hv 2 (by decide)⟩, ⟨hm, hv 3 (by decide)⟩, ⟨hm, hv 4 (by decide)⟩, ⟨hm, hv 5 (by decide)⟩, ⟨hm, hv 6 (by decide)⟩, rfl, two (k_42 D h _ _ _ _ _ _ (Kq.nx X)) hm fun x1 M1 sc w => ?_⟩
  rw [sc.1, sc.2.1]
  refine ⟨⟨sc.k1 hm, hv 1 (by decide)⟩, ⟨sc.k1 hm, hv 2 (by decide)⟩, ⟨sc.k1 hm, hv 3 (by decide)⟩, ⟨sc.k1 hm, hv 4 (by decide)⟩, ⟨sc.k1 hm, hv 5 (by decide)⟩, ⟨sc.k1 hm, hv 6 (by decide)⟩, (sc.2.2.2 42 (by omega)).trans rfl, w.mono (Nat.le_refl _) ?_⟩
  rintro r M2 ⟨x2, e, e3, p, sc2⟩
  exact ⟨x2, e, fun _ => hn M2 p sc2, fun z => absurd e3 z⟩
theorem law_43 {D : Nat} {X : XS} {i : Nat → Nat → Int32} {j : Nat → Nat → Int64} {v4 : Int32} {Q : Option (Option Value) → AM → Prop} (h : Rel X i j) (hv : ∀ k : Nat, k ≤ 6 → vp_in (v4 + kI k) (ln (mm X i j) 1)) (hn : ∀ M2, Kq X M2 → SC (mm X i j) M2 → WP (D + 302) 1669 (2725, [(0, .ref 1), (1, .ref 2), (2, .ref 42), (3, .ref 77), (4, .int v4)], [], M2) Q) : WP (D + 302) 1669 (2397, [(0, .ref 1), (1, .ref 2), (2, .ref 42), (3, .ref 77), (4, .int v4)], [], mm X i j) Q := by
  have hm : kd (mm X i j) 1 = 27 := rfl
  have hw : 44 < nn (mm X i j) + 2 := Nat.lt_of_lt_of_le (by decide) (Nat.add_le_add_right h.1.1 2)
  refine tc_1669_2397 (D + 301) 1 2 42 77 v4 (mm X i j) Q ⟨⟨hm, hv 1 (by decide)⟩, ⟨hm, hv 2 (by decide)⟩, rfl, two (k_43 D h _ _ (Kq.nx X)) hm fun x1 M1 sc w => ?_⟩
  rw [sc.1, sc.2.1]
  refine ⟨⟨sc.k1 hm, hv 1 (by decide)⟩, ⟨sc.k1 hm, hv 2 (by decide)⟩, (sc.2.2.2 42 (by omega)).trans rfl, w.mono (Nat.le_refl _) ?_⟩
  rintro r M2 ⟨x2, e, e3, p, sc2⟩
  exact ⟨x2, e, fun _ => hn M2 p sc2, fun z => absurd e3 z⟩
theorem law_44 {D : Nat} {X : XS} {i : Nat → Nat → Int32} {j : Nat → Nat → Int64} {v4 : Int32} {Q : Option (Option Value) → AM → Prop} (h : Rel X i j) (hv : ∀ k : Nat, k ≤ 6 → vp_in (v4 + kI k) (ln (mm X i j) 1)) (hn : ∀ M2, Kq X M2 → SC (mm X i j) M2 → WP (D + 302) 1669 (2725, [(0, .ref 1), (1, .ref 2), (2, .ref 42), (3, .ref 77), (4, .int v4)], [], M2) Q) : WP (D + 302) 1669 (2434, [(0, .ref 1), (1, .ref 2), (2, .ref 42), (3, .ref 77), (4, .int v4)], [], mm X i j) Q := by
  have hm : kd (mm X i j) 1 = 27 := rfl
  have hw : 44 < nn (mm X i j) + 2 := Nat.lt_of_lt_of_le (by decide) (Nat.add_le_add_right h.1.1 2)
  refine tc_1669_2434 (D + 301) 1 2 42 77 v4 (mm X i j) Q ⟨⟨hm, hv 1 (by decide)⟩, ⟨hm, hv 2 (by decide)⟩, rfl, two (k_44 D h _ _ (Kq.nx X)) hm fun x1 M1 sc w => ?_⟩
  rw [sc.1, sc.2.1]
  refine ⟨⟨sc.k1 hm, hv 1 (by decide)⟩, ⟨sc.k1 hm, hv 2 (by decide)⟩, (sc.2.2.2 42 (by omega)).trans rfl, w.mono (Nat.le_refl _) ?_⟩
  rintro r M2 ⟨x2, e, e3, p, sc2⟩
  exact ⟨x2, e, fun _ => hn M2 p sc2, fun z => absurd e3 z⟩
theorem law_45 {D : Nat} {X : XS} {i : Nat → Nat → Int32} {j : Nat → Nat → Int64} {v4 : Int32} {Q : Option (Option Value) → AM → Prop} (h : Rel X i j) (hv : ∀ k : Nat, k ≤ 6 → vp_in (v4 + kI k) (ln (mm X i j) 1)) (hn : ∀ M2, Kq X M2 → SC (mm X i j) M2 → WP (D + 302) 1669 (2725, [(0, .ref 1), (1, .ref 2), (2, .ref 42), (3, .ref 77), (4, .int v4)], [], M2) Q) : WP (D + 302) 1669 (2471, [(0, .ref 1), (1, .ref 2), (2, .ref 42), (3, .ref 77), (4, .int v4)], [], mm X i j) Q := by
  have hm : kd (mm X i j) 1 = 27 := rfl
  have hw : 44 < nn (mm X i j) + 2 := Nat.lt_of_lt_of_le (by decide) (Nat.add_le_add_right h.1.1 2)
  refine tc_1669_2471 (D + 301) 1 2 42 77 v4 (mm X i j) Q ⟨⟨hm, hv 1 (by decide)⟩, ⟨hm, hv 2 (by decide)⟩, rfl, two (k_45 D h _ _ (Kq.nx X)) hm fun x1 M1 sc w => ?_⟩
  rw [sc.1, sc.2.1]
  refine ⟨⟨sc.k1 hm, hv 1 (by decide)⟩, ⟨sc.k1 hm, hv 2 (by decide)⟩, (sc.2.2.2 42 (by omega)).trans rfl, w.mono (Nat.le_refl _) ?_⟩
  rintro r M2 ⟨x2, e, e3, p, sc2⟩
  exact ⟨x2, e, fun _ => hn M2 p sc2, fun z => absurd e3 z⟩
theorem law_46 {D : Nat} {X : XS} {i : Nat → Nat → Int32} {j : Nat → Nat → Int64} {v4 : Int32} {Q : Option (Option Value) → AM → Prop} (h : Rel X i j) (hv : ∀ k : Nat, k ≤ 6 → vp_in (v4 + kI k) (ln (mm X i j) 1)) (hn : ∀ M2, Kq X M2 → SC (mm X i j) M2 → WP (D + 302) 1669 (2725, [(0, .ref 1), (1, .ref 2), (2, .ref 42), (3, .ref 77), (4, .int v4)], [], M2) Q) : WP (D + 302) 1669 (2508, [(0, .ref 1), (1, .ref 2), (2, .ref 42), (3, .ref 77), (4, .int v4)], [], mm X i j) Q := by
  have hm : kd (mm X i j) 1 = 27 := rfl
  have hw : 44 < nn (mm X i j) + 2 := Nat.lt_of_lt_of_le (by decide) (Nat.add_le_add_right h.1.1 2)
  refine tc_1669_2508 (D + 301) 1 2 42 77 v4 (mm X i j) Q ⟨⟨hm, hv 1 (by decide)⟩, ⟨hm, hv 2 (by decide)⟩, rfl, two (k_46 D h _ _ (Kq.nx X)) hm fun x1 M1 sc w => ?_⟩
  rw [sc.1, sc.2.1]
  refine ⟨⟨sc.k1 hm, hv 1 (by decide)⟩, ⟨sc.k1 hm, hv 2 (by decide)⟩, (sc.2.2.2 42 (by omega)).trans rfl, w.mono (Nat.le_refl _) ?_⟩
  rintro r M2 ⟨x2, e, e3, p, sc2⟩
  exact ⟨x2, e, fun _ => hn M2 p sc2, fun z => absurd e3 z⟩
theorem law_47 {D : Nat} {X : XS} {i : Nat → Nat → Int32} {j : Nat → Nat → Int64} {v4 : Int32} {Q : Option (Option Value) → AM → Prop} (h : Rel X i j) (hv : ∀ k : Nat, k ≤ 6 → vp_in (v4 + kI k) (ln (mm X i j) 1)) (hn : ∀ M2, Kq X M2 → SC (mm X i j) M2 → WP (D + 302) 1669 (2725, [(0, .ref 1), (1, .ref 2), (2, .ref 42), (3, .ref 77), (4, .int v4)], [], M2) Q) : WP (D + 302) 1669 (2545, [(0, .ref 1), (1, .ref 2), (2, .ref 42), (3, .ref 77), (4, .int v4)], [], mm X i j) Q := by
  have hm : kd (mm X i j) 1 = 27 := rfl
  have hw : 44 < nn (mm X i j) + 2 := Nat.lt_of_lt_of_le (by decide) (Nat.add_le_add_right h.1.1 2)
  refine tc_1669_2545 (D + 301) 1 2 42 77 v4 (mm X i j) Q ⟨⟨hm, hv 1 (by decide)⟩, ⟨hm, hv 2 (by decide)⟩, rfl, two (k_47 D h _ _ (Kq.nx X)) hm fun x1 M1 sc w => ?_⟩
  rw [sc.1, sc.2.1]
  refine ⟨⟨sc.k1 hm, hv 1 (by decide)⟩, ⟨sc.k1 hm, hv 2 (by decide)⟩, (sc.2.2.2 42 (by omega)).trans rfl, w.mono (Nat.le_refl _) ?_⟩
  rintro r M2 ⟨x2, e, e3, p, sc2⟩
  exact ⟨x2, e, fun _ => hn M2 p sc2, fun z => absurd e3 z⟩
theorem law_48 {D : Nat} {X : XS} {i : Nat → Nat → Int32} {j : Nat → Nat → Int64} {v4 : Int32} {Q : Option (Option Value) → AM → Prop} (h : Rel X i j) (hv : ∀ k : Nat, k ≤ 6 → vp_in (v4 + kI k) (ln (mm X i j) 1)) (hn : ∀ M2, Kq X M2 → SC (mm X i j) M2 → WP (D + 302) 1669 (2725, [(0, .ref 1), (1, .ref 2), (2, .ref 42), (3, .ref 77), (4, .int v4)], [], M2) Q) : WP (D + 302) 1669 (2582, [(0, .ref 1), (1, .ref 2), (2, .ref 42), (3, .ref 77), (4, .int v4)], [], mm X i j) Q := by
  have hm : kd (mm X i j) 1 = 27 := rfl
  have hw : 44 < nn (mm X i j) + 2 := Nat.lt_of_lt_of_le (by decide) (Nat.add_le_add_right h.1.1 2)
  refine tc_1669_2582 (D + 301) 1 2 42 77 v4 (mm X i j) Q ⟨rfl, two (k_48 D h (Kq.nx X)) hm fun x1 M1 sc w => ?_⟩
  skip
  refine ⟨(sc.2.2.2 42 (by omega)).trans rfl, w.mono (Nat.le_refl _) ?_⟩
  rintro r M2 ⟨x2, e, e3, p, sc2⟩
  exact ⟨x2, e, fun _ => hn M2 p sc2, fun z => absurd e3 z⟩
theorem law_49 {D : Nat} {X : XS} {i : Nat → Nat → Int32} {j : Nat → Nat → Int64} {v4 : Int32} {Q : Option (Option Value) → AM → Prop} (h : Rel X i j) (hv : ∀ k : Nat, k ≤ 6 → vp_in (v4 + kI k) (ln (mm X i j) 1)) (hn : ∀ M2, Kq X M2 → SC (mm X i j) M2 → WP (D + 302) 1669 (2725, [(0, .ref 1), (1, .ref 2), (2, .ref 42), (3, .ref 77), (4, .int v4)], [], M2) Q) : WP (D + 302) 1669 (2595, [(0, .ref 1), (1, .ref 2), (2, .ref 42), (3, .ref 77), (4, .int v4)], [], mm X i j) Q := by
  have hm : kd (mm X i j) 1 = 27 := rfl
  have hw : 44 < nn (mm X i j) + 2 := Nat.lt_of_lt_of_le (by decide) (Nat.add_le_add_right h.1.1 2)
  refine tc_1669_2595 (D + 301) 1 2 42 77 v4 (mm X i j) Q ⟨⟨hm, hv 1 (by decide)⟩, rfl, two (k_49 D h _ (Kq.nx X)) hm fun x1 M1 sc w => ?_⟩
  rw [sc.1, sc.2.1]
  refine ⟨⟨sc.k1 hm, hv 1 (by decide)⟩, (sc.2.2.2 42 (by omega)).trans rfl, w.mono (Nat.le_refl _) ?_⟩
  rintro r M2 ⟨x2, e, e3, p, sc2⟩
  exact ⟨x2, e, fun _ => hn M2 p sc2, fun z => absurd e3 z⟩
theorem law_50 {D : Nat} {X : XS} {i : Nat → Nat → Int32} {j : Nat → Nat → Int64} {v4 : Int32} {Q : Option (Option Value) → AM → Prop} (h : Rel X i j) (hv : ∀ k : Nat, k ≤ 6 → vp_in (v4 + kI k) (ln (mm X i j) 1)) (hn : ∀ M2, Kq X M2 → SC (mm X i j) M2 → WP (D + 302) 1669 (2725, [(0, .ref 1), (1, .ref 2), (2, .ref 42), (3, .ref 77), (4, .int v4)], [], M2) Q) : WP (D + 302) 1669 (2620, [(0, .ref 1), (1, .ref 2), (2, .ref 42), (3, .ref 77), (4, .int v4)], [], mm X i j) Q := by
  have hm : kd (mm X i j) 1 = 27 := rfl
  have hw : 44 < nn (mm X i j) + 2 := Nat.lt_of_lt_of_le (by decide) (Nat.add_le_add_right h.1.1 2)
  refine tc_1669_2620 (D + 301) 1 2 42 77 v4 (mm X i j) Q ⟨⟨hm, hv 1 (by decide)⟩, rfl, two (k_50 D h _ (Kq.nx X)) hm fun x1 M1 sc w => ?_⟩
  rw [sc.1, sc.2.1]
  refine ⟨⟨sc.k1 hm, hv 1 (by decide)⟩, (sc.2.2.2 42 (by omega)).trans rfl, w.mono (Nat.le_refl _) ?_⟩
  rintro r M2 ⟨x2, e, e3, p, sc2⟩
  exact ⟨x2, e, fun _ => hn M2 p sc2, fun z => absurd e3 z⟩
theorem law_51 {D : Nat} {X : XS} {i : Nat → Nat → Int32} {j : Nat → Nat → Int64} {v4 : Int32} {Q : Option (Option Value) → AM → Prop} (h : Rel X i j) (hv : ∀ k : Nat, k ≤ 6 → vp_in (v4 + kI k) (ln (mm X i j) 1)) (hn : ∀ M2, Kq X M2 → SC (mm X i j) M2 → WP (D + 302) 1669 (2725, [(0, .ref 1), (1, .ref 2), (2, .ref 42), (3, .ref 77), (4, .int v4)], [], M2) Q) : WP (D + 302) 1669 (2645, [(0, .ref 1), (1, .ref 2), (2, .ref 42), (3, .ref 77), (4, .int v4)], [], mm X i j) Q := by
  have hm : kd (mm X i j) 1 = 27 := rfl
  have hw : 44 < nn (mm X i j) + 2 := Nat.lt_of_lt_of_le (by decide) (Nat.add_le_add_right h.1.1 2)
  refine tc_1669_2645 (D + 301) 1 2 42 77 v4 (mm X i j) Q ⟨⟨hm, hv 1 (by decide)⟩, rfl, two (k_51 D h _ (Kq.nx X)) hm fun x1 M1 sc w => ?_⟩
  rw [sc.1, sc.2.1]
  refine ⟨⟨sc.k1 hm, hv 1 (by decide)⟩, (sc.2.2.2 42 (by omega)).trans rfl, w.mono (Nat.le_refl _) ?_⟩
  rintro r M2 ⟨x2, e, e3, p, sc2⟩
  exact ⟨x2, e, fun _ => hn M2 p sc2, fun z => absurd e3 z⟩
theorem law_52 {D : Nat} {X : XS} {i : Nat → Nat → Int32} {j : Nat → Nat → Int64} {v4 : Int32} {Q : Option (Option Value) → AM → Prop} (h : Rel X i j) (hv : ∀ k : Nat, k ≤ 6 → vp_in (v4 + kI k) (ln (mm X i j) 1)) (hn : ∀ M2, Kq X M2 → SC (mm X i j) M2 → WP (D + 302) 1669 (2725, [(0, .ref 1), (1, .ref 2), (2, .ref 42), (3, .ref 77), (4, .int v4)], [], M2) Q) : WP (D + 302) 1669 (2670, [(0, .ref 1), (1, .ref 2), (2, .ref 42), (3, .ref 77), (4, .int v4)], [], mm X i j) Q := by
  have hm : kd (mm X i j) 1 = 27 := rfl
  have hw : 44 < nn (mm X i j) + 2 := Nat.lt_of_lt_of_le (by decide) (Nat.add_le_add_right h.1.1 2)
  refine tc_1669_2670 (D + 301) 1 2 42 77 v4 (mm X i j) Q ⟨⟨hm, hv 1 (by decide)⟩, thL (k_52 D h _ (Kq.nx X)) hm fun x1 M1 sc w => ?_⟩
  rw [sc.1, sc.2.1]
  refine ⟨⟨sc.k1 hm, hv 1 (by decide)⟩, (sc.2.2.2 42 (by omega)).trans rfl, w.mono (Nat.le_refl _) ?_⟩
  rintro r M2 ⟨x2, e, p, sc2⟩
  exact ⟨x2, e, thE p sc2 hn⟩
theorem law_sw {D : Nat} {X : XS} {i : Nat → Nat → Int32} {j : Nat → Nat → Int64} {v4 s0 : Int32} {Q : Option (Option Value) → AM → Prop} (h : Rel X i j) (hv : ∀ k : Nat, k ≤ 6 → vp_in (v4 + kI k) (ln (mm X i j) 1)) (hn : ∀ M2, Kq X M2 → SC (mm X i j) M2 → WP (D + 302) 1669 (2725, [(0, .ref 1), (1, .ref 2), (2, .ref 42), (3, .ref 77), (4, .int v4)], [], M2) Q) : WP (D + 302) 1669 (40, [(0, .ref 1), (1, .ref 2), (2, .ref 42), (3, .ref 77), (4, .int v4)], [.int s0], mm X i j) Q :=
  tc_1669_40 (D + 301) 1 2 42 77 v4 s0 (mm X i j) Q ⟨fun _ => law_0 h hv hn, fun _ => ⟨fun _ => law_1 h hv hn, fun _ => ⟨fun _ => law_2 h hv hn, fun _ => ⟨fun _ => law_3 h hv hn, fun _ => ⟨fun _ => law_4 h hv hn, fun _ => ⟨fun _ => law_5 h hv hn, fun _ => ⟨fun _ => law_6 h hv hn, fun _ => ⟨fun _ => law_7 h hv hn, fun _ => ⟨fun _ => law_8 h hv hn, fun _ => ⟨fun _ => law_9 h hv hn, fun _ => ⟨fun _ => law_10 h hv hn, fun _ => ⟨fun _ => law_11 h hv hn, fun _ => ⟨fun _ => law_12 h hv hn, fun _ => ⟨fun _ => law_13 h hv hn, fun _ => ⟨fun _ => law_14 h hv hn, fun _ => ⟨fun _ => law_15 h hv hn, fun _ => ⟨fun _ => law_16 h hv hn, fun _ => ⟨fun _ => law_17 h hv hn, fun _ => ⟨fun _ => law_18 h hv hn, fun _ => ⟨fun _ => law_19 h hv hn, fun _ => ⟨fun _ => law_20 h hv hn, fun _ => ⟨fun _ => law_21 h hv hn, fun _ => ⟨fun _ => law_22 h hv hn, fun _ => ⟨fun _ => law_23 h hv hn, fun _ => ⟨fun _ => law_24 h hv hn, fun _ => ⟨fun _ => law_25 h hv hn, fun _ => ⟨fun _ => law_26 h hv hn, fun _ => ⟨fun _ => law_27 h hv hn, fun _ => ⟨fun _ => law_28 h hv hn, fun _ => ⟨fun _ => law_29 h hv hn, fun _ => ⟨fun _ => law_30 h hv hn, fun _ => ⟨fun _ => law_31 h hv hn, fun _ => ⟨fun _ => law_32 h hv hn, fun _ => ⟨fun _ => law_33 h hv hn, fun _ => ⟨fun _ => law_34 h hv hn, fun _ => ⟨fun _ => law_35 h hv hn, fun _ => ⟨fun _ => law_36 h hv hn, fun _ => ⟨fun _ => law_37 h hv hn, fun _ => ⟨fun _ => law_38 h hv hn, fun _ => ⟨fun _ => law_39 h hv hn, fun _ => ⟨fun _ => law_40 h hv hn, fun _ => ⟨fun _ => law_41 h hv hn, fun _ => ⟨fun _ => law_42 h hv hn, fun _ => ⟨fun _ => law_43 h hv hn, fun _ => ⟨fun _ => law_44 h hv hn, fun _ => ⟨fun _ => law_45 h hv hn, fun _ => ⟨fun _ => law_46 h hv hn, fun _ => ⟨fun _ => law_47 h hv hn, fun _ => ⟨fun _ => law_48 h hv hn, fun _ => ⟨fun _ => law_49 h hv hn, fun _ => ⟨fun _ => law_50 h hv hn, fun _ => ⟨fun _ => law_51 h hv hn, fun _ => ⟨fun _ => law_52 h hv hn, fun _ => hn _ (Kq.nx X X i j h Grw.rf) (SC.refl _)⟩⟩⟩⟩⟩⟩⟩⟩⟩⟩⟩⟩⟩⟩⟩⟩⟩⟩⟩⟩⟩⟩⟩⟩⟩⟩⟩⟩⟩⟩⟩⟩⟩⟩⟩⟩⟩⟩⟩⟩⟩⟩⟩⟩⟩⟩⟩⟩⟩⟩⟩⟩⟩