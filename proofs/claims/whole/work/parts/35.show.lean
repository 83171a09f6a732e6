/-! ===== words; the reference's glasses ===== -/
def mcN (i : Nat → Nat → Int32) (g : Nat) : Nat := (i 53 g).toNatClampNeg
noncomputable def wdR (i : Nat → Nat → Int32) (g : Nat) (sh v : Int32) : Int32 := nI (ct (fun q => i 52 (8 * g + q) + sh ≤ v) (mcN i g))
theorem R2.mc {X : XS} {i : Nat → Nat → Int32} {n g : Nat} (h : R2 X i n) (hg : g < n) : mcN i g ≤ 8 ∧ i (xr X 17 g) 5 = nI (mcN i g) ∧ i 53 g = nI (mcN i g) ∧ ∀ q, q < mcN i g → i (xr X (xr X 17 g) 4) q = i 52 (8 * g + q) := by
  obtain ⟨-, -, -, -, mc, a5, a6, a7, a8⟩ := h.2.2.2 g hg
  have : mcN i g = mc := by rw [mcN, a7, tc_nI (by omega)]
  rw [this]
  exact ⟨a5, a6, a7, a8⟩
theorem c_265w (d : Nat) (X : XS) (i : Nat → Nat → Int32) (j : Nat → Nat → Int64) {ng g : Nat} (h2 : R2 X i ng) (hg : g < ng) (t : Nat) (ht : t < 240) (sh : Int32) : EvI d 265 [.ref (xr X 17 g), .int (nI t), .int sh] (mm X i j) (wdR i g sh (i (xr X (xr X 17 g) 7) t)) (mm X i j) := by
  obtain ⟨m1, m2, m3, m4⟩ := h2.mc hg
  have := c_265 d X i j _ (h2.2.2.2 g hg).1 m1 m2 t ht sh
  rw [ct_cong (q := fun q => i 52 (8 * g + q) + sh ≤ i (xr X (xr X 17 g) 7) t) (fun q hq => by rw [m4 q hq])] at this
  exact this
theorem c_1564w (d : Nat) (X : XS) (i : Nat → Nat → Int32) (j : Nat → Nat → Int64) {ng g : Nat} (h2 : R2 X i ng) (hg : g < ng) (v sh : Int32) : EvI d 1564 [.ref 42, .int (nI g), .int v, .int sh] (mm X i j) (wdR i g sh v) (mm X i j) := by
  obtain ⟨m1, m2, m3, m4⟩ := h2.mc hg
  exact c_1564 d X i j (by have := h2.1; omega) m1 m3 v sh
/-- what the reference's shows hold -/
def SHW (i i1 : Nat → Nat → Int32) (ng n : Nat) : Prop := ∀ g, g < ng → ∀ t, t < n → i1 71 (240 * g + t) = rdR i (i 44) g t
set_option maxRecDepth 100000 in
theorem s_1565 (d : Nat) (X : XS) (i : Nat → Nat → Int32) (j : Nat → Nat → Int64)  (K : AM → Prop) (h : WP (d + 1) 1565 (2, [(0, .ref 42), (1, .int (nI 0))], [], (mm X i j)) (qV K)) : WV (d + 1) 1565 [.ref 42] (mm X i j) K := te_1565 d 42 (mm X i j) (qV K) h
set_option maxRecDepth 100000 in
theorem s_1565_2 (d : Nat) (X : XS) (i : Nat → Nat → Int32) (j : Nat → Nat → Int64) (v1 : Int32) (Q : Option (Option Value) → AM → Prop) (h : (((i 42 7) ≤ v1 → Q (some none) (mm X i j)) ∧ (¬ ((i 42 7) ≤ v1) → WP (d + 1) 1565 (14, [(0, .ref 42), (1, .int v1), (2, .int (nI 0)), (3, .int (nI 0))], [], (mm X i j)) Q))) : WP (d + 1) 1565 (2, [(0, .ref 42), (1, .int v1)], [], mm X i j) Q := tc_1565_2 d 42 v1 (mm X i j) Q ⟨rfl, ⟨fun e1 => (h.1 (e1)), fun e1 => (h.2 (e1))⟩⟩
set_option maxRecDepth 100000 in
theorem s_1565_14 (d : Nat) (X : XS) (i : Nat → Nat → Int32) (j : Nat → Nat → Int64) (v1 : Int32) (v2 : Int32) (v3 : Int32) (Q : Option (Option Value) → AM → Prop) (h : (((i 42 0) ≤ v3 → WP (d + 1) 1565 (2, [(0, .ref 42), (1, .int (v1 + (nI 1)))], [], (mm X i j)) Q) ∧ (¬ ((i 42 0) ≤ v3) → (vp_in v3 240) ∧ (vp_in v1 4) ∧ ((¬ ((i 51 ((v1).toNatClampNeg)) = 0) → (vp_in (((nI 240) * v1) + v3) 960) ∧ WP (d + 1) 1565 (14, [(0, .ref 42), (1, .int v1), (2, .int (((i 44 ((v3).toNatClampNeg)) - (i 48 ((v1).toNatClampNeg))) + (i 49 ((v1).toNatClampNeg)))), (3, .int (v3 + (nI 1)))], [], (mm X (s2 i 71 ((((nI 240) * v1) + v3).toNatClampNeg) (((i 44 ((v3).toNatClampNeg)) - (i 48 ((v1).toNatClampNeg))) + (i 49 ((v1).toNatClampNeg)))) j)) Q) ∧ ((i 51 ((v1).toNatClampNeg)) = 0 → ((v3 = 0 → (vp_in (((nI 240) * v1) + v3) 960) ∧ WP (d + 1) 1565 (14, [(0, .ref 42), (1, .int v1), (2, .int (((i 44 ((v3).toNatClampNeg)) - (i 48 ((v1).toNatClampNeg))) + (i 49 ((v1).toNatClampNeg)))), (3, .int (v3 + (nI 1)))], [], (mm X (s2 i 71 ((((nI 240) * v1) + v3).toNatClampNeg) (((i 44 ((v3).toNatClampNeg)) - (i 48 ((v1).toNatClampNeg))) + (i 49 ((v1).toNatClampNeg)))) j)) Q) ∧ (¬ (v3 = 0) → (((abI ((((i 44 ((v3).toNatClampNeg)) - (i 48 ((v1).toNatClampNeg))) + (i 49 ((v1).toNatClampNeg))) - v2)) ≤ (i 50 ((v1).toNatClampNeg)) → (vp_in (((nI 240) * v1) + v3) 960) ∧ WP (d + 1) 1565 (14, [(0, .ref 42), (1, .int v1), (2, .int v2), (3, .int (v3 + (nI 1)))], [], (mm X (s2 i 71 ((((nI 240) * v1) + v3).toNatClampNeg) v2) j)) Q) ∧ (¬ ((abI ((((i 44 ((v3).toNatClampNeg)) - (i 48 ((v1).toNatClampNeg))) + (i 49 ((v1).toNatClampNeg))) - v2)) ≤ (i 50 ((v1).toNatClampNeg))) → (vp_in (((nI 240) * v1) + v3) 960) ∧ WP (d + 1) 1565 (14, [(0, .ref 42), (1, .int v1), (2, .int (((i 44 ((v3).toNatClampNeg)) - (i 48 ((v1).toNatClampNeg))) + (i 49 ((v1).toNatClampNeg)))), (3, .int (v3 + (nI 1)))], [], (mm X (s2 i 71 ((((nI 240) * v1) + v3).toNatClampNeg) (((i 44 ((v3).toNatClampNeg)) - (i 48 ((v1).toNatClampNeg))) + (i 49 ((v1).toNatClampNeg)))) j)) Q))))))))) : WP (d + 1) 1565 (14, [(0, .ref 42), (1, .int v1), (2, .int v2), (3, .int v3)], [], mm X i j) Q := tc_1565_14 d 42 v1 v2 v3 (mm X i j) Q ⟨rfl, ⟨fun e2 => (h.1 (e2)), fun e2 => ⟨rfl, (te_1561 d 42 v1 v3 (mm X i j) _ ⟨rfl, ⟨⟨rfl, (h.2 (e2)).1⟩, ⟨rfl, ⟨⟨rfl, (h.2 (e2)).2.1⟩, ⟨rfl, ⟨⟨rfl, (h.2 (e2)).2.1⟩, ⟨_, rfl, ⟨rfl, ⟨⟨(Or.inl rfl), (h.2 (e2)).2.1⟩, ⟨fun e3 => (tc_1565_59 d 42 v1 v3 (((i 44 ((v3).toNatClampNeg)) - (i 48 ((v1).toNatClampNeg))) + (i 49 ((v1).toNatClampNeg))) (mm X i j) _ ⟨rfl, ⟨⟨rfl, ((h.2 (e2)).2.2.1 (e3)).1⟩, (tc_1565_75 d 42 v1 (((i 44 ((v3).toNatClampNeg)) - (i 48 ((v1).toNatClampNeg))) + (i 49 ((v1).toNatClampNeg))) v3 (mm X (s2 i 71 ((((nI 240) * v1) + v3).toNatClampNeg) (((i 44 ((v3).toNatClampNeg)) - (i 48 ((v1).toNatClampNeg))) + (i 49 ((v1).toNatClampNeg)))) j) _ ((h.2 (e2)).2.2.1 (e3)).2)⟩⟩), fun e3 => ⟨fun e4 => (tc_1565_59 d 42 v1 v3 (((i 44 ((v3).toNatClampNeg)) - (i 48 ((v1).toNatClampNeg))) + (i 49 ((v1).toNatClampNeg))) (mm X i j) _ ⟨rfl, ⟨⟨rfl, (((h.2 (e2)).2.2.2 ((Classical.byContradiction e3))).1 (e4)).1⟩, (tc_1565_75 d 42 v1 (((i 44 ((v3).toNatClampNeg)) - (i 48 ((v1).toNatClampNeg))) + (i 49 ((v1).toNatClampNeg))) v3 (mm X (s2 i 71 ((((nI 240) * v1) + v3).toNatClampNeg) (((i 44 ((v3).toNatClampNeg)) - (i 48 ((v1).toNatClampNeg))) + (i 49 ((v1).toNatClampNeg)))) j) _ (((h.2 (e2)).2.2.2 ((Classical.byContradiction e3))).1 (e4)).2)⟩⟩), fun e4 => ⟨rfl, ⟨⟨rfl, (h.2 (e2)).2.1⟩, ⟨fun e5 => ⟨rfl, ⟨⟨rfl, ((((h.2 (e2)).2.2.2 ((Classical.byContradiction e3))).2 (e4)).1 (e5)).1⟩, (tc_1565_75 d 42 v1 v2 v3 (mm X (s2 i 71 ((((nI 240) * v1) + v3).toNatClampNeg) v2) j) _ ((((h.2 (e2)).2.2.2 ((Classical.byContradiction e3))).2 (e4)).1 (e5)).2)⟩⟩, fun e5 => (tc_1565_59 d 42 v1 v3 (((i 44 ((v3).toNatClampNeg)) - (i 48 ((v1).toNatClampNeg))) + (i 49 ((v1).toNatClampNeg))) (mm X i j) _ ⟨rfl, ⟨⟨rfl, ((((h.2 (e2)).2.2.2 ((Classical.byContradiction e3))).2 (e4)).2 (e5)).1⟩, (tc_1565_75 d 42 v1 (((i 44 ((v3).toNatClampNeg)) - (i 48 ((v1).toNatClampNeg))) + (i 49 ((v1).toNatClampNeg))) v3 (mm X (s2 i 71 ((((nI 240) * v1) + v3).toNatClampNeg) (((i 44 ((v3).toNatClampNeg)) - (i 48 ((v1).toNatClampNeg))) + (i 49 ((v1).toNatClampNeg)))) j) _ ((((h.2 (e2)).2.2.2 ((Classical.byContradiction e3))).2 (e4)).2 (e5)).2)⟩⟩)⟩⟩⟩⟩⟩⟩⟩⟩⟩⟩⟩⟩⟩⟩)⟩⟩⟩
theorem c_1565 (d : Nat) (X : XS) (i : Nat → Nat → Int32) (j : Nat → Nat → Int64) {ng n : Nat} (hg4 : ng ≤ 4) (eg : i 42 7 = nI ng) (hn : n ≤ 240) (en : i 42 0 = nI n) :
    ∃ i', EvV (d + 1) 1565 [.ref 42] (mm X i j) (mm X i' j) ∧ (∀ b, b ≠ 71 → i' b = i b) ∧ SHW i i' ng n := by
  have main : WV (d + 1) 1565 [.ref 42] (mm X i j) (fun M2 => ∃ i', M2 = mm X i' j ∧ (∀ b, b ≠ 71 → i' b = i b) ∧ SHW i i' ng n) := by
    refine s_1565 d X i j _ ?_
    have inner : ∀ (g : Nat), g < ng → ∀ i0 : Nat → Nat → Int32, (∀ b, b ≠ 71 → i0 b = i b) → SHW i i0 g n →
        (∀ i', (∀ b, b ≠ 71 → i' b = i b) → SHW i i' (g + 1) n → WP (d + 1) 1565 (2, [(0, .ref 42), (1, .int (nI (g + 1)))], [], mm X i' j) (qV (fun M2 => ∃ i', M2 = mm X i' j ∧ (∀ b, b ≠ 71 → i' b = i b) ∧ SHW i i' ng n))) →
        WP (d + 1) 1565 (14, [(0, .ref 42), (1, .int (nI g)), (2, .int (nI 0)), (3, .int (nI 0))], [], mm X i0 j) (qV (fun M2 => ∃ i', M2 = mm X i' j ∧ (∀ b, b ≠ 71 → i' b = i b) ∧ SHW i i' ng n)) := by
      intro g hg i0 hf0 hs0 out
      refine lup n (fun e (s : Int32 × (Nat → Nat → Int32)) => (∀ b, b ≠ 71 → s.2 b = i b) ∧ SHW i s.2 g n ∧ (∀ t, t < e → s.2 71 (240 * g + t) = rdR i (i 44) g t) ∧ (e = 0 ∨ s.1 = rdR i (i 44) g (e - 1)))
        (fun e s => (14, [(0, .ref 42), (1, .int (nI g)), (2, .int s.1), (3, .int (nI e))], [], mm X s.2 j)) ?_ ?_ 0 (nI 0, i0) (Nat.zero_le _) ⟨hf0, hs0, fun t h => absurd h (by omega), Or.inl rfl⟩
      · rintro ⟨st, i1⟩ ⟨hf, hs, ht, -⟩
        dsimp only at hf hs ht ⊢
        refine s_1565_14 d X i1 j _ _ _ _ (br_t (by rw [hf 42 (by decide), en]; exact Int32.le_refl _) ?_)
        rw [nI_add]
        refine out i1 hf fun g' hg' t ht' => ?_
        by_cases h : g' = g
        · subst h; exact ht t ht'
        · exact hs g' (by omega) t ht'
      · rintro e ⟨st, i1⟩ he ⟨hf, hs, ht, hst⟩ go
        dsimp only at hf hs ht hst ⊢
        refine s_1565_14 d X i1 j _ _ _ _ (br_f (by rw [hf 42 (by decide), en]; exact nI_ge he (by omega)) ⟨vp_in_nI (by omega) (by decide), vp_in_nI (by omega) (by decide), ?_⟩)
        rw [tc_nI (by omega), tc_nI (by omega), pk_mul, nI_add (240 * g) e, tc_nI (by omega), hf 44 (by decide), hf 48 (by decide), hf 49 (by decide), hf 50 (by decide), hf 51 (by decide), trv_r]
        have hin : vp_in (nI (240 * g + e)) 960 := vp_in_nI (by omega) (by decide)
        have next : ∀ rv, rv = rdR i (i 44) g e → WP (d + 1) 1565 (14, [(0, .ref 42), (1, .int (nI g)), (2, .int rv), (3, .int (nI e + nI 1))], [], mm X (s2 i1 71 (240 * g + e) rv) j) (qV (fun M2 => ∃ i', M2 = mm X i' j ∧ (∀ b, b ≠ 71 → i' b = i b) ∧ SHW i i' ng n)) := by
          intro rv erv
          rw [nI_add]
          refine go (rv, s2 i1 71 (240 * g + e) rv) ⟨fun b h1 => ?_, fun g' hg' t ht' => ?_, fun t h1 => ?_, Or.inr erv⟩
          · dsimp only
            rw [s2_ne h1]; exact hf b h1
          · dsimp only
            rw [s2_ne2 (by omega)]; exact hs g' hg' t ht'
          · dsimp only
            by_cases h2 : t = e
            · subst h2; rw [s2_self]; exact erv
            · rw [s2_ne2 (by omega)]; exact ht t (by omega)
        refine bq_c (fun z => ⟨hin, next _ (rdv_1 z).symm⟩) (fun z => ?_)
        have z0 := z
        refine br_c (fun y => ⟨hin, next _ ?_⟩) (fun y => ?_)
        · have e0 : e = 0 := by
            refine Classical.byContradiction fun h => nI_ne0 (by omega) (by omega) y
          subst e0
          exact (show rdR i (i 44) g 0 = trv (i 44) (i 48 g) (i 49 g) 0 from rdv_0 z0).symm
        · obtain ⟨e', rfl⟩ : ∃ e', e = e' + 1 := ⟨e - 1, by
            have : e ≠ 0 := fun h => y (by rw [h]; rfl)
            omega⟩
          have hs2 : st = rdR i (i 44) g e' := by
            rcases hst with h | h
            · exact absurd h (by omega)
            · exact h
          rw [hs2]
          have ee : rdR i (i 44) g (e' + 1) = hdR i (i 44) g (e' + 1) := rdv_0 z0
          exact br_c (fun q => ⟨hin, next _ (ee.trans (hdv_le q)).symm⟩) (fun q => ⟨hin, next _ (ee.trans (hdv_gt q)).symm⟩)
    refine lup ng (fun g (i1 : Nat → Nat → Int32) => (∀ b, b ≠ 71 → i1 b = i b) ∧ SHW i i1 g n)
      (fun g i1 => (2, [(0, .ref 42), (1, .int (nI g))], [], mm X i1 j)) ?_ ?_ 0 i (Nat.zero_le _) ⟨fun _ _ => rfl, fun g h => absurd h (by omega)⟩
    · rintro i1 ⟨hf, hs⟩
      refine s_1565_2 d X i1 j _ _ (br_t (by rw [hf 42 (by decide), eg]; exact Int32.le_refl _) ?_)
      exact qV_of ⟨i1, rfl, hf, hs⟩
    · rintro g i1 hg ⟨hf, hs⟩ go
      refine s_1565_2 d X i1 j _ _ (br_f (by rw [hf 42 (by decide), eg]; exact nI_ge hg (by omega)) ?_)
      exact inner g hg i1 hf hs fun i' h1 h2 => go i' ⟨h1, h2⟩
  obtain ⟨n1, ⟨r, M2⟩, h1, h2, i', h3, h4⟩ := main
  dsimp only at h2 h3
  subst h2; subst h3
  exact ⟨i', ⟨n1, _, h1, rfl, rfl⟩, h4⟩
set_option maxRecDepth 100000 in
theorem s_1562 (d : Nat) (X : XS) (i : Nat → Nat → Int32) (j : Nat → Nat → Int64) (a1 : Int32) (a2 : Int32) (K : Int32 → AM → Prop) (h : (vp_in a1 4) ∧ WP (d + 1) 1562 (10, [(0, .ref 42), (1, .int a1), (2, .int a2), (3, .int (((i 44 0) - (i 48 ((a1).toNatClampNeg))) + (i 49 ((a1).toNatClampNeg)))), (4, .int (nI 1))], [], (mm X i j)) (qI K)) : WI (d + 1) 1562 [.ref 42, .int a1, .int a2] (mm X i j) K := te_1562 d 42 a1 a2 (mm X i j) (qI K) ⟨rfl, (te_1561 d 42 a1 (nI 0) (mm X i j) _ ⟨rfl, ⟨⟨rfl, (vpk 0 240 rfl)⟩, ⟨rfl, ⟨⟨rfl, h.1⟩, ⟨rfl, ⟨⟨rfl, h.1⟩, ⟨_, rfl, h.2⟩⟩⟩⟩⟩⟩⟩)⟩
set_option maxRecDepth 100000 in
theorem s_1562_10 (d : Nat) (X : XS) (i : Nat → Nat → Int32) (j : Nat → Nat → Int64) (v1 : Int32) (v2 : Int32) (v3 : Int32) (v4 : Int32) (Q : Option (Option Value) → AM → Prop) (h : ((v2 < v4 → Q (some (some (.int v3))) (mm X i j)) ∧ (¬ (v2 < v4) → (vp_in v1 4) ∧ (((i 51 ((v1).toNatClampNeg)) = 0 → (vp_in v4 240) ∧ (((abI ((((i 44 ((v4).toNatClampNeg)) - (i 48 ((v1).toNatClampNeg))) + (i 49 ((v1).toNatClampNeg))) - v3)) ≤ (i 50 ((v1).toNatClampNeg)) → WP (d + 1) 1562 (10, [(0, .ref 42), (1, .int v1), (2, .int v2), (3, .int v3), (4, .int (v4 + (nI 1)))], [], (mm X i j)) Q) ∧ (¬ ((abI ((((i 44 ((v4).toNatClampNeg)) - (i 48 ((v1).toNatClampNeg))) + (i 49 ((v1).toNatClampNeg))) - v3)) ≤ (i 50 ((v1).toNatClampNeg))) → WP (d + 1) 1562 (10, [(0, .ref 42), (1, .int v1), (2, .int v2), (3, .int (((i 44 ((v4).toNatClampNeg)) - (i 48 ((v1).toNatClampNeg))) + (i 49 ((v1).toNatClampNeg)))), (4, .int (v4 + (nI 1)))], [], (mm X i j)) Q))) ∧ (¬ ((i 51 ((v1).toNatClampNeg)) = 0) → (vp_in (v4 - (nI 1)) 240) ∧ (vp_in v4 240) ∧ (((abI ((((i 44 ((v4).toNatClampNeg)) - (i 48 ((v1).toNatClampNeg))) + (i 49 ((v1).toNatClampNeg))) - (((i 44 ((v4 - (nI 1)).toNatClampNeg)) - (i 48 ((v1).toNatClampNeg))) + (i 49 ((v1).toNatClampNeg))))) ≤ (i 50 ((v1).toNatClampNeg)) → WP (d + 1) 1562 (10, [(0, .ref 42), (1, .int v1), (2, .int v2), (3, .int (((i 44 ((v4 - (nI 1)).toNatClampNeg)) - (i 48 ((v1).toNatClampNeg))) + (i 49 ((v1).toNatClampNeg)))), (4, .int (v4 + (nI 1)))], [], (mm X i j)) Q) ∧ (¬ ((abI ((((i 44 ((v4).toNatClampNeg)) - (i 48 ((v1).toNatClampNeg))) + (i 49 ((v1).toNatClampNeg))) - (((i 44 ((v4 - (nI 1)).toNatClampNeg)) - (i 48 ((v1).toNatClampNeg))) + (i 49 ((v1).toNatClampNeg))))) ≤ (i 50 ((v1).toNatClampNeg))) → WP (d + 1) 1562 (10, [(0, .ref 42), (1, .int v1), (2, .int v2), (3, .int (((i 44 ((v4).toNatClampNeg)) - (i 48 ((v1).toNatClampNeg))) + (i 49 ((v1).toNatClampNeg)))), (4, .int (v4 + (nI 1)))], [], (mm X i j)) Q))))))) : WP (d + 1) 1562 (10, [(0, .ref 42), (1, .int v1), (2, .int v2), (3, .int v3), (4, .int v4)], [], mm X i j) Q := tc_1562_10 d 42 v1 v2 v3 v4 (mm X i j) Q ⟨fun e1 => (h.1 (e1)), fun e1 => ⟨rfl, ⟨⟨(Or.inl rfl), (h.2 (e1)).1⟩, ⟨fun e2 => ⟨rfl, (te_1561 d 42 v1 v4 (mm X i j) _ ⟨rfl, ⟨⟨rfl, ((h.2 (e1)).2.1 (e2)).1⟩, ⟨rfl, ⟨⟨rfl, (h.2 (e1)).1⟩, ⟨rfl, ⟨⟨rfl, (h.2 (e1)).1⟩, ⟨_, rfl, ⟨rfl, ⟨⟨rfl, (h.2 (e1)).1⟩, ⟨fun e3 => (tc_1562_64 d 42 v1 v2 v3 v4 (mm X i j) _ (((h.2 (e1)).2.1 (e2)).2.1 (e3))), fun e3 => ⟨rfl, (te_1561 d 42 v1 v4 (mm X i j) _ ⟨rfl, ⟨⟨rfl, ((h.2 (e1)).2.1 (e2)).1⟩, ⟨rfl, ⟨⟨rfl, (h.2 (e1)).1⟩, ⟨rfl, ⟨⟨rfl, (h.2 (e1)).1⟩, ⟨_, rfl, (tc_1562_64 d 42 v1 v2 (((i 44 ((v4).toNatClampNeg)) - (i 48 ((v1).toNatClampNeg))) + (i 49 ((v1).toNatClampNeg))) v4 (mm X i j) _ (((h.2 (e1)).2.1 (e2)).2.2 (e3)))⟩⟩⟩⟩⟩⟩⟩)⟩⟩⟩⟩⟩⟩⟩⟩⟩⟩⟩)⟩, fun e2 => ⟨rfl, (te_1561 d 42 v1 (v4 - (nI 1)) (mm X i j) _ ⟨rfl, ⟨⟨rfl, ((h.2 (e1)).2.2 (e2)).1⟩, ⟨rfl, ⟨⟨rfl, (h.2 (e1)).1⟩, ⟨rfl, ⟨⟨rfl, (h.2 (e1)).1⟩, ⟨_, rfl, ⟨rfl, (te_1561 d 42 v1 v4 (mm X i j) _ ⟨rfl, ⟨⟨rfl, ((h.2 (e1)).2.2 (e2)).2.1⟩, ⟨rfl, ⟨⟨rfl, (h.2 (e1)).1⟩, ⟨rfl, ⟨⟨rfl, (h.2 (e1)).1⟩, ⟨_, rfl, ⟨rfl, ⟨⟨rfl, (h.2 (e1)).1⟩, ⟨fun e4 => (tc_1562_64 d 42 v1 v2 (((i 44 ((v4 - (nI 1)).toNatClampNeg)) - (i 48 ((v1).toNatClampNeg))) + (i 49 ((v1).toNatClampNeg))) v4 (mm X i j) _ (((h.2 (e1)).2.2 (e2)).2.2.1 (e4))), fun e4 => ⟨rfl, (te_1561 d 42 v1 v4 (mm X i j) _ ⟨rfl, ⟨⟨rfl, ((h.2 (e1)).2.2 (e2)).2.1⟩, ⟨rfl, ⟨⟨rfl, (h.2 (e1)).1⟩, ⟨rfl, ⟨⟨rfl, (h.2 (e1)).1⟩, ⟨_, rfl, (tc_1562_64 d 42 v1 v2 (((i 44 ((v4).toNatClampNeg)) - (i 48 ((v1).toNatClampNeg))) + (i 49 ((v1).toNatClampNeg))) v4 (mm X i j) _ (((h.2 (e1)).2.2 (e2)).2.2.2 (e4)))⟩⟩⟩⟩⟩⟩⟩)⟩⟩⟩⟩⟩⟩⟩⟩⟩⟩⟩)⟩⟩⟩⟩⟩⟩⟩⟩)⟩⟩⟩⟩⟩
theorem c_1562 (d : Nat) (X : XS) (i : Nat → Nat → Int32) (j : Nat → Nat → Int64) {g t : Nat} (hg : g < 4) (ht : t < 240) : EvI (d + 1) 1562 [.ref 42, .int (nI g), .int (nI t)] (mm X i j) (hdR i (i 44) g t) (mm X i j) := by
  refine s_1562 d X i j _ _ _ ⟨vp_in_nI (by omega) (by decide), ?_⟩
  rw [tc_nI (by omega), trv_r]
  refine lup t (fun e (s : Int32) => s = hdR i (i 44) g e) (fun e s => (10, [(0, .ref 42), (1, .int (nI g)), (2, .int (nI t)), (3, .int s), (4, .int (nI (e + 1)))], [], mm X i j)) ?_ ?_ 0 _ (Nat.zero_le _) rfl
  · intro s hs
    exact s_1562_10 d X i j _ _ _ _ _ (br_t (nI_lt (by omega) (by omega)) (qI_of ⟨hs, rfl⟩))
  · intro e s he hs go
    refine s_1562_10 d X i j _ _ _ _ _ (br_f (nI_nlt (by omega) (by omega)) ⟨vp_in_nI (by omega) (by decide), ?_⟩)
    rw [show nI (e + 1) - nI 1 = nI e from pk_sub (by omega), tc_nI (by omega), tc_nI (by omega), tc_nI (by omega), trv_r, trv_r, nI_add, hs]
    refine br_c (fun z => ⟨vp_in_nI (by omega) (by decide), ?_⟩) (fun z => ⟨vp_in_nI (by omega) (by decide), vp_in_nI (by omega) (by decide), ?_⟩)
    · have er : hdR i (i 44) g e = rdR i (i 44) g e := (rdv_0 z).symm
      rw [er]
      exact br_c (fun q => go _ (hdv_le q).symm) (fun q => go _ (hdv_gt q).symm)
    · have er : trv (i 44) (i 48 g) (i 49 g) e = rdR i (i 44) g e := (rdv_1 z).symm
      rw [er]
      exact br_c (fun q => go _ (hdv_le q).symm) (fun q => go _ (hdv_gt q).symm)
