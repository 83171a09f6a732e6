/-! ===== glasses ===== -/
def GLs (X : XS) (i : Nat → Nat → Int32) : Prop := ∃ n, n ≤ 4 ∧ i 2 4 = nI n ∧ ∀ g, g < n → GO X (xr X 17 g)
def SGs (X : XS) (i : Nat → Nat → Int32) : Prop := ∃ n, n ≤ 10 ∧ i 2 7 = nI n ∧ ∀ g, g < n → OO X (xr X 23 g)
def PSs (X : XS) (i : Nat → Nat → Int32) : Prop := ∃ n, n ≤ 6 ∧ i 2 9 = nI n ∧ ∀ g, g < n → PO X (xr X 24 g)
set_option maxRecDepth 100000 in
theorem s_1467 (d : Nat) (X : XS) (i : Nat → Nat → Int32) (j : Nat → Nat → Int64) (a1 : Int32) (K : Nat → AM → Prop) (h : ((¬ ((nI 0) ≤ a1 ∧ a1 ≤ ((i 2 4) - (nI 1))) → K 0 (mm X i j)) ∧ ((nI 0) ≤ a1 ∧ a1 ≤ ((i 2 4) - (nI 1)) → (((nI 4) ≤ a1 → K 0 (mm X i j)) ∧ (¬ ((nI 4) ≤ a1) → (vp_in a1 4) ∧ K (xr X 17 ((a1).toNatClampNeg)) (mm X i j)))))) : WR (d + 1) 1467 [.ref 2, .int a1] (mm X i j) K := te_1467 d 2 a1 (mm X i j) (qR K) ⟨rfl, (p_1462 d X i j a1 (nI 0) ((i 2 4) - (nI 1)) _ ⟨fun e1 => ⟨_, rfl, (h.1 ((bi_z e1)))⟩, fun e1 => ⟨rfl, ⟨(al_n (k := 24) rfl rfl), ⟨fun e2 => ⟨_, rfl, ((h.2 ((bi_n e1))).1 (e2))⟩, fun e2 => ⟨rfl, ⟨⟨(ar_n (k := 24) rfl rfl), ((h.2 ((bi_n e1))).2 (e2)).1⟩, ⟨_, rfl, ((h.2 ((bi_n e1))).2 (e2)).2⟩⟩⟩⟩⟩⟩⟩)⟩
set_option maxRecDepth 100000 in
theorem s_1468 (d : Nat) (X : XS) (i : Nat → Nat → Int32) (j : Nat → Nat → Int64) (a1 : Int32) (K : Nat → AM → Prop) (h : ((¬ ((nI 0) ≤ a1 ∧ a1 ≤ ((i 2 7) - (nI 1))) → K 0 (mm X i j)) ∧ ((nI 0) ≤ a1 ∧ a1 ≤ ((i 2 7) - (nI 1)) → (((nI 10) ≤ a1 → K 0 (mm X i j)) ∧ (¬ ((nI 10) ≤ a1) → (vp_in a1 10) ∧ K (xr X 23 ((a1).toNatClampNeg)) (mm X i j)))))) : WR (d + 1) 1468 [.ref 2, .int a1] (mm X i j) K := te_1468 d 2 a1 (mm X i j) (qR K) ⟨rfl, (p_1462 d X i j a1 (nI 0) ((i 2 7) - (nI 1)) _ ⟨fun e1 => ⟨_, rfl, (h.1 ((bi_z e1)))⟩, fun e1 => ⟨rfl, ⟨(al_n (k := 25) rfl rfl), ⟨fun e2 => ⟨_, rfl, ((h.2 ((bi_n e1))).1 (e2))⟩, fun e2 => ⟨rfl, ⟨⟨(ar_n (k := 25) rfl rfl), ((h.2 ((bi_n e1))).2 (e2)).1⟩, ⟨_, rfl, ((h.2 ((bi_n e1))).2 (e2)).2⟩⟩⟩⟩⟩⟩⟩)⟩
set_option maxRecDepth 100000 in
theorem s_1469 (d : Nat) (X : XS) (i : Nat → Nat → Int32) (j : Nat → Nat → Int64) (a1 : Int32) (K : Nat → AM → Prop) (h : ((¬ ((nI 0) ≤ a1 ∧ a1 ≤ ((i 2 9) - (nI 1))) → K 0 (mm X i j)) ∧ ((nI 0) ≤ a1 ∧ a1 ≤ ((i 2 9) - (nI 1)) → (((nI 6) ≤ a1 → K 0 (mm X i j)) ∧ (¬ ((nI 6) ≤ a1) → (vp_in a1 6) ∧ K (xr X 24 ((a1).toNatClampNeg)) (mm X i j)))))) : WR (d + 1) 1469 [.ref 2, .int a1] (mm X i j) K := te_1469 d 2 a1 (mm X i j) (qR K) ⟨rfl, (p_1462 d X i j a1 (nI 0) ((i 2 9) - (nI 1)) _ ⟨fun e1 => ⟨_, rfl, (h.1 ((bi_z e1)))⟩, fun e1 => ⟨rfl, ⟨(al_n (k := 26) rfl rfl), ⟨fun e2 => ⟨_, rfl, ((h.2 ((bi_n e1))).1 (e2))⟩, fun e2 => ⟨rfl, ⟨⟨(ar_n (k := 26) rfl rfl), ((h.2 ((bi_n e1))).2 (e2)).1⟩, ⟨_, rfl, ((h.2 ((bi_n e1))).2 (e2)).2⟩⟩⟩⟩⟩⟩⟩)⟩
theorem idx_of {x : Int32} {n : Nat} (hn : n < 2 ^ 31) (h : nI 0 ≤ x ∧ x ≤ nI n - nI 1) : ∃ g, g < n ∧ x = nI g := by
  obtain ⟨h1, h2⟩ := h
  cases n with
  | zero =>
    rw [Int32.le_iff_toInt_le] at h1 h2
    exact absurd (Int.le_trans h1 h2) (by decide)
  | succ n =>
    rw [show nI (n + 1) - nI 1 = nI n from pk_sub (by omega)] at h2
    obtain ⟨g, hg, e⟩ := nI_of (x := x) (by rw [Int32.not_lt]; exact h1)
    subst e
    rw [nI_leI hg (by omega)] at h2
    exact ⟨g, by omega, rfl⟩
theorem idx_in {g n : Nat} (hn : n < 2 ^ 31) (h : g < n) : nI 0 ≤ nI g ∧ nI g ≤ nI n - nI 1 := by
  refine ⟨nI_le (by omega) (by omega), ?_⟩
  rw [pk_sub (by omega)]
  exact nI_le (by omega) (by omega)
theorem p_1467 (d : Nat) (X : XS) (i : Nat → Nat → Int32) (j : Nat → Nat → Int64) (a1 : Int32) (K : Nat → AM → Prop) (h : GLs X i ∧ (¬ (nI 0 ≤ a1 ∧ a1 ≤ i 2 4 - nI 1) → K 0 (mm X i j)) ∧ (nI 0 ≤ a1 ∧ a1 ≤ i 2 4 - nI 1 → GO X (xr X 17 a1.toNatClampNeg) → K (xr X 17 a1.toNatClampNeg) (mm X i j))) : WR (d + 1) 1467 [.ref 2, .int a1] (mm X i j) K := by
  obtain ⟨⟨n, hn, e, hg⟩, h1, h2⟩ := h
  refine s_1467 d X i j a1 K ⟨h1, fun z => ?_⟩
  have z' := z
  rw [e] at z'
  obtain ⟨g, hgn, rfl⟩ := idx_of (by omega) z'
  refine br_f (nI_ge (by omega) (by omega)) ⟨vp_in_nI (by omega) (by decide), h2 z ?_⟩
  rw [tc_nI (by omega)]
  exact hg g hgn
theorem p_1468 (d : Nat) (X : XS) (i : Nat → Nat → Int32) (j : Nat → Nat → Int64) (a1 : Int32) (K : Nat → AM → Prop) (h : SGs X i ∧ (¬ (nI 0 ≤ a1 ∧ a1 ≤ i 2 7 - nI 1) → K 0 (mm X i j)) ∧ (nI 0 ≤ a1 ∧ a1 ≤ i 2 7 - nI 1 → OO X (xr X 23 a1.toNatClampNeg) → K (xr X 23 a1.toNatClampNeg) (mm X i j))) : WR (d + 1) 1468 [.ref 2, .int a1] (mm X i j) K := by
  obtain ⟨⟨n, hn, e, hg⟩, h1, h2⟩ := h
  refine s_1468 d X i j a1 K ⟨h1, fun z => ?_⟩
  have z' := z
  rw [e] at z'
  obtain ⟨g, hgn, rfl⟩ := idx_of (by omega) z'
  refine br_f (nI_ge (by omega) (by omega)) ⟨vp_in_nI (by omega) (by decide), h2 z ?_⟩
  rw [tc_nI (by omega)]
  exact hg g hgn
theorem p_1469 (d : Nat) (X : XS) (i : Nat → Nat → Int32) (j : Nat → Nat → Int64) (a1 : Int32) (K : Nat → AM → Prop) (h : PSs X i ∧ (¬ (nI 0 ≤ a1 ∧ a1 ≤ i 2 9 - nI 1) → K 0 (mm X i j)) ∧ (nI 0 ≤ a1 ∧ a1 ≤ i 2 9 - nI 1 → PO X (xr X 24 a1.toNatClampNeg) → K (xr X 24 a1.toNatClampNeg) (mm X i j))) : WR (d + 1) 1469 [.ref 2, .int a1] (mm X i j) K := by
  obtain ⟨⟨n, hn, e, hg⟩, h1, h2⟩ := h
  refine s_1469 d X i j a1 K ⟨h1, fun z => ?_⟩
  have z' := z
  rw [e] at z'
  obtain ⟨g, hgn, rfl⟩ := idx_of (by omega) z'
  refine br_f (nI_ge (by omega) (by omega)) ⟨vp_in_nI (by omega) (by decide), h2 z ?_⟩
  rw [tc_nI (by omega)]
  exact hg g hgn
/-- the glass's air on day t -/
def trv (a : Nat → Int32) (h l : Int32) (t : Nat) : Int32 := a t + l - h
/-- where the hand stands ahead of the tap -/
noncomputable def hdv (tp : Int32) (a : Nat → Int32) (h l s : Int32) : Nat → Int32
  | 0 => trv a h l 0
  | t + 1 => @ite _ (abI (trv a h l (t + 1) - @ite _ (tp = 0) (Classical.propDecidable _) (hdv tp a h l s t) (trv a h l t)) ≤ s) (Classical.propDecidable _) (@ite _ (tp = 0) (Classical.propDecidable _) (hdv tp a h l s t) (trv a h l t)) (trv a h l (t + 1))
/-- what is read -/
noncomputable def rdv (tp : Int32) (a : Nat → Int32) (h l s : Int32) (t : Nat) : Int32 := @ite _ (tp = 0) (Classical.propDecidable _) (hdv tp a h l s t) (trv a h l t)
theorem hdv_0 (tp : Int32) (a : Nat → Int32) (h l s : Int32) : hdv tp a h l s 0 = trv a h l 0 := rfl
theorem hdv_le {tp : Int32} {a : Nat → Int32} {h l s : Int32} {t : Nat} (q : abI (trv a h l (t + 1) - rdv tp a h l s t) ≤ s) : hdv tp a h l s (t + 1) = rdv tp a h l s t := by
  have : hdv tp a h l s (t + 1) = @ite _ (abI (trv a h l (t + 1) - rdv tp a h l s t) ≤ s) (Classical.propDecidable _) (rdv tp a h l s t) (trv a h l (t + 1)) := rfl
  rw [this, if_pos q]
theorem hdv_gt {tp : Int32} {a : Nat → Int32} {h l s : Int32} {t : Nat} (q : ¬ abI (trv a h l (t + 1) - rdv tp a h l s t) ≤ s) : hdv tp a h l s (t + 1) = trv a h l (t + 1) := by
  have : hdv tp a h l s (t + 1) = @ite _ (abI (trv a h l (t + 1) - rdv tp a h l s t) ≤ s) (Classical.propDecidable _) (rdv tp a h l s t) (trv a h l (t + 1)) := rfl
  rw [this, if_neg q]
theorem rdv_0 {tp : Int32} {a : Nat → Int32} {h l s : Int32} {t : Nat} (q : tp = 0) : rdv tp a h l s t = hdv tp a h l s t := by rw [rdv, if_pos q]
theorem rdv_1 {tp : Int32} {a : Nat → Int32} {h l s : Int32} {t : Nat} (q : ¬ tp = 0) : rdv tp a h l s t = trv a h l t := by rw [rdv, if_neg q]
theorem trv_r (a : Nat → Int32) (h l : Int32) (t : Nat) : a t - h + l = trv a h l t := by
  unfold trv
  rw [Int32.sub_eq_add_neg, Int32.sub_eq_add_neg, Int32.add_assoc, Int32.add_assoc, Int32.add_comm (-h) l]
set_option maxRecDepth 100000 in
theorem s_265 (d : Nat) (X : XS) (i : Nat → Nat → Int32) (j : Nat → Nat → Int64) (a0 : Nat) (h0 : GO X a0) (a1 : Int32) (a2 : Int32) (K : Int32 → AM → Prop) (h : ((a1 < 0 → WP d 265 (28, [(0, .ref a0), (2, .int a2), (3, .int (nI 0)), (4, .int (nI 0)), (5, .int (nI 0))], [], (mm X i j)) (qI K)) ∧ (¬ (a1 < 0) → (((nI 240) ≤ a1 → WP d 265 (28, [(0, .ref a0), (2, .int a2), (3, .int (nI 0)), (4, .int (nI 0)), (5, .int (nI 0))], [], (mm X i j)) (qI K)) ∧ (¬ ((nI 240) ≤ a1) → (vp_in a1 240) ∧ WP d 265 (28, [(0, .ref a0), (2, .int a2), (3, .int (i (xr X a0 7) ((a1).toNatClampNeg))), (4, .int (nI 0)), (5, .int (nI 0))], [], (mm X i j)) (qI K)))))) : WI d 265 [.ref a0, .int a1, .int a2] (mm X i j) K := te_265 d a0 a1 a2 (mm X i j) (qI K) ⟨fun e1 => (tc_265_22 d a0 a2 (nI 0) (mm X i j) _ (h.1 (e1))), fun e1 => ⟨fun e2 => (tc_265_22 d a0 a2 (nI 0) (mm X i j) _ ((h.2 (e1)).1 (e2))), fun e2 => ⟨h0.1, ⟨⟨h0.2.2.2.1, (vin_of h0.2.2.2.2 ((h.2 (e1)).2 (e2)).1)⟩, (tc_265_22 d a0 a2 (i (xr X a0 7) ((a1).toNatClampNeg)) (mm X i j) _ ((h.2 (e1)).2 (e2)).2)⟩⟩⟩⟩
set_option maxRecDepth 100000 in
theorem s_265_28 (d : Nat) (X : XS) (i : Nat → Nat → Int32) (j : Nat → Nat → Int64) (v0 : Nat) (h0 : GO X v0) (v2 : Int32) (v3 : Int32) (v4 : Int32) (v5 : Int32) (Q : Option (Option Value) → AM → Prop) (h : (((i v0 5) ≤ v5 → Q (some (some (.int v4))) (mm X i j)) ∧ (¬ ((i v0 5) ≤ v5) → (vp_in v5 8) ∧ ((v3 < ((i (xr X v0 4) ((v5).toNatClampNeg)) + v2) → WP d 265 (28, [(0, .ref v0), (2, .int v2), (3, .int v3), (4, .int v4), (5, .int (v5 + (nI 1)))], [], (mm X i j)) Q) ∧ (¬ (v3 < ((i (xr X v0 4) ((v5).toNatClampNeg)) + v2)) → WP d 265 (28, [(0, .ref v0), (2, .int v2), (3, .int v3), (4, .int (v4 + (nI 1))), (5, .int (v5 + (nI 1)))], [], (mm X i j)) Q))))) : WP d 265 (28, [(0, .ref v0), (2, .int v2), (3, .int v3), (4, .int v4), (5, .int v5)], [], mm X i j) Q := tc_265_28 d v0 v2 v3 v4 v5 (mm X i j) Q ⟨h0.1, ⟨fun e3 => (h.1 (e3)), fun e3 => ⟨h0.1, ⟨⟨h0.2.1.1, (vin_of h0.2.1.2 (h.2 (e3)).1)⟩, ⟨fun e4 => ((h.2 (e3)).2.1 (e4)), fun e4 => ((h.2 (e3)).2.2 (e4))⟩⟩⟩⟩⟩
theorem c_265 (d : Nat) (X : XS) (i : Nat → Nat → Int32) (j : Nat → Nat → Int64) (g : Nat) (hg : GO X g) {mc : Nat} (hm : mc ≤ 8) (e : i g 5 = nI mc) (t : Nat) (ht : t < 240) (sh : Int32) : EvI d 265 [.ref g, .int (nI t), .int sh] (mm X i j) (nI (ct (fun q => i (xr X g 4) q + sh ≤ i (xr X g 7) t) mc)) (mm X i j) := by
  refine s_265 d X i j g hg (nI t) sh _ (br_f (nI_pos (by omega)) (br_f (nI_ge ht (by decide)) ⟨vp_in_nI ht (by decide), ?_⟩))
  rw [tc_nI (by omega)]
  refine lup mc (fun q (s : Int32) => s = nI (ct (fun q => i (xr X g 4) q + sh ≤ i (xr X g 7) t) q)) (fun q s => (28, [(0, .ref g), (2, .int sh), (3, .int (i (xr X g 7) t)), (4, .int s), (5, .int (nI q))], [], mm X i j)) ?_ ?_ 0 _ (Nat.zero_le _) rfl
  · intro s hs
    refine s_265_28 d X i j g hg _ _ _ _ _ (br_t (by rw [e]; exact Int32.le_refl _) ?_)
    exact qI_of ⟨hs, rfl⟩
  · intro q s hq hs st
    refine s_265_28 d X i j g hg _ _ _ _ _ (br_f (by rw [e]; exact nI_ge hq (by omega)) ⟨vp_in_nI (by omega) (by decide), ?_⟩)
    rw [tc_nI (by omega), hs]
    refine br_c (fun z => ?_) (fun z => ?_)
    · rw [nI_add]
      exact st _ (by rw [ct_f (fun w => absurd w (Int32.not_le.mpr z))])
    · rw [nI_add, nI_add]
      exact st _ (by rw [ct_t (Int32.not_lt.mp z)])
set_option maxRecDepth 100000 in
theorem s_1564 (d : Nat) (X : XS) (i : Nat → Nat → Int32) (j : Nat → Nat → Int64) (a1 : Int32) (a2 : Int32) (a3 : Int32) (K : Int32 → AM → Prop) (h : WP d 1564 (6, [(0, .ref 42), (1, .int a1), (2, .int a2), (3, .int a3), (4, .int (nI 0)), (5, .int (nI 0))], [], (mm X i j)) (qI K)) : WI d 1564 [.ref 42, .int a1, .int a2, .int a3] (mm X i j) K := te_1564 d 42 a1 a2 a3 (mm X i j) (qI K) h
set_option maxRecDepth 100000 in
theorem s_1564_6 (d : Nat) (X : XS) (i : Nat → Nat → Int32) (j : Nat → Nat → Int64) (v1 : Int32) (v2 : Int32) (v3 : Int32) (v4 : Int32) (v5 : Int32) (Q : Option (Option Value) → AM → Prop) (h : (vp_in v1 4) ∧ (((i 53 ((v1).toNatClampNeg)) ≤ v5 → Q (some (some (.int v4))) (mm X i j)) ∧ (¬ ((i 53 ((v1).toNatClampNeg)) ≤ v5) → (vp_in (((nI 8) * v1) + v5) 32) ∧ ((v2 < ((i 52 ((((nI 8) * v1) + v5).toNatClampNeg)) + v3) → WP d 1564 (6, [(0, .ref 42), (1, .int v1), (2, .int v2), (3, .int v3), (4, .int (v4 + (nI 0))), (5, .int (v5 + (nI 1)))], [], (mm X i j)) Q) ∧ (¬ (v2 < ((i 52 ((((nI 8) * v1) + v5).toNatClampNeg)) + v3)) → WP d 1564 (6, [(0, .ref 42), (1, .int v1), (2, .int v2), (3, .int v3), (4, .int (v4 + (nI 1))), (5, .int (v5 + (nI 1)))], [], (mm X i j)) Q))))) : WP d 1564 (6, [(0, .ref 42), (1, .int v1), (2, .int v2), (3, .int v3), (4, .int v4), (5, .int v5)], [], mm X i j) Q := tc_1564_6 d 42 v1 v2 v3 v4 v5 (mm X i j) Q ⟨rfl, ⟨⟨rfl, h.1⟩, ⟨fun e1 => (h.2.1 (e1)), fun e1 => ⟨rfl, ⟨⟨rfl, (h.2.2 (e1)).1⟩, ⟨fun e2 => ((h.2.2 (e1)).2.1 (e2)), fun e2 => ((h.2.2 (e1)).2.2 (e2))⟩⟩⟩⟩⟩⟩
theorem c_1564 (d : Nat) (X : XS) (i : Nat → Nat → Int32) (j : Nat → Nat → Int64) {g mc : Nat} (hg : g < 4) (hm : mc ≤ 8) (e : i 53 g = nI mc) (v sh : Int32) : EvI d 1564 [.ref 42, .int (nI g), .int v, .int sh] (mm X i j) (nI (ct (fun q => i 52 (8 * g + q) + sh ≤ v) mc)) (mm X i j) := by
  refine s_1564 d X i j (nI g) v sh _ ?_
  refine lup mc (fun q (s : Int32) => s = nI (ct (fun q => i 52 (8 * g + q) + sh ≤ v) q)) (fun q s => (6, [(0, .ref 42), (1, .int (nI g)), (2, .int v), (3, .int sh), (4, .int s), (5, .int (nI q))], [], mm X i j)) ?_ ?_ 0 _ (Nat.zero_le _) rfl
  · intro s hs
    refine s_1564_6 d X i j _ _ _ _ _ _ ⟨vp_in_nI (by omega) (by decide), ?_⟩
    rw [tc_nI (by omega), e]
    exact br_t (Int32.le_refl _) (qI_of ⟨hs, rfl⟩)
  · intro q s hq hs st
    refine s_1564_6 d X i j _ _ _ _ _ _ ⟨vp_in_nI (by omega) (by decide), ?_⟩
    rw [tc_nI (by omega), e, pk_mul, nI_add (8 * g) q, tc_nI (by omega), hs]
    refine br_f (nI_ge hq (by omega)) ⟨vp_in_nI (by omega) (by decide), br_c (fun z => ?_) (fun z => ?_)⟩
    · rw [nI_add, nI_add]
      exact st _ (by rw [ct_f (fun w => absurd w (Int32.not_le.mpr z))]; rfl)
    · rw [nI_add, nI_add]
      exact st _ (by rw [ct_t (Int32.not_lt.mp z)])
