/-! ===== days ===== -/
theorem e_f {P : Prop} (h : ¬ P) : nI 0 = bi P := (bi_f h).symm
theorem e_t {P : Prop} (h : P) : nI 1 = bi P := (bi_t h).symm
theorem tc_nI {n : Nat} (h : n < 2 ^ 31) : (nI n).toNatClampNeg = n := nI_clamp h
noncomputable def dyv (s : Int32) (f : Nat → Int32) (x : Int32) : Int32 := @ite _ (x < 0 ∨ s ≤ x) (Classical.propDecidable _) 0 (f x.toNatClampNeg)
set_option maxRecDepth 100000 in
theorem s_133 (d : Nat) (X : XS) (i : Nat → Nat → Int32) (j : Nat → Nat → Int64) (a0 : Nat) (h0 : DO X a0) (a1 : Int32) (K : Int32 → AM → Prop) (h : ((a1 < 0 → K (nI 0) (mm X i j)) ∧ (¬ (a1 < 0) → (((i a0 3) ≤ a1 → K (nI 0) (mm X i j)) ∧ (¬ ((i a0 3) ≤ a1) → (vp_in a1 240) ∧ K (i (xr X a0 0) ((a1).toNatClampNeg)) (mm X i j)))))) : WI d 133 [.ref a0, .int a1] (mm X i j) K := te_133 d a0 a1 (mm X i j) (qI K) ⟨fun e1 => ⟨_, rfl, (h.1 (e1))⟩, fun e1 => ⟨h0.1, ⟨fun e2 => ⟨_, rfl, ((h.2 (e1)).1 (e2))⟩, fun e2 => ⟨h0.1, ⟨⟨h0.2.1.1, (vin_of h0.2.1.2 ((h.2 (e1)).2 (e2)).1)⟩, ⟨_, rfl, ((h.2 (e1)).2 (e2)).2⟩⟩⟩⟩⟩⟩
set_option maxRecDepth 100000 in
theorem s_134 (d : Nat) (X : XS) (i : Nat → Nat → Int32) (j : Nat → Nat → Int64) (a0 : Nat) (h0 : DO X a0) (a1 : Int32) (K : Int32 → AM → Prop) (h : ((a1 < 0 → K (nI 0) (mm X i j)) ∧ (¬ (a1 < 0) → (((i a0 3) ≤ a1 → K (nI 0) (mm X i j)) ∧ (¬ ((i a0 3) ≤ a1) → (vp_in a1 240) ∧ K (i (xr X a0 1) ((a1).toNatClampNeg)) (mm X i j)))))) : WI d 134 [.ref a0, .int a1] (mm X i j) K := te_134 d a0 a1 (mm X i j) (qI K) ⟨fun e1 => ⟨_, rfl, (h.1 (e1))⟩, fun e1 => ⟨h0.1, ⟨fun e2 => ⟨_, rfl, ((h.2 (e1)).1 (e2))⟩, fun e2 => ⟨h0.1, ⟨⟨h0.2.2.1.1, (vin_of h0.2.2.1.2 ((h.2 (e1)).2 (e2)).1)⟩, ⟨_, rfl, ((h.2 (e1)).2 (e2)).2⟩⟩⟩⟩⟩⟩
set_option maxRecDepth 100000 in
theorem s_135 (d : Nat) (X : XS) (i : Nat → Nat → Int32) (j : Nat → Nat → Int64) (a0 : Nat) (h0 : DO X a0) (a1 : Int32) (K : Int32 → AM → Prop) (h : ((a1 < 0 → K (nI 0) (mm X i j)) ∧ (¬ (a1 < 0) → (((i a0 3) ≤ a1 → K (nI 0) (mm X i j)) ∧ (¬ ((i a0 3) ≤ a1) → (vp_in a1 240) ∧ K (i (xr X a0 2) ((a1).toNatClampNeg)) (mm X i j)))))) : WI d 135 [.ref a0, .int a1] (mm X i j) K := te_135 d a0 a1 (mm X i j) (qI K) ⟨fun e1 => ⟨_, rfl, (h.1 (e1))⟩, fun e1 => ⟨h0.1, ⟨fun e2 => ⟨_, rfl, ((h.2 (e1)).1 (e2))⟩, fun e2 => ⟨h0.1, ⟨⟨h0.2.2.2.1, (vin_of h0.2.2.2.2 ((h.2 (e1)).2 (e2)).1)⟩, ⟨_, rfl, ((h.2 (e1)).2 (e2)).2⟩⟩⟩⟩⟩⟩
theorem vin_lt {x s : Int32} {N : Nat} (hN : N < 2 ^ 31) (h0 : ¬ x < 0) (h1 : x < s) (h2 : s ≤ nI N) : vp_in x N := by
  rw [vp_in_iff]
  rw [Int32.lt_iff_toInt_lt] at h0 h1
  rw [Int32.le_iff_toInt_le, nI_toInt hN] at h2
  have : (0 : Int32).toInt = 0 := rfl
  omega
theorem p_133 (d : Nat) (X : XS) (i : Nat → Nat → Int32) (j : Nat → Nat → Int64) (a0 : Nat) (h0 : DO X a0) (a1 : Int32) (K : Int32 → AM → Prop) (h : i a0 3 ≤ nI 240 ∧ K (dyv (i a0 3) (i (xr X a0 0)) a1) (mm X i j)) : WI d 133 [.ref a0, .int a1] (mm X i j) K := by
  refine s_133 d X i j a0 h0 a1 K ⟨fun z => ?_, fun z => ⟨fun z2 => ?_, fun z2 => ⟨vin_lt (by decide) z (Int32.not_le.mp z2) h.1, ?_⟩⟩⟩
  · have := h.2; rw [dyv, if_pos (Or.inl z)] at this; exact this
  · have := h.2; rw [dyv, if_pos (Or.inr z2)] at this; exact this
  · have := h.2; rw [dyv, if_neg (fun q => q.elim z z2)] at this; exact this
theorem p_134 (d : Nat) (X : XS) (i : Nat → Nat → Int32) (j : Nat → Nat → Int64) (a0 : Nat) (h0 : DO X a0) (a1 : Int32) (K : Int32 → AM → Prop) (h : i a0 3 ≤ nI 240 ∧ K (dyv (i a0 3) (i (xr X a0 1)) a1) (mm X i j)) : WI d 134 [.ref a0, .int a1] (mm X i j) K := by
  refine s_134 d X i j a0 h0 a1 K ⟨fun z => ?_, fun z => ⟨fun z2 => ?_, fun z2 => ⟨vin_lt (by decide) z (Int32.not_le.mp z2) h.1, ?_⟩⟩⟩
  · have := h.2; rw [dyv, if_pos (Or.inl z)] at this; exact this
  · have := h.2; rw [dyv, if_pos (Or.inr z2)] at this; exact this
  · have := h.2; rw [dyv, if_neg (fun q => q.elim z z2)] at this; exact this
theorem p_135 (d : Nat) (X : XS) (i : Nat → Nat → Int32) (j : Nat → Nat → Int64) (a0 : Nat) (h0 : DO X a0) (a1 : Int32) (K : Int32 → AM → Prop) (h : i a0 3 ≤ nI 240 ∧ K (dyv (i a0 3) (i (xr X a0 2)) a1) (mm X i j)) : WI d 135 [.ref a0, .int a1] (mm X i j) K := by
  refine s_135 d X i j a0 h0 a1 K ⟨fun z => ?_, fun z => ⟨fun z2 => ?_, fun z2 => ⟨vin_lt (by decide) z (Int32.not_le.mp z2) h.1, ?_⟩⟩⟩
  · have := h.2; rw [dyv, if_pos (Or.inl z)] at this; exact this
  · have := h.2; rw [dyv, if_pos (Or.inr z2)] at this; exact this
  · have := h.2; rw [dyv, if_neg (fun q => q.elim z z2)] at this; exact this
/-- n days, of weather w, air a and sky k, stand in the Days o -/
def DY (X : XS) (o : Nat) (i : Nat → Nat → Int32) (n : Nat) (w a k : Nat → Int32) : Prop := (i o 3 = nI n ∧ n ≤ 240) ∧ ∀ t, t < n → i (xr X o 0) t = w t ∧ i (xr X o 1) t = a t ∧ i (xr X o 2) t = k t
def wv (n : Nat) (w : Nat → Int32) (t : Nat) : Int32 := if t < n then w t else 0
theorem wv_in {n : Nat} {w : Nat → Int32} {t : Nat} (h : t < n) : wv n w t = w t := by rw [wv, if_pos h]
theorem dyv_nI {s : Int32} {f : Nat → Int32} {n t : Nat} (hs : s = nI n) (hn : n < 2 ^ 31) (ht : t < 2 ^ 31) : dyv s f (nI t) = wv n f t := by
  unfold dyv wv
  by_cases h : t < n
  · rw [if_neg, if_pos h, tc_nI ht]
    rintro (z | z)
    · exact nI_pos ht z
    · rw [hs, nI_leI hn ht] at z; omega
  · rw [if_pos, if_neg h]
    right; rw [hs, nI_leI hn ht]; omega
theorem wv_cg {n : Nat} {f g : Nat → Int32} (h : ∀ t, t < n → f t = g t) (t : Nat) : wv n f t = wv n g t := by
  unfold wv
  split
  · rename_i q; exact h t q
  · rfl
section DYs
variable {X : XS} {o : Nat} {i : Nat → Nat → Int32} {n : Nat} {w a k : Nat → Int32}
theorem DY.ok (h : DY X o i n w a k) : i o 3 ≤ nI 240 := by rw [h.1.1]; exact nI_le h.1.2 (by decide)
theorem DY.dw (h : DY X o i n w a k) {t : Nat} (ht : t < 2 ^ 31) : dyv (i o 3) (i (xr X o 0)) (nI t) = wv n w t := (dyv_nI h.1.1 (by have := h.1.2; omega) ht).trans (wv_cg (fun t z => (h.2 t z).1) t)
theorem DY.da (h : DY X o i n w a k) {t : Nat} (ht : t < 2 ^ 31) : dyv (i o 3) (i (xr X o 1)) (nI t) = wv n a t := (dyv_nI h.1.1 (by have := h.1.2; omega) ht).trans (wv_cg (fun t z => (h.2 t z).2.1) t)
theorem DY.dk (h : DY X o i n w a k) {t : Nat} (ht : t < 2 ^ 31) : dyv (i o 3) (i (xr X o 2)) (nI t) = wv n k t := (dyv_nI h.1.1 (by have := h.1.2; omega) ht).trans (wv_cg (fun t z => (h.2 t z).2.2) t)
theorem DY.kp (h : DY X o i n w a k) {i' : Nat → Nat → Int32} (e : i' o = i o) (e0 : i' (xr X o 0) = i (xr X o 0)) (e1 : i' (xr X o 1) = i (xr X o 1)) (e2 : i' (xr X o 2) = i (xr X o 2)) : DY X o i' n w a k := by
  unfold DY at h ⊢
  rw [e, e0, e1, e2]; exact h
end DYs
/-- weather c or worse comes on one of the q days behind t -/
def cmP (n : Nat) (w : Nat → Int32) (c : Int32) (t q : Nat) : Prop := ∃ m, 1 ≤ m ∧ m ≤ q ∧ c ≤ wv n w (t + m)
set_option maxRecDepth 100000 in
theorem s_137 (d : Nat) (X : XS) (i : Nat → Nat → Int32) (j : Nat → Nat → Int64) (a0 : Nat) (h0 : DO X a0) (a1 : Int32) (a2 : Int32) (a3 : Int32) (K : Int32 → AM → Prop) (h : WP (d + 1) 137 (3, [(0, .ref a0), (1, .int a1), (2, .int a2), (3, .int a3), (4, .int (nI 1))], [], (mm X i j)) (qI K)) : WI (d + 1) 137 [.ref a0, .int a1, .int a2, .int a3] (mm X i j) K := te_137 d a0 a1 a2 a3 (mm X i j) (qI K) h
set_option maxRecDepth 100000 in
theorem s_137_3 (d : Nat) (X : XS) (i : Nat → Nat → Int32) (j : Nat → Nat → Int64) (v0 : Nat) (h0 : DO X v0) (v1 : Int32) (v2 : Int32) (v3 : Int32) (v4 : Int32) (Q : Option (Option Value) → AM → Prop) (h : ((v3 < v4 → Q (some (some (.int (nI 0)))) (mm X i j)) ∧ (¬ (v3 < v4) → ((i v0 3) ≤ (nI 240)) ∧ (((dyv (i v0 3) (i (xr X v0 0)) (v1 + v4)) < v2 → WP (d + 1) 137 (3, [(0, .ref v0), (1, .int v1), (2, .int v2), (3, .int v3), (4, .int (v4 + (nI 1)))], [], (mm X i j)) Q) ∧ (¬ ((dyv (i v0 3) (i (xr X v0 0)) (v1 + v4)) < v2) → Q (some (some (.int (nI 1)))) (mm X i j)))))) : WP (d + 1) 137 (3, [(0, .ref v0), (1, .int v1), (2, .int v2), (3, .int v3), (4, .int v4)], [], mm X i j) Q := tc_137_3 d v0 v1 v2 v3 v4 (mm X i j) Q ⟨fun e1 => ⟨k0_01, (h.1 (e1))⟩, fun e1 => ⟨h0.1, (p_133 d X i j v0 h0 (v1 + v4) _ ⟨(h.2 (e1)).1, ⟨fun e2 => ((h.2 (e1)).2.1 (e2)), fun e2 => ⟨k1_01, ((h.2 (e1)).2.2 (e2))⟩⟩⟩)⟩⟩
theorem c_137 (d : Nat) (X : XS) (i : Nat → Nat → Int32) (j : Nat → Nat → Int64) (o : Nat) (ho : DO X o) {n : Nat} {w a k : Nat → Int32} (hD : DY X o i n w a k) (t q : Nat) (c : Int32) (hq : t + q < 2 ^ 30) : EvI (d + 1) 137 [.ref o, .int (nI t), .int c, .int (nI q)] (mm X i j) (bi (cmP n w c t q)) (mm X i j) := by
  refine s_137 d X i j o ho (nI t) c (nI q) _ ?_
  refine lup q (fun e (_ : Unit) => ∀ m, 1 ≤ m → m ≤ e → ¬ c ≤ wv n w (t + m)) (fun e _ => (3, [(0, .ref o), (1, .int (nI t)), (2, .int c), (3, .int (nI q)), (4, .int (nI (e + 1)))], [], mm X i j)) ?_ ?_ 0 () (Nat.zero_le _) (fun m h1 h2 => absurd h1 (by omega))
  · intro _ hJ
    refine s_137_3 d X i j o ho _ _ _ _ _ (br_t (nI_lt (by omega) (by omega)) ?_)
    exact qI_of ⟨e_f fun ⟨m, h1, h2, h3⟩ => hJ m h1 h2 h3, rfl⟩
  · intro e _ he hJ st
    refine s_137_3 d X i j o ho _ _ _ _ _ (br_f (nI_nlt (by omega) (by omega)) ⟨hD.ok, ?_⟩)
    rw [nI_add, hD.dw (by omega)]
    constructor
    · intro hc
      rw [nI_add]
      refine st () fun m h1 h2 => ?_
      by_cases hm : m = e + 1
      · subst hm; exact Int32.not_le.mpr hc
      · exact hJ m h1 (by omega)
    · intro hc
      exact qI_of ⟨e_t ⟨e + 1, by omega, by omega, Int32.not_lt.mp hc⟩, rfl⟩
/-- how many of the q days behind t are of weather 0, up to the first that is not -/
def frd (f : Nat → Int32) (t : Nat) : Nat → Nat
  | 0 => 0
  | q + 1 => if frd f t q = q ∧ f (t + q + 1) = 0 then q + 1 else frd f t q
theorem frd_le (f : Nat → Int32) (t : Nat) : ∀ q, frd f t q ≤ q
  | 0 => Nat.le_refl _
  | q + 1 => by
    have := frd_le f t q
    unfold frd
    split <;> omega
theorem frd_stop {f : Nat → Int32} {t e : Nat} (h : frd f t e = e) (h2 : ¬ f (t + e + 1) = 0) : ∀ q, e ≤ q → frd f t q = e := by
  intro q hq
  induction q with
  | zero => have : e = 0 := by omega
            subst this; rfl
  | succ q ih =>
    by_cases he : e = q + 1
    · subst he; exact h
    · have := ih (by omega)
      unfold frd
      rw [this]
      rw [if_neg]
      rintro ⟨z1, z2⟩
      subst z1; exact h2 z2
set_option maxRecDepth 100000 in
theorem s_138 (d : Nat) (X : XS) (i : Nat → Nat → Int32) (j : Nat → Nat → Int64) (a0 : Nat) (h0 : DO X a0) (a1 : Int32) (a2 : Int32) (K : Int32 → AM → Prop) (h : WP (d + 1) 138 (2, [(0, .ref a0), (1, .int a1), (2, .int a2), (3, .int (nI 0))], [], (mm X i j)) (qI K)) : WI (d + 1) 138 [.ref a0, .int a1, .int a2] (mm X i j) K := te_138 d a0 a1 a2 (mm X i j) (qI K) h
set_option maxRecDepth 100000 in
theorem s_138_2 (d : Nat) (X : XS) (i : Nat → Nat → Int32) (j : Nat → Nat → Int64) (v0 : Nat) (h0 : DO X v0) (v1 : Int32) (v2 : Int32) (v3 : Int32) (Q : Option (Option Value) → AM → Prop) (h : ((v2 ≤ v3 → Q (some (some (.int v3))) (mm X i j)) ∧ (¬ (v2 ≤ v3) → ((i v0 3) ≤ (nI 240)) ∧ ((¬ ((dyv (i v0 3) (i (xr X v0 0)) ((v1 + v3) + (nI 1))) = 0) → Q (some (some (.int v3))) (mm X i j)) ∧ ((dyv (i v0 3) (i (xr X v0 0)) ((v1 + v3) + (nI 1))) = 0 → WP (d + 1) 138 (2, [(0, .ref v0), (1, .int v1), (2, .int v2), (3, .int (v3 + (nI 1)))], [], (mm X i j)) Q))))) : WP (d + 1) 138 (2, [(0, .ref v0), (1, .int v1), (2, .int v2), (3, .int v3)], [], mm X i j) Q := tc_138_2 d v0 v1 v2 v3 (mm X i j) Q ⟨fun e1 => (h.1 (e1)), fun e1 => ⟨h0.1, (p_133 d X i j v0 h0 ((v1 + v3) + (nI 1)) _ ⟨(h.2 (e1)).1, ⟨fun e2 => ((h.2 (e1)).2.1 (e2)), fun e2 => ((h.2 (e1)).2.2 ((Classical.byContradiction e2)))⟩⟩)⟩⟩
theorem c_138 (d : Nat) (X : XS) (i : Nat → Nat → Int32) (j : Nat → Nat → Int64) (o : Nat) (ho : DO X o) {n : Nat} {w a k : Nat → Int32} (hD : DY X o i n w a k) (t q : Nat) (hq : t + q < 2 ^ 30) : EvI (d + 1) 138 [.ref o, .int (nI t), .int (nI q)] (mm X i j) (nI (frd (wv n w) t q)) (mm X i j) := by
  refine s_138 d X i j o ho (nI t) (nI q) _ ?_
  refine lup q (fun e (_ : Unit) => frd (wv n w) t e = e) (fun e _ => (2, [(0, .ref o), (1, .int (nI t)), (2, .int (nI q)), (3, .int (nI e))], [], mm X i j)) ?_ ?_ 0 () (Nat.zero_le _) rfl
  · intro _ hJ
    refine s_138_2 d X i j o ho _ _ _ _ (br_t (nI_le (by omega) (by omega)) ?_)
    exact qI_of ⟨by rw [hJ], rfl⟩
  · intro e _ he hJ st
    refine s_138_2 d X i j o ho _ _ _ _ (br_f (nI_ge (by omega) (by omega)) ⟨hD.ok, ?_⟩)
    rw [nI_add, nI_add, hD.dw (by omega)]
    constructor
    · intro hc
      refine qI_of ⟨?_, rfl⟩
      rw [frd_stop hJ hc q (by omega)]
    · intro hc
      rw [nI_add]
      refine st () ?_
      unfold frd
      rw [if_pos ⟨hJ, hc⟩]
set_option maxRecDepth 100000 in
theorem s_1623 (d : Nat) (X : XS) (i : Nat → Nat → Int32) (j : Nat → Nat → Int64) (a1 : Int32) (a2 : Int32) (K : Int32 → AM → Prop) (h : WP d 1623 (2, [(0, .ref 42), (1, .int a1), (2, .int a2), (3, .int (nI 1))], [], (mm X i j)) (qI K)) : WI d 1623 [.ref 42, .int a1, .int a2] (mm X i j) K := te_1623 d 42 a1 a2 (mm X i j) (qI K) h
set_option maxRecDepth 100000 in
theorem s_1623_2 (d : Nat) (X : XS) (i : Nat → Nat → Int32) (j : Nat → Nat → Int64) (v1 : Int32) (v2 : Int32) (v3 : Int32) (Q : Option (Option Value) → AM → Prop) (h : ((v2 < v3 → Q (some (some (.int (kI (-1))))) (mm X i j)) ∧ (¬ (v2 < v3) → (vp_in (v1 + v3) 240) ∧ (((i 43 ((v1 + v3).toNatClampNeg)) = 0 → WP d 1623 (2, [(0, .ref 42), (1, .int v1), (2, .int v2), (3, .int (v3 + (nI 1)))], [], (mm X i j)) Q) ∧ (¬ ((i 43 ((v1 + v3).toNatClampNeg)) = 0) → Q (some (some (.int (v1 + v3)))) (mm X i j)))))) : WP d 1623 (2, [(0, .ref 42), (1, .int v1), (2, .int v2), (3, .int v3)], [], mm X i j) Q := tc_1623_2 d 42 v1 v2 v3 (mm X i j) Q ⟨fun e1 => (h.1 (e1)), fun e1 => ⟨rfl, ⟨⟨rfl, (h.2 (e1)).1⟩, ⟨fun e2 => ((h.2 (e1)).2.1 (e2)), fun e2 => ((h.2 (e1)).2.2 (e2))⟩⟩⟩⟩
theorem c_1623 (d : Nat) (X : XS) (i : Nat → Nat → Int32) (j : Nat → Nat → Int64) {n : Nat} {w : Nat → Int32} (hn : n ≤ 240) (hw : ∀ t, t < n → i 43 t = w t) (t q : Nat) (hq : t + q < n) : EvI d 1623 [.ref 42, .int (nI t), .int (nI q)] (mm X i j) (if frd (wv n w) t q = q then kI (-1) else nI (t + frd (wv n w) t q + 1)) (mm X i j) := by
  refine s_1623 d X i j (nI t) (nI q) _ ?_
  refine lup q (fun e (_ : Unit) => frd (wv n w) t e = e) (fun e _ => (2, [(0, .ref 42), (1, .int (nI t)), (2, .int (nI q)), (3, .int (nI (e + 1)))], [], mm X i j)) ?_ ?_ 0 () (Nat.zero_le _) rfl
  · intro _ hJ
    refine s_1623_2 d X i j _ _ _ _ (br_t (nI_lt (by omega) (by omega)) ?_)
    exact qI_of ⟨by rw [if_pos hJ], rfl⟩
  · intro e _ he hJ st
    refine s_1623_2 d X i j _ _ _ _ (br_f (nI_nlt (by omega) (by omega)) ?_)
    rw [nI_add, tc_nI (by omega), hw _ (by omega)]
    refine ⟨vp_in_nI (by omega) (by omega), ?_, ?_⟩
    · intro hc
      rw [nI_add]
      refine st () ?_
      unfold frd
      rw [if_pos ⟨hJ, by rw [wv_in (by omega)]; exact hc⟩]
    · intro hc
      refine qI_of ⟨?_, rfl⟩
      rw [frd_stop hJ (by rw [wv_in (by omega)]; exact hc) q (by omega), if_neg (by omega)]
      rfl
