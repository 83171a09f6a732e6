/-! ===== in how many ways: lot ===== -/
def bn : Nat → Nat → Nat
  | _, 0 => 1
  | 0, _ + 1 => 0
  | n + 1, k + 1 => bn n k + bn n (k + 1)
theorem bn_0 (n : Nat) : bn n 0 = 1 := by cases n <;> rfl
theorem bn_s (n k : Nat) : bn (n + 1) (k + 1) = bn n k + bn n (k + 1) := rfl
theorem bn_mul : ∀ n k, (k + 1) * bn (n + 1) (k + 1) = (n + 1) * bn n k
  | 0, 0 => rfl
  | 0, k + 1 => by rw [bn_s]; show (k + 2) * (0 + 0) = 1 * 0; omega
  | n + 1, 0 => by
    have h := bn_mul n 0
    rw [bn_0] at h
    rw [bn_s, bn_0]
    omega
  | n + 1, k + 1 => by
    have h1 := bn_mul n (k + 1)
    have h2 := bn_mul n k
    rw [bn_s (n + 1) (k + 1)]
    have e : bn (n + 1) (k + 1) = bn n k + bn n (k + 1) := rfl
    rw [e] at h2 ⊢
    generalize bn (n + 1) (k + 1 + 1) = z at h1 ⊢
    generalize bn n k = x at *
    generalize bn n (k + 1) = y at *
    simp only [Nat.mul_add, Nat.add_mul] at *
    omega
theorem bn_up (n k : Nat) : (k + 1) * bn n (k + 1) = (n - k) * bn n k ∨ n < k := by
  by_cases h : n < k
  · exact Or.inr h
  left
  have h1 := bn_mul n k
  rw [bn_s] at h1
  obtain ⟨m, rfl⟩ : ∃ m, n = k + m := ⟨n - k, by omega⟩
  rw [show k + m - k = m by omega]
  generalize bn (k + m) k = x at *
  generalize bn (k + m) (k + 1) = y at *
  simp only [Nat.mul_add, Nat.add_mul] at *
  omega
theorem bn_m1 (n k : Nat) : bn n k ≤ bn (n + 1) k := by
  cases k with
  | zero => rw [bn_0, bn_0]; exact Nat.le_refl _
  | succ k => rw [bn_s]; omega
theorem bn_mo (k : Nat) {n m : Nat} (h : n ≤ m) : bn n k ≤ bn m k := by
  induction m with
  | zero => have : n = 0 := by omega
            subst this; exact Nat.le_refl _
  | succ m ih =>
    by_cases q : n = m + 1
    · subst q; exact Nat.le_refl _
    · exact Nat.le_trans (ih (by omega)) (bn_m1 m k)
theorem bn_pos : ∀ {n k : Nat}, k ≤ n → 0 < bn n k
  | _, 0, _ => by rw [bn_0]; decide
  | n + 1, k + 1, h => by rw [bn_s]; have := bn_pos (n := n) (k := k) (by omega); omega
theorem b59_0 : bn 59 0 = 1 := bn_0 59
theorem b59_1 : bn 59 1 = 59 := by
  have h : 1 * bn 59 1 = 59 * bn 59 0 := (bn_up 59 0).resolve_right (by decide)
  rw [b59_0] at h
  omega
theorem b59_2 : bn 59 2 = 1711 := by
  have h : 2 * bn 59 2 = 58 * bn 59 1 := (bn_up 59 1).resolve_right (by decide)
  rw [b59_1] at h
  omega
theorem b59_3 : bn 59 3 = 32509 := by
  have h : 3 * bn 59 3 = 57 * bn 59 2 := (bn_up 59 2).resolve_right (by decide)
  rw [b59_2] at h
  omega
theorem b59_4 : bn 59 4 = 455126 := by
  have h : 4 * bn 59 4 = 56 * bn 59 3 := (bn_up 59 3).resolve_right (by decide)
  rw [b59_3] at h
  omega
theorem b59_5 : bn 59 5 = 5006386 := by
  have h : 5 * bn 59 5 = 55 * bn 59 4 := (bn_up 59 4).resolve_right (by decide)
  rw [b59_4] at h
  omega
theorem b59_6 : bn 59 6 = 45057474 := by
  have h : 6 * bn 59 6 = 54 * bn 59 5 := (bn_up 59 5).resolve_right (by decide)
  rw [b59_5] at h
  omega
theorem b59_7 : bn 59 7 = 341149446 := by
  have h : 7 * bn 59 7 = 53 * bn 59 6 := (bn_up 59 6).resolve_right (by decide)
  rw [b59_6] at h
  omega
theorem b59_8 : bn 59 8 = 2217471399 := by
  have h : 8 * bn 59 8 = 52 * bn 59 7 := (bn_up 59 7).resolve_right (by decide)
  rw [b59_7] at h
  omega
theorem b59_9 : bn 59 9 = 12565671261 := by
  have h : 9 * bn 59 9 = 51 * bn 59 8 := (bn_up 59 8).resolve_right (by decide)
  rw [b59_8] at h
  omega
theorem b59_10 : bn 59 10 = 62828356305 := by
  have h : 10 * bn 59 10 = 50 * bn 59 9 := (bn_up 59 9).resolve_right (by decide)
  rw [b59_9] at h
  omega
theorem b59_11 : bn 59 11 = 279871768995 := by
  have h : 11 * bn 59 11 = 49 * bn 59 10 := (bn_up 59 10).resolve_right (by decide)
  rw [b59_10] at h
  omega
theorem b59_12 : bn 59 12 = 1119487075980 := by
  have h : 12 * bn 59 12 = 48 * bn 59 11 := (bn_up 59 11).resolve_right (by decide)
  rw [b59_11] at h
  omega
theorem b59_13 : bn 59 13 = 4047376351620 := by
  have h : 13 * bn 59 13 = 47 * bn 59 12 := (bn_up 59 12).resolve_right (by decide)
  rw [b59_12] at h
  omega
theorem b59_14 : bn 59 14 = 13298522298180 := by
  have h : 14 * bn 59 14 = 46 * bn 59 13 := (bn_up 59 13).resolve_right (by decide)
  rw [b59_13] at h
  omega
theorem b59_15 : bn 59 15 = 39895566894540 := by
  have h : 15 * bn 59 15 = 45 * bn 59 14 := (bn_up 59 14).resolve_right (by decide)
  rw [b59_14] at h
  omega
theorem b59_16 : bn 59 16 = 109712808959985 := by
  have h : 16 * bn 59 16 = 44 * bn 59 15 := (bn_up 59 15).resolve_right (by decide)
  rw [b59_15] at h
  omega
theorem b59_17 : bn 59 17 = 277508869722315 := by
  have h : 17 * bn 59 17 = 43 * bn 59 16 := (bn_up 59 16).resolve_right (by decide)
  rw [b59_16] at h
  omega
theorem b59_18 : bn 59 18 = 647520696018735 := by
  have h : 18 * bn 59 18 = 42 * bn 59 17 := (bn_up 59 17).resolve_right (by decide)
  rw [b59_17] at h
  omega
theorem b59_19 : bn 59 19 = 1397281501935165 := by
  have h : 19 * bn 59 19 = 41 * bn 59 18 := (bn_up 59 18).resolve_right (by decide)
  rw [b59_18] at h
  omega
theorem b59_20 : bn 59 20 = 2794563003870330 := by
  have h : 20 * bn 59 20 = 40 * bn 59 19 := (bn_up 59 19).resolve_right (by decide)
  rw [b59_19] at h
  omega
theorem b59_21 : bn 59 21 = 5189902721473470 := by
  have h : 21 * bn 59 21 = 39 * bn 59 20 := (bn_up 59 20).resolve_right (by decide)
  rw [b59_20] at h
  omega
theorem b59_22 : bn 59 22 = 8964377427999630 := by
  have h : 22 * bn 59 22 = 38 * bn 59 21 := (bn_up 59 21).resolve_right (by decide)
  rw [b59_21] at h
  omega
theorem b59_23 : bn 59 23 = 14420954992868970 := by
  have h : 23 * bn 59 23 = 37 * bn 59 22 := (bn_up 59 22).resolve_right (by decide)
  rw [b59_22] at h
  omega
theorem b59_24 : bn 59 24 = 21631432489303455 := by
  have h : 24 * bn 59 24 = 36 * bn 59 23 := (bn_up 59 23).resolve_right (by decide)
  rw [b59_23] at h
  omega
theorem b59_25 : bn 59 25 = 30284005485024837 := by
  have h : 25 * bn 59 25 = 35 * bn 59 24 := (bn_up 59 24).resolve_right (by decide)
  rw [b59_24] at h
  omega
theorem b59_26 : bn 59 26 = 39602161018878633 := by
  have h : 26 * bn 59 26 = 34 * bn 59 25 := (bn_up 59 25).resolve_right (by decide)
  rw [b59_25] at h
  omega
theorem b59_27 : bn 59 27 = 48402641245296107 := by
  have h : 27 * bn 59 27 = 33 * bn 59 26 := (bn_up 59 26).resolve_right (by decide)
  rw [b59_26] at h
  omega
theorem b59_28 : bn 59 28 = 55317304280338408 := by
  have h : 28 * bn 59 28 = 32 * bn 59 27 := (bn_up 59 27).resolve_right (by decide)
  rw [b59_27] at h
  omega
theorem b59_29 : bn 59 29 = 59132290782430712 := by
  have h : 29 * bn 59 29 = 31 * bn 59 28 := (bn_up 59 28).resolve_right (by decide)
  rw [b59_28] at h
  omega
theorem b59_30 : bn 59 30 = 59132290782430712 := by
  have h : 30 * bn 59 30 = 30 * bn 59 29 := (bn_up 59 29).resolve_right (by decide)
  rw [b59_29] at h
  omega
theorem b59 : ∀ r, r ≤ 30 → bn 59 r ≤ 59132290782430712
  | 0, _ => by rw [b59_0]; decide
  | 1, _ => by rw [b59_1]; decide
  | 2, _ => by rw [b59_2]; decide
  | 3, _ => by rw [b59_3]; decide
  | 4, _ => by rw [b59_4]; decide
  | 5, _ => by rw [b59_5]; decide
  | 6, _ => by rw [b59_6]; decide
  | 7, _ => by rw [b59_7]; decide
  | 8, _ => by rw [b59_8]; decide
  | 9, _ => by rw [b59_9]; decide
  | 10, _ => by rw [b59_10]; decide
  | 11, _ => by rw [b59_11]; decide
  | 12, _ => by rw [b59_12]; decide
  | 13, _ => by rw [b59_13]; decide
  | 14, _ => by rw [b59_14]; decide
  | 15, _ => by rw [b59_15]; decide
  | 16, _ => by rw [b59_16]; decide
  | 17, _ => by rw [b59_17]; decide
  | 18, _ => by rw [b59_18]; decide
  | 19, _ => by rw [b59_19]; decide
  | 20, _ => by rw [b59_20]; decide
  | 21, _ => by rw [b59_21]; decide
  | 22, _ => by rw [b59_22]; decide
  | 23, _ => by rw [b59_23]; decide
  | 24, _ => by rw [b59_24]; decide
  | 25, _ => by rw [b59_25]; decide
  | 26, _ => by rw [b59_26]; decide
  | 27, _ => by rw [b59_27]; decide
  | 28, _ => by rw [b59_28]; decide
  | 29, _ => by rw [b59_29]; decide
  | 30, _ => by rw [b59_30]; decide
  | r + 31, h => absurd h (by omega)
theorem bn_le {n r : Nat} (hn : n ≤ 59) (hr : r ≤ 30) : bn n r ≤ 59132290782430712 := Nat.le_trans (bn_mo r hn) (b59 r hr)
theorem bn_60 {n r : Nat} (hn : n ≤ 60) (hr : r ≤ 30) : bn n r < 2 ^ 60 := by
  by_cases h : n ≤ 59
  · have := bn_le h hr; omega
  · have : n = 60 := by omega
    subst this
    cases r with
    | zero => rw [bn_0]; decide
    | succ r =>
      rw [show (60 : Nat) = 59 + 1 from rfl, bn_s]
      have h1 := bn_le (n := 59) (r := r) (by omega) (by omega)
      have h2 := bn_le (n := 59) (r := r + 1) (by omega) (by omega)
      omega
theorem lN0 {b : Nat} (hb : b < 2 ^ 63) : lN b = 0 ↔ b = 0 := pk_lEQ hb (b := 0) (by decide)
theorem gcf_N : ∀ (n a b : Nat), a < 2 ^ 63 → b < 2 ^ 63 → rz n (lN a) (lN b) → gcf n (lN a) (lN b) = lN (Nat.gcd a b)
  | 0, a, b, ha, hb, h => by
    have e := (lN0 hb).mp h
    subst e
    rw [Nat.gcd_zero_right]; rfl
  | n + 1, a, b, ha, hb, h => by
    unfold gcf
    by_cases e : b = 0
    · subst e
      rw [if_pos (show lN 0 = 0 from rfl), Nat.gcd_zero_right]
    · have h' := h.resolve_left (fun z => e ((lN0 hb).mp z))
      have hr : rmL (lN a) (lN b) = lN (a % b) := pk_lRem ha (by omega) hb
      rw [hr] at h'
      have hm := Nat.mod_lt a (show b > 0 by omega)
      rw [if_neg (fun z => e ((lN0 hb).mp z)), hr, gcf_N n b (a % b) hb (by omega) h', Nat.gcd_comm a b, Nat.gcd_rec b a, Nat.gcd_comm]
theorem gcL_N {a b : Nat} (ha : a < 2 ^ 63) (hb : b < 2 ^ 63) : gcL (lN a) (lN b) = lN (Nat.gcd a b) := gcf_N 130 a b ha hb (rz_all _ _)
theorem ex_div {v m b Q : Nat} (hb : 0 < b) (h : v * m = b * Q) : v / Nat.gcd v b * (m / (b / Nat.gcd v b)) = Q := by
  have hg : 0 < Nat.gcd v b := Nat.gcd_pos_of_pos_right v hb
  have hc := Nat.coprime_div_gcd_div_gcd hg
  obtain ⟨v', hv⟩ := Nat.gcd_dvd_left v b
  obtain ⟨b', hb'⟩ := Nat.gcd_dvd_right v b
  generalize Nat.gcd v b = g at *
  have e1 : v / g = v' := by rw [hv]; exact Nat.mul_div_cancel_left _ hg
  have e2 : b / g = b' := by rw [hb']; exact Nat.mul_div_cancel_left _ hg
  rw [e1, e2] at hc ⊢
  have h2 : v' * m = b' * Q := by
    refine Nat.eq_of_mul_eq_mul_left hg ?_
    rw [← Nat.mul_assoc, ← Nat.mul_assoc, ← hv, ← hb']; exact h
  have b0 : 0 < b' := Nat.pos_of_ne_zero fun e => by rw [e, Nat.mul_zero] at hb'; omega
  obtain ⟨t, ht⟩ : b' ∣ m := Nat.Coprime.dvd_of_dvd_mul_left (Nat.Coprime.symm hc) ⟨Q, h2⟩
  rw [ht, Nat.mul_div_cancel_left _ b0]
  refine Nat.eq_of_mul_eq_mul_left b0 ?_
  rw [← h2, ht, Nat.mul_left_comm]
def chN (n k : Nat) : Nat := if k ≤ n then bn n (min k (n - k)) else 0
theorem chN_60 {n k : Nat} (hn : n ≤ 60) : chN n k < 2 ^ 60 := by
  unfold chN
  split
  · exact bn_60 hn (by omega)
  · decide
theorem chN_pos {n k : Nat} (h : k ≤ n) : 0 < chN n k := by
  unfold chN
  rw [if_pos h]; exact bn_pos (by omega)
set_option maxRecDepth 100000 in
theorem s_1482 (d : Nat) (X : XS) (i : Nat → Nat → Int32) (j : Nat → Nat → Int64) (a0 : Int32) (a1 : Int32) (K : Int64 → AM → Prop) (h : ((a1 < 0 → K (Int64.ofNat 0) (mm X i j)) ∧ (¬ (a1 < 0) → ((a1 ≤ a0 → WP d 1482 (24, [(0, .int a0), (2, .int (mnI a1 (a0 - a1))), (3, .long (Int64.ofNat 1)), (5, .int (nI 1))], [], (mm X i j)) (qL K)) ∧ (¬ (a1 ≤ a0) → K (Int64.ofNat 0) (mm X i j)))))) : WL d 1482 [.int a0, .int a1] (mm X i j) K := te_1482 d a0 a1 (mm X i j) (qL K) ⟨fun e1 => ⟨_, rfl, (h.1 (e1))⟩, fun e1 => ⟨fun e2 => ((h.2 (e1)).1 (e2)), fun e2 => ⟨_, rfl, ((h.2 (e1)).2 (e2))⟩⟩⟩
set_option maxRecDepth 100000 in
theorem s_1482_24 (d : Nat) (X : XS) (i : Nat → Nat → Int32) (j : Nat → Nat → Int64) (v0 : Int32) (v2 : Int32) (v3 : Int64) (v5 : Int32) (Q : Option (Option Value) → AM → Prop) (h : ((v2 < v5 → Q (some (some (.long v3))) (mm X i j)) ∧ (¬ (v2 < v5) → (¬ (v5.toInt64) = 0) ∧ WP d 1482 (24, [(0, .int v0), (2, .int v2), (3, .long ((v3 * (((v0 - v2) + v5).toInt64)) / (v5.toInt64))), (5, .int (v5 + (nI 1)))], [], (mm X i j)) Q))) : WP d 1482 (24, [(0, .int v0), (2, .int v2), (3, .long v3), (5, .int v5)], [], mm X i j) Q := tc_1482_24 d v0 v2 v3 v5 (mm X i j) Q ⟨fun e3 => (h.1 (e3)), fun e3 => ⟨(h.2 (e3)).1, (h.2 (e3)).2⟩⟩
set_option maxRecDepth 100000 in
theorem s_1595 (d : Nat) (X : XS) (i : Nat → Nat → Int32) (j : Nat → Nat → Int64) (a0 : Int32) (a1 : Int32) (K : Int64 → AM → Prop) (h : ((a1 < 0 → K (Int64.ofNat 0) (mm X i j)) ∧ (¬ (a1 < 0) → ((a1 ≤ a0 → WP (d + 1) 1595 (24, [(0, .int a0), (2, .int (mnI a1 (a0 - a1))), (3, .long (Int64.ofNat 1)), (5, .int (nI 1))], [], (mm X i j)) (qL K)) ∧ (¬ (a1 ≤ a0) → K (Int64.ofNat 0) (mm X i j)))))) : WL (d + 1) 1595 [.int a0, .int a1] (mm X i j) K := te_1595 d a0 a1 (mm X i j) (qL K) ⟨fun e1 => ⟨_, rfl, (h.1 (e1))⟩, fun e1 => ⟨fun e2 => ((h.2 (e1)).1 (e2)), fun e2 => ⟨_, rfl, ((h.2 (e1)).2 (e2))⟩⟩⟩
set_option maxRecDepth 100000 in
theorem s_1595_24 (d : Nat) (X : XS) (i : Nat → Nat → Int32) (j : Nat → Nat → Int64) (v0 : Int32) (v2 : Int32) (v3 : Int64) (v5 : Int32) (Q : Option (Option Value) → AM → Prop) (h : ((v2 < v5 → Q (some (some (.long v3))) (mm X i j)) ∧ (¬ (v2 < v5) → (∃ (x4 : Int64), EvL d 1541 [.long v3, .long (v5.toInt64)] (mm X i j) x4 (mm X i j) ∧ (¬ x4 = 0) ∧ (¬ ((v5.toInt64) / x4) = 0) ∧ WP (d + 1) 1595 (24, [(0, .int v0), (2, .int v2), (3, .long ((v3 / x4) * ((((v0 - v2) + v5).toInt64) / ((v5.toInt64) / x4)))), (5, .int (v5 + (nI 1)))], [], (mm X i j)) Q)))) : WP (d + 1) 1595 (24, [(0, .int v0), (2, .int v2), (3, .long v3), (5, .int v5)], [], mm X i j) Q := tc_1595_24 d v0 v2 v3 v5 (mm X i j) Q ⟨fun e3 => (h.1 (e3)), fun e3 => (Exists.elim (h.2 (e3)) fun x4 h5 => EvL.use h5.1 ⟨h5.2.1, ⟨h5.2.1, ⟨h5.2.2.1, h5.2.2.2⟩⟩⟩)⟩
theorem c_1482 (d : Nat) (X : XS) (i : Nat → Nat → Int32) (j : Nat → Nat → Int64) {n k : Nat} (hn : n ≤ 60) (hk : k < 2 ^ 30) : EvL d 1482 [.int (nI n), .int (nI k)] (mm X i j) (lN (chN n k)) (mm X i j) := by
  refine s_1482 _ X i j (nI n) (nI k) _ (br_f (nI_pos (by omega)) ?_)
  by_cases q : k ≤ n
  · refine br_t (nI_le q (by omega)) ?_
    obtain ⟨L, hL⟩ : ∃ L, L = min k (n - k) := ⟨_, rfl⟩
    have e0 : chN n k = bn (n - L + L) L := by unfold chN; rw [if_pos q, ← hL, show n - L + L = n by omega]
    rw [pk_sub q, mn_nI (by omega) (by omega), ← hL, e0]
    have a0 : Int64.ofNat 1 = lN (bn (n - L + 0) 0) := by rw [bn_0]; rfl
    rw [a0]
    refine lup L (fun e (_ : Unit) => True) (fun e _ => (24, [(0, .int (nI n)), (2, .int (nI L)), (3, .long (lN (bn (n - L + e) e))), (5, .int (nI (e + 1)))], [], mm X i j)) ?_ ?_ 0 () (Nat.zero_le _) trivial
    · intro _ _
      exact s_1482_24 _ X i j _ _ _ _ _ (br_t (nI_lt (by omega) (by omega)) (qL_of ⟨rfl, rfl⟩))
    · intro e _ he _ go
      refine s_1482_24 _ X i j _ _ _ _ _ (br_f (nI_nlt (by omega) (by omega)) ⟨toL_ne (by omega) (by omega), ?_⟩)
      have hb := bn_le (n := n - L + e) (r := e) (by omega) (by omega)
      have hm := bn_mul (n - L + e) e
      have hlt : bn (n - L + e) e * (n - L + (e + 1)) ≤ 59132290782430712 * 60 := Nat.mul_le_mul hb (by omega)
      have hq : bn (n - L + e) e * (n - L + (e + 1)) / (e + 1) = bn (n - L + (e + 1)) (e + 1) := by
        rw [Nat.mul_comm, show n - L + (e + 1) = n - L + e + 1 by omega, ← hm, Nat.mul_div_cancel_left _ (by omega)]
      rw [pk_sub (by omega), nI_add, nI_l (by omega), nI_l (by omega), lN_mul, pk_lDiv (by omega) (by omega) (by omega), hq, nI_add]
      exact go () trivial
  · refine br_f (nI_ge (by omega) (by omega)) ⟨?_, rfl⟩
    unfold chN; rw [if_neg q]; rfl
theorem c_1595 (d : Nat) (X : XS) (i : Nat → Nat → Int32) (j : Nat → Nat → Int64) {n k : Nat} (hn : n ≤ 60) (hk : k < 2 ^ 30) : EvL (d + 1) 1595 [.int (nI n), .int (nI k)] (mm X i j) (lN (chN n k)) (mm X i j) := by
  refine s_1595 _ X i j (nI n) (nI k) _ (br_f (nI_pos (by omega)) ?_)
  by_cases q : k ≤ n
  · refine br_t (nI_le q (by omega)) ?_
    obtain ⟨L, hL⟩ : ∃ L, L = min k (n - k) := ⟨_, rfl⟩
    have e0 : chN n k = bn (n - L + L) L := by unfold chN; rw [if_pos q, ← hL, show n - L + L = n by omega]
    rw [pk_sub q, mn_nI (by omega) (by omega), ← hL, e0]
    have a0 : Int64.ofNat 1 = lN (bn (n - L + 0) 0) := by rw [bn_0]; rfl
    rw [a0]
    refine lup L (fun e (_ : Unit) => True) (fun e _ => (24, [(0, .int (nI n)), (2, .int (nI L)), (3, .long (lN (bn (n - L + e) e))), (5, .int (nI (e + 1)))], [], mm X i j)) ?_ ?_ 0 () (Nat.zero_le _) trivial
    · intro _ _
      exact s_1595_24 _ X i j _ _ _ _ _ (br_t (nI_lt (by omega) (by omega)) (qL_of ⟨rfl, rfl⟩))
    · intro e _ he _ go
      have hb := bn_le (n := n - L + e) (r := e) (by omega) (by omega)
      have hm := bn_mul (n - L + e) e
      refine s_1595_24 _ X i j _ _ _ _ _ (br_f (nI_nlt (by omega) (by omega)) ⟨_, c_1541 d X i j _ _, ?_⟩)
      have hg : 0 < Nat.gcd (bn (n - L + e) e) (e + 1) := Nat.gcd_pos_of_pos_right _ (by omega)
      have hgl : Nat.gcd (bn (n - L + e) e) (e + 1) ≤ e + 1 := Nat.gcd_le_right _ (by omega)
      have hq := ex_div (v := bn (n - L + e) e) (m := n - L + (e + 1)) (b := e + 1) (Q := bn (n - L + (e + 1)) (e + 1)) (by omega) (by
        rw [Nat.mul_comm, show n - L + (e + 1) = n - L + e + 1 by omega]; exact hm.symm)
      have hd : 0 < (e + 1) / Nat.gcd (bn (n - L + e) e) (e + 1) := Nat.div_pos hgl hg
      have hd2 : (e + 1) / Nat.gcd (bn (n - L + e) e) (e + 1) ≤ e + 1 := Nat.div_le_self _ _
      rw [pk_sub (by omega), nI_add, nI_l (by omega), nI_l (by omega), gcL_N (by omega) (by omega), pk_lDiv (by omega) hg (by omega), pk_lDiv (by omega) hg (by omega), pk_lDiv (by omega) hd (by omega), lN_mul, hq, nI_add]
      exact ⟨by rw [lN0 (by omega)]; omega, by rw [lN0 (by omega)]; omega, go () trivial⟩
  · refine br_f (nI_ge (by omega) (by omega)) ⟨?_, rfl⟩
    unfold chN; rw [if_neg q]; rfl
def sL (f : Nat → Int64) : Nat → Int64
  | 0 => Int64.ofNat 0
  | e + 1 => sL f e + f e
set_option maxRecDepth 100000 in
theorem s_1429 (d : Nat) (X : XS) (i : Nat → Nat → Int32) (j : Nat → Nat → Int64) (a1 : Int32) (a2 : Int32) (a3 : Int32) (K : Int32 → AM → Prop) (h : (SGs X i) ∧ ((¬ ((nI 0) ≤ a1 ∧ a1 ≤ ((i 2 7) - (nI 1)))) → K (kI (-1)) (mm X i j)) ∧ (((nI 0) ≤ a1 ∧ a1 ≤ ((i 2 7) - (nI 1))) → (OO X (xr X 23 (a1.toNatClampNeg))) → ((¬ (((nI 1) ≤ a2 ∧ a2 ≤ (nI 3)) ∧ ((nI 1) ≤ a3 ∧ a3 ≤ (nI 9))) → K (kI (-1)) (mm X i j)) ∧ (((nI 1) ≤ a2 ∧ a2 ≤ (nI 3)) ∧ ((nI 1) ≤ a3 ∧ a3 ≤ (nI 9)) → ((¬ ((mxI (nI 0) ((i 9 3) - a3)) = 0) → (((mxI (nI 0) ((i 9 3) - a3)) ≤ (nI 60) → (∃ (i13 : Nat → Nat → Int32), EvV (d + 4) 1476 [.ref 2, .ref 9, .int (shlI (nI 1) a1), .int a2, .int a3] (mm X i j) (mm X i13 j) ∧ (∃ (i14 : Nat → Nat → Int32), EvV (d + 4) 1479 [.ref 2, .int (nI 0), .int (i13 31 2)] (mm X i13 j) (mm X i14 j) ∧ WP (d + 6) 1429 (85, [(0, .ref 2), (4, .int ((i14 36 0) + (i14 36 1))), (5, .int ((i14 36 0) + (i14 36 2))), (6, .int ((((i14 36 0) + (i14 36 1)) + (i14 36 2)) + (i14 36 3))), (7, .long (Int64.ofNat 0)), (9, .int (i14 36 0))], [], (mm X i14 j)) (qI K)))) ∧ (¬ ((mxI (nI 0) ((i 9 3) - a3)) ≤ (nI 60)) → K (kI (-3)) (mm X i j)))) ∧ ((mxI (nI 0) ((i 9 3) - a3)) = 0 → K (kI (-1)) (mm X i j))))))) : WI (d + 6) 1429 [.ref 2, .int a1, .int a2, .int a3] (mm X i j) K := te_1429 (d + 5) 2 a1 a2 a3 (mm X i j) (qI K) ⟨rfl, (te_1471 (d + 4) 2 a1 a2 a3 (mm X i j) _ ⟨rfl, (p_1468 (d + 3) X i j a1 _ ⟨h.1, (fun h2 => ⟨fun _ => ⟨k0_01, ⟨_, rfl, ⟨fun _ => ⟨_, rfl, (h.2.1 h2)⟩, fun e4 => absurd (show (nI 0) = 0 by decide) e4⟩⟩⟩, fun e3 => absurd rfl e3⟩), (fun h5 h6 => ⟨fun e7 => absurd e7 (nz_k (h6.1)), fun _ => (p_1464 (d + 3) X i j a2 a3 _ ⟨fun e8 => ⟨k0_01, ⟨_, rfl, ⟨fun _ => ⟨_, rfl, ((h.2.2 h5 h6).1 ((bi_z e8)))⟩, fun e9 => absurd (show (nI 0) = 0 by decide) e9⟩⟩⟩, fun e8 => ⟨k1_01, ⟨_, rfl, ⟨fun e10 => absurd e10 (show ¬ ((nI 1) = 0) by decide), fun _ => ⟨rfl, ⟨rfl, (te_136 (d + 5) 9 a3 (mm X i j) _ ⟨rfl, ⟨_, rfl, ⟨fun e11 => ⟨rfl, ⟨rfl, (te_136 (d + 5) 9 a3 (mm X i j) _ ⟨rfl, ⟨_, rfl, ⟨fun e12 => ⟨rfl, (te_1478 (d + 4) 2 a1 a2 a3 (mm X i j) _ ⟨rfl, ⟨rfl, (Exists.elim ((((h.2.2 h5 h6).2 ((bi_n e8))).1 (e11)).1 (e12)) fun i13 h17 => EvV.use h17.1 ⟨rfl, ⟨rfl, (te_771 (d + 4) 31 (mm X i13 j) _ ⟨rfl, ⟨_, rfl, ⟨rfl, (Exists.elim h17.2 fun i14 h15 => EvV.use h15.1 ⟨rfl, ⟨rfl, ⟨rfl, (te_903 (d + 5) 36 (mm X i14 j) _ ⟨rfl, ⟨rfl, ⟨_, rfl, ⟨rfl, ⟨rfl, (te_904 (d + 5) 36 (mm X i14 j) _ ⟨rfl, ⟨rfl, ⟨_, rfl, ⟨rfl, ⟨rfl, (te_905 (d + 5) 36 (mm X i14 j) _ ⟨rfl, ⟨rfl, ⟨rfl, ⟨rfl, ⟨_, rfl, ⟨rfl, ⟨rfl, (te_899 (d + 5) 36 (mm X i14 j) _ ⟨rfl, ⟨_, rfl, h15.2⟩⟩)⟩⟩⟩⟩⟩⟩⟩)⟩⟩⟩⟩⟩)⟩⟩⟩⟩⟩)⟩⟩⟩)⟩⟩⟩)⟩⟩)⟩⟩)⟩, fun e12 => ⟨_, rfl, ((((h.2.2 h5 h6).2 ((bi_n e8))).1 (e11)).2 (e12))⟩⟩⟩⟩)⟩⟩, fun e11 => ⟨_, rfl, (((h.2.2 h5 h6).2 ((bi_n e8))).2 ((Classical.byContradiction e11)))⟩⟩⟩⟩)⟩⟩⟩⟩⟩⟩)⟩)⟩)⟩)⟩
set_option maxRecDepth 100000 in
theorem s_1429_85 (d : Nat) (X : XS) (i : Nat → Nat → Int32) (j : Nat → Nat → Int64) (v4 : Int32) (v5 : Int32) (v6 : Int32) (v7 : Int64) (v9 : Int32) (Q : Option (Option Value) → AM → Prop) (h : ((v4 < v9 → (∃ (x20 : Int64), EvL (d + 5) 1482 [.int v6, .int v4] (mm X (s2 i 40 1 (nI 0)) j) x20 (mm X (s2 i 40 1 (nI 0)) j) ∧ (∃ (x21 : Int64), EvL (d + 4) 644 [.long v7, .long x20] (mm X (s2 i 40 1 (nI 0)) j) x21 (mm X (s2 i 40 1 (nI 0)) j) ∧ ((x21 = (Int64.ofNat 0) → Q (some (some (.int (nI 0)))) (mm X (s2 i 40 1 (nI 0)) j)) ∧ (¬ (x21 = (Int64.ofNat 0)) → (¬ x21 = 0) ∧ Q (some (some (.int (nI 0)))) (mm X (s2 (s2 (s2 i 40 1 (nI 0)) 40 1 (nI 1)) 40 1 (nI 2)) (s2 (s2 j 41 0 (v7 / x21)) 41 1 (x20 / x21)))))))) ∧ (¬ (v4 < v9) → (∃ (x29 : Int64), EvL (d + 5) 1482 [.int v5, .int v9] (mm X i j) x29 (mm X i j) ∧ (∃ (x30 : Int64), EvL (d + 5) 1482 [.int (v6 - v5), .int (v4 - v9)] (mm X i j) x30 (mm X i j) ∧ WP (d + 6) 1429 (85, [(0, .ref 2), (4, .int v4), (5, .int v5), (6, .int v6), (7, .long (v7 + (x29 * x30))), (9, .int (v9 + (nI 1)))], [], (mm X i j)) Q))))) : WP (d + 6) 1429 (85, [(0, .ref 2), (4, .int v4), (5, .int v5), (6, .int v6), (7, .long v7), (9, .int v9)], [], mm X i j) Q := tc_1429_85 (d + 5) 2 v4 v5 v6 v7 v9 (mm X i j) Q ⟨fun e19 => ⟨rfl, ⟨rfl, (te_641 (d + 5) 40 (mm X i j) _ ⟨rfl, ⟨rfl, ⟨rfl, (Exists.elim (h.1 (e19)) fun x20 h27 => EvL.use h27.1 ⟨rfl, (te_643 (d + 4) 40 v7 x20 (mm X (s2 i 40 1 (nI 0)) j) _ (Exists.elim h27.2 fun x21 h25 => EvL.use h25.1 ⟨fun e22 => ⟨rfl, (h25.2.1 ((lc_eq.1 e22)))⟩, fun e22 => ⟨(h25.2.2 ((fun z => e22 (lc_eq.2 z)))).1, ⟨rfl, (te_642 (d + 4) 40 (v7 / x21) (mm X (s2 i 40 1 (nI 0)) j) _ ⟨rfl, ⟨fun e23 => absurd e23 (show ¬ ((nI 20) ≤ (nI 0)) by decide), fun _ => ⟨rfl, ⟨rfl, ⟨⟨rfl, (vpk 0 20 rfl)⟩, ⟨rfl, ⟨rfl, ⟨rfl, ⟨(h25.2.2 ((fun z => e22 (lc_eq.2 z)))).1, ⟨rfl, (te_642 (d + 4) 40 (x20 / x21) (mm X (s2 (s2 i 40 1 (nI 0)) 40 1 (nI 1)) (s2 j 41 0 (v7 / x21))) _ ⟨rfl, ⟨fun e24 => absurd e24 (show ¬ ((nI 20) ≤ (nI 1)) by decide), fun _ => ⟨rfl, ⟨rfl, ⟨⟨rfl, (vpk 1 20 rfl)⟩, ⟨rfl, ⟨rfl, ⟨rfl, ⟨rfl, (h25.2.2 ((fun z => e22 (lc_eq.2 z)))).2⟩⟩⟩⟩⟩⟩⟩⟩⟩)⟩⟩⟩⟩⟩⟩⟩⟩⟩⟩)⟩⟩⟩))⟩)⟩⟩⟩)⟩⟩, fun e19 => (Exists.elim (h.2 (e19)) fun x29 h33 => EvL.use h33.1 (Exists.elim h33.2 fun x30 h31 => EvL.use h31.1 h31.2))⟩
set_option maxRecDepth 100000 in
theorem s_1596 (d : Nat) (X : XS) (i : Nat → Nat → Int32) (j : Nat → Nat → Int64) (a1 : Int32) (a2 : Int32) (a3 : Int32) (K : Int32 → AM → Prop) (h : ((¬ ((nI 0) ≤ a1 ∧ a1 ≤ ((i 42 14) - (nI 1))) → K (kI (-1)) (mm X (s2 i 42 36 (nI 0)) j)) ∧ ((nI 0) ≤ a1 ∧ a1 ≤ ((i 42 14) - (nI 1)) → ((¬ (((nI 1) ≤ a2 ∧ a2 ≤ (nI 3)) ∧ ((nI 1) ≤ a3 ∧ a3 ≤ (nI 9))) → K (kI (-1)) (mm X (s2 i 42 36 (nI 0)) j)) ∧ (((nI 1) ≤ a2 ∧ a2 ≤ (nI 3)) ∧ ((nI 1) ≤ a3 ∧ a3 ≤ (nI 9)) → (((nI 1) ≤ ((i 42 0) - a3) → ((((i 42 0) - a3) ≤ (nI 60) → (∃ (i5 : Nat → Nat → Int32), EvV (d + 261) 1589 [.ref 42, .int (shlI (nI 1) a1), .int a2, .int a3] (mm X (s2 i 42 36 (nI 0)) j) (mm X i5 j) ∧ (∃ (i6 : Nat → Nat → Int32), EvV (d + 261) 1592 [.ref 42, .int a1, .int (nI 0), .int (i5 42 46)] (mm X i5 j) (mm X i6 j) ∧ WP (d + 262) 1596 (77, [(0, .ref 42), (4, .long (Int64.ofNat 0)), (6, .int (i6 74 1))], [], (mm X i6 j)) (qI K)))) ∧ (¬ (((i 42 0) - a3) ≤ (nI 60)) → K (kI (-3)) (mm X (s2 i 42 36 (nI 0)) j)))) ∧ (¬ ((nI 1) ≤ ((i 42 0) - a3)) → K (kI (-1)) (mm X (s2 i 42 36 (nI 0)) j)))))))) : WI (d + 262) 1596 [.ref 42, .int a1, .int a2, .int a3] (mm X i j) K := te_1596 (d + 261) 42 a1 a2 a3 (mm X i j) (qI K) ⟨rfl, ⟨rfl, (te_1546 (d + 260) 42 a1 (mm X (s2 i 42 36 (nI 0)) j) _ ⟨rfl, (p_1538 (d + 260) X (s2 i 42 36 (nI 0)) j a1 (nI 0) ((i 42 14) - (nI 1)) _ ⟨(bi_01 _), ⟨_, rfl, ⟨fun e1 => ⟨_, rfl, (h.1 ((bi_z e1)))⟩, fun e1 => (p_1588 (d + 260) X (s2 i 42 36 (nI 0)) j a2 a3 _ ⟨fun e2 => ⟨_, rfl, ((h.2 ((bi_n e1))).1 ((bi_z e2)))⟩, fun e2 => ⟨rfl, ⟨fun e3 => ⟨rfl, ⟨fun e4 => ⟨rfl, (Exists.elim ((((h.2 ((bi_n e1))).2 ((bi_n e2))).1 (e3)).1 (e4)) fun i5 h9 => EvV.use h9.1 ⟨rfl, ⟨rfl, (Exists.elim h9.2 fun i6 h7 => EvV.use h7.1 ⟨rfl, ⟨⟨rfl, (vpk 1 4 rfl)⟩, h7.2⟩⟩)⟩⟩)⟩, fun e4 => ⟨_, rfl, ((((h.2 ((bi_n e1))).2 ((bi_n e2))).1 (e3)).2 (e4))⟩⟩⟩, fun e3 => ⟨_, rfl, (((h.2 ((bi_n e1))).2 ((bi_n e2))).2 (e3))⟩⟩⟩⟩)⟩⟩⟩)⟩)⟩⟩
set_option maxRecDepth 100000 in
theorem s_1596_77 (d : Nat) (X : XS) (i : Nat → Nat → Int32) (j : Nat → Nat → Int64) (v4 : Int64) (v6 : Int32) (Q : Option (Option Value) → AM → Prop) (h : (((i 74 0) < v6 → (∃ (x12 : Int64), EvL (d + 261) 1595 [.int (i 42 46), .int (i 74 0)] (mm X (s2 i 42 35 (nI 0)) j) x12 (mm X (s2 i 42 35 (nI 0)) j) ∧ (∃ (x13 : Int64), EvL (d + 260) 1541 [.long v4, .long x12] (mm X (s2 i 42 35 (nI 0)) j) x13 (mm X (s2 i 42 35 (nI 0)) j) ∧ (¬ x13 = 0) ∧ Q (some (some (.int (nI 0)))) (mm X (s2 (s2 (s2 i 42 35 (nI 0)) 42 35 (nI 1)) 42 35 (nI 2)) (s2 (s2 j 70 0 (v4 / x13)) 70 1 (x12 / x13)))))) ∧ (¬ ((i 74 0) < v6) → (∃ (x18 : Int64), EvL (d + 261) 1595 [.int (i 74 2), .int v6] (mm X i j) x18 (mm X i j) ∧ (∃ (x19 : Int64), EvL (d + 261) 1595 [.int ((i 42 46) - (i 74 2)), .int ((i 74 0) - v6)] (mm X i j) x19 (mm X i j) ∧ WP (d + 262) 1596 (77, [(0, .ref 42), (4, .long (v4 + (x18 * x19))), (6, .int (v6 + (nI 1)))], [], (mm X i j)) Q))))) : WP (d + 262) 1596 (77, [(0, .ref 42), (4, .long v4), (6, .int v6)], [], mm X i j) Q := tc_1596_77 (d + 261) 42 v4 v6 (mm X i j) Q ⟨rfl, ⟨⟨rfl, (vpk 0 4 rfl)⟩, ⟨fun e11 => ⟨rfl, ⟨rfl, ⟨rfl, ⟨⟨rfl, (vpk 0 4 rfl)⟩, (Exists.elim (h.1 (e11)) fun x12 h16 => EvL.use h16.1 ⟨rfl, (te_1542 (d + 260) 42 v4 x12 (mm X (s2 i 42 35 (nI 0)) j) _ (Exists.elim h16.2 fun x13 h14 => EvL.use h14.1 ⟨h14.2.1, ⟨rfl, (te_1540 (d + 260) 42 (v4 / x13) (mm X (s2 i 42 35 (nI 0)) j) _ ⟨rfl, ⟨rfl, ⟨⟨rfl, (vpk 0 32 rfl)⟩, ⟨rfl, ⟨rfl, ⟨rfl, ⟨h14.2.1, ⟨rfl, (te_1540 (d + 260) 42 (x12 / x13) (mm X (s2 (s2 i 42 35 (nI 0)) 42 35 (nI 1)) (s2 j 70 0 (v4 / x13))) _ ⟨rfl, ⟨rfl, ⟨⟨rfl, (vpk 1 32 rfl)⟩, ⟨rfl, ⟨rfl, ⟨rfl, ⟨rfl, h14.2.2⟩⟩⟩⟩⟩⟩⟩)⟩⟩⟩⟩⟩⟩⟩⟩)⟩⟩))⟩)⟩⟩⟩⟩, fun e11 => ⟨rfl, ⟨⟨rfl, (vpk 2 4 rfl)⟩, (Exists.elim (h.2 (e11)) fun x18 h22 => EvL.use h22.1 ⟨rfl, ⟨rfl, ⟨⟨rfl, (vpk 2 4 rfl)⟩, ⟨rfl, ⟨⟨rfl, (vpk 0 4 rfl)⟩, (Exists.elim h22.2 fun x19 h20 => EvL.use h20.1 h20.2)⟩⟩⟩⟩⟩)⟩⟩⟩⟩⟩
theorem k_20 (d : Nat) {X : XS} {i : Nat → Nat → Int32} {j : Nat → Nat → Int64} (h : Rel X i j) (a1 a2 a3 : Int32) {Kf : AM → Prop} (hK : Nx X Kf) : WI (d + 300) 1429 [.ref 2, .int a1, .int a2, .int a3] (mm X i j) (fun x1 M1 => WI (d + 300) 1596 [.ref 42, .int a1, .int a2, .int a3] M1 (fun x2 M2 => x1 = x2 ∧ Kf M2)) := by
  have ht := hK.th h
  have hrel := h
  obtain ⟨hx, ⟨⟨n, h0⟩, h1, ⟨ng, h2, no, h4⟩, ⟨tn, h3⟩, ⟨np, h5⟩, h6, ns, h7⟩, h8, hz⟩ := h
  have e1 := h4.2.1
  have e2 := h4.2.2.1
  have hno := h4.1
  have hn := h0.2.1.1.2
  refine s_1429 _ X i j a1 a2 a3 _ ⟨h4.sg, ?_, ?_⟩
  · rw [e1]
    exact fun z => s_1596 _ X i j _ _ _ _ (bq_t (by rw [e2]; exact z) ⟨rfl, ht⟩)
  rw [e1]
  intro z hO
  refine ⟨fun v => s_1596 _ X i j _ _ _ _ (bq_f (by rw [e2]; exact z) (bq_t v ⟨rfl, ht⟩)), fun v => ?_⟩
  have z2 : nI 0 ≤ a1 ∧ a1 ≤ i 42 14 - nI 1 := by rw [e2]; exact z
  obtain ⟨s, hs, rfl⟩ := idx_of (by omega) z
  obtain ⟨q, hq1, hq, rfl⟩ := ev_rng (by decide) v.2

  rw [h0.2.1.1.1, mx_sub (by omega) (by omega)]
  have ek : (nI 1 ≤ nI n - nI q ↔ ¬ n - q = 0) ∧ (nI 1 ≤ nI n - nI q → nI n - nI q = nI (n - q)) := by
    by_cases w : q < n
    · rw [pk_sub (by omega)]; exact ⟨⟨fun _ => by omega, fun _ => nI_le (by omega) (by omega)⟩, fun _ => rfl⟩
    · by_cases w2 : q = n
      · rw [pk_sub (by omega)]; exact ⟨⟨fun z => absurd z (nI_ge (by omega) (by decide)), fun z => absurd z (by omega)⟩, fun _ => rfl⟩
      · have := pk_sneg (a := n) (b := q) (by omega) (by omega)
        have h1 : ¬ nI 1 ≤ nI n - nI q := Int32.not_le.mpr (Int32.lt_trans this (by decide))
        exact ⟨⟨fun z => absurd z h1, fun z => absurd z (by omega)⟩, fun z => absurd z h1⟩
  refine bq_c (fun w => br_c (fun y => ?_) (fun y => ?_)) (fun w => ?_)
  rotate_left
  · have w : ¬ n - q = 0 := fun e => w (by rw [e]; rfl)
    have hk := ek.2 (ek.1.mpr w)
    refine s_1596 _ X i j _ _ _ _ (bq_f (by rw [e2]; exact z) (bq_f v ?_))
    rw [h0.1]
    refine br_t (ek.1.mpr w) ?_
    rw [hk]
    exact br_f y ⟨rfl, ht⟩
  · refine s_1596 _ X i j _ _ _ _ (bq_f (by rw [e2]; exact z) (bq_f v ?_))
    rw [h0.1]
    exact br_f (fun u => ek.1.mp u ((nIz (by omega)).mp w)) ⟨rfl, ht⟩
  have w : ¬ n - q = 0 := fun e => w (by rw [e]; rfl)
  have hk60 : n - q ≤ 60 := (nI_leI (by omega) (by decide)).mp y
  obtain ⟨i1, hE1, f1, z1, r40, hL, hS⟩ := lov 0 X i j h0 h2 h4 hz (shlI (nI 1) (nI s)) a2 hq
  refine ⟨i1, hE1.up (by omega), ?_⟩
  rw [hS.1]
  obtain ⟨i2, hE2, f2, hT⟩ := c_1479 0 X i1 j hS (Nat.zero_le _) (Nat.le_refl _)
  refine ⟨i2, hE2.up (by omega), ?_⟩
  rw [Nat.sub_zero, svA hno hs] at hT
  obtain ⟨t0, t1, t2, t3⟩ := hT
  obtain ⟨w0, w1, w2⟩ := tly_cel (A := svP X i s) (B := caF i n a2 q) (u := 0) (m := n - q)
  have F2 : FrC X i i2 := f1.tr (FrC_36 f2)
  have Z2 : RZ i2 := RZ_of z1 (f2 34 (by decide)) (f2 35 (by decide))
  have g42 : ∀ b, b = 42 → i2 b = i b := fun b hb => F2 b (by subst hb; exact Or.inl (show 0 < 10 by decide))
  have w3 : n - q = cr (svP X i s) 0 (n - q) + cr (fun t => ¬ svP X i s t ∧ caF i n a2 q t) 0 (n - q) + cr (fun t => ¬ svP X i s t ∧ ¬ caF i n a2 q t) 0 (n - q) := by omega
  rw [t0, t1, t2, t3, nI_add, nI_add, nI_add, nI_add, ← w0, ← w1, ← w3]
  obtain ⟨bo, hbo⟩ : ∃ x, x = cr (fun t => svP X i s t ∧ caF i n a2 q t) 0 (n - q) := ⟨_, rfl⟩
  obtain ⟨st, hst⟩ : ∃ x, x = cr (svP X i s) 0 (n - q) := ⟨_, rfl⟩
  obtain ⟨ev, hev⟩ : ∃ x, x = cr (caF i n a2 q) 0 (n - q) := ⟨_, rfl⟩
  obtain ⟨kn, hkn⟩ : ∃ x, x = n - q := ⟨_, rfl⟩
  have l1 : bo ≤ st := by omega
  have l2 : st ≤ kn := by rw [hst, hkn]; exact ct_le _ _
  have l3 : ev ≤ kn := by rw [hev, hkn]; exact ct_le _ _
  rw [← hbo, ← hst, ← hev, ← hkn]
  rw [← hkn] at hk60
  obtain ⟨f, hf⟩ : ∃ f : Nat → Int64, f = fun e => lN (chN ev (bo + e)) * lN (chN (kn - ev) (st - (bo + e))) := ⟨_, rfl⟩
  have cne : ¬ lN (chN kn st) = 0 := by
    rw [lN0 (by have := chN_60 (k := st) hk60; omega)]
    have := chN_pos l2
    omega
  refine lup (st + 1 - bo) (fun e (_ : Unit) => True) (fun e _ => (85, [(0, .ref 2), (4, .int (nI st)), (5, .int (nI ev)), (6, .int (nI kn)), (7, .long (sL f e)), (9, .int (nI (bo + e)))], [], mm X i2 j)) ?_ ?_ 0 () (Nat.zero_le _) trivial
  · intro _ _
    try dsimp only
    have n1 : ¬ gcL (sL f (st + 1 - bo)) (lN (chN kn st)) = 0 := gcL_ne (Or.inr cne)
    refine s_1429_85 _ X i2 j _ _ _ _ _ _ (br_t (nI_lt (by omega) (by omega)) ⟨_, c_1482 _ X _ j hk60 (by omega), _, c_644 _ X _ _ _ _, fun y => absurd y n1, fun _ => ⟨n1, qI_of ?_⟩⟩)
    obtain ⟨i3, hi3⟩ : ∃ i3, i3 = s2 (s2 (s2 i2 40 1 (nI 0)) 40 1 (nI 1)) 40 1 (nI 2) := ⟨_, rfl⟩
    rw [← hi3]
    have f3 : ∀ b, b ≠ 40 → i3 b = i2 b := fun b hb => by rw [hi3, s2_ne hb, s2_ne hb, s2_ne hb]
    have g40 : i3 40 1 = nI 2 := by rw [hi3, s2_self]
    have F : FrC X i i3 := F2.tr (FrC_40 f3)
    have Z3 : RZ i3 := RZ_of Z2 (f3 34 (by decide)) (f3 35 (by decide))
    refine s_1596 _ X i3 _ _ _ _ _ (bq_f (by rw [f3 42 (by decide), g42 42 rfl]; exact z2) (bq_f v ?_))
    rw [f3 42 (by decide), g42 42 rfl, h0.1]
    refine br_t (ek.1.mpr w) ?_
    rw [ek.2 (ek.1.mpr w)]
    refine br_t y ?_
    obtain ⟨j3, hj3⟩ : ∃ j3, j3 = s2 (s2 j 41 0 (sL f (st + 1 - bo) / gcL (sL f (st + 1 - bo)) (lN (chN kn st)))) 41 1 (lN (chN kn st) / gcL (sL f (st + 1 - bo)) (lN (chN kn st))) := ⟨_, rfl⟩
    rw [← hj3]
    obtain ⟨i4, hE4, f4, -, p46, -, -, p72, p73⟩ := prpv 0 X i (s2 i3 42 36 (nI 0)) j3 h0 h2 h4 (F.kp.tr (FrR_th (X := X) (nI 0)).kp) (shlI (nI 1) (nI s)) a2 hq
    refine ⟨i4, hE4.up (by omega), ?_⟩
    rw [p46]
    obtain ⟨i5, hE5, f5, c0, c1, c2, c3⟩ := c_1592 0 X i4 j3 (s := s) (A := svP X i s) (B := caF i n a2 q) (Nat.zero_le (n - q)) (by omega) (fun t ht => by rw [p72 t (by omega)]; exact soF_r hno hs t) p73
    refine ⟨i5, hE5.up (by omega), ?_⟩
    rw [Nat.sub_zero] at c0 c1 c2 c3
    rw [← hst] at c0
    rw [← hbo] at c1
    rw [← hev] at c2
    have p46' : i5 42 46 = nI kn := by rw [f5 42 (by decide), p46, hkn]
    rw [c1]
    refine lup (st + 1 - bo) (fun e (_ : Unit) => True) (fun e _ => (77, [(0, .ref 42), (4, .long (sL f e)), (6, .int (nI (bo + e)))], [], mm X i5 j3)) ?_ ?_ 0 () (Nat.zero_le _) trivial
    · intro _ _
      try dsimp only
      refine s_1596_77 _ X i5 j3 _ _ _ ?_
      rw [c0, p46']
      refine br_t (nI_lt (by omega) (by omega)) ⟨_, c_1595 _ X _ j3 hk60 (by omega), _, c_1541 _ X _ _ _ _, n1, qI_of ⟨rfl, hK.k (fin_row hrel F Z3 ((((FrR_th (nI 0)).tr f4.fr).tr (FrR_74 f5)).tr (FrR_42 (fun b hb => by rw [s2_ne hb, s2_ne hb, s2_ne hb]) (fun k hk => by rw [s2_ne2 (by omega), s2_ne2 (by omega), s2_ne2 (by omega)]))) (r8_of 2 (by decide) ?_ (s2_self _ _ _ _) ?_))⟩⟩
      · rw [s2_ne (show 40 ≠ 42 by decide), s2_ne (show 40 ≠ 42 by decide), s2_ne (show 40 ≠ 42 by decide), f5 40 (by decide), f4.1 40 (show ¬ (48 : Nat) = 40 by decide) (by decide), s2_ne (show 40 ≠ 42 by decide)]; exact g40
      · intro p hp
        rw [hj3]
        match p, hp with
        | 0, _ => simp [s2_ap]
        | 1, _ => simp [s2_ap]
    · intro e _ he _ go
      try dsimp only
      refine s_1596_77 _ X i5 j3 _ _ _ ?_
      rw [c0, p46', c2, pk_sub l3, pk_sub (a := st) (b := bo + e) (by omega), nI_add (bo + e) 1]
      refine br_f (nI_nlt (by omega) (by omega)) ⟨_, c_1595 _ X _ j3 (n := ev) (by omega) (by omega), _, c_1595 _ X _ j3 (n := kn - ev) (by omega) (by omega), ?_⟩
      have := go () trivial
      rw [sL, hf] at this
      rw [hf]
      exact this
  · intro e _ he _ go
    try dsimp only
    refine s_1429_85 _ X i2 j _ _ _ _ _ _ ?_
    rw [pk_sub l3, pk_sub (a := st) (b := bo + e) (by omega), nI_add (bo + e) 1]
    refine br_f (nI_nlt (by omega) (by omega)) ⟨_, c_1482 _ X _ j (n := ev) (by omega) (by omega), _, c_1482 _ X _ j (n := kn - ev) (by omega) (by omega), ?_⟩
    have := go () trivial
    rw [sL, hf] at this
    rw [hf]
    exact this
