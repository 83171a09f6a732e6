/-! ===== elsewhere ===== -/
theorem cval (d : Nat) {X : XS} {i i1 i2 : Nat → Nat → Int32} (j : Nat → Nat → Int64) {n ng no s t : Nat} (h0 : R0 X i n) (h2 : R2 X i ng) (h4 : R4 X i no ng) (f1 : FrC X i i1) (hL : LK X i1 ng n (i 44)) (g : ∀ b, ¬ (30 ≤ xt X b ∧ xt X b < 40) → b ≠ 36 → i2 b = i1 b) (hs : s < no) (ht : t < n) :
    ∃ i', EvI (d + 2) 387 [.ref (xr X 23 s), .ref 9, .int (nI t)] (mm X i2 j) (vlF X i (i 43) (i 44) (i 45) s t) (mm X i' j) ∧ (∀ b, xt X b ≠ 30 + s → i' b = i2 b) := by
  have t36 : 40 ≤ xt X 36 ∧ xt X 36 < 50 := by
    have : 40 ≤ TF 36 ∧ TF 36 < 50 := by decide
    exact this
  have kk : Kp X i1 i2 := ⟨fun b hb _ => g b (by omega) (fun e => by subst e; omega), fun k _ => by rw [g 42 (fun z => absurd (show 30 ≤ 0 from z.1) (by decide)) (by decide)]⟩
  have k2 := f1.kp.tr kk
  have e1 : ∀ b, xt X b < 10 → i2 b = i b := fun b hb => (g b (by omega) (fun e => by subst e; omega)).trans (f1 b (Or.inl hb))
  have hD : DY X 9 i2 n (i 43) (i 44) (i 45) := h0.2.1.kp (e1 9 (show 0 < 10 by decide)) (e1 10 (show 0 < 10 by decide)) (e1 11 (show 0 < 10 by decide)) (e1 12 (show 0 < 10 by decide))
  have hL2 : LK X i2 ng n (i 44) := hL.up kk (fun c hc => by
    have hG := (h2.2.2.2 c hc).2.1
    have hg4 := hG.1
    exact ⟨g _ (fun e => by have := hG.2.2.2.2; omega) (fun e => by have := hG.2.2.2.2; rw [e] at this; omega), g _ (fun e => by have := hG.2.2.2.1; omega) (fun e => by have := hG.2.2.2.1; rw [e] at this; omega)⟩)
  obtain ⟨i', hE, hf⟩ := c_387v d X i2 j (h2.kp k2) (h4.kp k2) hL2 9 (DO9 X) (DT9 X) hD hs ht
  rw [vlF_kp h4 k2 _ _ _ hs t] at hE
  exact ⟨i', hE, hf⟩
/-- all of the q days behind t were told of the valley; c or worse was told of one -/
def vAll (i : Nat → Nat → Int32) (t q : Nat) : Prop := ∀ m, 1 ≤ m → m ≤ q → ¬ i 63 (t + m) = kI (-1)
def vCom (i : Nat → Nat → Int32) (c : Int32) (t q : Nat) : Prop := ∃ m, 1 ≤ m ∧ m ≤ q ∧ ¬ i 63 (t + m) < c
theorem vAll_s {i : Nat → Nat → Int32} {t q : Nat} : vAll i t (q + 1) ↔ vAll i t q ∧ ¬ i 63 (t + (q + 1)) = kI (-1) := by
  refine ⟨fun h => ⟨fun m h1 h2 => h m h1 (by omega), h (q + 1) (by omega) (Nat.le_refl _)⟩, fun h m h1 h2 => ?_⟩
  by_cases e : m = q + 1
  · subst e; exact h.2
  · exact h.1 m h1 (by omega)
theorem vCom_s {i : Nat → Nat → Int32} {c : Int32} {t q : Nat} : vCom i c t (q + 1) ↔ vCom i c t q ∨ ¬ i 63 (t + (q + 1)) < c := by
  refine ⟨fun ⟨m, h1, h2, h3⟩ => ?_, fun h => ?_⟩
  · by_cases e : m = q + 1
    · subst e; exact Or.inr h3
    · exact Or.inl ⟨m, h1, by omega, h3⟩
  · rcases h with ⟨m, h1, h2, h3⟩ | h
    · exact ⟨m, h1, by omega, h3⟩
    · exact ⟨q + 1, by omega, Nat.le_refl _, h⟩
set_option maxRecDepth 100000 in
theorem s_1156_25 (d : Nat) (X : XS) (i : Nat → Nat → Int32) (j : Nat → Nat → Int64) (a1 : Int32) (a2 : Int32) (K : Int32 → AM → Prop) (h : WP (d + 1) 1156 (5, [(0, .ref 25), (1, .int a1), (2, .int a2), (3, .int (nI 0)), (4, .int (nI 1))], [], (mm X i j)) (qI K)) : WI (d + 1) 1156 [.ref 25, .int a1, .int a2] (mm X i j) K := te_1156 d 25 a1 a2 (mm X i j) (qI K) h
set_option maxRecDepth 100000 in
theorem s_1156_25_5 (d : Nat) (X : XS) (i : Nat → Nat → Int32) (j : Nat → Nat → Int64) (v1 : Int32) (v2 : Int32) (v3 : Int32) (v4 : Int32) (Q : Option (Option Value) → AM → Prop) (h : ((v2 < v4 → Q (some (some (.int v3))) (mm X i j)) ∧ (¬ (v2 < v4) → (((v1 + v4) < 0 → Q (some (some (.int (kI (-1))))) (mm X i j)) ∧ (¬ ((v1 + v4) < 0) → (((nI 240) ≤ (v1 + v4) → Q (some (some (.int (kI (-1))))) (mm X i j)) ∧ (¬ ((nI 240) ≤ (v1 + v4)) → (vp_in (v1 + v4) 240) ∧ ((¬ ((i 26 ((v1 + v4).toNatClampNeg)) = (kI (-1))) → WP (d + 1) 1156 (5, [(0, .ref 25), (1, .int v1), (2, .int v2), (3, .int (mxI v3 (i 26 ((v1 + v4).toNatClampNeg)))), (4, .int (v4 + (nI 1)))], [], (mm X i j)) Q) ∧ ((i 26 ((v1 + v4).toNatClampNeg)) = (kI (-1)) → Q (some (some (.int (kI (-1))))) (mm X i j)))))))))) : WP (d + 1) 1156 (5, [(0, .ref 25), (1, .int v1), (2, .int v2), (3, .int v3), (4, .int v4)], [], mm X i j) Q := tc_1156_5 d 25 v1 v2 v3 v4 (mm X i j) Q ⟨fun e1 => (h.1 (e1)), fun e1 => ⟨rfl, (te_1154 d 25 (v1 + v4) (mm X i j) _ ⟨fun e2 => ⟨_, rfl, ⟨fun e3 => absurd e3 (show ¬ (¬ (kI (-1)) = (kI (-1))) by decide), fun _ => ((h.2 (e1)).1 (e2))⟩⟩, fun e2 => ⟨fun e4 => ⟨_, rfl, ⟨fun e5 => absurd e5 (show ¬ (¬ (kI (-1)) = (kI (-1))) by decide), fun _ => (((h.2 (e1)).2 (e2)).1 (e4))⟩⟩, fun e4 => ⟨rfl, ⟨⟨rfl, (((h.2 (e1)).2 (e2)).2 (e4)).1⟩, ⟨_, rfl, ⟨fun e6 => ⟨rfl, (te_1154 d 25 (v1 + v4) (mm X i j) _ ⟨fun e7 => absurd e7 ((e2)), fun _ => ⟨fun e8 => absurd e8 ((e4)), fun _ => ⟨rfl, ⟨⟨rfl, (((h.2 (e1)).2 (e2)).2 (e4)).1⟩, ⟨_, rfl, ((((h.2 (e1)).2 (e2)).2 (e4)).2.1 (e6))⟩⟩⟩⟩⟩)⟩, fun e6 => ((((h.2 (e1)).2 (e2)).2 (e4)).2.2 ((Classical.byContradiction e6)))⟩⟩⟩⟩⟩⟩)⟩⟩
theorem c_1156 (d : Nat) (X : XS) (i : Nat → Nat → Int32) (j : Nat → Nat → Int64) (h6 : R6 i) {t q c : Nat} (hq : t + q < 240) (hc : 1 ≤ c) (hc3 : c ≤ 3) : ∃ x, EvI (d + 1) 1156 [.ref 25, .int (nI t), .int (nI q)] (mm X i j) x (mm X i j) ∧ (x = kI (-1) ↔ ¬ vAll i t q) ∧ (vAll i t q → (x < nI c ↔ ¬ vCom i (nI c) t q)) := by
  have main : WI (d + 1) 1156 [.ref 25, .int (nI t), .int (nI q)] (mm X i j) (fun x M2 => M2 = mm X i j ∧ (x = kI (-1) ↔ ¬ vAll i t q) ∧ (vAll i t q → (x < nI c ↔ ¬ vCom i (nI c) t q))) := by
    refine s_1156_25 d X i j _ _ _ ?_
    refine lup (q + 1) (fun e (z : Int32) => 1 ≤ e ∧ vAll i t (e - 1) ∧ ∃ w, w < 4 ∧ z = nI w ∧ (w < c ↔ ¬ vCom i (nI c) t (e - 1))) (fun e z => (5, [(0, .ref 25), (1, .int (nI t)), (2, .int (nI q)), (3, .int z), (4, .int (nI e))], [], mm X i j)) ?_ ?_ 1 (nI 0) (by omega) ⟨Nat.le_refl _, fun m h1 h2 => absurd h1 (by omega), 0, by decide, rfl, ⟨fun _ ⟨m, h1, h2, _⟩ => by omega, fun _ => by omega⟩⟩
    · rintro z ⟨-, ha, w, hw, rfl, hwc⟩
      rw [Nat.add_sub_cancel] at ha hwc
      refine s_1156_25_5 d X i j _ _ _ _ _ (br_t ((nI_ltI (by omega) (by omega)).mpr (by omega)) (qI_of ⟨rfl, ⟨fun e => ?_, fun h => absurd ha h⟩, fun _ => by rw [nI_ltI (by omega) (by omega)]; exact hwc⟩))
      have e := congrArg Int32.toInt e
      rw [nI_toInt (by omega)] at e
      have : (kI (-1)).toInt = -1 := by decide
      omega
    · rintro e z he ⟨h1, ha, w, hw, rfl, hwc⟩ go
      obtain ⟨e', rfl⟩ : ∃ e', e = e' + 1 := ⟨e - 1, by omega⟩
      rw [Nat.add_sub_cancel] at ha hwc
      refine s_1156_25_5 d X i j _ _ _ _ _ (br_f (fun y => by rw [nI_ltI (by omega) (by omega)] at y; omega) ?_)
      rw [nI_add t (e' + 1), nI_add (e' + 1) 1, tc_nI (by omega)]
      have h26 := h6.1.2 (t + (e' + 1)) (by omega)
      refine br_f (nI_pos (by omega)) (br_f (nI_ge (by omega) (by decide)) ⟨vp_in_nI (by omega) (by decide), ?_⟩)
      rw [h26.1]
      refine bq_c (fun y => ?_) (fun y => qI_of ⟨rfl, ⟨fun _ h => h (e' + 1) (by omega) (by omega) y, fun _ => rfl⟩, fun h => absurd y (h (e' + 1) (by omega) (by omega))⟩)
      rcases h26.2 with e1 | ⟨m, hm, e1⟩
      · exact absurd e1 y
      · rw [e1, mx_nI (by omega) (by omega)]
        refine go _ ⟨by omega, by rw [Nat.add_sub_cancel]; exact vAll_s.mpr ⟨ha, y⟩, max w m, by omega, rfl, ?_⟩
        rw [Nat.add_sub_cancel, vCom_s, e1, nI_ltI (by omega) (by omega), show (max w m < c ↔ w < c ∧ m < c) by omega, hwc]
        exact ⟨fun h z => z.elim h.1 (fun n => n h.2), fun h => ⟨fun v => h (Or.inl v), Classical.byContradiction fun n => h (Or.inr n)⟩⟩
  obtain ⟨n1, ⟨r, M2⟩, h1, x, h2, h3, h4⟩ := main
  dsimp only at h2 h3
  subst h2; subst h3
  exact ⟨x, ⟨n1, _, h1, _, rfl, rfl, rfl⟩, h4⟩
set_option maxRecDepth 100000 in
theorem s_1450 (d : Nat) (X : XS) (i : Nat → Nat → Int32) (j : Nat → Nat → Int64) (a1 : Int32) (a2 : Int32) (a3 : Int32) (K : Int32 → AM → Prop) (h : (SGs X i) ∧ ((¬ ((nI 0) ≤ a1 ∧ a1 ≤ ((i 2 7) - (nI 1)))) → K (kI (-1)) (mm X i j)) ∧ (((nI 0) ≤ a1 ∧ a1 ≤ ((i 2 7) - (nI 1))) → (OO X (xr X 23 (a1.toNatClampNeg))) → ((((nI 1) ≤ a2 ∧ a2 ≤ (nI 3)) ∧ ((nI 1) ≤ a3 ∧ a3 ≤ (nI 9)) → (∃ (i8 : Nat → Nat → Int32), EvV (d + 3) 1473 [.ref 2, .ref 9] (mm X i j) (mm X i8 j) ∧ WP (d + 4) 1450 (50, [(0, .ref 2), (2, .int a2), (3, .int a3), (4, .ref (xr X 23 (a1.toNatClampNeg))), (5, .int (mxI (nI 0) ((i8 9 3) - a3))), (6, .int (nI 0))], [], (mm X (s2 (s2 (s2 (s2 i8 36 0 (nI 0)) 36 1 (nI 0)) 36 2 (nI 0)) 36 3 (nI 0)) j)) (qI K))) ∧ (¬ (((nI 1) ≤ a2 ∧ a2 ≤ (nI 3)) ∧ ((nI 1) ≤ a3 ∧ a3 ≤ (nI 9))) → K (kI (-1)) (mm X i j))))) : WI (d + 4) 1450 [.ref 2, .int a1, .int a2, .int a3] (mm X i j) K := te_1450 (d + 3) 2 a1 a2 a3 (mm X i j) (qI K) ⟨rfl, (p_1468 (d + 2) X i j a1 _ ⟨h.1, (fun h2 => ⟨fun _ => ⟨_, rfl, (h.2.1 h2)⟩, fun e3 => absurd rfl e3⟩), (fun h4 h5 => ⟨fun e6 => absurd e6 (nz_k (h5.1)), fun _ => (p_1464 (d + 2) X i j a2 a3 _ ⟨fun e7 => ⟨rfl, ⟨rfl, (Exists.elim ((h.2.2 h4 h5).1 ((bi_n e7))) fun i8 h9 => EvV.use h9.1 ⟨rfl, ⟨rfl, (te_897 (d + 3) 36 (mm X i8 j) _ ⟨rfl, ⟨rfl, ⟨rfl, (tc_897_15 (d + 3) 36 (mm X (s2 (s2 (s2 i8 36 0 (nI 0)) 36 1 (nI 0)) 36 2 (nI 0)) j) _ ⟨rfl, ⟨rfl, ⟨rfl, ⟨rfl, (te_136 (d + 3) 9 a3 (mm X (s2 (s2 (s2 (s2 i8 36 0 (nI 0)) 36 1 (nI 0)) 36 2 (nI 0)) 36 3 (nI 0)) j) _ ⟨rfl, ⟨_, rfl, h9.2⟩⟩)⟩⟩⟩⟩)⟩⟩⟩)⟩⟩)⟩⟩, fun e7 => ⟨_, rfl, ((h.2.2 h4 h5).2 ((bi_nn e7)))⟩⟩)⟩)⟩)⟩
set_option maxRecDepth 100000 in
theorem s_1450_50 (d : Nat) (X : XS) (i : Nat → Nat → Int32) (j : Nat → Nat → Int64) (v2 : Int32) (v3 : Int32) (v4 : Nat) (h4 : OO X v4) (v5 : Int32) (v6 : Int32) (Q : Option (Option Value) → AM → Prop) (h : ((v5 ≤ v6 → Q (some (some (.int (i 36 0)))) (mm X (s2 (s2 (s2 (s2 (s2 (s2 (s2 i 40 1 (nI 0)) 40 1 (nI 1)) 40 1 (nI 2)) 40 1 (nI 3)) 40 1 (nI 4)) 40 1 (nI 5)) 40 1 (nI 6)) (s2 (s2 (s2 (s2 (s2 (s2 j 41 0 ((i 36 0).toInt64)) 41 1 ((i 36 1).toInt64)) 41 2 ((i 36 2).toInt64)) 41 3 ((i 36 3).toInt64)) 41 4 ((vdI (i 36 0) (i 36 1) (i 36 2) (i 36 3)).toInt64)) 41 5 (((((i 36 0) + (i 36 1)) + (i 36 2)) + (i 36 3)).toInt64)))) ∧ (¬ (v5 ≤ v6) → (∃ (x18 : Int32), EvI (d + 3) 1156 [.ref 25, .int v6, .int v3] (mm X i j) x18 (mm X i j) ∧ ((x18 = (kI (-1)) → WP (d + 4) 1450 (50, [(0, .ref 2), (2, .int v2), (3, .int v3), (4, .ref v4), (5, .int v5), (6, .int (v6 + (nI 1)))], [], (mm X i j)) Q) ∧ (¬ (x18 = (kI (-1))) → (∃ (x21 : Int32), ∃ (i20 : Nat → Nat → Int32), EvI (d + 3) 387 [.ref v4, .ref 9, .int v6] (mm X i j) x21 (mm X i20 j) ∧ ((x21 = 0 → ((x18 < v2 → WP (d + 4) 1450 (50, [(0, .ref 2), (2, .int v2), (3, .int v3), (4, .ref v4), (5, .int v5), (6, .int (v6 + (nI 1)))], [], (mm X (s2 (s2 (s2 (s2 i20 36 0 ((i20 36 0) + (nI 0))) 36 1 ((i20 36 1) + (nI 0))) 36 2 ((i20 36 2) + (nI 0))) 36 3 ((i20 36 3) + (nI 1))) j)) Q) ∧ (¬ (x18 < v2) → WP (d + 4) 1450 (50, [(0, .ref 2), (2, .int v2), (3, .int v3), (4, .ref v4), (5, .int v5), (6, .int (v6 + (nI 1)))], [], (mm X (s2 (s2 (s2 (s2 i20 36 0 ((i20 36 0) + (nI 0))) 36 1 ((i20 36 1) + (nI 0))) 36 2 ((i20 36 2) + (nI 1))) 36 3 ((i20 36 3) + (nI 0))) j)) Q))) ∧ (¬ (x21 = 0) → ((x18 < v2 → WP (d + 4) 1450 (50, [(0, .ref 2), (2, .int v2), (3, .int v3), (4, .ref v4), (5, .int v5), (6, .int (v6 + (nI 1)))], [], (mm X (s2 (s2 (s2 (s2 i20 36 0 ((i20 36 0) + (nI 0))) 36 1 ((i20 36 1) + (nI 1))) 36 2 ((i20 36 2) + (nI 0))) 36 3 ((i20 36 3) + (nI 0))) j)) Q) ∧ (¬ (x18 < v2) → WP (d + 4) 1450 (50, [(0, .ref 2), (2, .int v2), (3, .int v3), (4, .ref v4), (5, .int v5), (6, .int (v6 + (nI 1)))], [], (mm X (s2 (s2 (s2 (s2 i20 36 0 ((i20 36 0) + (nI 1))) 36 1 ((i20 36 1) + (nI 0))) 36 2 ((i20 36 2) + (nI 0))) 36 3 ((i20 36 3) + (nI 0))) j)) Q))))))))))) : WP (d + 4) 1450 (50, [(0, .ref 2), (2, .int v2), (3, .int v3), (4, .ref v4), (5, .int v5), (6, .int v6)], [], mm X i j) Q := tc_1450_50 (d + 3) 2 v2 v3 v4 v5 v6 (mm X i j) Q ⟨fun e11 => ⟨rfl, ⟨rfl, (te_641 (d + 3) 40 (mm X i j) _ ⟨rfl, ⟨rfl, ⟨rfl, (te_1481 (d + 2) 2 (mm X (s2 i 40 1 (nI 0)) j) _ ⟨rfl, ⟨rfl, ⟨rfl, (te_899 (d + 2) 36 (mm X (s2 i 40 1 (nI 0)) j) _ ⟨rfl, ⟨_, rfl, ⟨rfl, (te_642 (d + 2) 40 ((i 36 0).toInt64) (mm X (s2 i 40 1 (nI 0)) j) _ ⟨rfl, ⟨fun e12 => absurd e12 (show ¬ ((nI 20) ≤ (nI 0)) by decide), fun _ => ⟨rfl, ⟨rfl, ⟨⟨rfl, (vpk 0 20 rfl)⟩, ⟨rfl, ⟨rfl, ⟨rfl, ⟨rfl, ⟨rfl, ⟨rfl, (te_900 (d + 2) 36 (mm X (s2 (s2 i 40 1 (nI 0)) 40 1 (nI 1)) (s2 j 41 0 ((i 36 0).toInt64))) _ ⟨rfl, ⟨_, rfl, ⟨rfl, (te_642 (d + 2) 40 ((i 36 1).toInt64) (mm X (s2 (s2 i 40 1 (nI 0)) 40 1 (nI 1)) (s2 j 41 0 ((i 36 0).toInt64))) _ ⟨rfl, ⟨fun e13 => absurd e13 (show ¬ ((nI 20) ≤ (nI 1)) by decide), fun _ => ⟨rfl, ⟨rfl, ⟨⟨rfl, (vpk 1 20 rfl)⟩, ⟨rfl, ⟨rfl, ⟨rfl, ⟨rfl, ⟨rfl, ⟨rfl, (te_901 (d + 2) 36 (mm X (s2 (s2 (s2 i 40 1 (nI 0)) 40 1 (nI 1)) 40 1 (nI 2)) (s2 (s2 j 41 0 ((i 36 0).toInt64)) 41 1 ((i 36 1).toInt64))) _ ⟨rfl, ⟨_, rfl, ⟨rfl, (te_642 (d + 2) 40 ((i 36 2).toInt64) (mm X (s2 (s2 (s2 i 40 1 (nI 0)) 40 1 (nI 1)) 40 1 (nI 2)) (s2 (s2 j 41 0 ((i 36 0).toInt64)) 41 1 ((i 36 1).toInt64))) _ ⟨rfl, ⟨fun e14 => absurd e14 (show ¬ ((nI 20) ≤ (nI 2)) by decide), fun _ => ⟨rfl, ⟨rfl, ⟨⟨rfl, (vpk 2 20 rfl)⟩, ⟨rfl, ⟨rfl, ⟨rfl, ⟨rfl, ⟨rfl, ⟨rfl, (te_902 (d + 2) 36 (mm X (s2 (s2 (s2 (s2 i 40 1 (nI 0)) 40 1 (nI 1)) 40 1 (nI 2)) 40 1 (nI 3)) (s2 (s2 (s2 j 41 0 ((i 36 0).toInt64)) 41 1 ((i 36 1).toInt64)) 41 2 ((i 36 2).toInt64))) _ ⟨rfl, ⟨_, rfl, ⟨rfl, (te_642 (d + 2) 40 ((i 36 3).toInt64) (mm X (s2 (s2 (s2 (s2 i 40 1 (nI 0)) 40 1 (nI 1)) 40 1 (nI 2)) 40 1 (nI 3)) (s2 (s2 (s2 j 41 0 ((i 36 0).toInt64)) 41 1 ((i 36 1).toInt64)) 41 2 ((i 36 2).toInt64))) _ ⟨rfl, ⟨fun e15 => absurd e15 (show ¬ ((nI 20) ≤ (nI 3)) by decide), fun _ => ⟨rfl, ⟨rfl, ⟨⟨rfl, (vpk 3 20 rfl)⟩, ⟨rfl, ⟨rfl, ⟨rfl, ⟨rfl, ⟨rfl, ⟨rfl, ⟨rfl, (p_907 (d + 1) X (s2 (s2 (s2 (s2 (s2 i 40 1 (nI 0)) 40 1 (nI 1)) 40 1 (nI 2)) 40 1 (nI 3)) 40 1 (nI 4)) (s2 (s2 (s2 (s2 j 41 0 ((i 36 0).toInt64)) 41 1 ((i 36 1).toInt64)) 41 2 ((i 36 2).toInt64)) 41 3 ((i 36 3).toInt64))  _ ⟨rfl, (te_642 (d + 3) 40 ((vdI (i 36 0) (i 36 1) (i 36 2) (i 36 3)).toInt64) (mm X (s2 (s2 (s2 (s2 (s2 i 40 1 (nI 0)) 40 1 (nI 1)) 40 1 (nI 2)) 40 1 (nI 3)) 40 1 (nI 4)) (s2 (s2 (s2 (s2 j 41 0 ((i 36 0).toInt64)) 41 1 ((i 36 1).toInt64)) 41 2 ((i 36 2).toInt64)) 41 3 ((i 36 3).toInt64))) _ ⟨rfl, ⟨fun e16 => absurd e16 (show ¬ ((nI 20) ≤ (nI 4)) by decide), fun _ => ⟨rfl, ⟨rfl, ⟨⟨rfl, (vpk 4 20 rfl)⟩, ⟨rfl, ⟨rfl, ⟨rfl, ⟨rfl, ⟨rfl, ⟨rfl, (te_905 (d + 3) 36 (mm X (s2 (s2 (s2 (s2 (s2 (s2 i 40 1 (nI 0)) 40 1 (nI 1)) 40 1 (nI 2)) 40 1 (nI 3)) 40 1 (nI 4)) 40 1 (nI 5)) (s2 (s2 (s2 (s2 (s2 j 41 0 ((i 36 0).toInt64)) 41 1 ((i 36 1).toInt64)) 41 2 ((i 36 2).toInt64)) 41 3 ((i 36 3).toInt64)) 41 4 ((vdI (i 36 0) (i 36 1) (i 36 2) (i 36 3)).toInt64))) _ ⟨rfl, ⟨rfl, ⟨rfl, ⟨rfl, ⟨_, rfl, ⟨rfl, (te_642 (d + 3) 40 (((((i 36 0) + (i 36 1)) + (i 36 2)) + (i 36 3)).toInt64) (mm X (s2 (s2 (s2 (s2 (s2 (s2 i 40 1 (nI 0)) 40 1 (nI 1)) 40 1 (nI 2)) 40 1 (nI 3)) 40 1 (nI 4)) 40 1 (nI 5)) (s2 (s2 (s2 (s2 (s2 j 41 0 ((i 36 0).toInt64)) 41 1 ((i 36 1).toInt64)) 41 2 ((i 36 2).toInt64)) 41 3 ((i 36 3).toInt64)) 41 4 ((vdI (i 36 0) (i 36 1) (i 36 2) (i 36 3)).toInt64))) _ ⟨rfl, ⟨fun e17 => absurd e17 (show ¬ ((nI 20) ≤ (nI 5)) by decide), fun _ => ⟨rfl, ⟨rfl, ⟨⟨rfl, (vpk 5 20 rfl)⟩, ⟨rfl, ⟨rfl, ⟨rfl, ⟨rfl, ⟨rfl, (te_899 (d + 3) 36 (mm X (s2 (s2 (s2 (s2 (s2 (s2 (s2 i 40 1 (nI 0)) 40 1 (nI 1)) 40 1 (nI 2)) 40 1 (nI 3)) 40 1 (nI 4)) 40 1 (nI 5)) 40 1 (nI 6)) (s2 (s2 (s2 (s2 (s2 (s2 j 41 0 ((i 36 0).toInt64)) 41 1 ((i 36 1).toInt64)) 41 2 ((i 36 2).toInt64)) 41 3 ((i 36 3).toInt64)) 41 4 ((vdI (i 36 0) (i 36 1) (i 36 2) (i 36 3)).toInt64)) 41 5 (((((i 36 0) + (i 36 1)) + (i 36 2)) + (i 36 3)).toInt64))) _ ⟨rfl, ⟨_, rfl, (h.1 (e11))⟩⟩)⟩⟩⟩⟩⟩⟩⟩⟩⟩⟩)⟩⟩⟩⟩⟩⟩)⟩⟩⟩⟩⟩⟩⟩⟩⟩⟩⟩)⟩)⟩⟩⟩⟩⟩⟩⟩⟩⟩⟩⟩⟩)⟩⟩⟩)⟩⟩⟩⟩⟩⟩⟩⟩⟩⟩⟩)⟩⟩⟩)⟩⟩⟩⟩⟩⟩⟩⟩⟩⟩⟩)⟩⟩⟩)⟩⟩⟩⟩⟩⟩⟩⟩⟩⟩⟩)⟩⟩⟩)⟩⟩⟩)⟩⟩⟩)⟩⟩, fun e11 => ⟨rfl, ⟨rfl, (Exists.elim (h.2 (e11)) fun x18 h52 => EvI.use h52.1 ⟨fun e19 => (tc_1450_112 (d + 3) 2 v2 v3 v4 v5 v6 (mm X i j) _ (h52.2.1 (e19))), fun e19 => ⟨rfl, ⟨rfl, ⟨h4.1, (Exists.elim (h52.2.2 (e19)) fun x21 h49 => Exists.elim h49 fun i20 h50 => EvI.use h50.1 ⟨fun e22 => ⟨fun e23 => ⟨rfl, (te_898 (d + 3) 36 (nI 0) (nI 0) (mm X i20 j) _ ⟨rfl, ⟨fun _ => ⟨rfl, (tc_898_22 (d + 3) 36 (nI 0) (nI 0) (mm X (s2 i20 36 0 ((i20 36 0) + (nI 0))) j) _ ⟨rfl, ⟨fun _ => ⟨rfl, (tc_898_44 (d + 3) 36 (nI 0) (nI 0) (mm X (s2 (s2 i20 36 0 ((i20 36 0) + (nI 0))) 36 1 ((i20 36 1) + (nI 0))) j) _ ⟨rfl, ⟨fun e26 => absurd e26 (show ¬ (¬ (nI 0) = 0) by decide), fun _ => ⟨fun _ => ⟨rfl, (tc_898_66 (d + 3) 36 (nI 0) (nI 0) (mm X (s2 (s2 (s2 i20 36 0 ((i20 36 0) + (nI 0))) 36 1 ((i20 36 1) + (nI 0))) 36 2 ((i20 36 2) + (nI 0))) j) _ ⟨rfl, ⟨fun e28 => absurd e28 (show ¬ (¬ (nI 0) = 0) by decide), fun _ => ⟨fun e29 => absurd e29 (show ¬ (¬ (nI 0) = 0) by decide), fun _ => ⟨rfl, ⟨rfl, (tc_1450_112 (d + 3) 2 v2 v3 v4 v5 v6 (mm X (s2 (s2 (s2 (s2 i20 36 0 ((i20 36 0) + (nI 0))) 36 1 ((i20 36 1) + (nI 0))) 36 2 ((i20 36 2) + (nI 0))) 36 3 ((i20 36 3) + (nI 1))) j) _ ((h50.2.1 (e22)).1 (e23)))⟩⟩⟩⟩⟩)⟩, fun e27 => absurd (show (nI 0) = 0 by decide) e27⟩⟩⟩)⟩, fun e25 => absurd (show (nI 0) = 0 by decide) e25⟩⟩)⟩, fun e24 => absurd (show (nI 0) = 0 by decide) e24⟩⟩)⟩, fun e23 => ⟨rfl, (te_898 (d + 3) 36 (nI 0) (nI 1) (mm X i20 j) _ ⟨rfl, ⟨fun _ => ⟨rfl, (tc_898_22 (d + 3) 36 (nI 0) (nI 1) (mm X (s2 i20 36 0 ((i20 36 0) + (nI 0))) j) _ ⟨rfl, ⟨fun _ => ⟨rfl, (tc_898_44 (d + 3) 36 (nI 0) (nI 1) (mm X (s2 (s2 i20 36 0 ((i20 36 0) + (nI 0))) 36 1 ((i20 36 1) + (nI 0))) j) _ ⟨rfl, ⟨fun e32 => absurd e32 (show ¬ (¬ (nI 0) = 0) by decide), fun _ => ⟨fun e33 => absurd e33 (show ¬ ((nI 1) = 0) by decide), fun _ => ⟨rfl, (tc_898_66 (d + 3) 36 (nI 0) (nI 1) (mm X (s2 (s2 (s2 i20 36 0 ((i20 36 0) + (nI 0))) 36 1 ((i20 36 1) + (nI 0))) 36 2 ((i20 36 2) + (nI 1))) j) _ ⟨rfl, ⟨fun e34 => absurd e34 (show ¬ (¬ (nI 0) = 0) by decide), fun _ => ⟨fun _ => ⟨rfl, ⟨rfl, (tc_1450_112 (d + 3) 2 v2 v3 v4 v5 v6 (mm X (s2 (s2 (s2 (s2 i20 36 0 ((i20 36 0) + (nI 0))) 36 1 ((i20 36 1) + (nI 0))) 36 2 ((i20 36 2) + (nI 1))) 36 3 ((i20 36 3) + (nI 0))) j) _ ((h50.2.1 (e22)).2 (e23)))⟩⟩, fun e35 => absurd (show ¬ (nI 1) = 0 by decide) e35⟩⟩⟩)⟩⟩⟩⟩)⟩, fun e31 => absurd (show (nI 0) = 0 by decide) e31⟩⟩)⟩, fun e30 => absurd (show (nI 0) = 0 by decide) e30⟩⟩)⟩⟩, fun e22 => ⟨fun e36 => ⟨rfl, (te_898 (d + 3) 36 (nI 1) (nI 0) (mm X i20 j) _ ⟨rfl, ⟨fun e37 => absurd e37 (show ¬ ((nI 1) = 0) by decide), fun _ => ⟨fun _ => ⟨rfl, (tc_898_22 (d + 3) 36 (nI 1) (nI 0) (mm X (s2 i20 36 0 ((i20 36 0) + (nI 0))) j) _ ⟨rfl, ⟨fun e39 => absurd e39 (show ¬ ((nI 1) = 0) by decide), fun _ => ⟨fun e40 => absurd e40 (show ¬ (¬ (nI 0) = 0) by decide), fun _ => ⟨rfl, (tc_898_44 (d + 3) 36 (nI 1) (nI 0) (mm X (s2 (s2 i20 36 0 ((i20 36 0) + (nI 0))) 36 1 ((i20 36 1) + (nI 1))) j) _ ⟨rfl, ⟨fun _ => ⟨rfl, (tc_898_66 (d + 3) 36 (nI 1) (nI 0) (mm X (s2 (s2 (s2 i20 36 0 ((i20 36 0) + (nI 0))) 36 1 ((i20 36 1) + (nI 1))) 36 2 ((i20 36 2) + (nI 0))) j) _ ⟨rfl, ⟨fun _ => ⟨rfl, ⟨rfl, (tc_1450_112 (d + 3) 2 v2 v3 v4 v5 v6 (mm X (s2 (s2 (s2 (s2 i20 36 0 ((i20 36 0) + (nI 0))) 36 1 ((i20 36 1) + (nI 1))) 36 2 ((i20 36 2) + (nI 0))) 36 3 ((i20 36 3) + (nI 0))) j) _ ((h50.2.2 (e22)).1 (e36)))⟩⟩, fun e42 => absurd (show ¬ (nI 1) = 0 by decide) e42⟩⟩)⟩, fun e41 => absurd (show ¬ (nI 1) = 0 by decide) e41⟩⟩)⟩⟩⟩⟩)⟩, fun e38 => absurd (show (nI 0) = 0 by decide) e38⟩⟩⟩)⟩, fun e36 => ⟨rfl, (te_898 (d + 3) 36 (nI 1) (nI 1) (mm X i20 j) _ ⟨rfl, ⟨fun e43 => absurd e43 (show ¬ ((nI 1) = 0) by decide), fun _ => ⟨fun e44 => absurd e44 (show ¬ ((nI 1) = 0) by decide), fun _ => ⟨rfl, (tc_898_22 (d + 3) 36 (nI 1) (nI 1) (mm X (s2 i20 36 0 ((i20 36 0) + (nI 1))) j) _ ⟨rfl, ⟨fun e45 => absurd e45 (show ¬ ((nI 1) = 0) by decide), fun _ => ⟨fun _ => ⟨rfl, (tc_898_44 (d + 3) 36 (nI 1) (nI 1) (mm X (s2 (s2 i20 36 0 ((i20 36 0) + (nI 1))) 36 1 ((i20 36 1) + (nI 0))) j) _ ⟨rfl, ⟨fun _ => ⟨rfl, (tc_898_66 (d + 3) 36 (nI 1) (nI 1) (mm X (s2 (s2 (s2 i20 36 0 ((i20 36 0) + (nI 1))) 36 1 ((i20 36 1) + (nI 0))) 36 2 ((i20 36 2) + (nI 0))) j) _ ⟨rfl, ⟨fun _ => ⟨rfl, ⟨rfl, (tc_1450_112 (d + 3) 2 v2 v3 v4 v5 v6 (mm X (s2 (s2 (s2 (s2 i20 36 0 ((i20 36 0) + (nI 1))) 36 1 ((i20 36 1) + (nI 0))) 36 2 ((i20 36 2) + (nI 0))) 36 3 ((i20 36 3) + (nI 0))) j) _ ((h50.2.2 (e22)).2 (e36)))⟩⟩, fun e48 => absurd (show ¬ (nI 1) = 0 by decide) e48⟩⟩)⟩, fun e47 => absurd (show ¬ (nI 1) = 0 by decide) e47⟩⟩)⟩, fun e46 => absurd (show ¬ (nI 1) = 0 by decide) e46⟩⟩⟩)⟩⟩⟩⟩)⟩⟩⟩)⟩⟩⟩⟩)⟩⟩⟩
set_option maxRecDepth 100000 in
theorem s_1632 (d : Nat) (X : XS) (i : Nat → Nat → Int32) (j : Nat → Nat → Int64) (a1 : Int32) (a2 : Int32) (a3 : Int32) (K : Int32 → AM → Prop) (h : ((¬ ((nI 0) ≤ a1 ∧ a1 ≤ ((i 42 14) - (nI 1))) → K (kI (-1)) (mm X (s2 i 42 36 (nI 0)) j)) ∧ ((nI 0) ≤ a1 ∧ a1 ≤ ((i 42 14) - (nI 1)) → ((((nI 1) ≤ a2 ∧ a2 ≤ (nI 3)) ∧ ((nI 1) ≤ a3 ∧ a3 ≤ (nI 9)) → (∃ (i3 : Nat → Nat → Int32), EvV (d + 261) 1589 [.ref 42, .int (shlI (nI 1) a1), .int a2, .int a3] (mm X (s2 i 42 36 (nI 0)) j) (mm X i3 j) ∧ WP (d + 262) 1632 (38, [(0, .ref 42), (1, .int a1), (2, .int a2), (3, .int a3), (4, .int (nI 0)), (5, .int (nI 0))], [], (mm X i3 j)) (qI K))) ∧ (¬ (((nI 1) ≤ a2 ∧ a2 ≤ (nI 3)) ∧ ((nI 1) ≤ a3 ∧ a3 ≤ (nI 9))) → K (kI (-1)) (mm X (s2 i 42 36 (nI 0)) j)))))) : WI (d + 262) 1632 [.ref 42, .int a1, .int a2, .int a3] (mm X i j) K := te_1632 (d + 261) 42 a1 a2 a3 (mm X i j) (qI K) ⟨rfl, ⟨rfl, (te_1546 (d + 260) 42 a1 (mm X (s2 i 42 36 (nI 0)) j) _ ⟨rfl, (p_1538 (d + 260) X (s2 i 42 36 (nI 0)) j a1 (nI 0) ((i 42 14) - (nI 1)) _ ⟨(bi_01 _), ⟨_, rfl, ⟨fun e1 => ⟨_, rfl, (h.1 ((bi_z e1)))⟩, fun e1 => (p_1588 (d + 260) X (s2 i 42 36 (nI 0)) j a2 a3 _ ⟨fun e2 => ⟨rfl, (Exists.elim ((h.2 ((bi_n e1))).1 ((bi_n e2))) fun i3 h4 => EvV.use h4.1 h4.2)⟩, fun e2 => ⟨_, rfl, ((h.2 ((bi_n e1))).2 ((bi_nn e2)))⟩⟩)⟩⟩⟩)⟩)⟩⟩
set_option maxRecDepth 100000 in
theorem s_1632_38 (d : Nat) (X : XS) (i : Nat → Nat → Int32) (j : Nat → Nat → Int64) (v1 : Int32) (v2 : Int32) (v3 : Int32) (v4 : Int32) (v5 : Int32) (Q : Option (Option Value) → AM → Prop) (h : (((nI 4) ≤ v5 → WP (d + 262) 1632 (61, [(0, .ref 42), (1, .int v1), (2, .int v2), (3, .int v3), (4, .int v4), (5, .int (nI 0))], [], (mm X i j)) Q) ∧ (¬ ((nI 4) ≤ v5) → (vp_in v5 4) ∧ WP (d + 262) 1632 (38, [(0, .ref 42), (1, .int v1), (2, .int v2), (3, .int v3), (4, .int v4), (5, .int (v5 + (nI 1)))], [], (mm X (s2 i 75 ((v5).toNatClampNeg) (nI 0)) j)) Q))) : WP (d + 262) 1632 (38, [(0, .ref 42), (1, .int v1), (2, .int v2), (3, .int v3), (4, .int v4), (5, .int v5)], [], mm X i j) Q := tc_1632_38 (d + 261) 42 v1 v2 v3 v4 v5 (mm X i j) Q ⟨fun e6 => (h.1 (e6)), fun e6 => ⟨rfl, ⟨⟨rfl, (h.2 (e6)).1⟩, (h.2 (e6)).2⟩⟩⟩
set_option maxRecDepth 100000 in
theorem s_1632_61 (d : Nat) (X : XS) (i : Nat → Nat → Int32) (j : Nat → Nat → Int64) (v1 : Int32) (v2 : Int32) (v3 : Int32) (v4 : Int32) (v5 : Int32) (Q : Option (Option Value) → AM → Prop) (h : (((i 42 46) ≤ v5 → WP (d + 262) 1632 (261, [(0, .ref 42), (4, .int v4), (5, .int (nI 0))], [], (mm X (s2 (s2 (s2 (s2 (s2 i 74 0 ((i 75 0) + (i 75 1))) 74 1 (i 75 0)) 74 2 ((i 75 0) + (i 75 2))) 74 3 v4) 42 35 (nI 0)) j)) Q) ∧ (¬ ((i 42 46) ≤ v5) → WP (d + 262) 1632 (79, [(0, .ref 42), (1, .int v1), (2, .int v2), (3, .int v3), (4, .int v4), (5, .int v5), (6, .int (nI 1)), (7, .int (nI 0)), (8, .int (nI 1))], [], (mm X i j)) Q))) : WP (d + 262) 1632 (61, [(0, .ref 42), (1, .int v1), (2, .int v2), (3, .int v3), (4, .int v4), (5, .int v5)], [], mm X i j) Q := tc_1632_61 (d + 261) 42 v1 v2 v3 v4 v5 (mm X i j) Q ⟨rfl, ⟨fun e7 => ⟨rfl, ⟨rfl, ⟨⟨rfl, (vpk 0 4 rfl)⟩, ⟨rfl, ⟨⟨rfl, (vpk 1 4 rfl)⟩, ⟨⟨rfl, (vpk 0 4 rfl)⟩, ⟨rfl, ⟨rfl, ⟨⟨rfl, (vpk 0 4 rfl)⟩, ⟨⟨rfl, (vpk 1 4 rfl)⟩, ⟨rfl, ⟨rfl, ⟨⟨rfl, (vpk 0 4 rfl)⟩, ⟨rfl, ⟨⟨rfl, (vpk 2 4 rfl)⟩, ⟨⟨rfl, (vpk 2 4 rfl)⟩, (tc_1632_245 (d + 261) 42 v4 (mm X (s2 (s2 (s2 i 74 0 ((i 75 0) + (i 75 1))) 74 1 (i 75 0)) 74 2 ((i 75 0) + (i 75 2))) j) _ ⟨rfl, ⟨⟨rfl, (vpk 3 4 rfl)⟩, ⟨rfl, (h.1 (e7))⟩⟩⟩)⟩⟩⟩⟩⟩⟩⟩⟩⟩⟩⟩⟩⟩⟩⟩⟩, fun e7 => (h.2 (e7))⟩⟩
set_option maxRecDepth 100000 in
theorem s_1632_261 (d : Nat) (X : XS) (i : Nat → Nat → Int32) (j : Nat → Nat → Int64) (v4 : Int32) (v5 : Int32) (Q : Option (Option Value) → AM → Prop) (h : (((nI 4) ≤ v5 → (vp_in (i 42 35) 32) ∧ (vp_in ((i 42 35) + (nI 1)) 32) ∧ Q (some (some (.int (i 75 0)))) (mm X (s2 (s2 i 42 35 ((i 42 35) + (nI 1))) 42 35 (((i 42 35) + (nI 1)) + (nI 1))) (s2 (s2 j 70 ((i 42 35).toNatClampNeg) ((cpI (i 74 0) (i 74 1) (i 74 2) (i 74 3)).toInt64)) 70 (((i 42 35) + (nI 1)).toNatClampNeg) (v4.toInt64)))) ∧ (¬ ((nI 4) ≤ v5) → (vp_in v5 4) ∧ (vp_in (i 42 35) 32) ∧ WP (d + 262) 1632 (261, [(0, .ref 42), (4, .int v4), (5, .int (v5 + (nI 1)))], [], (mm X (s2 i 42 35 ((i 42 35) + (nI 1))) (s2 j 70 ((i 42 35).toNatClampNeg) ((i 75 ((v5).toNatClampNeg)).toInt64)))) Q))) : WP (d + 262) 1632 (261, [(0, .ref 42), (4, .int v4), (5, .int v5)], [], mm X i j) Q := tc_1632_261 (d + 261) 42 v4 v5 (mm X i j) Q ⟨fun e8 => ⟨rfl, (p_1593 (d + 261) X i j  _ ⟨rfl, (te_1540 (d + 261) 42 ((cpI (i 74 0) (i 74 1) (i 74 2) (i 74 3)).toInt64) (mm X i j) _ ⟨rfl, ⟨rfl, ⟨⟨rfl, (h.1 (e8)).1⟩, ⟨rfl, ⟨rfl, ⟨rfl, ⟨rfl, (te_1540 (d + 261) 42 (v4.toInt64) (mm X (s2 i 42 35 ((i 42 35) + (nI 1))) (s2 j 70 ((i 42 35).toNatClampNeg) ((cpI (i 74 0) (i 74 1) (i 74 2) (i 74 3)).toInt64))) _ ⟨rfl, ⟨rfl, ⟨⟨rfl, (h.1 (e8)).2.1⟩, ⟨rfl, ⟨rfl, ⟨rfl, ⟨rfl, ⟨⟨rfl, (vpk 0 4 rfl)⟩, (h.1 (e8)).2.2⟩⟩⟩⟩⟩⟩⟩⟩)⟩⟩⟩⟩⟩⟩⟩)⟩)⟩, fun e8 => ⟨rfl, ⟨⟨rfl, (h.2 (e8)).1⟩, ⟨rfl, (te_1540 (d + 261) 42 ((i 75 ((v5).toNatClampNeg)).toInt64) (mm X i j) _ ⟨rfl, ⟨rfl, ⟨⟨rfl, (h.2 (e8)).2.1⟩, ⟨rfl, ⟨rfl, ⟨rfl, (h.2 (e8)).2.2⟩⟩⟩⟩⟩⟩)⟩⟩⟩⟩
set_option maxRecDepth 100000 in
theorem s_1632_79 (d : Nat) (X : XS) (i : Nat → Nat → Int32) (j : Nat → Nat → Int64) (v1 : Int32) (v2 : Int32) (v3 : Int32) (v4 : Int32) (v5 : Int32) (v6 : Int32) (v7 : Int32) (v8 : Int32) (Q : Option (Option Value) → AM → Prop) (h : ((v3 < v8 → ((¬ (v6 = 0) → (vp_in v5 240) ∧ ((¬ (((shrI (i 72 ((v5).toNatClampNeg)) v1) &&& (nI 1)) = (nI 1)) → ((v7 = 0 → WP (d + 262) 1632 (61, [(0, .ref 42), (1, .int v1), (2, .int v2), (3, .int v3), (4, .int (v4 + (nI 1))), (5, .int (v5 + (nI 1)))], [], (mm X (s2 i 75 3 ((i 75 3) + (nI 1))) j)) Q) ∧ (¬ (v7 = 0) → WP (d + 262) 1632 (61, [(0, .ref 42), (1, .int v1), (2, .int v2), (3, .int v3), (4, .int (v4 + (nI 1))), (5, .int (v5 + (nI 1)))], [], (mm X (s2 i 75 2 ((i 75 2) + (nI 1))) j)) Q))) ∧ (((shrI (i 72 ((v5).toNatClampNeg)) v1) &&& (nI 1)) = (nI 1) → ((v7 = 0 → WP (d + 262) 1632 (61, [(0, .ref 42), (1, .int v1), (2, .int v2), (3, .int v3), (4, .int (v4 + (nI 1))), (5, .int (v5 + (nI 1)))], [], (mm X (s2 i 75 1 ((i 75 1) + (nI 1))) j)) Q) ∧ (¬ (v7 = 0) → WP (d + 262) 1632 (61, [(0, .ref 42), (1, .int v1), (2, .int v2), (3, .int v3), (4, .int (v4 + (nI 1))), (5, .int (v5 + (nI 1)))], [], (mm X (s2 i 75 0 ((i 75 0) + (nI 1))) j)) Q))))) ∧ (v6 = 0 → WP (d + 262) 1632 (61, [(0, .ref 42), (1, .int v1), (2, .int v2), (3, .int v3), (4, .int v4), (5, .int (v5 + (nI 1)))], [], (mm X i j)) Q))) ∧ (¬ (v3 < v8) → ((v6 = 0 → ((¬ (v7 = 0) → WP (d + 262) 1632 (79, [(0, .ref 42), (1, .int v1), (2, .int v2), (3, .int v3), (4, .int v4), (5, .int v5), (6, .int (nI 0)), (7, .int (nI 1)), (8, .int (v8 + (nI 1)))], [], (mm X i j)) Q) ∧ (v7 = 0 → (vp_in (v5 + v8) 240) ∧ (((i 63 ((v5 + v8).toNatClampNeg)) < v2 → WP (d + 262) 1632 (79, [(0, .ref 42), (1, .int v1), (2, .int v2), (3, .int v3), (4, .int v4), (5, .int v5), (6, .int (nI 0)), (7, .int (nI 0)), (8, .int (v8 + (nI 1)))], [], (mm X i j)) Q) ∧ (¬ ((i 63 ((v5 + v8).toNatClampNeg)) < v2) → WP (d + 262) 1632 (79, [(0, .ref 42), (1, .int v1), (2, .int v2), (3, .int v3), (4, .int v4), (5, .int v5), (6, .int (nI 0)), (7, .int (nI 1)), (8, .int (v8 + (nI 1)))], [], (mm X i j)) Q))))) ∧ (¬ (v6 = 0) → (vp_in (v5 + v8) 240) ∧ (((i 63 ((v5 + v8).toNatClampNeg)) = (kI (-1)) → ((¬ (v7 = 0) → WP (d + 262) 1632 (79, [(0, .ref 42), (1, .int v1), (2, .int v2), (3, .int v3), (4, .int v4), (5, .int v5), (6, .int (nI 0)), (7, .int (nI 1)), (8, .int (v8 + (nI 1)))], [], (mm X i j)) Q) ∧ (v7 = 0 → (((i 63 ((v5 + v8).toNatClampNeg)) < v2 → WP (d + 262) 1632 (79, [(0, .ref 42), (1, .int v1), (2, .int v2), (3, .int v3), (4, .int v4), (5, .int v5), (6, .int (nI 0)), (7, .int (nI 0)), (8, .int (v8 + (nI 1)))], [], (mm X i j)) Q) ∧ (¬ ((i 63 ((v5 + v8).toNatClampNeg)) < v2) → WP (d + 262) 1632 (79, [(0, .ref 42), (1, .int v1), (2, .int v2), (3, .int v3), (4, .int v4), (5, .int v5), (6, .int (nI 0)), (7, .int (nI 1)), (8, .int (v8 + (nI 1)))], [], (mm X i j)) Q))))) ∧ (¬ ((i 63 ((v5 + v8).toNatClampNeg)) = (kI (-1))) → ((¬ (v7 = 0) → WP (d + 262) 1632 (79, [(0, .ref 42), (1, .int v1), (2, .int v2), (3, .int v3), (4, .int v4), (5, .int v5), (6, .int (nI 1)), (7, .int (nI 1)), (8, .int (v8 + (nI 1)))], [], (mm X i j)) Q) ∧ (v7 = 0 → (((i 63 ((v5 + v8).toNatClampNeg)) < v2 → WP (d + 262) 1632 (79, [(0, .ref 42), (1, .int v1), (2, .int v2), (3, .int v3), (4, .int v4), (5, .int v5), (6, .int (nI 1)), (7, .int (nI 0)), (8, .int (v8 + (nI 1)))], [], (mm X i j)) Q) ∧ (¬ ((i 63 ((v5 + v8).toNatClampNeg)) < v2) → WP (d + 262) 1632 (79, [(0, .ref 42), (1, .int v1), (2, .int v2), (3, .int v3), (4, .int v4), (5, .int v5), (6, .int (nI 1)), (7, .int (nI 1)), (8, .int (v8 + (nI 1)))], [], (mm X i j)) Q))))))))))) : WP (d + 262) 1632 (79, [(0, .ref 42), (1, .int v1), (2, .int v2), (3, .int v3), (4, .int v4), (5, .int v5), (6, .int v6), (7, .int v7), (8, .int v8)], [], mm X i j) Q := tc_1632_79 (d + 261) 42 v1 v2 v3 v4 v5 v6 v7 v8 (mm X i j) Q ⟨fun e9 => ⟨fun e10 => ⟨rfl, ⟨rfl, (te_1590 (d + 261) 42 v1 v5 (mm X i j) _ ⟨rfl, ⟨⟨rfl, ((h.1 (e9)).1 (e10)).1⟩, ⟨fun e11 => ⟨k0_01, ⟨_, rfl, ⟨fun _ => ⟨fun e13 => ⟨⟨rfl, (vpk 3 4 rfl)⟩, ⟨⟨rfl, (vpk 3 4 rfl)⟩, (tc_1632_189 (d + 261) 42 v1 v2 v3 (v4 + (nI 1)) v5 (mm X (s2 i 75 3 ((i 75 3) + (nI 1))) j) _ ((((h.1 (e9)).1 (e10)).2.1 (e11)).1 (e13)))⟩⟩, fun e13 => ⟨⟨rfl, (vpk 2 4 rfl)⟩, ⟨⟨rfl, (vpk 2 4 rfl)⟩, (tc_1632_189 (d + 261) 42 v1 v2 v3 (v4 + (nI 1)) v5 (mm X (s2 i 75 2 ((i 75 2) + (nI 1))) j) _ ((((h.1 (e9)).1 (e10)).2.1 (e11)).2 (e13)))⟩⟩⟩, fun e12 => absurd (show (nI 0) = 0 by decide) e12⟩⟩⟩, fun e11 => ⟨k1_01, ⟨_, rfl, ⟨fun e14 => absurd e14 (show ¬ ((nI 1) = 0) by decide), fun _ => ⟨fun e15 => ⟨⟨rfl, (vpk 1 4 rfl)⟩, ⟨⟨rfl, (vpk 1 4 rfl)⟩, (tc_1632_189 (d + 261) 42 v1 v2 v3 (v4 + (nI 1)) v5 (mm X (s2 i 75 1 ((i 75 1) + (nI 1))) j) _ ((((h.1 (e9)).1 (e10)).2.2 ((Classical.byContradiction e11))).1 (e15)))⟩⟩, fun e15 => ⟨⟨rfl, (vpk 0 4 rfl)⟩, ⟨⟨rfl, (vpk 0 4 rfl)⟩, (tc_1632_189 (d + 261) 42 v1 v2 v3 (v4 + (nI 1)) v5 (mm X (s2 i 75 0 ((i 75 0) + (nI 1))) j) _ ((((h.1 (e9)).1 (e10)).2.2 ((Classical.byContradiction e11))).2 (e15)))⟩⟩⟩⟩⟩⟩⟩⟩⟩)⟩⟩, fun e10 => (tc_1632_189 (d + 261) 42 v1 v2 v3 v4 v5 (mm X i j) _ ((h.1 (e9)).2 ((Classical.byContradiction e10))))⟩, fun e9 => ⟨fun e16 => (tc_1632_111 (d + 261) 42 v1 v2 v3 v4 v5 (nI 0) v7 v8 (mm X i j) _ ⟨fun e17 => (tc_1632_137 (d + 261) 42 v1 v2 v3 v4 v5 (nI 0) (nI 1) v8 (mm X i j) _ (((h.2 (e9)).1 (e16)).1 (e17))), fun e17 => ⟨rfl, ⟨⟨rfl, (((h.2 (e9)).1 (e16)).2 ((Classical.byContradiction e17))).1⟩, ⟨fun e18 => (tc_1632_137 (d + 261) 42 v1 v2 v3 v4 v5 (nI 0) (nI 0) v8 (mm X i j) _ ((((h.2 (e9)).1 (e16)).2 ((Classical.byContradiction e17))).2.1 (e18))), fun e18 => (tc_1632_137 (d + 261) 42 v1 v2 v3 v4 v5 (nI 0) (nI 1) v8 (mm X i j) _ ((((h.2 (e9)).1 (e16)).2 ((Classical.byContradiction e17))).2.2 (e18)))⟩⟩⟩⟩), fun e16 => ⟨rfl, ⟨⟨rfl, ((h.2 (e9)).2 (e16)).1⟩, ⟨fun e19 => (tc_1632_111 (d + 261) 42 v1 v2 v3 v4 v5 (nI 0) v7 v8 (mm X i j) _ ⟨fun e20 => (tc_1632_137 (d + 261) 42 v1 v2 v3 v4 v5 (nI 0) (nI 1) v8 (mm X i j) _ ((((h.2 (e9)).2 (e16)).2.1 (e19)).1 (e20))), fun e20 => ⟨rfl, ⟨⟨rfl, ((h.2 (e9)).2 (e16)).1⟩, ⟨fun e21 => (tc_1632_137 (d + 261) 42 v1 v2 v3 v4 v5 (nI 0) (nI 0) v8 (mm X i j) _ (((((h.2 (e9)).2 (e16)).2.1 (e19)).2 ((Classical.byContradiction e20))).1 (e21))), fun e21 => (tc_1632_137 (d + 261) 42 v1 v2 v3 v4 v5 (nI 0) (nI 1) v8 (mm X i j) _ (((((h.2 (e9)).2 (e16)).2.1 (e19)).2 ((Classical.byContradiction e20))).2 (e21)))⟩⟩⟩⟩), fun e19 => (tc_1632_111 (d + 261) 42 v1 v2 v3 v4 v5 (nI 1) v7 v8 (mm X i j) _ ⟨fun e22 => (tc_1632_137 (d + 261) 42 v1 v2 v3 v4 v5 (nI 1) (nI 1) v8 (mm X i j) _ ((((h.2 (e9)).2 (e16)).2.2 (e19)).1 (e22))), fun e22 => ⟨rfl, ⟨⟨rfl, ((h.2 (e9)).2 (e16)).1⟩, ⟨fun e23 => (tc_1632_137 (d + 261) 42 v1 v2 v3 v4 v5 (nI 1) (nI 0) v8 (mm X i j) _ (((((h.2 (e9)).2 (e16)).2.2 (e19)).2 ((Classical.byContradiction e22))).1 (e23))), fun e23 => (tc_1632_137 (d + 261) 42 v1 v2 v3 v4 v5 (nI 1) (nI 1) v8 (mm X i j) _ (((((h.2 (e9)).2 (e16)).2.2 (e19)).2 ((Classical.byContradiction e22))).2 (e23)))⟩⟩⟩⟩)⟩⟩⟩⟩⟩
theorem k_41 (d : Nat) {X : XS} {i : Nat → Nat → Int32} {j : Nat → Nat → Int64} (h : Rel X i j) (a1 a2 a3 : Int32) {Kf : AM → Prop} (hK : Nx X Kf) : WI (d + 300) 1450 [.ref 2, .int a1, .int a2, .int a3] (mm X i j) (fun x1 M1 => WI (d + 300) 1632 [.ref 42, .int a1, .int a2, .int a3] M1 (fun x2 M2 => x1 = x2 ∧ Kf M2)) := by
  have ht := hK.th h
  have hrel := h
  obtain ⟨hx, ⟨⟨n, h0⟩, h1, ⟨ng, h2, no, h4⟩, ⟨tn, h3⟩, ⟨np, h5⟩, h6, ns, h7⟩, h8, hz⟩ := h
  have e1 := h4.2.1
  have e2 := h4.2.2.1
  have hno := h4.1
  have hn := h0.2.1.1.2
  refine s_1450 _ X i j a1 a2 a3 _ ⟨h4.sg, ?_, ?_⟩
  · rw [e1]
    exact fun z => s_1632 _ X i j _ _ _ _ (bq_t (by rw [e2]; exact z) ⟨rfl, ht⟩)
  rw [e1]
  intro z hO
  have z2 : nI 0 ≤ a1 ∧ a1 ≤ i 42 14 - nI 1 := by rw [e2]; exact z
  obtain ⟨s, hs, rfl⟩ := idx_of (by omega) z

  refine br_c (fun v => ?_) (fun v => s_1632 _ X i j _ _ _ _ (bq_f z2 (br_f v ⟨rfl, ht⟩)))
  obtain ⟨q, hq1, hq, rfl⟩ := ev_rng (by decide) v.2
  obtain ⟨c, hc3, rfl⟩ := of_rng (by decide) ⟨Int32.le_trans (by decide) v.1.1, v.1.2⟩
  have hc1 : 1 ≤ c := (nI_leI (by decide) (by omega)).mp v.1.1
  obtain ⟨i1, hE1, f1, z1, r40, hL, g9⟩ := gov 0 X i j h0 h2 hz
  refine ⟨i1, hE1.up (by omega), ?_⟩
  rw [tc_nI (by omega)] at hO
  rw [g9, h0.2.1.1.1, mx_sub (by omega) (by omega), tc_nI (by omega)]
  have e26 : i1 26 = i 26 := f1 26 (Or.inl (show 0 < 10 by decide))
  have e25 : i1 25 = i 25 := f1 25 (Or.inl (show 0 < 10 by decide))
  obtain ⟨A, hA⟩ : ∃ A, A = svP X i s := ⟨_, rfl⟩
  obtain ⟨V, hV⟩ : ∃ V : Nat → Prop, V = fun t => vAll i t q := ⟨_, rfl⟩
  obtain ⟨B, hB⟩ : ∃ B : Nat → Prop, B = fun t => vCom i (nI c) t q := ⟨_, rfl⟩
  obtain ⟨kn, hkn⟩ : ∃ kn, kn = n - q := ⟨_, rfl⟩
  rw [← hkn]
  have c26 : ∀ i2 : Nat → Nat → Int32, i2 26 = i 26 → i2 63 = i 63 → i2 25 = i 25 → i2 27 = i 27 → i2 28 = i 28 → i2 62 = i 62 → R6 i2 := fun i2 a b c d e f => by unfold R6; rw [a, b, c, d, e, f]; exact h6
  have F36 : ∀ {i2 : Nat → Nat → Int32}, (∀ b, ¬ (30 ≤ xt X b ∧ xt X b < 40) → b ≠ 36 → i2 b = i1 b) → FrC X i i2 := fun {i2} g b hb => by
    have t36 : 41 ≤ xt X 36 ∧ xt X 36 < 50 := by
      have : 41 ≤ TF 36 ∧ TF 36 < 50 := by decide
      exact this
    rw [g b (by omega) (fun e => by subst e; omega)]
    exact f1 b hb
  refine lup kn (fun t (i2 : Nat → Nat → Int32) => (∀ b, ¬ (30 ≤ xt X b ∧ xt X b < 40) → b ≠ 36 → i2 b = i1 b) ∧ i2 36 0 = nI (ct (fun t => V t ∧ A t ∧ B t) t) ∧ i2 36 1 = nI (ct (fun t => V t ∧ A t ∧ ¬ B t) t) ∧ i2 36 2 = nI (ct (fun t => V t ∧ ¬ A t ∧ B t) t) ∧ i2 36 3 = nI (ct (fun t => V t ∧ ¬ A t ∧ ¬ B t) t)) (fun t i2 => (50, [(0, .ref 2), (2, .int (nI c)), (3, .int (nI q)), (4, .ref (xr X 23 s)), (5, .int (nI kn)), (6, .int (nI t))], [], mm X i2 j)) ?_ ?_ 0 (s2 (s2 (s2 (s2 i1 36 0 (nI 0)) 36 1 (nI 0)) 36 2 (nI 0)) 36 3 (nI 0)) (Nat.zero_le _) ⟨fun b _ h2 => by rw [s2_ne h2, s2_ne h2, s2_ne h2, s2_ne h2], by rw [s2_ne2 (by decide), s2_ne2 (by decide), s2_ne2 (by decide), s2_self]; rfl, by rw [s2_ne2 (by decide), s2_ne2 (by decide), s2_self]; rfl, by rw [s2_ne2 (by decide), s2_self]; rfl, by rw [s2_self]; rfl⟩
  · rintro i2 ⟨g, c0, c1, c2, c3⟩
    refine s_1450_50 _ X i2 j _ _ _ hO _ _ _ (br_t (Int32.le_refl _) (qI_of ?_))
    rw [vd_cp, c0, c1, c2, c3]
    obtain ⟨i3, hi3⟩ : ∃ i3, i3 = s2 (s2 (s2 (s2 (s2 (s2 (s2 i2 40 1 (nI 0)) 40 1 (nI 1)) 40 1 (nI 2)) 40 1 (nI 3)) 40 1 (nI 4)) 40 1 (nI 5)) 40 1 (nI 6) := ⟨_, rfl⟩
    rw [← hi3]
    obtain ⟨x0, hx0⟩ : ∃ x0, x0 = ct (fun t => V t ∧ A t ∧ B t) kn := ⟨_, rfl⟩
    obtain ⟨x1, hx1⟩ : ∃ x1, x1 = ct (fun t => V t ∧ A t ∧ ¬ B t) kn := ⟨_, rfl⟩
    obtain ⟨x2, hx2⟩ : ∃ x2, x2 = ct (fun t => V t ∧ ¬ A t ∧ B t) kn := ⟨_, rfl⟩
    obtain ⟨x3, hx3⟩ : ∃ x3, x3 = ct (fun t => V t ∧ ¬ A t ∧ ¬ B t) kn := ⟨_, rfl⟩
    have sum4 : ct V kn = x0 + x1 + x2 + x3 := by
      rw [ct_split V A kn, ct_split (fun t => V t ∧ A t) B kn, ct_split (fun t => V t ∧ ¬ A t) B kn, hx0, hx1, hx2, hx3]
      simp only [and_assoc]
      omega
    rw [← hx0, ← hx1, ← hx2, ← hx3]
    simp only [nI_add]
    obtain ⟨j3, hj3⟩ : ∃ j3, j3 = s2 (s2 (s2 (s2 (s2 (s2 j 41 0 (nI x0).toInt64) 41 1 (nI x1).toInt64) 41 2 (nI x2).toInt64) 41 3 (nI x3).toInt64) 41 4 (cpI (nI (x0 + x1)) (nI x0) (nI (x0 + x2)) (nI (x0 + x1 + x2 + x3))).toInt64) 41 5 (nI (x0 + x1 + x2 + x3)).toInt64 := ⟨_, rfl⟩
    rw [← hj3]
    have f3 : ∀ b, b ≠ 40 → i3 b = i2 b := fun b hb => by rw [hi3, s2_ne hb, s2_ne hb, s2_ne hb, s2_ne hb, s2_ne hb, s2_ne hb, s2_ne hb]
    have F2 := F36 g
    have F : FrC X i i3 := F2.tr (FrC_40 f3)
    have t34 : xt X 34 = 45 ∧ xt X 35 = 45 := ⟨rfl, rfl⟩
    have Z : RZ i3 := RZ_of z1 ((f3 34 (by decide)).trans (g 34 (by omega) (by decide))) ((f3 35 (by decide)).trans (g 35 (by omega) (by decide)))
    have g42 : i3 42 = i 42 := F 42 (Or.inl (show 0 < 10 by decide))
    refine s_1632 _ X i3 j3 _ _ _ _ (bq_f (by rw [g42]; exact z2) (br_t v ?_))
    obtain ⟨i4, hE4, f4, -, p46, -, -, p72, p73⟩ := prpv 0 X i (s2 i3 42 36 (nI 0)) j3 h0 h2 h4 (F.kp.tr (FrR_th (X := X) (nI 0)).kp) (shlI (nI 1) (nI s)) (nI c) hq
    rw [← hkn] at p46
    refine ⟨i4, hE4.up (by omega), ?_⟩
    have k4 : Kp X i i4 := F.kp.tr ((FrR_th (nI 0)).tr f4.fr).kp
    have e63 : i4 63 = i 63 := xt_c k4 63 0 rfl rfl (by decide)
    refine lup 4 (fun e (i5 : Nat → Nat → Int32) => (∀ b, b ≠ 75 → i5 b = i4 b) ∧ ∀ p, p < e → i5 75 p = nI 0) (fun e i5 => (38, [(0, .ref 42), (1, .int (nI s)), (2, .int (nI c)), (3, .int (nI q)), (4, .int (nI 0)), (5, .int (nI e))], [], mm X i5 j3)) ?_ ?_ 0 i4 (Nat.zero_le _) ⟨fun _ _ => rfl, fun p hp => absurd hp (by omega)⟩
    · rintro i5 ⟨k1, k2⟩
      refine s_1632_38 _ X i5 j3 _ _ _ _ _ _ (br_t (Int32.le_refl _) ?_)
      refine lup kn (fun t (z : Int32 × (Nat → Nat → Int32)) => z.1 = nI (ct V t) ∧ (∀ b, b ≠ 75 → z.2 b = i4 b) ∧ z.2 75 0 = nI (ct (fun t => V t ∧ A t ∧ B t) t) ∧ z.2 75 1 = nI (ct (fun t => V t ∧ A t ∧ ¬ B t) t) ∧ z.2 75 2 = nI (ct (fun t => V t ∧ ¬ A t ∧ B t) t) ∧ z.2 75 3 = nI (ct (fun t => V t ∧ ¬ A t ∧ ¬ B t) t)) (fun t z => (61, [(0, .ref 42), (1, .int (nI s)), (2, .int (nI c)), (3, .int (nI q)), (4, .int z.1), (5, .int (nI t))], [], mm X z.2 j3)) ?_ ?_ 0 (nI 0, i5) (Nat.zero_le _) ⟨rfl, k1, k2 0 (by decide), k2 1 (by decide), k2 2 (by decide), k2 3 (by decide)⟩
      · rintro ⟨v4, i6⟩ ⟨e4, k1, d0, d1, d2, d3⟩
        dsimp only at e4 k1 d0 d1 d2 d3 ⊢
        subst e4
        refine s_1632_61 _ X i6 j3 _ _ _ _ _ _ (br_t (by rw [k1 42 (by decide), p46]; exact Int32.le_refl _) ?_)
        rw [d0, d1, d2, sum4, ← hx0, ← hx1, ← hx2]
        rw [← hx0] at d0
        rw [← hx1] at d1
        rw [← hx2] at d2
        rw [← hx3] at d3
        simp only [nI_add]
        obtain ⟨i7, hi7⟩ : ∃ i7, i7 = s2 (s2 (s2 (s2 (s2 i6 74 0 (nI (x0 + x1))) 74 1 (nI x0)) 74 2 (nI (x0 + x2))) 74 3 (nI (x0 + x1 + x2 + x3))) 42 35 (nI 0) := ⟨_, rfl⟩
        rw [← hi7]
        have l74 : i7 74 0 = nI (x0 + x1) ∧ i7 74 1 = nI x0 ∧ i7 74 2 = nI (x0 + x2) ∧ i7 74 3 = nI (x0 + x1 + x2 + x3) := by
          rw [hi7, s2_ne (show 74 ≠ 42 by decide)]
          refine ⟨?_, ?_, ?_, ?_⟩
          · rw [s2_ne2 (by decide), s2_ne2 (by decide), s2_ne2 (by decide), s2_self]
          · rw [s2_ne2 (by decide), s2_ne2 (by decide), s2_self]
          · rw [s2_ne2 (by decide), s2_self]
          · rw [s2_self]
        have l7 : ∀ b, b ≠ 42 → b ≠ 74 → i7 b = i6 b := fun b h1 h2 => by rw [hi7, s2_ne h1, s2_ne h2, s2_ne h2, s2_ne h2, s2_ne h2]
        have l42 : ∀ k, k ≠ 35 → i7 42 k = i6 42 k := fun k hk => by rw [hi7, s2_ne2 hk, s2_ne (show 42 ≠ 74 by decide), s2_ne (show 42 ≠ 74 by decide), s2_ne (show 42 ≠ 74 by decide), s2_ne (show 42 ≠ 74 by decide)]
        refine lup 4 (fun e (z : (Nat → Nat → Int32) × (Nat → Nat → Int64)) => (∀ b, b ≠ 42 → z.1 b = i7 b) ∧ (∀ k, k ≠ 35 → z.1 42 k = i7 42 k) ∧ z.1 42 35 = nI e ∧ (∀ b, b ≠ 70 → z.2 b = j3 b) ∧ ∀ p, p < e → z.2 70 p = (i7 75 p).toInt64) (fun e z => (261, [(0, .ref 42), (4, .int (nI (x0 + x1 + x2 + x3))), (5, .int (nI e))], [], mm X z.1 z.2)) ?_ ?_ 0 (i7, j3) (Nat.zero_le _) ⟨fun _ _ => rfl, fun _ _ => rfl, by dsimp only; rw [hi7, s2_self], fun _ _ => rfl, fun p hp => absurd hp (by omega)⟩
        · rintro ⟨i8, j8⟩ ⟨m1, m2, m3, m4, m5⟩
          dsimp only at m1 m2 m3 m4 m5 ⊢
          have m75 : i8 75 = i6 75 := (m1 75 (by decide)).trans (l7 75 (by decide) (by decide))
          refine s_1632_261 _ X i8 j8 _ _ _ (br_t (Int32.le_refl _) ⟨by rw [m3]; exact vp_in_nI (by decide) (by decide), by rw [m3]; exact vp_in_nI (n := 5) (by decide) (by decide), qI_of ⟨by rw [m75, d0], ?_⟩⟩)
          rw [m1 74 (by decide), l74.1, l74.2.1, l74.2.2.1, l74.2.2.2, m3]
          refine hK.k (fin_row hrel F Z (((FrR_th (nI 0)).tr f4.fr).tr ⟨fun b h1 h2 => ?_, fun k hk => ?_⟩) (r8_of 6 (by decide) ?_ (s2_self _ _ _ _) ?_))
          · have t74 : xt X 74 = 40 ∧ xt X 75 = 40 := ⟨rfl, rfl⟩
            rw [s2_ne h2, s2_ne h2, m1 b h2, l7 b h2 (fun e => by subst e; omega), k1 b (fun e => by subst e; omega)]
          · rw [s2_ne2 (by omega), s2_ne2 (by omega), m2 k (by omega), l42 k (by omega), k1 42 (by decide)]
          · rw [s2_ne (show 40 ≠ 42 by decide), s2_ne (show 40 ≠ 42 by decide), m1 40 (by decide), l7 40 (by decide) (by decide), k1 40 (by decide), f4.1 40 (show ¬ (48 : Nat) = 40 by decide) (by decide), s2_ne (show 40 ≠ 42 by decide), hi3, s2_self]
          · intro p hp
            have e4 : (nI 4).toNatClampNeg = 4 := rfl
            have e5 : (nI 4 + nI 1).toNatClampNeg = 5 := rfl
            rw [s2_ne (show 41 ≠ 70 by decide), s2_ne (show 41 ≠ 70 by decide), m4 41 (by decide), hj3, e4, e5]
            have q0 := m5 0 (by decide)
            have q1 := m5 1 (by decide)
            have q2 := m5 2 (by decide)
            have q3 := m5 3 (by decide)
            rw [l7 75 (by decide) (by decide)] at q0 q1 q2 q3
            rw [d0] at q0
            rw [d1] at q1
            rw [d2] at q2
            rw [d3] at q3
            match p, hp with
            | 0, _ => simp [s2_ap, q0]
            | 1, _ => simp [s2_ap, q1]
            | 2, _ => simp [s2_ap, q2]
            | 3, _ => simp [s2_ap, q3]
            | 4, _ => simp [s2_ap]
            | 5, _ => simp [s2_ap]
        · rintro e ⟨i8, j8⟩ he ⟨m1, m2, m3, m4, m5⟩ go2
          dsimp only at m1 m2 m3 m4 m5 ⊢
          refine s_1632_261 _ X i8 j8 _ _ _ (br_f (nI_ge he (by decide)) ⟨vp_in_nI he (by decide), by rw [m3]; exact vp_in_nI (by omega) (by decide), ?_⟩)
          rw [m3, tc_nI (by omega), nI_add, m1 75 (by decide)]
          refine go2 (s2 i8 42 35 (nI (e + 1)), s2 j8 70 e (i7 75 e).toInt64) ⟨fun b hb => by dsimp only; rw [s2_ne hb]; exact m1 b hb, fun k hk => by dsimp only; rw [s2_ne2 hk]; exact m2 k hk, by dsimp only; exact s2_self _ _ _ _, fun b hb => by dsimp only; rw [s2_ne hb]; exact m4 b hb, fun p hp => ?_⟩
          dsimp only
          by_cases h : p = e
          · subst h; exact s2_self _ _ _ _
          · rw [s2_ne2 h]; exact m5 p (by omega)
      · rintro t ⟨v4, i6⟩ htn ⟨e4, k1, d0, d1, d2, d3⟩ go
        dsimp only at e4 k1 d0 d1 d2 d3 ⊢
        subst e4
        refine s_1632_61 _ X i6 j3 _ _ _ _ _ _ (br_f (by rw [k1 42 (by decide), p46]; exact nI_ge htn (by omega)) ?_)
        refine lup (q + 1) (fun e (z : Int32 × Int32) => 1 ≤ e ∧ z.1 = bi (vAll i t (e - 1)) ∧ z.2 = bi (vCom i (nI c) t (e - 1))) (fun e z => (79, [(0, .ref 42), (1, .int (nI s)), (2, .int (nI c)), (3, .int (nI q)), (4, .int (nI (ct V t))), (5, .int (nI t)), (6, .int z.1), (7, .int z.2), (8, .int (nI e))], [], mm X i6 j3)) ?_ ?_ 1 (nI 1, nI 0) (by omega) ⟨Nat.le_refl _, (bi_t fun m h1 h2 => absurd h1 (by omega)).symm, (bi_f fun ⟨m, h1, h2, _⟩ => by omega).symm⟩
        · rintro ⟨v6, v7⟩ ⟨-, e6, e7⟩
          rw [Nat.add_sub_cancel] at e6 e7
          dsimp only at e6 e7 ⊢
          subst e6; subst e7
          refine s_1632_79 _ X i6 j3 _ _ _ _ _ _ _ _ _ (br_t ((nI_ltI (by omega) (by omega)).mpr (Nat.lt_succ_self _)) ?_)
          rw [tc_nI (by omega), nI_add, nI_add, bi_eq0, bi_eq0, k1 72 (by decide), p72 t (by omega), propext (soF_r hno hs t), show svP X i s t = A t by rw [hA], show vAll i t q = V t by rw [hV], show vCom i (nI c) t q = B t by rw [hB]]
          have nx : ∀ (i7 : Nat → Nat → Int32), V t → (∀ b, b ≠ 75 → i7 b = i6 b) → i7 75 0 = nI (ct (fun t => V t ∧ A t ∧ B t) (t + 1)) → i7 75 1 = nI (ct (fun t => V t ∧ A t ∧ ¬ B t) (t + 1)) → i7 75 2 = nI (ct (fun t => V t ∧ ¬ A t ∧ B t) (t + 1)) → i7 75 3 = nI (ct (fun t => V t ∧ ¬ A t ∧ ¬ B t) (t + 1)) → WP _ 1632 (61, [(0, .ref 42), (1, .int (nI s)), (2, .int (nI c)), (3, .int (nI q)), (4, .int (nI (ct V t + 1))), (5, .int (nI (t + 1)))], [], mm X i7 j3) _ := fun i7 vt g a0 a1 a2 a3 => go (nI (ct V t + 1), i7) ⟨by dsimp only; rw [ct_t vt], fun b hb => (g b hb).trans (k1 b hb), a0, a1, a2, a3⟩
          refine bq_c (fun w => ⟨vp_in_nI (by omega) (by decide), bq_c (fun a => br_c (fun b => ?_) (fun b => ?_)) (fun a => br_c (fun b => ?_) (fun b => ?_))⟩) (fun w => ?_)
          · have w := Classical.byContradiction w
            refine nx _ w (fun b hb => s2_ne hb) ?_ ?_ ?_ ?_
            · rw [s2_ne2 (by decide), d0, ct_f (p := fun t => V t ∧ A t ∧ B t) fun u => a u.2.1]
            · rw [s2_ne2 (by decide), d1, ct_f (p := fun t => V t ∧ A t ∧ ¬ B t) fun u => a u.2.1]
            · rw [s2_ne2 (by decide), d2, ct_f (p := fun t => V t ∧ ¬ A t ∧ B t) fun u => b u.2.2]
            · rw [s2_self, d3, nI_add, ct_t (p := fun t => V t ∧ ¬ A t ∧ ¬ B t) ⟨w, a, b⟩]
          · have w := Classical.byContradiction w
            have b := Classical.byContradiction b
            refine nx _ w (fun b hb => s2_ne hb) ?_ ?_ ?_ ?_
            · rw [s2_ne2 (by decide), d0, ct_f (p := fun t => V t ∧ A t ∧ B t) fun u => a u.2.1]
            · rw [s2_ne2 (by decide), d1, ct_f (p := fun t => V t ∧ A t ∧ ¬ B t) fun u => a u.2.1]
            · rw [s2_self, d2, nI_add, ct_t (p := fun t => V t ∧ ¬ A t ∧ B t) ⟨w, a, b⟩]
            · rw [s2_ne2 (by decide), d3, ct_f (p := fun t => V t ∧ ¬ A t ∧ ¬ B t) fun u => u.2.2 b]
          · have w := Classical.byContradiction w
            refine nx _ w (fun b hb => s2_ne hb) ?_ ?_ ?_ ?_
            · rw [s2_ne2 (by decide), d0, ct_f (p := fun t => V t ∧ A t ∧ B t) fun u => b u.2.2]
            · rw [s2_self, d1, nI_add, ct_t (p := fun t => V t ∧ A t ∧ ¬ B t) ⟨w, a, b⟩]
            · rw [s2_ne2 (by decide), d2, ct_f (p := fun t => V t ∧ ¬ A t ∧ B t) fun u => b u.2.2]
            · rw [s2_ne2 (by decide), d3, ct_f (p := fun t => V t ∧ ¬ A t ∧ ¬ B t) fun u => u.2.1 a]
          · have w := Classical.byContradiction w
            have b := Classical.byContradiction b
            refine nx _ w (fun b hb => s2_ne hb) ?_ ?_ ?_ ?_
            · rw [s2_self, d0, nI_add, ct_t (p := fun t => V t ∧ A t ∧ B t) ⟨w, a, b⟩]
            · rw [s2_ne2 (by decide), d1, ct_f (p := fun t => V t ∧ A t ∧ ¬ B t) fun u => u.2.2 b]
            · rw [s2_ne2 (by decide), d2, ct_f (p := fun t => V t ∧ ¬ A t ∧ B t) fun u => u.2.1 a]
            · rw [s2_ne2 (by decide), d3, ct_f (p := fun t => V t ∧ ¬ A t ∧ ¬ B t) fun u => u.2.1 a]
          · refine go (nI (ct V t), i6) ⟨by dsimp only; rw [ct_f w], k1, ?_, ?_, ?_, ?_⟩
            · dsimp only; rw [ct_f (p := fun t => V t ∧ A t ∧ B t) fun u => w u.1]; exact d0
            · dsimp only; rw [ct_f (p := fun t => V t ∧ A t ∧ ¬ B t) fun u => w u.1]; exact d1
            · dsimp only; rw [ct_f (p := fun t => V t ∧ ¬ A t ∧ B t) fun u => w u.1]; exact d2
            · dsimp only; rw [ct_f (p := fun t => V t ∧ ¬ A t ∧ ¬ B t) fun u => w u.1]; exact d3
        · rintro e ⟨v6, v7⟩ he ⟨h1, e6, e7⟩ go2
          obtain ⟨e', rfl⟩ : ∃ e', e = e' + 1 := ⟨e - 1, by omega⟩
          rw [Nat.add_sub_cancel] at e6 e7
          dsimp only at e6 e7 ⊢
          subst e6; subst e7
          refine s_1632_79 _ X i6 j3 _ _ _ _ _ _ _ _ _ (br_f (fun y => by rw [nI_ltI (by omega) (by omega)] at y; omega) ?_)
          rw [nI_add t (e' + 1), nI_add (e' + 1) 1, tc_nI (by omega), k1 63 (by decide), e63, bi_eq0, bi_eq0]
          have nx : ∀ v6 v7 : Int32, v6 = bi (vAll i t (e' + 1)) → v7 = bi (vCom i (nI c) t (e' + 1)) → WP (d + 300) 1632 (79, [(0, .ref 42), (1, .int (nI s)), (2, .int (nI c)), (3, .int (nI q)), (4, .int (nI (ct V t))), (5, .int (nI t)), (6, .int v6), (7, .int v7), (8, .int (nI (e' + 1 + 1)))], [], mm X i6 j3) _ := fun v6 v7 a b => go2 (v6, v7) ⟨by omega, a, b⟩
          have hin : vp_in (nI (t + (e' + 1))) 240 := vp_in_nI (by omega) (by decide)
          refine br_c (fun w => bq_c (fun u => ?_) (fun u => ⟨hin, br_c (fun x => ?_) (fun x => ?_)⟩)) (fun w => ⟨hin, br_c (fun y => bq_c (fun u => ?_) (fun u => br_c (fun x => ?_) (fun x => ?_))) (fun y => bq_c (fun u => ?_) (fun u => br_c (fun x => ?_) (fun x => ?_)))⟩)
          · exact nx _ _ (bi_f fun z => w (vAll_s.mp z).1).symm (bi_t (vCom_s.mpr (Or.inl (Classical.byContradiction u)))).symm
          · exact nx _ _ (bi_f fun z => w (vAll_s.mp z).1).symm (bi_f fun z => (vCom_s.mp z).elim u (fun n => n x)).symm
          · exact nx _ _ (bi_f fun z => w (vAll_s.mp z).1).symm (bi_t (vCom_s.mpr (Or.inr x))).symm
          · exact nx _ _ (bi_f fun z => (vAll_s.mp z).2 y).symm (bi_t (vCom_s.mpr (Or.inl (Classical.byContradiction u)))).symm
          · exact nx _ _ (bi_f fun z => (vAll_s.mp z).2 y).symm (bi_f fun z => (vCom_s.mp z).elim u (fun n => n x)).symm
          · exact nx _ _ (bi_f fun z => (vAll_s.mp z).2 y).symm (bi_t (vCom_s.mpr (Or.inr x))).symm
          · exact nx _ _ (bi_t (vAll_s.mpr ⟨Classical.byContradiction w, y⟩)).symm (bi_t (vCom_s.mpr (Or.inl (Classical.byContradiction u)))).symm
          · exact nx _ _ (bi_t (vAll_s.mpr ⟨Classical.byContradiction w, y⟩)).symm (bi_f fun z => (vCom_s.mp z).elim u (fun n => n x)).symm
          · exact nx _ _ (bi_t (vAll_s.mpr ⟨Classical.byContradiction w, y⟩)).symm (bi_t (vCom_s.mpr (Or.inr x))).symm
    · rintro e i5 he ⟨k1, k2⟩ go
      refine s_1632_38 _ X i5 j3 _ _ _ _ _ _ (br_f (nI_ge he (by decide)) ⟨vp_in_nI he (by decide), ?_⟩)
      rw [tc_nI (by omega), nI_add]
      refine go _ ⟨fun b hb => by rw [s2_ne hb]; exact k1 b hb, fun p hp => ?_⟩
      by_cases h : p = e
      · subst h; exact s2_self _ _ _ _
      · rw [s2_ne2 h]; exact k2 p (by omega)
  · rintro t i2 htn ⟨g, c0, c1, c2, c3⟩ go
    have F2 := F36 g
    obtain ⟨x, hEx, x1, x2⟩ := c_1156 0 X i2 j (c26 i2 (F2 26 (Or.inl (show 0 < 10 by decide))) (F2 63 (Or.inl (show 0 < 10 by decide))) (F2 25 (Or.inl (show 0 < 10 by decide))) (F2 27 (Or.inl (show 0 < 10 by decide))) (F2 28 (Or.inl (show 0 < 10 by decide))) (F2 62 (Or.inl (show 0 < 10 by decide)))) (t := t) (q := q) (c := c) (by omega) hc1 hc3
    have e63 : i2 63 = i 63 := F2 63 (Or.inl (show 0 < 10 by decide))
    have eV : vAll i2 t q ↔ V t := by rw [hV]; unfold vAll; rw [e63]
    have eB : vCom i2 (nI c) t q ↔ B t := by rw [hB]; unfold vCom; rw [e63]
    rw [eV] at x1 x2
    rw [eB] at x2
    refine s_1450_50 _ X i2 j _ _ _ hO _ _ _ (br_f (nI_ge htn (by omega)) ⟨x, hEx.up (by omega), ?_⟩)
    rw [nI_add]
    refine br_c (fun w => go i2 ⟨g, ?_, ?_, ?_, ?_⟩) (fun w => ?_)
    · rw [ct_f (p := fun t => V t ∧ A t ∧ B t) (fun u => (x1.mp w) u.1)]; exact c0
    · rw [ct_f (p := fun t => V t ∧ A t ∧ ¬ B t) (fun u => (x1.mp w) u.1)]; exact c1
    · rw [ct_f (p := fun t => V t ∧ ¬ A t ∧ B t) (fun u => (x1.mp w) u.1)]; exact c2
    · rw [ct_f (p := fun t => V t ∧ ¬ A t ∧ ¬ B t) (fun u => (x1.mp w) u.1)]; exact c3
    · have vt : V t := Classical.byContradiction fun u => w (x1.mpr u)
      obtain ⟨i3, hE3, k1⟩ := cval 0 j h0 h2 h4 f1 hL g hs (t := t) (by omega)
      refine ⟨_, i3, hE3.up (by omega), ?_⟩
      have hno := h4.1
      have t36 : 41 ≤ xt X 36 ∧ xt X 36 < 50 := by
        have : 41 ≤ TF 36 ∧ TF 36 < 50 := by decide
        exact this
      have e36 : i3 36 = i2 36 := k1 36 (by omega)
      have r1 : ∀ b, ¬ (30 ≤ xt X b ∧ xt X b < 40) → b ≠ 36 → i3 b = i1 b := fun b h1 h2 => (k1 b (by omega)).trans (g b h1 h2)
      have At : A t ↔ ¬ vlF X i (i 43) (i 44) (i 45) s t = 0 := by rw [hA]; rfl
      rw [propext (x2 vt)]
      have nx : ∀ x0 x1 x2 x3 : Nat, x0 = b01 (V t ∧ A t ∧ B t) → x1 = b01 (V t ∧ A t ∧ ¬ B t) → x2 = b01 (V t ∧ ¬ A t ∧ B t) → x3 = b01 (V t ∧ ¬ A t ∧ ¬ B t) → WP (d + 300) 1450 (50, [(0, .ref 2), (2, .int (nI c)), (3, .int (nI q)), (4, .ref (xr X 23 s)), (5, .int (nI kn)), (6, .int (nI (t + 1)))], [], mm X (s2 (s2 (s2 (s2 i3 36 0 (i3 36 0 + nI x0)) 36 1 (i3 36 1 + nI x1)) 36 2 (i3 36 2 + nI x2)) 36 3 (i3 36 3 + nI x3)) j) (qI fun x1 M1 => WI (d + 300) 1632 [.ref 42, .int (nI s), .int (nI c), .int (nI q)] M1 (fun x2 M2 => x1 = x2 ∧ Kf M2)) := by
        rintro x0 x1 x2 x3 rfl rfl rfl rfl
        refine go _ ⟨fun b h1 h2 => by rw [s2_ne h2, s2_ne h2, s2_ne h2, s2_ne h2]; exact r1 b h1 h2, ?_, ?_, ?_, ?_⟩
        · rw [s2_ne2 (by decide), s2_ne2 (by decide), s2_ne2 (by decide), s2_self, e36, c0]; exact ct_b (fun t => V t ∧ A t ∧ B t) t
        · rw [s2_ne2 (by decide), s2_ne2 (by decide), s2_self, e36, c1]; exact ct_b (fun t => V t ∧ A t ∧ ¬ B t) t
        · rw [s2_ne2 (by decide), s2_self, e36, c2]; exact ct_b (fun t => V t ∧ ¬ A t ∧ B t) t
        · rw [s2_self, e36, c3]; exact ct_b (fun t => V t ∧ ¬ A t ∧ ¬ B t) t
      refine br_c (fun a => br_c (fun b => ?_) (fun b => ?_)) (fun a => br_c (fun b => ?_) (fun b => ?_))
      · have na : ¬ A t := fun u => At.mp u a
        exact nx 0 0 0 1 (b01_f fun u => na u.2.1).symm (b01_f fun u => na u.2.1).symm (b01_f fun u => b u.2.2).symm (b01_t ⟨vt, na, b⟩).symm
      · have na : ¬ A t := fun u => At.mp u a
        exact nx 0 0 1 0 (b01_f fun u => na u.2.1).symm (b01_f fun u => na u.2.1).symm (b01_t ⟨vt, na, Classical.byContradiction b⟩).symm (b01_f fun u => b u.2.2).symm
      · have ya : A t := At.mpr a
        exact nx 0 1 0 0 (b01_f fun u => b u.2.2).symm (b01_t ⟨vt, ya, b⟩).symm (b01_f fun u => u.2.1 ya).symm (b01_f fun u => u.2.1 ya).symm
      · have ya : A t := At.mpr a
        exact nx 1 0 0 0 (b01_t ⟨vt, ya, Classical.byContradiction b⟩).symm (b01_f fun u => b u.2.2).symm (b01_f fun u => u.2.1 ya).symm (b01_f fun u => u.2.1 ya).symm
