/-! ===== what stood and came, for a call ===== -/
noncomputable def soF (X : XS) (i : Nat → Nat → Int32) (no : Nat) (bits : Int32) (t : Nat) : Int32 := stF X i (i 43) (i 44) (i 45) bits t no
def caF (i : Nat → Nat → Int32) (n : Nat) (c : Int32) (q t : Nat) : Prop := cmP n (i 43) c t q
def svP (X : XS) (i : Nat → Nat → Int32) (s t : Nat) : Prop := ¬ vlF X i (i 43) (i 44) (i 45) s t = 0
theorem ho9 (X : XS) : (9 : Nat) ≠ 31 ∧ (∀ q, q < 3 → xr X 9 q ≠ 31 ∧ xr X 9 q ≠ 32 ∧ xr X 9 q ≠ 33) ∧ (9 : Nat) ≠ 32 ∧ (9 : Nat) ≠ 33 := by
  refine ⟨by decide, fun q hq => ?_, by decide, by decide⟩
  match q, hq with
  | 0, _ => exact ⟨show 10 ≠ 31 by decide, show 10 ≠ 32 by decide, show 10 ≠ 33 by decide⟩
  | 1, _ => exact ⟨show 11 ≠ 31 by decide, show 11 ≠ 32 by decide, show 11 ≠ 33 by decide⟩
  | 2, _ => exact ⟨show 12 ≠ 31 by decide, show 12 ≠ 32 by decide, show 12 ≠ 33 by decide⟩
theorem lov (d : Nat) (X : XS) (i : Nat → Nat → Int32) (j : Nat → Nat → Int64) {n ng no : Nat} (h0 : R0 X i n) (h2 : R2 X i ng) (h4 : R4 X i no ng) (hz : RZ i) (bits c : Int32) {q : Nat} (hq : q ≤ 9) :
    ∃ i1, EvV (d + 4) 1476 [.ref 2, .ref 9, .int bits, .int c, .int (nI q)] (mm X i j) (mm X i1 j) ∧ FrC X i i1 ∧ RZ i1 ∧ i1 40 = i 40 ∧ LK X i1 ng n (i 44) ∧ SV i1 (n - q) (soF X i no bits) (caF i n c q) := by
  obtain ⟨i1, hE, hf, hL, hS⟩ := c_1476 d X i j h2 h4 9 (DO9 X) (DT9 X) (ho9 X) h0.2.1 bits c hq
  have n31 : ∀ b, b = 31 ∨ b = 32 ∨ b = 33 → xt X b = 45 := fun b hb => by rcases hb with rfl | rfl | rfl <;> rfl
  have f45 : ∀ b, b ≠ 31 → b ≠ 32 → b ≠ 33 → ¬ (10 ≤ xt X b ∧ xt X b < 40) → i1 b = i b := fun b h1 h2 h3 hb => hf b hb h1 h2 h3
  refine ⟨i1, hE, fun b hb => hf b (by omega) (fun z => by have := n31 b (by omega); omega) (fun z => by have := n31 b (by omega); omega) (fun z => by have := n31 b (by omega); omega), ?_, f45 40 (by decide) (by decide) (by decide) (fun z => absurd (show 48 < 40 from z.2) (by decide)), hL, hS⟩
  unfold RZ
  rw [f45 34 (by decide) (by decide) (by decide) (fun z => absurd (show 45 < 40 from z.2) (by decide)), f45 35 (by decide) (by decide) (by decide) (fun z => absurd (show 45 < 40 from z.2) (by decide))]
  exact hz
theorem kp43 {X : XS} {i i1 : Nat → Nat → Int32} (k : Kp X i i1) : i1 43 = i 43 ∧ i1 44 = i 44 ∧ i1 45 = i 45 := ⟨xt_c k 43 0 rfl rfl (by decide), xt_c k 44 0 rfl rfl (by decide), xt_c k 45 0 rfl rfl (by decide)⟩
theorem prpv (d : Nat) (X : XS) (i i1 : Nat → Nat → Int32) (j : Nat → Nat → Int64) {n ng no : Nat} (h0 : R0 X i n) (h2 : R2 X i ng) (h4 : R4 X i no ng) (kk : Kp X i i1) (bits c : Int32) {q : Nat} (hq : q ≤ 9) :
    ∃ i2, EvV (d + 261) 1589 [.ref 42, .int bits, .int c, .int (nI q)] (mm X i1 j) (mm X i2 j) ∧ FrP X i1 i2 ∧ (∀ g, g < ng → ∀ t, t < n → i2 71 (240 * g + t) = rdR i (i 44) g t) ∧ PRp i2 (n - q) n (soF X i no bits) (caF i n c q) := by
  obtain ⟨i2, hE, hf, hS, hP⟩ := c_1589 d X i1 j (h2.kp kk) (h4.kp kk) h0.2.1.1.2 (by rw [kk.2 0 (by decide)]; exact h0.1) bits c hq
  obtain ⟨e3, e4, e5⟩ := kp43 kk
  refine ⟨i2, hE, hf, fun g hg t ht => ?_, ?_⟩
  · rw [hS g hg t ht, e4, rdR_kp kk]
  · obtain ⟨p1, p2, p3, p4, p5⟩ := hP
    refine ⟨p1, p2, p3, fun t ht => ?_, fun t ht => ?_⟩
    · rw [p4 t ht]; dsimp only; rw [e3, e4, e5, stF_kp h4 kk _ _ _ _ _ _ (Nat.le_refl _)]; rfl
    · rw [p5 t ht, e3]; rfl
theorem bit10 : ∀ s, s < 10 → ∀ e, e < 10 → (shrI (shlI (nI 1) (nI s)) (nI e) &&& nI 1 = 0 ↔ ¬ e = s) := by decide
theorem shl10 : ∀ s, s < 10 → shlI (nI 1) (nI s) = nI (2 ^ s) := by decide
theorem shr10 : ∀ s, s < 10 → shrI (nI (2 ^ s)) (nI s) &&& nI 1 = nI 1 := by decide
theorem shr00 : ∀ s, s < 10 → ¬ shrI (nI 0) (nI s) &&& nI 1 = nI 1 := by decide
theorem or0 (x : Int32) : nI 0 ||| x = x := by rw [nI0]; simp
theorem soF_1 {X : XS} {i : Nat → Nat → Int32} {no : Nat} (hno : no ≤ 10) {s : Nat} (hs : s < no) (t : Nat) : (svP X i s t → soF X i no (shlI (nI 1) (nI s)) t = nI (2 ^ s)) ∧ (¬ svP X i s t → soF X i no (shlI (nI 1) (nI s)) t = nI 0) := by
  have key : ∀ e, e ≤ no → (s < e ∧ svP X i s t → stF X i (i 43) (i 44) (i 45) (shlI (nI 1) (nI s)) t e = nI (2 ^ s)) ∧ (¬ (s < e ∧ svP X i s t) → stF X i (i 43) (i 44) (i 45) (shlI (nI 1) (nI s)) t e = nI 0) := by
    intro e
    induction e with
    | zero => intro _; exact ⟨fun z => absurd z.1 (by omega), fun _ => rfl⟩
    | succ e ih =>
      intro he
      have ih := ih (by omega)
      have hb := bit10 s (by omega) e (by omega)
      by_cases hes : e = s
      · subst hes
        have hnb : ¬ shrI (shlI (nI 1) (nI e)) (nI e) &&& nI 1 = 0 := fun z => hb.mp z rfl
        have i0 := ih.2 (fun z => absurd z.1 (by omega))
        refine ⟨fun z => ?_, fun z => ?_⟩
        · rw [stF, if_pos ⟨hnb, z.2⟩, i0, or0, shl10 e (by omega)]
        · rw [stF, if_neg (fun q => z ⟨by omega, q.2⟩), i0]
      · have hbb := hb.mpr hes
        refine ⟨fun z => ?_, fun z => ?_⟩
        · rw [stF, if_neg (fun q => q.1 hbb), ih.1 ⟨by omega, z.2⟩]
        · rw [stF, if_neg (fun q => q.1 hbb), ih.2 (fun q => z ⟨by omega, q.2⟩)]
  exact ⟨fun z => (key no (Nat.le_refl _)).1 ⟨hs, z⟩, fun z => (key no (Nat.le_refl _)).2 (fun q => z q.2)⟩
theorem pow10 : ∀ s, s < 10 → ¬ nI (2 ^ s) = 0 := by decide
theorem soF_c {X : XS} {i : Nat → Nat → Int32} {no : Nat} (hno : no ≤ 10) {s : Nat} (hs : s < no) (t : Nat) : ¬ soF X i no (shlI (nI 1) (nI s)) t = 0 ↔ svP X i s t := by
  have h := soF_1 (X := X) (i := i) hno hs t
  by_cases z : svP X i s t
  · rw [h.1 z]; exact ⟨fun _ => z, fun _ => pow10 s (by omega)⟩
  · rw [h.2 z]; exact ⟨fun q => absurd rfl q, fun q => absurd q z⟩
theorem soF_r {X : XS} {i : Nat → Nat → Int32} {no : Nat} (hno : no ≤ 10) {s : Nat} (hs : s < no) (t : Nat) : shrI (soF X i no (shlI (nI 1) (nI s)) t) (nI s) &&& nI 1 = nI 1 ↔ svP X i s t := by
  have h := soF_1 (X := X) (i := i) hno hs t
  by_cases z : svP X i s t
  · rw [h.1 z]; exact ⟨fun _ => z, fun _ => shr10 s (by omega)⟩
  · rw [h.2 z]; exact ⟨fun q => absurd q (shr00 s (by omega)), fun q => absurd q z⟩
theorem nI_or (a b : Nat) : nI a ||| nI b = nI (a ||| b) := by
  unfold nI
  apply Int32.toBitVec_inj.mp
  rw [Int32.toBitVec_or]
  show BitVec.ofNat 32 a ||| BitVec.ofNat 32 b = BitVec.ofNat 32 (a ||| b)
  rw [BitVec.ofNat_or]
theorem soF_b {X : XS} {i : Nat → Nat → Int32} {no : Nat} (hno : no ≤ 10) (bits : Int32) (t : Nat) : ∃ m, m < 1024 ∧ soF X i no bits t = nI m := by
  have key : ∀ e, e ≤ no → ∃ m, m < 2 ^ e ∧ stF X i (i 43) (i 44) (i 45) bits t e = nI m := by
    intro e
    induction e with
    | zero => intro _; exact ⟨0, by decide, rfl⟩
    | succ e ih =>
      intro he
      obtain ⟨m, hm, em⟩ := ih (by omega)
      by_cases hc : ¬ (shrI bits (nI e) &&& nI 1) = 0 ∧ ¬ vlF X i (i 43) (i 44) (i 45) e t = 0
      · refine ⟨m ||| 2 ^ e, ?_, ?_⟩
        · exact Nat.or_lt_two_pow (Nat.lt_of_lt_of_le hm (Nat.pow_le_pow_right (by decide) (by omega))) (Nat.pow_lt_pow_right (by decide) (by omega))
        · rw [stF, if_pos hc, em, shl10 e (by omega), nI_or]
      · exact ⟨m, Nat.lt_of_lt_of_le hm (Nat.pow_le_pow_right (by decide) (by omega)), by rw [stF, if_neg hc, em]⟩
  obtain ⟨m, hm, em⟩ := key no (Nat.le_refl _)
  exact ⟨m, Nat.lt_of_lt_of_le hm (by have := Nat.pow_le_pow_right (n := 2) (by decide) hno; omega), em⟩
theorem soF_B {X : XS} {i : Nat → Nat → Int32} {no kn : Nat} (hno : no ≤ 10) (bits : Int32) : SB kn (soF X i no bits) := fun t _ => soF_b hno bits t
/-- how many of the days u, u + 1 .. u + m - 1 -/
noncomputable def cr (p : Nat → Prop) (u m : Nat) : Nat := ct (fun q => p (u + q)) m
theorem cr_bi (p : Nat → Prop) (u m : Nat) : nI (cr p u m) + bi (p (u + m)) = nI (cr p u (m + 1)) := ct_bi (fun q => p (u + q)) m
theorem cr_cg {p p' : Nat → Prop} {u m : Nat} (h : ∀ t, u ≤ t → t < u + m → (p t ↔ p' t)) : cr p u m = cr p' u m := ct_cong fun q hq => h (u + q) (by omega) (by omega)
theorem ct_split (p q : Nat → Prop) : ∀ n, ct p n = ct (fun t => p t ∧ q t) n + ct (fun t => p t ∧ ¬ q t) n
  | 0 => rfl
  | n + 1 => by
    have ih := ct_split p q n
    by_cases hp : p n <;> by_cases hq : q n
    · rw [ct_t hp, ct_t (p := fun t => p t ∧ q t) ⟨hp, hq⟩, ct_f (p := fun t => p t ∧ ¬ q t) (fun z => z.2 hq)]; omega
    · rw [ct_t hp, ct_f (p := fun t => p t ∧ q t) (fun z => hq z.2), ct_t (p := fun t => p t ∧ ¬ q t) ⟨hp, hq⟩]; omega
    · rw [ct_f hp, ct_f (p := fun t => p t ∧ q t) (fun z => hp z.1), ct_f (p := fun t => p t ∧ ¬ q t) (fun z => hp z.1)]; omega
    · rw [ct_f hp, ct_f (p := fun t => p t ∧ q t) (fun z => hp z.1), ct_f (p := fun t => p t ∧ ¬ q t) (fun z => hp z.1)]; omega
theorem ct_true : ∀ n, ct (fun _ => True) n = n
  | 0 => rfl
  | n + 1 => by rw [ct_t (p := fun _ => True) trivial, ct_true n]
/-- the tally -/
def TLY (i : Nat → Nat → Int32) (A B : Nat → Prop) (u m : Nat) : Prop := i 36 0 = nI (cr (fun t => A t ∧ B t) u m) ∧ i 36 1 = nI (cr (fun t => A t ∧ ¬ B t) u m) ∧ i 36 2 = nI (cr (fun t => ¬ A t ∧ B t) u m) ∧ i 36 3 = nI (cr (fun t => ¬ A t ∧ ¬ B t) u m)
theorem tkI_TLY {i : Nat → Nat → Int32} {A B : Nat → Prop} {u m : Nat} (h : TLY i A B u m) : TLY (tkI i (A (u + m)) (B (u + m))) A B u (m + 1) := by
  obtain ⟨h1, h2, h3, h4⟩ := h
  refine ⟨?_, ?_, ?_, ?_⟩
  · rw [← cr_bi, ← h1]; simp [tkI, s2_ap]
  · rw [← cr_bi, ← h2]; simp [tkI, s2_ap]
  · rw [← cr_bi, ← h3]; simp [tkI, s2_ap]
  · rw [← cr_bi, ← h4]; simp [tkI, s2_ap]
theorem tkI_ne {i : Nat → Nat → Int32} {A B : Prop} {b : Nat} (h : b ≠ 36) : tkI i A B b = i b := by
  unfold tkI
  rw [s2_ne h, s2_ne h, s2_ne h, s2_ne h]
set_option maxRecDepth 100000 in
theorem s_1479 (d : Nat) (X : XS) (i : Nat → Nat → Int32) (j : Nat → Nat → Int64) (a1 : Int32) (a2 : Int32) (K : AM → Prop) (h : WP (d + 1) 1479 (9, [(0, .ref 2), (2, .int a2), (3, .int a1)], [], (mm X (s2 (s2 (s2 (s2 i 36 0 (nI 0)) 36 1 (nI 0)) 36 2 (nI 0)) 36 3 (nI 0)) j)) (qV K)) : WV (d + 1) 1479 [.ref 2, .int a1, .int a2] (mm X i j) K := te_1479 d 2 a1 a2 (mm X i j) (qV K) ⟨rfl, ⟨rfl, (te_897 d 36 (mm X i j) _ ⟨rfl, ⟨rfl, ⟨rfl, (tc_897_15 d 36 (mm X (s2 (s2 (s2 i 36 0 (nI 0)) 36 1 (nI 0)) 36 2 (nI 0)) j) _ ⟨rfl, ⟨rfl, h⟩⟩)⟩⟩⟩)⟩⟩
set_option maxRecDepth 100000 in
theorem s_1479_9 (d : Nat) (X : XS) (i : Nat → Nat → Int32) (j : Nat → Nat → Int64) (v2 : Int32) (v3 : Int32) (Q : Option (Option Value) → AM → Prop) (h : ((v2 ≤ v3 → Q (some none) (mm X i j)) ∧ (¬ (v2 ≤ v3) → ((i 31 2) ≤ (nI 240)) ∧ WP (d + 1) 1479 (9, [(0, .ref 2), (2, .int v2), (3, .int (v3 + (nI 1)))], [], (mm X (tkI i (sOn (i 31 2) (i 32) v3) (sOn (i 31 2) (i 33) v3)) j)) Q))) : WP (d + 1) 1479 (9, [(0, .ref 2), (2, .int v2), (3, .int v3)], [], mm X i j) Q := tc_1479_9 d 2 v2 v3 (mm X i j) Q ⟨fun e1 => (h.1 (e1)), fun e1 => ⟨rfl, ⟨rfl, ⟨rfl, (p_772 d X i j v3 _ ⟨(h.2 (e1)).1, ⟨rfl, ⟨rfl, (p_773 d X i j v3 _ ⟨(h.2 (e1)).1, ⟨rfl, (p_898 d X i j (sOn (i 31 2) (i 32) v3) (sOn (i 31 2) (i 33) v3) _ (h.2 (e1)).2)⟩⟩)⟩⟩⟩)⟩⟩⟩⟩
theorem c_1479 (d : Nat) (X : XS) (i : Nat → Nat → Int32) (j : Nat → Nat → Int64) {kn u v : Nat} {so : Nat → Int32} {ca : Nat → Prop} (hS : SV i kn so ca) (huv : u ≤ v) (hv : v ≤ kn) :
    ∃ i', EvV (d + 1) 1479 [.ref 2, .int (nI u), .int (nI v)] (mm X i j) (mm X i' j) ∧ (∀ b, b ≠ 36 → i' b = i b) ∧ TLY i' (fun t => ¬ so t = 0) ca u (v - u) := by
  have hk := hS.2.1
  have main : WV (d + 1) 1479 [.ref 2, .int (nI u), .int (nI v)] (mm X i j) (fun M2 => ∃ i', M2 = mm X i' j ∧ (∀ b, b ≠ 36 → i' b = i b) ∧ TLY i' (fun t => ¬ so t = 0) ca u (v - u)) := by
    refine s_1479 d X i j _ _ _ ?_
    refine lup (v - u) (fun e (i1 : Nat → Nat → Int32) => (∀ b, b ≠ 36 → i1 b = i b) ∧ TLY i1 (fun t => ¬ so t = 0) ca u e) (fun e i1 => (9, [(0, .ref 2), (2, .int (nI v)), (3, .int (nI (u + e)))], [], mm X i1 j)) ?_ ?_ 0 _ (Nat.zero_le _) ⟨fun b hb => by rw [s2_ne hb, s2_ne hb, s2_ne hb, s2_ne hb], ?_⟩
    · rintro i1 ⟨hf, hT⟩
      exact s_1479_9 d X i1 j _ _ _ (br_t (nI_le (by omega) (by omega)) (qV_of ⟨i1, rfl, hf, hT⟩))
    · rintro e i1 he ⟨hf, hT⟩ go
      have hS1 : SV i1 kn so ca := hS.kp (hf 31 (by decide)) (hf 32 (by decide)) (hf 33 (by decide))
      refine s_1479_9 d X i1 j _ _ _ (br_f (nI_ge (by omega) (by omega)) ⟨hS1.ok, ?_⟩)
      rw [propext (hS1.st (t := u + e) (by omega)), propext (hS1.cm (t := u + e) (by omega)), nI_add, Nat.add_assoc]
      exact go _ ⟨fun b hb => by rw [tkI_ne hb]; exact hf b hb, tkI_TLY (A := fun t => ¬ so t = 0) (B := ca) hT⟩
    · exact ⟨by simp [s2_ap]; rfl, by simp [s2_ap]; rfl, by simp [s2_ap]; rfl, by simp [s2_ap]; rfl⟩
  obtain ⟨n1, ⟨r, M2⟩, h1, h2, i', h3, h4⟩ := main
  dsimp only at h2 h3
  subst h2; subst h3
  exact ⟨i', ⟨n1, _, h1, rfl, rfl⟩, h4⟩
/-- the reference's four counts: stood, stood and came, came, all -/
def CEL (i : Nat → Nat → Int32) (A B : Nat → Prop) (u m : Nat) : Prop := i 74 0 = nI (cr A u m) ∧ i 74 1 = nI (cr (fun t => A t ∧ B t) u m) ∧ i 74 2 = nI (cr B u m) ∧ i 74 3 = nI m
set_option maxRecDepth 100000 in
theorem s_1592 (d : Nat) (X : XS) (i : Nat → Nat → Int32) (j : Nat → Nat → Int64) (a1 : Int32) (a2 : Int32) (a3 : Int32) (K : AM → Prop) (h : WP (d + 1) 1592 (3, [(0, .ref 42), (1, .int a1), (2, .int a2), (3, .int a3), (4, .int (nI 0))], [], (mm X i j)) (qV K)) : WV (d + 1) 1592 [.ref 42, .int a1, .int a2, .int a3] (mm X i j) K := te_1592 d 42 a1 a2 a3 (mm X i j) (qV K) h
set_option maxRecDepth 100000 in
theorem s_1592_3 (d : Nat) (X : XS) (i : Nat → Nat → Int32) (j : Nat → Nat → Int64) (v1 : Int32) (v2 : Int32) (v3 : Int32) (v4 : Int32) (Q : Option (Option Value) → AM → Prop) (h : (((nI 4) ≤ v4 → WP (d + 1) 1592 (26, [(0, .ref 42), (1, .int v1), (3, .int v3), (4, .int v2)], [], (mm X i j)) Q) ∧ (¬ ((nI 4) ≤ v4) → (vp_in v4 4) ∧ WP (d + 1) 1592 (3, [(0, .ref 42), (1, .int v1), (2, .int v2), (3, .int v3), (4, .int (v4 + (nI 1)))], [], (mm X (s2 i 74 ((v4).toNatClampNeg) (nI 0)) j)) Q))) : WP (d + 1) 1592 (3, [(0, .ref 42), (1, .int v1), (2, .int v2), (3, .int v3), (4, .int v4)], [], mm X i j) Q := tc_1592_3 d 42 v1 v2 v3 v4 (mm X i j) Q ⟨fun e1 => (h.1 (e1)), fun e1 => ⟨rfl, ⟨⟨rfl, (h.2 (e1)).1⟩, (h.2 (e1)).2⟩⟩⟩
set_option maxRecDepth 100000 in
theorem s_1592_26 (d : Nat) (X : XS) (i : Nat → Nat → Int32) (j : Nat → Nat → Int64) (v1 : Int32) (v3 : Int32) (v4 : Int32) (Q : Option (Option Value) → AM → Prop) (h : ((v3 ≤ v4 → Q (some none) (mm X i j)) ∧ (¬ (v3 ≤ v4) → (vp_in v4 240) ∧ ((¬ (((shrI (i 72 ((v4).toNatClampNeg)) v1) &&& (nI 1)) = (nI 1)) → (((i 73 ((v4).toNatClampNeg)) = 0 → WP (d + 1) 1592 (26, [(0, .ref 42), (1, .int v1), (3, .int v3), (4, .int (v4 + (nI 1)))], [], (mm X (s2 (s2 (s2 (s2 i 74 0 ((i 74 0) + (nI 0))) 74 1 ((i 74 1) + (nI 0))) 74 2 ((i 74 2) + (nI 0))) 74 3 ((i 74 3) + (nI 1))) j)) Q) ∧ (¬ ((i 73 ((v4).toNatClampNeg)) = 0) → WP (d + 1) 1592 (26, [(0, .ref 42), (1, .int v1), (3, .int v3), (4, .int (v4 + (nI 1)))], [], (mm X (s2 (s2 (s2 (s2 i 74 0 ((i 74 0) + (nI 0))) 74 1 ((i 74 1) + (nI 0))) 74 2 ((i 74 2) + (nI 1))) 74 3 ((i 74 3) + (nI 1))) j)) Q))) ∧ (((shrI (i 72 ((v4).toNatClampNeg)) v1) &&& (nI 1)) = (nI 1) → (((i 73 ((v4).toNatClampNeg)) = 0 → WP (d + 1) 1592 (26, [(0, .ref 42), (1, .int v1), (3, .int v3), (4, .int (v4 + (nI 1)))], [], (mm X (s2 (s2 (s2 (s2 i 74 0 ((i 74 0) + (nI 1))) 74 1 ((i 74 1) + (nI 0))) 74 2 ((i 74 2) + (nI 0))) 74 3 ((i 74 3) + (nI 1))) j)) Q) ∧ (¬ ((i 73 ((v4).toNatClampNeg)) = 0) → WP (d + 1) 1592 (26, [(0, .ref 42), (1, .int v1), (3, .int v3), (4, .int (v4 + (nI 1)))], [], (mm X (s2 (s2 (s2 (s2 i 74 0 ((i 74 0) + (nI 1))) 74 1 ((i 74 1) + (nI 1))) 74 2 ((i 74 2) + (nI 1))) 74 3 ((i 74 3) + (nI 1))) j)) Q))))))) : WP (d + 1) 1592 (26, [(0, .ref 42), (1, .int v1), (3, .int v3), (4, .int v4)], [], mm X i j) Q := tc_1592_26 d 42 v1 v3 v4 (mm X i j) Q ⟨fun e2 => (h.1 (e2)), fun e2 => ⟨rfl, ⟨⟨rfl, (vpk 0 4 rfl)⟩, ⟨rfl, (te_1590 d 42 v1 v4 (mm X i j) _ ⟨rfl, ⟨⟨rfl, (h.2 (e2)).1⟩, ⟨fun e3 => ⟨k0_01, ⟨_, rfl, ⟨fun _ => ⟨⟨rfl, (vpk 0 4 rfl)⟩, (tc_1592_56 d 42 v1 v3 v4 (mm X (s2 i 74 0 ((i 74 0) + (nI 0))) j) _ ⟨rfl, ⟨⟨rfl, (vpk 1 4 rfl)⟩, ⟨rfl, (te_1590 d 42 v1 v4 (mm X (s2 i 74 0 ((i 74 0) + (nI 0))) j) _ ⟨rfl, ⟨⟨rfl, (h.2 (e2)).1⟩, ⟨fun _ => ⟨k0_01, ⟨_, rfl, ⟨fun _ => ⟨⟨rfl, (vpk 1 4 rfl)⟩, (tc_1592_90 d 42 v1 v3 v4 (mm X (s2 (s2 i 74 0 ((i 74 0) + (nI 0))) 74 1 ((i 74 1) + (nI 0))) j) _ ⟨rfl, ⟨⟨rfl, (vpk 2 4 rfl)⟩, ⟨rfl, ⟨⟨(Or.inl rfl), (h.2 (e2)).1⟩, ⟨fun e7 => ⟨⟨rfl, (vpk 2 4 rfl)⟩, (tc_1592_114 d 42 v1 v3 v4 (mm X (s2 (s2 (s2 i 74 0 ((i 74 0) + (nI 0))) 74 1 ((i 74 1) + (nI 0))) 74 2 ((i 74 2) + (nI 0))) j) _ ⟨rfl, ⟨⟨rfl, (vpk 3 4 rfl)⟩, ⟨⟨rfl, (vpk 3 4 rfl)⟩, (((h.2 (e2)).2.1 (e3)).1 (e7))⟩⟩⟩)⟩, fun e7 => ⟨⟨rfl, (vpk 2 4 rfl)⟩, (tc_1592_114 d 42 v1 v3 v4 (mm X (s2 (s2 (s2 i 74 0 ((i 74 0) + (nI 0))) 74 1 ((i 74 1) + (nI 0))) 74 2 ((i 74 2) + (nI 1))) j) _ ⟨rfl, ⟨⟨rfl, (vpk 3 4 rfl)⟩, ⟨⟨rfl, (vpk 3 4 rfl)⟩, (((h.2 (e2)).2.1 (e3)).2 (e7))⟩⟩⟩)⟩⟩⟩⟩⟩⟩)⟩, fun e6 => absurd (by decide) e6⟩⟩⟩, fun e5 => absurd ((e3)) e5⟩⟩⟩)⟩⟩⟩)⟩, fun e4 => absurd (by decide) e4⟩⟩⟩, fun e3 => ⟨k1_01, ⟨_, rfl, ⟨fun e8 => absurd e8 (by decide), fun _ => ⟨⟨rfl, (vpk 0 4 rfl)⟩, (tc_1592_56 d 42 v1 v3 v4 (mm X (s2 i 74 0 ((i 74 0) + (nI 1))) j) _ ⟨rfl, ⟨⟨rfl, (vpk 1 4 rfl)⟩, ⟨rfl, (te_1590 d 42 v1 v4 (mm X (s2 i 74 0 ((i 74 0) + (nI 1))) j) _ ⟨rfl, ⟨⟨rfl, (h.2 (e2)).1⟩, ⟨fun e9 => absurd e9 (fun z => z ((Classical.byContradiction e3))), fun _ => ⟨k1_01, ⟨_, rfl, ⟨fun e10 => absurd e10 (by decide), fun _ => ⟨rfl, ⟨⟨(Or.inl rfl), (h.2 (e2)).1⟩, ⟨fun e11 => ⟨⟨rfl, (vpk 1 4 rfl)⟩, (tc_1592_90 d 42 v1 v3 v4 (mm X (s2 (s2 i 74 0 ((i 74 0) + (nI 1))) 74 1 ((i 74 1) + (nI 0))) j) _ ⟨rfl, ⟨⟨rfl, (vpk 2 4 rfl)⟩, ⟨rfl, ⟨⟨(Or.inl rfl), (h.2 (e2)).1⟩, ⟨fun _ => ⟨⟨rfl, (vpk 2 4 rfl)⟩, (tc_1592_114 d 42 v1 v3 v4 (mm X (s2 (s2 (s2 i 74 0 ((i 74 0) + (nI 1))) 74 1 ((i 74 1) + (nI 0))) 74 2 ((i 74 2) + (nI 0))) j) _ ⟨rfl, ⟨⟨rfl, (vpk 3 4 rfl)⟩, ⟨⟨rfl, (vpk 3 4 rfl)⟩, (((h.2 (e2)).2.2 ((Classical.byContradiction e3))).1 (e11))⟩⟩⟩)⟩, fun e12 => absurd ((e11)) e12⟩⟩⟩⟩⟩)⟩, fun e11 => ⟨⟨rfl, (vpk 1 4 rfl)⟩, (tc_1592_90 d 42 v1 v3 v4 (mm X (s2 (s2 i 74 0 ((i 74 0) + (nI 1))) 74 1 ((i 74 1) + (nI 1))) j) _ ⟨rfl, ⟨⟨rfl, (vpk 2 4 rfl)⟩, ⟨rfl, ⟨⟨(Or.inl rfl), (h.2 (e2)).1⟩, ⟨fun e13 => absurd e13 ((e11)), fun _ => ⟨⟨rfl, (vpk 2 4 rfl)⟩, (tc_1592_114 d 42 v1 v3 v4 (mm X (s2 (s2 (s2 i 74 0 ((i 74 0) + (nI 1))) 74 1 ((i 74 1) + (nI 1))) 74 2 ((i 74 2) + (nI 1))) j) _ ⟨rfl, ⟨⟨rfl, (vpk 3 4 rfl)⟩, ⟨⟨rfl, (vpk 3 4 rfl)⟩, (((h.2 (e2)).2.2 ((Classical.byContradiction e3))).2 (e11))⟩⟩⟩)⟩⟩⟩⟩⟩⟩)⟩⟩⟩⟩⟩⟩⟩⟩⟩⟩)⟩⟩⟩)⟩⟩⟩⟩⟩⟩⟩)⟩⟩⟩⟩
theorem c_1592 (d : Nat) (X : XS) (i : Nat → Nat → Int32) (j : Nat → Nat → Int64) {u v : Nat} {s : Nat} {A B : Nat → Prop} (huv : u ≤ v) (hv : v ≤ 240) (hA : ∀ t, t < v → (shrI (i 72 t) (nI s) &&& nI 1 = nI 1 ↔ A t)) (hB : ∀ t, t < v → i 73 t = bi (B t)) :
    ∃ i', EvV (d + 1) 1592 [.ref 42, .int (nI s), .int (nI u), .int (nI v)] (mm X i j) (mm X i' j) ∧ (∀ b, b ≠ 74 → i' b = i b) ∧ CEL i' A B u (v - u) := by
  have main : WV (d + 1) 1592 [.ref 42, .int (nI s), .int (nI u), .int (nI v)] (mm X i j) (fun M2 => ∃ i', M2 = mm X i' j ∧ (∀ b, b ≠ 74 → i' b = i b) ∧ CEL i' A B u (v - u)) := by
    refine s_1592 d X i j _ _ _ _ ?_
    refine lup 4 (fun e (i1 : Nat → Nat → Int32) => (∀ b, b ≠ 74 → i1 b = i b) ∧ (∀ q, q < e → i1 74 q = nI 0)) (fun e i1 => (3, [(0, .ref 42), (1, .int (nI s)), (2, .int (nI u)), (3, .int (nI v)), (4, .int (nI e))], [], mm X i1 j)) ?_ ?_ 0 i (Nat.zero_le _) ⟨fun _ _ => rfl, fun q h => absurd h (by omega)⟩
    · rintro i1 ⟨hf, h0⟩
      refine s_1592_3 d X i1 j _ _ _ _ _ (br_t (Int32.le_refl _) ?_)
      refine lup (v - u) (fun e (i1 : Nat → Nat → Int32) => (∀ b, b ≠ 74 → i1 b = i b) ∧ CEL i1 A B u e) (fun e i1 => (26, [(0, .ref 42), (1, .int (nI s)), (3, .int (nI v)), (4, .int (nI (u + e)))], [], mm X i1 j)) ?_ ?_ 0 i1 (Nat.zero_le _) ⟨hf, h0 0 (by decide), h0 1 (by decide), h0 2 (by decide), h0 3 (by decide)⟩
      · rintro i2 ⟨hf, hC⟩
        exact s_1592_26 d X i2 j _ _ _ _ (br_t (nI_le (by omega) (by omega)) (qV_of ⟨i2, rfl, hf, hC⟩))
      · rintro e i2 he ⟨hf, c0, c1, c2, c3⟩ go
        refine s_1592_26 d X i2 j _ _ _ _ (br_f (nI_ge (by omega) (by omega)) ⟨vp_in_nI (by omega) (by decide), ?_⟩)
        rw [tc_nI (by omega), hf 72 (by decide), hf 73 (by decide), hB _ (by omega), bi_eq0, c0, c1, c2, c3, propext (hA (u + e) (by omega)), nI_add (u + e), Nat.add_assoc]
        have nx : ∀ x0 x1 x2 : Int32, x0 = bi (A (u + e)) → x1 = bi (A (u + e) ∧ B (u + e)) → x2 = bi (B (u + e)) → WP (d + 1) 1592 (26, [(0, .ref 42), (1, .int (nI s)), (3, .int (nI v)), (4, .int (nI (u + (e + 1))))], [], mm X (s2 (s2 (s2 (s2 i2 74 0 (nI (cr A u e) + x0)) 74 1 (nI (cr (fun t => A t ∧ B t) u e) + x1)) 74 2 (nI (cr B u e) + x2)) 74 3 (nI e + nI 1)) j) (qV (fun M2 => ∃ i', M2 = mm X i' j ∧ (∀ b, b ≠ 74 → i' b = i b) ∧ CEL i' A B u (v - u))) := by
          intro x0 x1 x2 e0 e1 e2
          rw [e0, e1, e2, cr_bi A, cr_bi (fun t => A t ∧ B t), cr_bi B, nI_add]
          exact go _ ⟨fun b hb => by rw [s2_ne hb, s2_ne hb, s2_ne hb, s2_ne hb]; exact hf b hb, by simp [s2_ap], by simp [s2_ap], by simp [s2_ap], by simp [s2_ap]⟩
        refine bq_c (fun z => br_c (fun y => nx _ _ _ (e_f z) (e_f fun w => z w.1) (e_f y)) (fun y => nx _ _ _ (e_f z) (e_f fun w => z w.1) (e_t (Classical.byContradiction y)))) (fun z => br_c (fun y => nx _ _ _ (e_t z) (e_f fun w => y w.2) (e_f y)) (fun y => nx _ _ _ (e_t z) (e_t ⟨z, Classical.byContradiction y⟩) (e_t (Classical.byContradiction y))))
    · rintro e i1 he ⟨hf, h0⟩ go
      refine s_1592_3 d X i1 j _ _ _ _ _ (br_f (nI_ge he (by decide)) ⟨vp_in_nI he (by decide), ?_⟩)
      rw [tc_nI (by omega), nI_add]
      refine go _ ⟨fun b hb => by rw [s2_ne hb]; exact hf b hb, fun q hq => ?_⟩
      by_cases h : q = e
      · subst h; exact s2_self _ _ _ _
      · rw [s2_ne2 h]; exact h0 q (by omega)
  obtain ⟨n1, ⟨r, M2⟩, h1, h2, i', h3, h4⟩ := main
  dsimp only at h2 h3
  subst h2; subst h3
  exact ⟨i', ⟨n1, _, h1, rfl, rfl⟩, h4⟩
/-- more, less, alike -/
def cpI (p0 p1 p2 p3 : Int32) : Int32 := if p0 = 0 then kI (-2) else if p1 * p3 - p2 * p0 ≤ 0 then (if 0 ≤ p1 * p3 - p2 * p0 then nI 0 else nI 2) else nI 1
set_option maxRecDepth 100000 in
theorem s_1593 (d : Nat) (X : XS) (i : Nat → Nat → Int32) (j : Nat → Nat → Int64)  (K : Int32 → AM → Prop) (h : ((¬ ((i 74 0) = 0) → (((((i 74 1) * (i 74 3)) - ((i 74 2) * (i 74 0))) ≤ 0 → ((0 ≤ (((i 74 1) * (i 74 3)) - ((i 74 2) * (i 74 0))) → K (nI 0) (mm X i j)) ∧ (¬ (0 ≤ (((i 74 1) * (i 74 3)) - ((i 74 2) * (i 74 0)))) → K (nI 2) (mm X i j)))) ∧ (¬ ((((i 74 1) * (i 74 3)) - ((i 74 2) * (i 74 0))) ≤ 0) → K (nI 1) (mm X i j)))) ∧ ((i 74 0) = 0 → K (kI (-2)) (mm X i j)))) : WI d 1593 [.ref 42] (mm X i j) K := te_1593 d 42 (mm X i j) (qI K) ⟨rfl, ⟨⟨rfl, (vpk 0 4 rfl)⟩, ⟨fun e1 => ⟨rfl, ⟨⟨rfl, (vpk 1 4 rfl)⟩, ⟨rfl, ⟨⟨rfl, (vpk 3 4 rfl)⟩, ⟨rfl, ⟨⟨rfl, (vpk 2 4 rfl)⟩, ⟨rfl, ⟨⟨rfl, (vpk 0 4 rfl)⟩, ⟨fun e2 => ⟨fun e3 => ⟨_, rfl, (((h.1 (e1)).1 (e2)).1 (e3))⟩, fun e3 => ⟨_, rfl, (((h.1 (e1)).1 (e2)).2 (e3))⟩⟩, fun e2 => ⟨_, rfl, ((h.1 (e1)).2 (e2))⟩⟩⟩⟩⟩⟩⟩⟩⟩⟩, fun e1 => ⟨_, rfl, (h.2 ((Classical.byContradiction e1)))⟩⟩⟩⟩
theorem p_1593 (d : Nat) (X : XS) (i : Nat → Nat → Int32) (j : Nat → Nat → Int64) (K : Int32 → AM → Prop) (h : K (cpI (i 74 0) (i 74 1) (i 74 2) (i 74 3)) (mm X i j)) : WI d 1593 [.ref 42] (mm X i j) K := by
  unfold cpI at h
  refine s_1593 d X i j K (bq_c (fun z => br_c (fun y => br_c (fun w => ?_) (fun w => ?_)) (fun y => ?_)) (fun z => ?_))
  · rw [if_neg z, if_pos y, if_pos w] at h; exact h
  · rw [if_neg z, if_pos y, if_neg w] at h; exact h
  · rw [if_neg z, if_neg y] at h; exact h
  · rw [if_pos z] at h; exact h
theorem vd_cp (a b c e : Int32) : vdI a b c e = cpI (a + b) a (a + c) (a + b + c + e) := by
  unfold vdI cpI
  rw [show (a + c) * (a + b) = (a + b) * (a + c) from Int32.mul_comm _ _]
  by_cases h0 : a + b = 0
  · rw [if_pos h0, if_pos h0]
  · rw [if_neg h0, if_neg h0]
    generalize a * (a + b + c + e) - (a + b) * (a + c) = x
    by_cases h1 : x = 0
    · subst h1; decide
    · rw [if_neg h1]
      by_cases h2 : x ≤ 0
      · rw [if_pos h2, if_pos h2, if_neg (fun h3 => h1 (by
          rw [← Int32.toInt_inj]
          rw [Int32.le_iff_toInt_le] at h2 h3
          omega))]
      · rw [if_neg h2, if_neg h2]
theorem tly_cel {A B : Nat → Prop} {u m : Nat} : cr A u m = cr (fun t => A t ∧ B t) u m + cr (fun t => A t ∧ ¬ B t) u m ∧ cr B u m = cr (fun t => A t ∧ B t) u m + cr (fun t => ¬ A t ∧ B t) u m ∧ m = cr (fun t => A t ∧ B t) u m + cr (fun t => A t ∧ ¬ B t) u m + cr (fun t => ¬ A t ∧ B t) u m + cr (fun t => ¬ A t ∧ ¬ B t) u m := by
  have h1 := ct_split (fun q => A (u + q)) (fun q => B (u + q)) m
  have h2 := ct_split (fun q => B (u + q)) (fun q => A (u + q)) m
  have h3 := ct_split (fun _ => True) (fun q => A (u + q)) m
  have h4 := ct_split (fun q => ¬ A (u + q)) (fun q => B (u + q)) m
  rw [ct_true] at h3
  have c1 : ct (fun t => B (u + t) ∧ A (u + t)) m = ct (fun t => A (u + t) ∧ B (u + t)) m := ct_cong fun k _ => and_comm
  have c2 : ct (fun t => B (u + t) ∧ ¬ A (u + t)) m = ct (fun t => ¬ A (u + t) ∧ B (u + t)) m := ct_cong fun k _ => and_comm
  have c3 : ct (fun t => True ∧ A (u + t)) m = ct (fun t => A (u + t)) m := ct_cong fun k _ => ⟨fun z => z.2, fun z => ⟨trivial, z⟩⟩
  have c4 : ct (fun t => True ∧ ¬ A (u + t)) m = ct (fun t => ¬ A (u + t)) m := ct_cong fun k _ => ⟨fun z => z.2, fun z => ⟨trivial, z⟩⟩
  unfold cr
  dsimp only
  rw [c1, c2] at h2
  rw [c3, c4] at h3
  omega
/-- the end of a call that tells a row, or none -/
theorem fin_row {X : XS} {i i1 i2 : Nat → Nat → Int32} {j j2 : Nat → Nat → Int64} (h : Rel X i j) (f1 : FrC X i i1) (z1 : RZ i1) (f2 : FrR X i1 i2) (r : R8 i2 j2) : Rel X i2 j2 := by
  refine ⟨h.1, (h.2.1.kp f1.kp).kp f2.kp, r, ?_⟩
  unfold RZ
  rw [f2.1 34 (show ¬ (45 : Nat) = 40 by decide) (by decide), f2.1 35 (show ¬ (45 : Nat) = 40 by decide) (by decide)]
  exact z1
