/-! ===== coins by the survey ===== -/
theorem and_lt {m : Nat} (h : m < 1024) (b : Int32) : ∃ v, v < 1024 ∧ nI m &&& b = nI v ∧ (nI m &&& b) &&& nI 1023 = nI m &&& b := by
  have e0 : nI m &&& nI 1023 = nI m := by
    rw [pk_andN (by omega) 10 (by decide), Nat.mod_eq_of_lt (by omega)]
  have e1 : (nI m &&& b) &&& nI 1023 = nI m &&& b := by
    rw [Int32.and_assoc, Int32.and_comm b, ← Int32.and_assoc, e0]
  obtain ⟨v, hv, e2⟩ := pk_andE (nI m &&& b) (m := nI 1023) 10 (by decide)
  exact ⟨v, by omega, by rw [← e2, e1], e1⟩
theorem co1 (P E : Prop) (c l s : Int32) : coI P c l s (nI 1) (bi E) = dcI P E c l s := by
  have h := coI_s P E c l s (nI 0) (nI 0)
  rw [coI_0, nI0, nI1.symm] at h
  rw [show (0 : Int32) + nI 1 = nI 1 by grind, show (0 : Int32) + bi E = bi E by grind, show (0 : Int32) + dcI P E c l s = dcI P E c l s by grind] at h
  exact h.symm
theorem ev_bi (P : Prop) : (¬ P → bi P = nI 0) ∧ (P → bi P = nI 1) := ⟨fun h => bi_f h, fun h => bi_t h⟩
set_option maxRecDepth 100000 in
theorem s_774 (d : Nat) (X : XS) (i : Nat → Nat → Int32) (j : Nat → Nat → Int64) (a1 : Int32) (K : Int32 → AM → Prop) (h : WP (d + 1) 774 (4, [(0, .ref 31), (1, .int a1), (2, .int (nI 0)), (3, .int (nI 0))], [], (mm X i j)) (qI K)) : WI (d + 1) 774 [.ref 31, .int a1] (mm X i j) K := te_774 d 31 a1 (mm X i j) (qI K) h
set_option maxRecDepth 100000 in
theorem s_774_4 (d : Nat) (X : XS) (i : Nat → Nat → Int32) (j : Nat → Nat → Int64) (v1 : Int32) (v2 : Int32) (v3 : Int32) (Q : Option (Option Value) → AM → Prop) (h : ((v1 ≤ v3 → Q (some (some (.int v2))) (mm X i j)) ∧ (¬ (v1 ≤ v3) → ((i 31 2) ≤ (nI 240)) ∧ ((¬ (sOn (i 31 2) (i 33) v3) → WP (d + 1) 774 (4, [(0, .ref 31), (1, .int v1), (2, .int (v2 + (nI 0))), (3, .int (v3 + (nI 1)))], [], (mm X i j)) Q) ∧ (sOn (i 31 2) (i 33) v3 → WP (d + 1) 774 (4, [(0, .ref 31), (1, .int v1), (2, .int (v2 + (nI 1))), (3, .int (v3 + (nI 1)))], [], (mm X i j)) Q))))) : WP (d + 1) 774 (4, [(0, .ref 31), (1, .int v1), (2, .int v2), (3, .int v3)], [], mm X i j) Q := tc_774_4 d 31 v1 v2 v3 (mm X i j) Q ⟨fun e1 => (h.1 (e1)), fun e1 => ⟨rfl, (p_773 d X i j v3 _ ⟨(h.2 (e1)).1, ⟨fun e2 => ((h.2 (e1)).2.1 ((bi_z e2))), fun e2 => ((h.2 (e1)).2.2 ((bi_n e2)))⟩⟩)⟩⟩
theorem c_774 (d : Nat) (X : XS) (i : Nat → Nat → Int32) (j : Nat → Nat → Int64) {kn m : Nat} {so : Nat → Int32} {ca : Nat → Prop} (hS : SV i kn so ca) (hm : m ≤ kn) : EvI (d + 1) 774 [.ref 31, .int (nI m)] (mm X i j) (nI (ct ca m)) (mm X i j) := by
  have hk := hS.2.1
  refine s_774 d X i j _ _ ?_
  refine lup m (fun t (q : Int32) => q = nI (ct ca t)) (fun t q => (4, [(0, .ref 31), (1, .int (nI m)), (2, .int q), (3, .int (nI t))], [], mm X i j)) ?_ ?_ 0 _ (Nat.zero_le _) rfl
  · intro q hq
    exact s_774_4 d X i j _ _ _ _ (br_t (Int32.le_refl _) (qI_of ⟨hq, rfl⟩))
  · intro t q ht hq go
    refine s_774_4 d X i j _ _ _ _ (br_f (nI_ge ht (by omega)) ⟨hS.ok, ?_⟩)
    rw [hS.cm (by omega), nI_add, hq, nI_add, nI_add]
    exact bq_c (fun z => go _ (by rw [ct_f z]; rfl)) (fun z => go _ (by rw [ct_t z]))
set_option maxRecDepth 100000 in
theorem s_775 (d : Nat) (X : XS) (i : Nat → Nat → Int32) (j : Nat → Nat → Int64) (a1 : Nat) (h1 : PO X a1) (a2 : Int32) (K : Int32 → AM → Prop) (h : (∃ (x1 : Int32), EvI (d + 1) 774 [.ref 31, .int a2] (mm X i j) x1 (mm X i j) ∧ K (bi (saP (i a1 0) (i a1 1) (i a1 2) a2 x1)) (mm X i j))) : WI (d + 2) 775 [.ref 31, .ref a1, .int a2] (mm X i j) K := te_775 (d + 1) 31 a1 a2 (mm X i j) (qI K) ⟨rfl, (Exists.elim h fun x1 h2 => EvI.use h2.1 ⟨h1, (p_520 d X i j a1 h1 a2 x1 _ ⟨(bi_01 _), ⟨_, rfl, h2.2⟩⟩)⟩)⟩
theorem c_775 (d : Nat) (X : XS) (i : Nat → Nat → Int32) (j : Nat → Nat → Int64) (P : Nat) (hP : PO X P) {kn m : Nat} {so : Nat → Int32} {ca : Nat → Prop} (hS : SV i kn so ca) (hm : m ≤ kn) : EvI (d + 2) 775 [.ref 31, .ref P, .int (nI m)] (mm X i j) (bi (saP (i P 0) (i P 1) (i P 2) (nI m) (nI (ct ca m)))) (mm X i j) :=
  s_775 d X i j P hP _ _ ⟨_, c_774 d X i j hS hm, rfl, rfl⟩
/-- coins of the best blind way -/
noncomputable def blC (c l s : Int32) (ca : Nat → Prop) (n : Nat) : Int32 := coI (saP c l s (nI n) (nI (ct ca n))) c l s (nI n) (nI (ct ca n))
set_option maxRecDepth 100000 in
theorem s_776 (d : Nat) (X : XS) (i : Nat → Nat → Int32) (j : Nat → Nat → Int64) (a1 : Nat) (h1 : PO X a1) (K : Int32 → AM → Prop) (h : (∃ (P1 : Prop), EvI (d + 2) 775 [.ref 31, .ref a1, .int (i 31 2)] (mm X i j) (bi P1) (mm X i j) ∧ (∃ (x2 : Int32), EvI (d + 2) 774 [.ref 31, .int (i 31 2)] (mm X i j) x2 (mm X i j) ∧ K (coI (P1) (i a1 0) (i a1 1) (i a1 2) (i 31 2) x2) (mm X i j)))) : WI (d + 3) 776 [.ref 31, .ref a1] (mm X i j) K := te_776 (d + 2) 31 a1 (mm X i j) (qI K) ⟨rfl, ⟨rfl, (Exists.elim h fun P1 h5 => EvI.use h5.1 ⟨rfl, ⟨rfl, ⟨rfl, (Exists.elim h5.2 fun x2 h3 => EvI.use h3.1 ⟨h1, (p_519 (d + 2) X i j a1 h1 (P1) (i 31 2) x2 _ ⟨_, rfl, h3.2⟩)⟩)⟩⟩⟩)⟩⟩
theorem c_776 (d : Nat) (X : XS) (i : Nat → Nat → Int32) (j : Nat → Nat → Int64) (P : Nat) (hP : PO X P) {kn : Nat} {so : Nat → Int32} {ca : Nat → Prop} (hS : SV i kn so ca) : EvI (d + 3) 776 [.ref 31, .ref P] (mm X i j) (blC (i P 0) (i P 1) (i P 2) ca kn) (mm X i j) := by
  refine s_776 d X i j P hP _ ?_
  rw [hS.1]
  exact ⟨_, c_775 d X i j P hP hS (Nat.le_refl _), _, c_774 _ X i j hS (Nat.le_refl _), rfl, rfl⟩
set_option maxRecDepth 100000 in
theorem s_777 (d : Nat) (X : XS) (i : Nat → Nat → Int32) (j : Nat → Nat → Int64) (a1 : Nat) (h1 : PO X a1) (a2 : Int32) (K : Int32 → AM → Prop) (h : (∃ (P1 : Prop), EvI (d + 2) 775 [.ref 31, .ref a1, .int a2] (mm X i j) (bi P1) (mm X i j) ∧ (∃ (x2 : Int32), EvI (d + 2) 774 [.ref 31, .int (i 31 2)] (mm X i j) x2 (mm X i j) ∧ (∃ (x3 : Int32), EvI (d + 2) 774 [.ref 31, .int a2] (mm X i j) x3 (mm X i j) ∧ K (coI (P1) (i a1 0) (i a1 1) (i a1 2) ((i 31 2) - a2) (x2 - x3)) (mm X i j))))) : WI (d + 3) 777 [.ref 31, .ref a1, .int a2] (mm X i j) K := te_777 (d + 2) 31 a1 a2 (mm X i j) (qI K) ⟨rfl, (Exists.elim h fun P1 h8 => EvI.use h8.1 ⟨rfl, ⟨rfl, ⟨rfl, (Exists.elim h8.2 fun x2 h6 => EvI.use h6.1 ⟨rfl, (Exists.elim h6.2 fun x3 h4 => EvI.use h4.1 ⟨h1, (p_519 (d + 2) X i j a1 h1 (P1) ((i 31 2) - a2) (x2 - x3) _ ⟨_, rfl, h4.2⟩)⟩)⟩)⟩⟩⟩)⟩
theorem c_777 (d : Nat) (X : XS) (i : Nat → Nat → Int32) (j : Nat → Nat → Int64) (P : Nat) (hP : PO X P) {kn m : Nat} {so : Nat → Int32} {ca : Nat → Prop} (hS : SV i kn so ca) (hm : m ≤ kn) : EvI (d + 3) 777 [.ref 31, .ref P, .int (nI m)] (mm X i j) (coI (saP (i P 0) (i P 1) (i P 2) (nI m) (nI (ct ca m))) (i P 0) (i P 1) (i P 2) (nI (kn - m)) (nI (ct ca kn) - nI (ct ca m))) (mm X i j) := by
  have hk := hS.2.1
  refine s_777 d X i j P hP _ _ ?_
  rw [hS.1, pk_sub hm]
  exact ⟨_, c_775 d X i j P hP hS hm, _, c_774 _ X i j hS (Nat.le_refl _), _, c_774 _ X i j hS hm, rfl, rfl⟩
/-- the sets' counts: all 0 between calls -/
def RZ (i : Nat → Nat → Int32) : Prop := ∀ v, v < 1024 → i 34 v = nI 0 ∧ i 35 v = nI 0
def SB (kn : Nat) (so : Nat → Int32) : Prop := ∀ t, t < kn → ∃ m, m < 1024 ∧ so t = nI m
set_option maxRecDepth 100000 in
theorem s_780 (d : Nat) (X : XS) (i : Nat → Nat → Int32) (j : Nat → Nat → Int64) (a1 : Int32) (a2 : Int32) (K : AM → Prop) (h : WP (d + 1) 780 (2, [(0, .ref 31), (1, .int a1), (2, .int a2), (3, .int (nI 0))], [], (mm X i j)) (qV K)) : WV (d + 1) 780 [.ref 31, .int a1, .int a2] (mm X i j) K := te_780 d 31 a1 a2 (mm X i j) (qV K) h
set_option maxRecDepth 100000 in
theorem s_780_2 (d : Nat) (X : XS) (i : Nat → Nat → Int32) (j : Nat → Nat → Int64) (v1 : Int32) (v2 : Int32) (v3 : Int32) (Q : Option (Option Value) → AM → Prop) (h : ((v2 ≤ v3 → Q (some none) (mm X i j)) ∧ (¬ (v2 ≤ v3) → ((i 31 2) ≤ (nI 240)) ∧ (vp_in (stO (i 31 2) (i 32) v3 v1) 1024) ∧ ((¬ (sOn (i 31 2) (i 33) v3) → WP (d + 1) 780 (2, [(0, .ref 31), (1, .int v1), (2, .int v2), (3, .int (v3 + (nI 1)))], [], (mm X (s2 (s2 i 34 ((stO (i 31 2) (i 32) v3 v1).toNatClampNeg) ((i 34 ((stO (i 31 2) (i 32) v3 v1).toNatClampNeg)) + (nI 1))) 35 ((stO (i 31 2) (i 32) v3 v1).toNatClampNeg) ((i 35 ((stO (i 31 2) (i 32) v3 v1).toNatClampNeg)) + (nI 0))) j)) Q) ∧ (sOn (i 31 2) (i 33) v3 → WP (d + 1) 780 (2, [(0, .ref 31), (1, .int v1), (2, .int v2), (3, .int (v3 + (nI 1)))], [], (mm X (s2 (s2 i 34 ((stO (i 31 2) (i 32) v3 v1).toNatClampNeg) ((i 34 ((stO (i 31 2) (i 32) v3 v1).toNatClampNeg)) + (nI 1))) 35 ((stO (i 31 2) (i 32) v3 v1).toNatClampNeg) ((i 35 ((stO (i 31 2) (i 32) v3 v1).toNatClampNeg)) + (nI 1))) j)) Q))))) : WP (d + 1) 780 (2, [(0, .ref 31), (1, .int v1), (2, .int v2), (3, .int v3)], [], mm X i j) Q := tc_780_2 d 31 v1 v2 v3 (mm X i j) Q ⟨fun e1 => (h.1 (e1)), fun e1 => ⟨rfl, (p_779 d X i j v3 v1 _ ⟨(h.2 (e1)).1, ⟨rfl, ⟨⟨rfl, (h.2 (e1)).2.1⟩, ⟨⟨rfl, (h.2 (e1)).2.1⟩, ⟨rfl, ⟨⟨rfl, (h.2 (e1)).2.1⟩, ⟨rfl, (p_773 d X (s2 i 34 ((stO (i 31 2) (i 32) v3 v1).toNatClampNeg) ((i 34 ((stO (i 31 2) (i 32) v3 v1).toNatClampNeg)) + (nI 1))) j v3 _ ⟨(h.2 (e1)).1, ⟨fun e2 => ⟨⟨rfl, (h.2 (e1)).2.1⟩, (tc_780_49 d 31 v1 v2 v3 (mm X (s2 (s2 i 34 ((stO (i 31 2) (i 32) v3 v1).toNatClampNeg) ((i 34 ((stO (i 31 2) (i 32) v3 v1).toNatClampNeg)) + (nI 1))) 35 ((stO (i 31 2) (i 32) v3 v1).toNatClampNeg) ((i 35 ((stO (i 31 2) (i 32) v3 v1).toNatClampNeg)) + (nI 0))) j) _ ((h.2 (e1)).2.2.1 ((bi_z e2))))⟩, fun e2 => ⟨⟨rfl, (h.2 (e1)).2.1⟩, (tc_780_49 d 31 v1 v2 v3 (mm X (s2 (s2 i 34 ((stO (i 31 2) (i 32) v3 v1).toNatClampNeg) ((i 34 ((stO (i 31 2) (i 32) v3 v1).toNatClampNeg)) + (nI 1))) 35 ((stO (i 31 2) (i 32) v3 v1).toNatClampNeg) ((i 35 ((stO (i 31 2) (i 32) v3 v1).toNatClampNeg)) + (nI 1))) j) _ ((h.2 (e1)).2.2.2 ((bi_n e2))))⟩⟩⟩)⟩⟩⟩⟩⟩⟩⟩)⟩⟩
theorem c_780 (d : Nat) (X : XS) (i : Nat → Nat → Int32) (j : Nat → Nat → Int64) {kn m : Nat} {so : Nat → Int32} {ca : Nat → Prop} (hS : SV i kn so ca) (hB : SB kn so) (hZ : RZ i) (hm : m ≤ kn) (bits : Int32) :
    ∃ i', EvV (d + 1) 780 [.ref 31, .int bits, .int (nI m)] (mm X i j) (mm X i' j) ∧ (∀ b, b ≠ 34 → b ≠ 35 → i' b = i b) ∧ (∀ v, v < 1024 → i' 34 v = nI (mS so bits (nI v) m) ∧ i' 35 v = nI (eS so ca bits (nI v) m)) := by
  have hk := hS.2.1
  have main : WV (d + 1) 780 [.ref 31, .int bits, .int (nI m)] (mm X i j) (fun M2 => ∃ i', M2 = mm X i' j ∧ (∀ b, b ≠ 34 → b ≠ 35 → i' b = i b) ∧ (∀ v, v < 1024 → i' 34 v = nI (mS so bits (nI v) m) ∧ i' 35 v = nI (eS so ca bits (nI v) m))) := by
    refine s_780 d X i j _ _ _ ?_
    refine lup m (fun t (i1 : Nat → Nat → Int32) => (∀ b, b ≠ 34 → b ≠ 35 → i1 b = i b) ∧ (∀ v, v < 1024 → i1 34 v = nI (mS so bits (nI v) t) ∧ i1 35 v = nI (eS so ca bits (nI v) t)))
      (fun t i1 => (2, [(0, .ref 31), (1, .int bits), (2, .int (nI m)), (3, .int (nI t))], [], mm X i1 j)) ?_ ?_ 0 i (Nat.zero_le _) ⟨fun _ _ _ => rfl, hZ⟩
    · rintro i1 ⟨hf, hv⟩
      exact s_780_2 d X i1 j _ _ _ _ (br_t (Int32.le_refl _) (qV_of ⟨i1, rfl, hf, hv⟩))
    · rintro t i1 ht ⟨hf, hv⟩ go
      have hS1 : SV i1 kn so ca := hS.kp (hf 31 (by decide) (by decide)) (hf 32 (by decide) (by decide)) (hf 33 (by decide) (by decide))
      obtain ⟨q, hq, eq⟩ := hB t (by omega)
      obtain ⟨v0, hv0, e1, e2⟩ := and_lt hq bits
      have est : stO (i1 31 2) (i1 32) (nI t) bits = nI v0 := by rw [hS1.sx (by omega), eq, e2, e1]
      refine s_780_2 d X i1 j _ _ _ _ (br_f (nI_ge ht (by omega)) ⟨hS1.ok, ?_⟩)
      rw [est, hS1.cm (by omega), tc_nI (by omega), nI_add]
      have up : ∀ x, x = bi (ca t) → WP (d + 1) 780 (2, [(0, .ref 31), (1, .int bits), (2, .int (nI m)), (3, .int (nI (t + 1)))], [], mm X (s2 (s2 i1 34 v0 (i1 34 v0 + nI 1)) 35 v0 (i1 35 v0 + x)) j) (qV (fun M2 => ∃ i', M2 = mm X i' j ∧ (∀ b, b ≠ 34 → b ≠ 35 → i' b = i b) ∧ (∀ v, v < 1024 → i' 34 v = nI (mS so bits (nI v) m) ∧ i' 35 v = nI (eS so ca bits (nI v) m)))) := by
        intro x hx
        refine go _ ⟨fun b h1 h2 => by rw [s2_ne h2, s2_ne h1]; exact hf b h1 h2, fun v hvl => ?_⟩
        rw [s2_ne (show 34 ≠ 35 by decide)]
        by_cases h : v = v0
        · subst h
          have hp : so t &&& bits = nI v := by rw [eq, e1]
          rw [s2_self, s2_self, (hv v hvl).1, (hv v hvl).2, hx]
          refine ⟨?_, ?_⟩
          · unfold mS; rw [ct_t (p := fun t => so t &&& bits = nI v) hp, nI_add]
          · unfold eS
            rw [← ct_bi (fun t => so t &&& bits = nI v ∧ ca t) t, bi_cg (show (so t &&& bits = nI v ∧ ca t) ↔ ca t from ⟨fun y => y.2, fun y => ⟨hp, y⟩⟩)]
        · have hp : ¬ so t &&& bits = nI v := by
            rw [eq, e1, nI_eq (by omega) (by omega)]; exact fun z => h z.symm
          rw [s2_ne2 h, s2_ne2 h, s2_ne (show 35 ≠ 34 by decide), (hv v hvl).1, (hv v hvl).2]
          unfold mS eS
          rw [ct_f (p := fun t => so t &&& bits = nI v) hp, ct_f (p := fun t => so t &&& bits = nI v ∧ ca t) (fun y => hp y.1)]
          exact ⟨rfl, rfl⟩
      exact ⟨vp_in_nI hv0 (by decide), bq_c (fun z => up _ (bi_f z).symm) (fun z => up _ (bi_t z).symm)⟩
  obtain ⟨n1, ⟨r, M2⟩, h1, h2, i', h3, h4⟩ := main
  dsimp only at h2 h3
  subst h2; subst h3
  exact ⟨i', ⟨n1, _, h1, rfl, rfl⟩, h4⟩
/-! pure: sums by sets -/
theorem sm_add (f g : Nat → Int32) : ∀ n, sm f n + sm g n = sm (fun t => f t + g t) n
  | 0 => by simp [sm]
  | n + 1 => by
    have := sm_add f g n
    simp only [sm]
    rw [← this]; grind
/-- coins of the days on which the signs stood as v says -/
noncomputable def grp (c l s : Int32) (so : Nat → Int32) (ca : Nat → Prop) (bits v : Int32) (n : Nat) : Int32 := coI (saP c l s (nI (mS so bits v n)) (nI (eS so ca bits v n))) c l s (nI (mS so bits v n)) (nI (eS so ca bits v n))
noncomputable def ifI (P : Prop) (x : Int32) : Int32 := @ite _ P (Classical.propDecidable _) x 0
theorem ifI_t {P : Prop} {x : Int32} (h : P) : ifI P x = x := by rw [ifI, if_pos h]
theorem ifI_f {P : Prop} {x : Int32} (h : ¬ P) : ifI P x = 0 := by rw [ifI, if_neg h]
theorem sm_grp (A : Prop) (c l s : Int32) (so : Nat → Int32) (ca : Nat → Prop) (bits v : Int32) : ∀ n, sm (fun t => ifI (so t &&& bits = v) (dcI A (ca t) c l s)) n = coI A c l s (nI (mS so bits v n)) (nI (eS so ca bits v n))
  | 0 => by
    show 0 = coI A c l s (nI 0) (nI 0)
    rw [coI_0]
  | n + 1 => by
    rw [sm, sm_grp A c l s so ca bits v n]
    unfold mS eS
    by_cases h : so n &&& bits = v
    · rw [ifI_t h, coI_s, ct_t (p := fun t => so t &&& bits = v) h, nI_1, ← ct_bi (fun t => so t &&& bits = v ∧ ca t) n, bi_cg (show (so n &&& bits = v ∧ ca n) ↔ ca n from ⟨fun y => y.2, fun y => ⟨h, y⟩⟩)]
    · rw [ifI_f h, ct_f (p := fun t => so t &&& bits = v) h, ct_f (p := fun t => so t &&& bits = v ∧ ca t) (fun y => h y.1)]
      grind
theorem sm_zero : ∀ n, sm (fun _ => 0) n = 0
  | 0 => rfl
  | n + 1 => by rw [sm, sm_zero n]; rfl
theorem sm_all (f : Nat → Int32) (P : Nat → Prop) {n : Nat} (h : ∀ t, t < n → P t) : sm (fun t => ifI (P t) (f t)) n = sm f n := sm_cong fun k hk => ifI_t (h k hk)
theorem ct_pos {p : Nat → Prop} : ∀ {n t : Nat}, t < n → p t → 0 < ct p n
  | 0, _, h, _ => absurd h (by omega)
  | n + 1, t, h, hp => by
    by_cases e : t = n
    · subst e; rw [ct_t hp]; omega
    · have := ct_pos (n := n) (t := t) (by omega) hp
      by_cases h2 : p n
      · rw [ct_t h2]; omega
      · rw [ct_f h2]; exact this
theorem ct_zero {p : Nat → Prop} : ∀ {n : Nat}, (∀ t, t < n → ¬ p t) → ct p n = 0
  | 0, _ => rfl
  | n + 1, h => by rw [ct_f (h n (by omega)), ct_zero fun t ht => h t (by omega)]
theorem ct_mono {p q : Nat → Prop} (h : ∀ t, p t → q t) : ∀ n, ct p n ≤ ct q n
  | 0 => Nat.le_refl _
  | n + 1 => by
    have := ct_mono h n
    by_cases hp : p n
    · rw [ct_t hp, ct_t (h n hp)]; omega
    · rw [ct_f hp]
      by_cases hq : q n
      · rw [ct_t hq]; omega
      · rw [ct_f hq]; exact this
/-- the sum over sets is the sum over days -/
theorem sets_days (c l s : Int32) (so : Nat → Int32) (ca : Nat → Prop) (bits : Int32) (n : Nat) : sm (fun t => ifI (fst1 so bits t) (grp c l s so ca bits (so t &&& bits) n)) n = byS c l s so ca bits n n := by
  have key : ∀ n', n' ≤ n → sm (fun t => ifI (fst1 so bits t) (grp c l s so ca bits (so t &&& bits) n)) n' = sm (fun u => ifI (∃ t, t < n' ∧ so t &&& bits = so u &&& bits) (dcI (abP c l s so ca bits (so u &&& bits) n) (ca u) c l s)) n := by
    intro n'
    induction n' with
    | zero =>
      intro _
      rw [show sm (fun t => ifI (fst1 so bits t) (grp c l s so ca bits (so t &&& bits) n)) 0 = 0 from rfl]
      rw [sm_cong (g := fun _ => 0) (fun k _ => ifI_f (fun ⟨t, h, _⟩ => absurd h (by omega))), sm_zero]
    | succ n' ih =>
      intro hn'
      rw [sm, ih (by omega)]
      by_cases hf : fst1 so bits n'
      · have eg : grp c l s so ca bits (so n' &&& bits) n = sm (fun u => ifI (so u &&& bits = so n' &&& bits) (dcI (abP c l s so ca bits (so n' &&& bits) n) (ca u) c l s)) n := by
          rw [sm_grp]
          have hpos : 0 < mS so bits (so n' &&& bits) n := ct_pos (p := fun t => so t &&& bits = so n' &&& bits) (show n' < n by omega) rfl
          unfold grp
          have : abP c l s so ca bits (so n' &&& bits) n ↔ saP c l s (nI (mS so bits (so n' &&& bits) n)) (nI (eS so ca bits (so n' &&& bits) n)) := by
            unfold abP
            constructor
            · rintro (q | q)
              · exact q.2
              · omega
            · exact fun q => Or.inl ⟨hpos, q⟩
          rw [propext this]
        rw [ifI_t hf, eg, sm_add]
        refine sm_cong fun u hu => ?_
        by_cases h1 : so u &&& bits = so n' &&& bits
        · rw [ifI_f (fun ⟨t, ht, e⟩ => hf t ht (e.trans h1)), ifI_t h1, ifI_t ⟨n', by omega, h1.symm⟩, h1]
          grind
        · rw [ifI_f h1]
          by_cases h2 : ∃ t, t < n' ∧ so t &&& bits = so u &&& bits
          · obtain ⟨t, ht, e⟩ := h2
            rw [ifI_t ⟨t, ht, e⟩, ifI_t ⟨t, by omega, e⟩]; grind
          · rw [ifI_f h2, ifI_f]
            · grind
            · rintro ⟨t, ht, e⟩
              by_cases h3 : t = n'
              · subst h3; exact h1 e.symm
              · exact h2 ⟨t, by omega, e⟩
      · rw [ifI_f hf]
        have hex : ∃ t0, t0 < n' ∧ so t0 &&& bits = so n' &&& bits := by
          refine Classical.byContradiction fun h => hf fun u hu e => h ⟨u, hu, e⟩
        obtain ⟨t0, ht0, e0⟩ := hex
        rw [show ∀ x : Int32, x + 0 = x by intro x; grind]
        refine sm_cong fun u hu => ?_
        have : (∃ t, t < n' ∧ so t &&& bits = so u &&& bits) ↔ (∃ t, t < n' + 1 ∧ so t &&& bits = so u &&& bits) := by
          constructor
          · rintro ⟨t, ht, e⟩; exact ⟨t, by omega, e⟩
          · rintro ⟨t, ht, e⟩
            by_cases h3 : t = n'
            · subst h3; exact ⟨t0, ht0, e0.trans e⟩
            · exact ⟨t, by omega, e⟩
        rw [propext this]
  rw [key n (Nat.le_refl _), byS]
  exact sm_all _ _ fun t ht => ⟨t, ht, rfl⟩
set_option maxRecDepth 100000 in
theorem s_781 (d : Nat) (X : XS) (i : Nat → Nat → Int32) (j : Nat → Nat → Int64) (a1 : Nat) (h1 : PO X a1) (a2 : Int32) (K : Int32 → AM → Prop) (h : (∃ (i1 : Nat → Nat → Int32), EvV (d + 1) 780 [.ref 31, .int a2, .int (i 31 2)] (mm X i j) (mm X i1 j) ∧ WP (d + 2) 781 (19, [(0, .ref 31), (1, .ref a1), (2, .int a2), (3, .int (nI 0)), (4, .int (nI 0))], [], (mm X (s2 i1 31 5 (nI 0)) j)) (qI K))) : WI (d + 2) 781 [.ref 31, .ref a1, .int a2] (mm X i j) K := te_781 (d + 1) 31 a1 a2 (mm X i j) (qI K) ⟨rfl, ⟨rfl, (Exists.elim h fun i1 h2 => EvV.use h2.1 ⟨rfl, h2.2⟩)⟩⟩
set_option maxRecDepth 100000 in
theorem s_781_19 (d : Nat) (X : XS) (i : Nat → Nat → Int32) (j : Nat → Nat → Int64) (v1 : Nat) (h1 : PO X v1) (v2 : Int32) (v3 : Int32) (v4 : Int32) (Q : Option (Option Value) → AM → Prop) (h : (((i 31 2) ≤ v4 → Q (some (some (.int v3))) (mm X i j)) ∧ (¬ ((i 31 2) ≤ v4) → ((i 31 2) ≤ (nI 240)) ∧ (vp_in (stO (i 31 2) (i 32) v4 v2) 1024) ∧ (((i 34 ((stO (i 31 2) (i 32) v4 v2).toNatClampNeg)) ≤ 0 → WP (d + 2) 781 (19, [(0, .ref 31), (1, .ref v1), (2, .int v2), (3, .int v3), (4, .int (v4 + (nI 1)))], [], (mm X i j)) Q) ∧ (¬ ((i 34 ((stO (i 31 2) (i 32) v4 v2).toNatClampNeg)) ≤ 0) → WP (d + 2) 781 (19, [(0, .ref 31), (1, .ref v1), (2, .int v2), (3, .int (v3 + (coI (saP (i v1 0) (i v1 1) (i v1 2) (i 34 ((stO (i 31 2) (i 32) v4 v2).toNatClampNeg)) (i 35 ((stO (i 31 2) (i 32) v4 v2).toNatClampNeg))) (i v1 0) (i v1 1) (i v1 2) (i 34 ((stO (i 31 2) (i 32) v4 v2).toNatClampNeg)) (i 35 ((stO (i 31 2) (i 32) v4 v2).toNatClampNeg))))), (4, .int (v4 + (nI 1)))], [], (mm X (s2 (s2 (s2 i 31 5 ((i 31 5) + (nI 1))) 34 ((stO (i 31 2) (i 32) v4 v2).toNatClampNeg) (nI 0)) 35 ((stO (i 31 2) (i 32) v4 v2).toNatClampNeg) (nI 0)) j)) Q))))) : WP (d + 2) 781 (19, [(0, .ref 31), (1, .ref v1), (2, .int v2), (3, .int v3), (4, .int v4)], [], mm X i j) Q := tc_781_19 (d + 1) 31 v1 v2 v3 v4 (mm X i j) Q ⟨rfl, ⟨fun e4 => (h.1 (e4)), fun e4 => ⟨rfl, (p_779 (d + 1) X i j v4 v2 _ ⟨(h.2 (e4)).1, ⟨rfl, ⟨⟨rfl, (h.2 (e4)).2.1⟩, ⟨fun e5 => (tc_781_116 (d + 1) 31 v1 v2 v3 v4 (mm X i j) _ ((h.2 (e4)).2.2.1 (e5))), fun e5 => ⟨rfl, ⟨⟨rfl, (h.2 (e4)).2.1⟩, ⟨rfl, ⟨⟨rfl, (h.2 (e4)).2.1⟩, ⟨h1, (p_520 d X i j v1 h1 (i 34 ((stO (i 31 2) (i 32) v4 v2).toNatClampNeg)) (i 35 ((stO (i 31 2) (i 32) v4 v2).toNatClampNeg)) _ ⟨rfl, ⟨⟨rfl, (h.2 (e4)).2.1⟩, ⟨rfl, ⟨⟨rfl, (h.2 (e4)).2.1⟩, ⟨h1, (p_519 (d + 1) X i j v1 h1 (saP (i v1 0) (i v1 1) (i v1 2) (i 34 ((stO (i 31 2) (i 32) v4 v2).toNatClampNeg)) (i 35 ((stO (i 31 2) (i 32) v4 v2).toNatClampNeg))) (i 34 ((stO (i 31 2) (i 32) v4 v2).toNatClampNeg)) (i 35 ((stO (i 31 2) (i 32) v4 v2).toNatClampNeg)) _ ⟨rfl, ⟨rfl, ⟨rfl, ⟨⟨rfl, (h.2 (e4)).2.1⟩, ⟨rfl, ⟨⟨rfl, (h.2 (e4)).2.1⟩, (tc_781_116 (d + 1) 31 v1 v2 (v3 + (coI (saP (i v1 0) (i v1 1) (i v1 2) (i 34 ((stO (i 31 2) (i 32) v4 v2).toNatClampNeg)) (i 35 ((stO (i 31 2) (i 32) v4 v2).toNatClampNeg))) (i v1 0) (i v1 1) (i v1 2) (i 34 ((stO (i 31 2) (i 32) v4 v2).toNatClampNeg)) (i 35 ((stO (i 31 2) (i 32) v4 v2).toNatClampNeg)))) v4 (mm X (s2 (s2 (s2 i 31 5 ((i 31 5) + (nI 1))) 34 ((stO (i 31 2) (i 32) v4 v2).toNatClampNeg) (nI 0)) 35 ((stO (i 31 2) (i 32) v4 v2).toNatClampNeg) (nI 0)) j) _ ((h.2 (e4)).2.2.2 (e5)))⟩⟩⟩⟩⟩⟩)⟩⟩⟩⟩⟩)⟩⟩⟩⟩⟩⟩⟩⟩⟩)⟩⟩⟩
theorem c_781 (d : Nat) (X : XS) (i : Nat → Nat → Int32) (j : Nat → Nat → Int64) (P : Nat) (hP : PO X P) (nP : P ≠ 31 ∧ P ≠ 34 ∧ P ≠ 35) {kn : Nat} {so : Nat → Int32} {ca : Nat → Prop} (hS : SV i kn so ca) (hB : SB kn so) (hZ : RZ i) (bits : Int32) :
    ∃ i', EvI (d + 2) 781 [.ref 31, .ref P, .int bits] (mm X i j) (byS (i P 0) (i P 1) (i P 2) so ca bits kn kn) (mm X i' j) ∧ (∀ b, b ≠ 31 → b ≠ 34 → b ≠ 35 → i' b = i b) ∧ (∀ k, k ≠ 5 → i' 31 k = i 31 k) ∧ i' 31 5 = nI (ct (fst1 so bits) kn) ∧ RZ i' := by
  have hk := hS.2.1
  have main : WI (d + 2) 781 [.ref 31, .ref P, .int bits] (mm X i j) (fun x M2 => ∃ i', x = byS (i P 0) (i P 1) (i P 2) so ca bits kn kn ∧ M2 = mm X i' j ∧ (∀ b, b ≠ 31 → b ≠ 34 → b ≠ 35 → i' b = i b) ∧ (∀ k, k ≠ 5 → i' 31 k = i 31 k) ∧ i' 31 5 = nI (ct (fst1 so bits) kn) ∧ RZ i') := by
    rw [← sets_days]
    refine s_781 d X i j P hP _ _ ?_
    obtain ⟨i1, hE, hf1, hv1⟩ := c_780 d X i j hS hB hZ (Nat.le_refl kn) bits
    rw [hS.1]
    refine ⟨i1, hE, ?_⟩
    refine lup kn (fun t (q : Int32 × (Nat → Nat → Int32)) => q.1 = sm (fun t => ifI (fst1 so bits t) (grp (i P 0) (i P 1) (i P 2) so ca bits (so t &&& bits) kn)) t ∧ (∀ b, b ≠ 31 → b ≠ 34 → b ≠ 35 → q.2 b = i b) ∧ (∀ k, k ≠ 5 → q.2 31 k = i 31 k) ∧ q.2 31 5 = nI (ct (fst1 so bits) t) ∧
        (∀ v, v < 1024 → ((∃ u, u < t ∧ so u &&& bits = nI v) → q.2 34 v = nI 0 ∧ q.2 35 v = nI 0) ∧ ((¬ ∃ u, u < t ∧ so u &&& bits = nI v) → q.2 34 v = nI (mS so bits (nI v) kn) ∧ q.2 35 v = nI (eS so ca bits (nI v) kn))))
      (fun t q => (19, [(0, .ref 31), (1, .ref P), (2, .int bits), (3, .int q.1), (4, .int (nI t))], [], mm X q.2 j)) ?_ ?_ 0 (nI 0, s2 i1 31 5 (nI 0)) (Nat.zero_le _) ?_
    · rintro ⟨q, i2⟩ ⟨h1, hf, h31, h5, hv⟩
      dsimp only at h1 hf h31 h5 hv ⊢
      refine s_781_19 d X i2 j P hP _ _ _ _ (br_t (by rw [h31 2 (by decide), hS.1]; exact Int32.le_refl _) (qI_of ⟨i2, h1, rfl, hf, h31, h5, fun v hvl => ?_⟩))
      by_cases h : ∃ u, u < kn ∧ so u &&& bits = nI v
      · exact (hv v hvl).1 h
      · have := (hv v hvl).2 h
        rw [this.1, this.2]
        unfold mS eS
        rw [ct_zero (p := fun t => so t &&& bits = nI v) (fun t ht e => h ⟨t, ht, e⟩), ct_zero (p := fun t => so t &&& bits = nI v ∧ ca t) (fun t ht e => h ⟨t, ht, e.1⟩)]
        exact ⟨rfl, rfl⟩
    · rintro t ⟨q, i2⟩ ht ⟨h1, hf, h31, h5, hv⟩ go
      dsimp only at h1 hf h31 h5 hv ⊢
      have hS2 : SV i2 kn so ca := ⟨by rw [h31 2 (by decide)]; exact hS.1, hk, fun t ht => by rw [hf 32 (by decide) (by decide) (by decide), hf 33 (by decide) (by decide) (by decide)]; exact hS.2.2 t ht⟩
      obtain ⟨q0, hq, eq⟩ := hB t ht
      obtain ⟨v0, hv0, e1, e2⟩ := and_lt hq bits
      have est : stO (i2 31 2) (i2 32) (nI t) bits = nI v0 := by rw [hS2.sx ht, eq, e2, e1]
      have eSt : so t &&& bits = nI v0 := by rw [eq, e1]
      refine s_781_19 d X i2 j P hP _ _ _ _ (br_f (by rw [h31 2 (by decide), hS.1]; exact nI_ge ht (by omega)) ⟨hS2.ok, ?_⟩)
      rw [est, tc_nI (by omega), nI_add, hf P nP.1 nP.2.1 nP.2.2]
      refine ⟨vp_in_nI hv0 (by decide), ?_⟩
      have fstiff : fst1 so bits t ↔ ¬ ∃ u, u < t ∧ so u &&& bits = nI v0 := by
        unfold fst1
        rw [eSt]
        exact ⟨fun h ⟨u, hu, e⟩ => h u hu e, fun h u hu e => h ⟨u, hu, e⟩⟩
      by_cases hex : ∃ u, u < t ∧ so u &&& bits = nI v0
      · have nf : ¬ fst1 so bits t := fun h => fstiff.mp h hex
        have hv' := (hv v0 hv0).1 hex
        refine br_t (by rw [hv'.1]; exact Int32.le_refl _) (go (q, i2) ⟨?_, hf, h31, by dsimp only; rw [h5, ct_f nf], fun v hvl => ?_⟩)
        · dsimp only
          rw [h1, sm, ifI_f nf]; grind
        · dsimp only
          have : (∃ u, u < t + 1 ∧ so u &&& bits = nI v) ↔ (∃ u, u < t ∧ so u &&& bits = nI v) := by
            constructor
            · rintro ⟨u, hu, e⟩
              by_cases h3 : u = t
              · subst h3
                have : nI v0 = nI v := eSt.symm.trans e
                rw [← this]; exact hex
              · exact ⟨u, by omega, e⟩
            · rintro ⟨u, hu, e⟩; exact ⟨u, by omega, e⟩
          rw [this]
          exact hv v hvl
      · have yf := fstiff.mpr hex
        have hv' := (hv v0 hv0).2 hex
        have hpos : 0 < mS so bits (nI v0) kn := ct_pos (p := fun t => so t &&& bits = nI v0) ht eSt
        have hle := ct_le (fun t => so t &&& bits = nI v0) kn
        refine br_f (by rw [hv'.1]; exact nI_nle hpos (by unfold mS; omega)) ?_
        rw [hv'.1, hv'.2, h5, nI_add]
        refine go (_, s2 (s2 (s2 i2 31 5 (nI (ct (fst1 so bits) t + 1))) 34 v0 (nI 0)) 35 v0 (nI 0)) ⟨?_, fun b b1 b2 b3 => ?_, fun k hk5 => ?_, ?_, fun v hvl => ?_⟩
        · dsimp only
          rw [h1, sm, ifI_t yf, eSt]; rfl
        · dsimp only
          rw [s2_ne b3, s2_ne b2, s2_ne b1]; exact hf b b1 b2 b3
        · dsimp only
          rw [s2_ne (show 31 ≠ 35 by decide), s2_ne (show 31 ≠ 34 by decide), s2_ne2 hk5]; exact h31 k hk5
        · dsimp only
          rw [s2_ne (show 31 ≠ 35 by decide), s2_ne (show 31 ≠ 34 by decide), s2_self, ct_t yf]
        · dsimp only
          rw [s2_ne (show 34 ≠ 35 by decide)]
          by_cases h : v = v0
          · subst h
            rw [s2_self, s2_self]
            exact ⟨fun _ => ⟨rfl, rfl⟩, fun hne => absurd ⟨t, by omega, eSt⟩ hne⟩
          · rw [s2_ne2 h, s2_ne2 h, s2_ne (show 34 ≠ 31 by decide), s2_ne (show 35 ≠ 34 by decide), s2_ne (show 35 ≠ 31 by decide)]
            have : (∃ u, u < t + 1 ∧ so u &&& bits = nI v) ↔ (∃ u, u < t ∧ so u &&& bits = nI v) := by
              constructor
              · rintro ⟨u, hu, e⟩
                by_cases h3 : u = t
                · subst h3
                  exfalso
                  have : nI v0 = nI v := eSt.symm.trans e
                  rw [nI_eq (by omega) (by omega)] at this
                  exact h this.symm
                · exact ⟨u, by omega, e⟩
              · rintro ⟨u, hu, e⟩; exact ⟨u, by omega, e⟩
            rw [this]
            exact hv v hvl
    · refine ⟨rfl, fun b b1 b2 b3 => ?_, fun k hk5 => ?_, by dsimp only; rw [s2_self]; rfl, fun v hvl => ⟨fun ⟨u, hu, _⟩ => absurd hu (by omega), fun _ => ?_⟩⟩
      · dsimp only
        rw [s2_ne b1]; exact hf1 b b2 b3
      · dsimp only
        rw [s2_ne2 hk5, hf1 31 (by decide) (by decide)]
      · dsimp only
        rw [s2_ne (show 34 ≠ 31 by decide), s2_ne (show 35 ≠ 31 by decide)]
        exact hv1 v hvl
  obtain ⟨n1, ⟨r, M2⟩, h1, x, h2, i', h3, h4, h5⟩ := main
  dsimp only at h2 h4
  subst h2; subst h4; subst h3
  exact ⟨i', ⟨n1, _, h1, _, rfl, rfl, rfl⟩, h5⟩

/-- coins of the days behind the first m ones, by what those teach -/
noncomputable def lrn (c l s : Int32) (so : Nat → Int32) (ca : Nat → Prop) (bits : Int32) (m n : Nat) : Int32 := sm (fun q => dcI (abP c l s so ca bits (so (m + q) &&& bits) m) (ca (m + q)) c l s) (n - m)
theorem lrn_s {c l s : Int32} {so : Nat → Int32} {ca : Nat → Prop} {bits : Int32} {m n : Nat} (h : m ≤ n) : lrn c l s so ca bits m (n + 1) = lrn c l s so ca bits m n + dcI (abP c l s so ca bits (so n &&& bits) m) (ca n) c l s := by
  unfold lrn
  rw [show n + 1 - m = (n - m) + 1 by omega, sm, show m + (n - m) = n by omega]
set_option maxRecDepth 100000 in
theorem s_782 (d : Nat) (X : XS) (i : Nat → Nat → Int32) (j : Nat → Nat → Int64) (a1 : Nat) (h1 : PO X a1) (a2 : Int32) (a3 : Int32) (K : Int32 → AM → Prop) (h : (∃ (P1 : Prop), EvI (d + 2) 775 [.ref 31, .ref a1, .int a3] (mm X i j) (bi P1) (mm X i j) ∧ (∃ (i2 : Nat → Nat → Int32), EvV (d + 2) 780 [.ref 31, .int a2, .int a3] (mm X i j) (mm X i2 j) ∧ WP (d + 3) 782 (20, [(0, .ref 31), (1, .ref a1), (2, .int a2), (3, .int a3), (4, .int (bi P1)), (5, .int (nI 0)), (6, .int a3)], [], (mm X i2 j)) (qI K)))) : WI (d + 3) 782 [.ref 31, .ref a1, .int a2, .int a3] (mm X i j) K := te_782 (d + 2) 31 a1 a2 a3 (mm X i j) (qI K) ⟨rfl, (Exists.elim h fun P1 h5 => EvI.use h5.1 ⟨rfl, (Exists.elim h5.2 fun i2 h3 => EvV.use h3.1 h3.2)⟩)⟩
set_option maxRecDepth 100000 in
theorem s_782_20 (d : Nat) (X : XS) (i : Nat → Nat → Int32) (j : Nat → Nat → Int64) (v1 : Nat) (h1 : PO X v1) (v2 : Int32) (v3 : Int32) (v4 : Int32) (v5 : Int32) (v6 : Int32) (Q : Option (Option Value) → AM → Prop) (h : (((i 31 2) ≤ v6 → WP (d + 3) 782 (108, [(0, .ref 31), (2, .int v2), (3, .int v3), (5, .int v5), (6, .int (nI 0))], [], (mm X i j)) Q) ∧ (¬ ((i 31 2) ≤ v6) → ((i 31 2) ≤ (nI 240)) ∧ (vp_in (stO (i 31 2) (i 32) v6 v2) 1024) ∧ (((i 34 ((stO (i 31 2) (i 32) v6 v2).toNatClampNeg)) ≤ 0 → ((¬ (sOn (i 31 2) (i 33) v6) → ((v4 = 0 → WP (d + 3) 782 (20, [(0, .ref 31), (1, .ref v1), (2, .int v2), (3, .int v3), (4, .int v4), (5, .int (v5 + ((i v1 1) * (nI 0)))), (6, .int (v6 + (nI 1)))], [], (mm X i j)) Q) ∧ (¬ (v4 = 0) → WP (d + 3) 782 (20, [(0, .ref 31), (1, .ref v1), (2, .int v2), (3, .int v3), (4, .int v4), (5, .int (v5 + (((i v1 0) * (nI 1)) + ((i v1 2) * (nI 0))))), (6, .int (v6 + (nI 1)))], [], (mm X i j)) Q))) ∧ (sOn (i 31 2) (i 33) v6 → ((v4 = 0 → WP (d + 3) 782 (20, [(0, .ref 31), (1, .ref v1), (2, .int v2), (3, .int v3), (4, .int v4), (5, .int (v5 + ((i v1 1) * (nI 1)))), (6, .int (v6 + (nI 1)))], [], (mm X i j)) Q) ∧ (¬ (v4 = 0) → WP (d + 3) 782 (20, [(0, .ref 31), (1, .ref v1), (2, .int v2), (3, .int v3), (4, .int v4), (5, .int (v5 + (((i v1 0) * (nI 1)) + ((i v1 2) * (nI 1))))), (6, .int (v6 + (nI 1)))], [], (mm X i j)) Q))))) ∧ (¬ ((i 34 ((stO (i 31 2) (i 32) v6 v2).toNatClampNeg)) ≤ 0) → ((¬ (sOn (i 31 2) (i 33) v6) → WP (d + 3) 782 (20, [(0, .ref 31), (1, .ref v1), (2, .int v2), (3, .int v3), (4, .int v4), (5, .int (v5 + (coI (saP (i v1 0) (i v1 1) (i v1 2) (i 34 ((stO (i 31 2) (i 32) v6 v2).toNatClampNeg)) (i 35 ((stO (i 31 2) (i 32) v6 v2).toNatClampNeg))) (i v1 0) (i v1 1) (i v1 2) (nI 1) (nI 0)))), (6, .int (v6 + (nI 1)))], [], (mm X i j)) Q) ∧ (sOn (i 31 2) (i 33) v6 → WP (d + 3) 782 (20, [(0, .ref 31), (1, .ref v1), (2, .int v2), (3, .int v3), (4, .int v4), (5, .int (v5 + (coI (saP (i v1 0) (i v1 1) (i v1 2) (i 34 ((stO (i 31 2) (i 32) v6 v2).toNatClampNeg)) (i 35 ((stO (i 31 2) (i 32) v6 v2).toNatClampNeg))) (i v1 0) (i v1 1) (i v1 2) (nI 1) (nI 1)))), (6, .int (v6 + (nI 1)))], [], (mm X i j)) Q))))))) : WP (d + 3) 782 (20, [(0, .ref 31), (1, .ref v1), (2, .int v2), (3, .int v3), (4, .int v4), (5, .int v5), (6, .int v6)], [], mm X i j) Q := tc_782_20 (d + 2) 31 v1 v2 v3 v4 v5 v6 (mm X i j) Q ⟨rfl, ⟨fun e7 => (h.1 (e7)), fun e7 => ⟨rfl, (p_779 (d + 2) X i j v6 v2 _ ⟨(h.2 (e7)).1, ⟨rfl, ⟨⟨rfl, (h.2 (e7)).2.1⟩, ⟨fun e8 => ⟨rfl, (p_773 (d + 2) X i j v6 _ ⟨(h.2 (e7)).1, ⟨fun e9 => ⟨h1, (te_519 (d + 2) v1 v4 (nI 1) (nI 0) (mm X i j) _ ⟨fun e10 => ⟨h1, ⟨_, rfl, (tc_782_99 (d + 2) 31 v1 v2 v3 v4 (v5 + ((i v1 1) * (nI 0))) v6 (mm X i j) _ ((((h.2 (e7)).2.2.1 (e8)).1 ((bi_z e9))).1 (e10)))⟩⟩, fun e10 => ⟨h1, ⟨h1, ⟨_, rfl, (tc_782_99 (d + 2) 31 v1 v2 v3 v4 (v5 + (((i v1 0) * (nI 1)) + ((i v1 2) * (nI 0)))) v6 (mm X i j) _ ((((h.2 (e7)).2.2.1 (e8)).1 ((bi_z e9))).2 (e10)))⟩⟩⟩⟩)⟩, fun e9 => ⟨h1, (te_519 (d + 2) v1 v4 (nI 1) (nI 1) (mm X i j) _ ⟨fun e11 => ⟨h1, ⟨_, rfl, (tc_782_99 (d + 2) 31 v1 v2 v3 v4 (v5 + ((i v1 1) * (nI 1))) v6 (mm X i j) _ ((((h.2 (e7)).2.2.1 (e8)).2 ((bi_n e9))).1 (e11)))⟩⟩, fun e11 => ⟨h1, ⟨h1, ⟨_, rfl, (tc_782_99 (d + 2) 31 v1 v2 v3 v4 (v5 + (((i v1 0) * (nI 1)) + ((i v1 2) * (nI 1)))) v6 (mm X i j) _ ((((h.2 (e7)).2.2.1 (e8)).2 ((bi_n e9))).2 (e11)))⟩⟩⟩⟩)⟩⟩⟩)⟩, fun e8 => ⟨rfl, ⟨⟨rfl, (h.2 (e7)).2.1⟩, ⟨rfl, ⟨⟨rfl, (h.2 (e7)).2.1⟩, ⟨h1, (p_520 (d + 1) X i j v1 h1 (i 34 ((stO (i 31 2) (i 32) v6 v2).toNatClampNeg)) (i 35 ((stO (i 31 2) (i 32) v6 v2).toNatClampNeg)) _ ⟨rfl, (p_773 (d + 2) X i j v6 _ ⟨(h.2 (e7)).1, ⟨fun e12 => ⟨h1, (p_519 (d + 2) X i j v1 h1 (saP (i v1 0) (i v1 1) (i v1 2) (i 34 ((stO (i 31 2) (i 32) v6 v2).toNatClampNeg)) (i 35 ((stO (i 31 2) (i 32) v6 v2).toNatClampNeg))) (nI 1) (nI 0) _ (tc_782_99 (d + 2) 31 v1 v2 v3 v4 (v5 + (coI (saP (i v1 0) (i v1 1) (i v1 2) (i 34 ((stO (i 31 2) (i 32) v6 v2).toNatClampNeg)) (i 35 ((stO (i 31 2) (i 32) v6 v2).toNatClampNeg))) (i v1 0) (i v1 1) (i v1 2) (nI 1) (nI 0))) v6 (mm X i j) _ (((h.2 (e7)).2.2.2 (e8)).1 ((bi_z e12)))))⟩, fun e12 => ⟨h1, (p_519 (d + 2) X i j v1 h1 (saP (i v1 0) (i v1 1) (i v1 2) (i 34 ((stO (i 31 2) (i 32) v6 v2).toNatClampNeg)) (i 35 ((stO (i 31 2) (i 32) v6 v2).toNatClampNeg))) (nI 1) (nI 1) _ (tc_782_99 (d + 2) 31 v1 v2 v3 v4 (v5 + (coI (saP (i v1 0) (i v1 1) (i v1 2) (i 34 ((stO (i 31 2) (i 32) v6 v2).toNatClampNeg)) (i 35 ((stO (i 31 2) (i 32) v6 v2).toNatClampNeg))) (i v1 0) (i v1 1) (i v1 2) (nI 1) (nI 1))) v6 (mm X i j) _ (((h.2 (e7)).2.2.2 (e8)).2 ((bi_n e12)))))⟩⟩⟩)⟩)⟩⟩⟩⟩⟩⟩⟩⟩⟩)⟩⟩⟩
set_option maxRecDepth 100000 in
theorem s_782_108 (d : Nat) (X : XS) (i : Nat → Nat → Int32) (j : Nat → Nat → Int64) (v2 : Int32) (v3 : Int32) (v5 : Int32) (v6 : Int32) (Q : Option (Option Value) → AM → Prop) (h : ((v3 ≤ v6 → Q (some (some (.int v5))) (mm X i j)) ∧ (¬ (v3 ≤ v6) → ((i 31 2) ≤ (nI 240)) ∧ (vp_in (stO (i 31 2) (i 32) v6 v2) 1024) ∧ WP (d + 3) 782 (108, [(0, .ref 31), (2, .int v2), (3, .int v3), (5, .int v5), (6, .int (v6 + (nI 1)))], [], (mm X (s2 (s2 i 34 ((stO (i 31 2) (i 32) v6 v2).toNatClampNeg) (nI 0)) 35 ((stO (i 31 2) (i 32) v6 v2).toNatClampNeg) (nI 0)) j)) Q))) : WP (d + 3) 782 (108, [(0, .ref 31), (2, .int v2), (3, .int v3), (5, .int v5), (6, .int v6)], [], mm X i j) Q := tc_782_108 (d + 2) 31 v2 v3 v5 v6 (mm X i j) Q ⟨fun e13 => (h.1 (e13)), fun e13 => ⟨rfl, ⟨rfl, (p_779 (d + 2) X i j v6 v2 _ ⟨(h.2 (e13)).1, ⟨⟨rfl, (h.2 (e13)).2.1⟩, ⟨rfl, ⟨rfl, (p_779 (d + 2) X (s2 i 34 ((stO (i 31 2) (i 32) v6 v2).toNatClampNeg) (nI 0)) j v6 v2 _ ⟨(h.2 (e13)).1, ⟨⟨rfl, (h.2 (e13)).2.1⟩, (h.2 (e13)).2.2⟩⟩)⟩⟩⟩⟩)⟩⟩⟩
theorem c_782 (d : Nat) (X : XS) (i : Nat → Nat → Int32) (j : Nat → Nat → Int64) (P : Nat) (hP : PO X P) (nP : P ≠ 34 ∧ P ≠ 35) {kn m : Nat} {so : Nat → Int32} {ca : Nat → Prop} (hS : SV i kn so ca) (hB : SB kn so) (hZ : RZ i) (hm : m ≤ kn) (bits : Int32) :
    ∃ i', EvI (d + 3) 782 [.ref 31, .ref P, .int bits, .int (nI m)] (mm X i j) (lrn (i P 0) (i P 1) (i P 2) so ca bits m kn) (mm X i' j) ∧ (∀ b, b ≠ 34 → b ≠ 35 → i' b = i b) ∧ RZ i' := by
  have hk := hS.2.1
  have main : WI (d + 3) 782 [.ref 31, .ref P, .int bits, .int (nI m)] (mm X i j) (fun x M2 => ∃ i', x = lrn (i P 0) (i P 1) (i P 2) so ca bits m kn ∧ M2 = mm X i' j ∧ (∀ b, b ≠ 34 → b ≠ 35 → i' b = i b) ∧ RZ i') := by
    refine s_782 d X i j P hP _ _ _ ?_
    obtain ⟨i1, hE, hf1, hv1⟩ := c_780 (d + 1) X i j hS hB hZ hm bits
    refine ⟨_, c_775 d X i j P hP hS hm, i1, hE, ?_⟩
    have hS1 : SV i1 kn so ca := hS.kp (hf1 31 (by decide) (by decide)) (hf1 32 (by decide) (by decide)) (hf1 33 (by decide) (by decide))
    have eP := hf1 P nP.1 nP.2
    have last : ∀ x, x = lrn (i P 0) (i P 1) (i P 2) so ca bits m kn → WP (d + 3) 782 (108, [(0, .ref 31), (2, .int bits), (3, .int (nI m)), (5, .int x), (6, .int (nI 0))], [], mm X i1 j) (qI (fun x M2 => ∃ i', x = lrn (i P 0) (i P 1) (i P 2) so ca bits m kn ∧ M2 = mm X i' j ∧ (∀ b, b ≠ 34 → b ≠ 35 → i' b = i b) ∧ RZ i')) := by
      intro x hx
      refine lup m (fun t (i2 : Nat → Nat → Int32) => (∀ b, b ≠ 34 → b ≠ 35 → i2 b = i b) ∧ (∀ v, v < 1024 → (∃ u, u < t ∧ so u &&& bits = nI v) ∨ (∀ u, u < m → ¬ so u &&& bits = nI v) → i2 34 v = nI 0 ∧ i2 35 v = nI 0))
        (fun t i2 => (108, [(0, .ref 31), (2, .int bits), (3, .int (nI m)), (5, .int x), (6, .int (nI t))], [], mm X i2 j)) ?_ ?_ 0 i1 (Nat.zero_le _) ⟨hf1, fun v hvl h => ?_⟩
      · rintro i2 ⟨hf, hv⟩
        refine s_782_108 d X i2 j _ _ _ _ _ (br_t (Int32.le_refl _) (qI_of ⟨i2, hx, rfl, hf, fun v hvl => hv v hvl ?_⟩))
        by_cases h : ∃ u, u < m ∧ so u &&& bits = nI v
        · exact Or.inl h
        · exact Or.inr fun u hu e => h ⟨u, hu, e⟩
      · rintro t i2 ht ⟨hf, hv⟩ go
        have hS2 : SV i2 kn so ca := hS.kp (hf 31 (by decide) (by decide)) (hf 32 (by decide) (by decide)) (hf 33 (by decide) (by decide))
        obtain ⟨q0, hq, eq⟩ := hB t (by omega)
        obtain ⟨v0, hv0, e1, e2⟩ := and_lt hq bits
        have est : stO (i2 31 2) (i2 32) (nI t) bits = nI v0 := by rw [hS2.sx (by omega), eq, e2, e1]
        have eSt : so t &&& bits = nI v0 := by rw [eq, e1]
        refine s_782_108 d X i2 j _ _ _ _ _ (br_f (nI_ge ht (by omega)) ⟨hS2.ok, ?_⟩)
        rw [est, tc_nI (by omega), nI_add]
        refine ⟨vp_in_nI hv0 (by decide), go (s2 (s2 i2 34 v0 (nI 0)) 35 v0 (nI 0)) ⟨fun b b1 b2 => by rw [s2_ne b2, s2_ne b1]; exact hf b b1 b2, fun v hvl h => ?_⟩⟩
        rw [s2_ne (show 34 ≠ 35 by decide)]
        by_cases hvv : v = v0
        · subst hvv
          rw [s2_self, s2_self]; exact ⟨rfl, rfl⟩
        · rw [s2_ne2 hvv, s2_ne2 hvv, s2_ne (show 35 ≠ 34 by decide)]
          refine hv v hvl ?_
          rcases h with ⟨u, hu, e⟩ | h
          · by_cases h3 : u = t
            · subst h3
              have : nI v0 = nI v := eSt.symm.trans e
              rw [nI_eq (by omega) (by omega)] at this
              exact absurd this.symm hvv
            · exact Or.inl ⟨u, by omega, e⟩
          · exact Or.inr h
      · rcases h with ⟨u, hu, -⟩ | h
        · exact absurd hu (by omega)
        · rw [(hv1 v hvl).1, (hv1 v hvl).2]
          unfold mS eS
          rw [ct_zero (p := fun t => so t &&& bits = nI v) (fun t ht e => h t ht e), ct_zero (p := fun t => so t &&& bits = nI v ∧ ca t) (fun t ht e => h t ht e.1)]
          exact ⟨rfl, rfl⟩
    refine lup kn (fun t (q : Int32) => m ≤ t ∧ q = lrn (i P 0) (i P 1) (i P 2) so ca bits m t) (fun t q => (20, [(0, .ref 31), (1, .ref P), (2, .int bits), (3, .int (nI m)), (4, .int (bi (saP (i P 0) (i P 1) (i P 2) (nI m) (nI (ct ca m))))), (5, .int q), (6, .int (nI t))], [], mm X i1 j)) ?_ ?_ m _ hm ⟨Nat.le_refl _, ?_⟩
    · rintro q ⟨-, hq⟩
      exact s_782_20 d X i1 j P hP _ _ _ _ _ _ (br_t (by rw [hS1.1]; exact Int32.le_refl _) (last q hq))
    · rintro t q ht ⟨hmt, hq⟩ go
      obtain ⟨q0, hq0, eq⟩ := hB t (by omega)
      obtain ⟨v0, hv0, e1, e2⟩ := and_lt hq0 bits
      have est : stO (i1 31 2) (i1 32) (nI t) bits = nI v0 := by rw [hS1.sx (by omega), eq, e2, e1]
      have eSt : so t &&& bits = nI v0 := by rw [eq, e1]
      refine s_782_20 d X i1 j P hP _ _ _ _ _ _ (br_f (by rw [hS1.1]; exact nI_ge ht (by omega)) ⟨hS1.ok, ?_⟩)
      rw [est, tc_nI (by omega), hS1.cm ht, (hv1 v0 hv0).1, (hv1 v0 hv0).2, nI_add, eP]
      refine ⟨vp_in_nI hv0 (by decide), ?_⟩
      have up : ∀ x, x = dcI (abP (i P 0) (i P 1) (i P 2) so ca bits (nI v0) m) (ca t) (i P 0) (i P 1) (i P 2) → WP (d + 3) 782 (20, [(0, .ref 31), (1, .ref P), (2, .int bits), (3, .int (nI m)), (4, .int (bi (saP (i P 0) (i P 1) (i P 2) (nI m) (nI (ct ca m))))), (5, .int (q + x)), (6, .int (nI (t + 1)))], [], mm X i1 j) (qI (fun x M2 => ∃ i', x = lrn (i P 0) (i P 1) (i P 2) so ca bits m kn ∧ M2 = mm X i' j ∧ (∀ b, b ≠ 34 → b ≠ 35 → i' b = i b) ∧ RZ i')) := fun x hx =>
        go _ ⟨by omega, by rw [lrn_s hmt, hq, hx, eSt]⟩
      have hle := ct_le (fun t => so t &&& bits = nI v0) m
      by_cases hz : mS so bits (nI v0) m = 0
      · have eab : abP (i P 0) (i P 1) (i P 2) so ca bits (nI v0) m ↔ saP (i P 0) (i P 1) (i P 2) (nI m) (nI (ct ca m)) := ⟨fun h => h.elim (fun z => absurd z.1 (by omega)) (fun z => z.2), fun h => Or.inr ⟨hz, h⟩⟩
        refine br_t (by rw [hz]; exact Int32.le_refl _) (bq_c (fun z => br_c (fun y => up _ ?_) (fun y => up _ ?_)) (fun z => br_c (fun y => up _ ?_) (fun y => up _ ?_)))
        · rw [← co1, bi_f z]; unfold coI; rw [if_neg (fun w => bi_z y (eab.mp w))]; rfl
        · rw [← co1, bi_f z]; unfold coI; rw [if_pos (eab.mpr (bi_n y))]; rfl
        · rw [← co1, bi_t z]; unfold coI; rw [if_neg (fun w => bi_z y (eab.mp w))]; rfl
        · rw [← co1, bi_t z]; unfold coI; rw [if_pos (eab.mpr (bi_n y))]; rfl
      · have eab : saP (i P 0) (i P 1) (i P 2) (nI (mS so bits (nI v0) m)) (nI (eS so ca bits (nI v0) m)) ↔ abP (i P 0) (i P 1) (i P 2) so ca bits (nI v0) m := ⟨fun h => Or.inl ⟨by omega, h⟩, fun h => h.elim (fun z => z.2) (fun z => absurd z.1 hz)⟩
        rw [propext eab]
        refine br_f (nI_nle (by omega) (by unfold mS; omega)) (bq_c (fun z => up _ ?_) (fun z => up _ ?_))
        · rw [← co1, bi_f z]; rfl
        · rw [← co1, bi_t z]; rfl
    · unfold lrn
      rw [Nat.sub_self]; rfl
  obtain ⟨n1, ⟨r, M2⟩, h1, x, h2, i', h3, h4, h5⟩ := main
  dsimp only at h2 h4
  subst h2; subst h4; subst h3
  exact ⟨i', ⟨n1, _, h1, _, rfl, rfl, rfl⟩, h5⟩
