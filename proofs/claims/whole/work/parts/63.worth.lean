/-! ===== is it worth it ===== -/
theorem b1_z (x : Int32) : x &&& nI 1 = 0 ↔ x.toBitVec.getLsbD 0 = false := by
  rw [← Int32.toBitVec_inj, Int32.toBitVec_and]
  show x.toBitVec &&& 1#32 = 0#32 ↔ _
  rw [BitVec.and_one_eq_setWidth_ofBool_getLsbD]
  cases x.toBitVec.getLsbD 0 <;> decide
theorem or_b1 (x y : Int32) : (x ||| y) &&& nI 1 = 0 ↔ x &&& nI 1 = 0 ∧ y &&& nI 1 = 0 := by
  rw [b1_z, b1_z, b1_z, Int32.toBitVec_or, BitVec.getLsbD_or, Bool.or_eq_false_iff]
theorem bit_or {a : Int32} {p v : Nat} (hp : p < 10) (hv : v < 10) : shrI (a ||| shlI (nI 1) (nI p)) (nI v) &&& nI 1 = 0 ↔ shrI a (nI v) &&& nI 1 = 0 ∧ ¬ v = p := by
  rw [← bit10 p hp v hv]
  unfold shrI
  rw [Int32.shiftRight_or, or_b1]
theorem bit_0 : ∀ v, v < 10 → shrI 0 (nI v) &&& nI 1 = 0 := by decide
noncomputable def sumQ (Q : Nat → Prop) (f : Nat → Nat) (n : Nat) : Nat := nsm (fun v => @ite _ (Q v) (Classical.propDecidable _) (f v) 0) n
theorem sumQ_y {Q : Nat → Prop} {f : Nat → Nat} {n : Nat} (h : Q n) : sumQ Q f (n + 1) = sumQ Q f n + f n := by
  unfold sumQ; rw [nsm, if_pos h]
theorem sumQ_n {Q : Nat → Prop} {f : Nat → Nat} {n : Nat} (h : ¬ Q n) : sumQ Q f (n + 1) = sumQ Q f n := by
  unfold sumQ; rw [nsm, if_neg h]; rfl
theorem sumQ_cg {Q Q' : Nat → Prop} {f : Nat → Nat} : ∀ {n : Nat}, (∀ v, v < n → (Q v ↔ Q' v)) → sumQ Q f n = sumQ Q' f n
  | 0, _ => rfl
  | n + 1, h => by
    have ih := sumQ_cg (n := n) (f := f) (fun v hv => h v (by omega))
    by_cases q : Q n
    · rw [sumQ_y q, sumQ_y ((h n (by omega)).mp q), ih]
    · rw [sumQ_n q, sumQ_n (fun z => q ((h n (by omega)).mpr z)), ih]
theorem sumQ_z {Q : Nat → Prop} {f : Nat → Nat} : ∀ {n : Nat}, (∀ v, v < n → ¬ Q v) → sumQ Q f n = 0
  | 0, _ => rfl
  | n + 1, h => by rw [sumQ_n (h n (by omega))]; exact sumQ_z fun v hv => h v (by omega)
theorem sumQ_or {Q : Nat → Prop} {f : Nat → Nat} {p : Nat} (hq : ¬ Q p) : ∀ {n : Nat}, p < n → sumQ (fun v => Q v ∨ v = p) f n = f p + sumQ Q f n
  | 0, h => absurd h (by omega)
  | n + 1, h => by
    by_cases e : p = n
    · subst e
      rw [sumQ_y (Q := fun v => Q v ∨ v = p) (Or.inr rfl), sumQ_n hq, sumQ_cg (Q := fun v => Q v ∨ v = p) (Q' := Q) (fun v hv => ⟨fun z => z.elim id (fun e => by omega), Or.inl⟩), Nat.add_comm]
    · have ih := sumQ_or hq (f := f) (n := n) (by omega)
      by_cases q : Q n
      · rw [sumQ_y (Q := fun v => Q v ∨ v = p) (Or.inl q), sumQ_y q, ih, Nat.add_assoc]
      · rw [sumQ_n (Q := fun v => Q v ∨ v = p) (fun z => z.elim q (fun e2 => e e2.symm)), sumQ_n q, ih]
def srN (i : Nat → Nat → Int32) (v : Nat) : Nat := (i 60 v).toInt.toNat
theorem R5.st {X : XS} {i : Nat → Nat → Int32} {np p : Nat} (h : R5 X i np) (hp : p < np) : srN i p < 240 ∧ i 60 p = nI (srN i p) := by
  obtain ⟨-, -, -, ⟨c, l, s, st, -, -, -, hst, -, -, -, b3⟩, -⟩ := h.2.2.2 p hp
  have : srN i p = st := by unfold srN; rw [b3, nI_toInt (by omega)]; rfl
  rw [this]; exact ⟨hst, b3⟩
/-- the times, and how often it came, of persons Q -/
noncomputable def lsT (A ca : Nat → Prop) (i : Nat → Nat → Int32) (t m : Nat) (Q : Nat → Prop) (n : Nat) : Nat := sumQ Q (fun v => (lat A ca (srN i v) t m).1) n
noncomputable def lsE (A ca : Nat → Prop) (i : Nat → Nat → Int32) (t m : Nat) (Q : Nat → Prop) (n : Nat) : Nat := sumQ Q (fun v => (lat A ca (srN i v) t m).2) n
def gW (c l s : Int32) (T E : Nat) : Prop := ¬ nI E * (l - s) ≤ c * nI T
set_option maxRecDepth 100000 in
theorem s_1486 (d : Nat) (X : XS) (i : Nat → Nat → Int32) (j : Nat → Nat → Int64) (a1 : Nat) (h1 : PO X a1) (a2 : Int32) (a3 : Int32) (K : Int32 → AM → Prop) (h : ((¬ (a2 = 0) → WP (d + 2) 1486 (23, [(0, .ref 2), (1, .ref a1), (2, .int a2), (3, .int a3), (4, .int (nI 0))], [], (mm X (s2 (s2 i 37 3 (nI 0)) 37 4 (nI 0)) j)) (qI K)) ∧ (a2 = 0 → (∃ (i2 : Nat → Nat → Int32), EvV (d + 1) 1285 [.ref 37, .int a3, .int (nI 0)] (mm X (s2 (s2 i 37 3 (nI 0)) 37 4 (nI 0)) j) (mm X i2 j) ∧ WP (d + 2) 1486 (23, [(0, .ref 2), (1, .ref a1), (2, .int a2), (3, .int a3), (4, .int (nI 0))], [], (mm X i2 j)) (qI K))))) : WI (d + 2) 1486 [.ref 2, .ref a1, .int a2, .int a3] (mm X i j) K := te_1486 (d + 1) 2 a1 a2 a3 (mm X i j) (qI K) ⟨rfl, ⟨rfl, (te_1284 (d + 1) 37 (mm X i j) _ ⟨rfl, ⟨rfl, ⟨rfl, ⟨fun e1 => (h.1 (e1)), fun e1 => ⟨rfl, ⟨rfl, (Exists.elim (h.2 ((Classical.byContradiction e1))) fun i2 h3 => EvV.use h3.1 h3.2)⟩⟩⟩⟩⟩⟩)⟩⟩
set_option maxRecDepth 100000 in
theorem s_1486_23 (d : Nat) (X : XS) (i : Nat → Nat → Int32) (j : Nat → Nat → Int64) (v1 : Nat) (h1 : PO X v1) (v2 : Int32) (v3 : Int32) (v4 : Int32) (Q : Option (Option Value) → AM → Prop) (h : (((i 2 9) ≤ v4 → ((((i 37 4) * ((i v1 1) - (i v1 2))) ≤ ((i 37 3) * (i v1 0)) → Q (some (some (.int (nI 0)))) (mm X i j)) ∧ (¬ (((i 37 4) * ((i v1 1) - (i v1 2))) ≤ ((i 37 3) * (i v1 0))) → Q (some (some (.int (nI 1)))) (mm X i j)))) ∧ (¬ ((i 2 9) ≤ v4) → ((((shrI v2 v4) &&& (nI 1)) = 0 → WP (d + 2) 1486 (23, [(0, .ref 2), (1, .ref v1), (2, .int v2), (3, .int v3), (4, .int (v4 + (nI 1)))], [], (mm X i j)) Q) ∧ (¬ (((shrI v2 v4) &&& (nI 1)) = 0) → (PSs X i) ∧ ((¬ ((nI 0) ≤ v4 ∧ v4 ≤ ((i 2 9) - (nI 1)))) → WP (d + 2) 1486 (23, [(0, .ref 2), (1, .ref v1), (2, .int v2), (3, .int v3), (4, .int (v4 + (nI 1)))], [], (mm X i j)) Q) ∧ (((nI 0) ≤ v4 ∧ v4 ≤ ((i 2 9) - (nI 1))) → (PO X (xr X 24 (v4.toNatClampNeg))) → (∃ (i15 : Nat → Nat → Int32), EvV (d + 1) 1285 [.ref 37, .int v3, .int (i (xr X 24 (v4.toNatClampNeg)) 3)] (mm X i j) (mm X i15 j) ∧ WP (d + 2) 1486 (23, [(0, .ref 2), (1, .ref v1), (2, .int v2), (3, .int v3), (4, .int (v4 + (nI 1)))], [], (mm X i15 j)) Q))))))) : WP (d + 2) 1486 (23, [(0, .ref 2), (1, .ref v1), (2, .int v2), (3, .int v3), (4, .int v4)], [], mm X i j) Q := tc_1486_23 (d + 1) 2 v1 v2 v3 v4 (mm X i j) Q ⟨rfl, ⟨fun e5 => ⟨rfl, ⟨rfl, (te_1287 (d + 1) 37 (mm X i j) _ ⟨rfl, ⟨_, rfl, ⟨h1, (te_514 (d + 1) v1 (mm X i j) _ ⟨h1, ⟨h1, ⟨_, rfl, ⟨rfl, ⟨rfl, (te_1286 (d + 1) 37 (mm X i j) _ ⟨rfl, ⟨_, rfl, ⟨h1, (te_513 (d + 1) v1 (mm X i j) _ ⟨h1, ⟨_, rfl, ⟨fun e6 => ⟨k0_01, ((h.1 (e5)).1 (e6))⟩, fun e6 => ⟨k1_01, ((h.1 (e5)).2 (e6))⟩⟩⟩⟩)⟩⟩⟩)⟩⟩⟩⟩⟩)⟩⟩⟩)⟩⟩, fun e5 => ⟨fun e7 => ⟨fun _ => (tc_1486_71 (d + 1) 2 v1 v2 v3 v4 (mm X i j) _ ((h.2 (e5)).1 (e7))), fun e8 => absurd rfl e8⟩, fun e7 => ⟨rfl, (p_1469 d X i j v4 _ ⟨((h.2 (e5)).2 (e7)).1, (fun h10 => ⟨fun _ => (tc_1486_71 (d + 1) 2 v1 v2 v3 v4 (mm X i j) _ (((h.2 (e5)).2 (e7)).2.1 h10)), fun e11 => absurd rfl e11⟩), (fun h12 h13 => ⟨fun e14 => absurd e14 (nz_k (h13)), fun _ => ⟨rfl, ⟨h13, (te_515 (d + 1) (xr X 24 (v4.toNatClampNeg)) (mm X i j) _ ⟨h13, ⟨_, rfl, ⟨rfl, (Exists.elim (((h.2 (e5)).2 (e7)).2.2 h12 h13) fun i15 h16 => EvV.use h16.1 (tc_1486_71 (d + 1) 2 v1 v2 v3 v4 (mm X i15 j) _ h16.2))⟩⟩⟩)⟩⟩⟩)⟩)⟩⟩⟩⟩
theorem c_1486 (d : Nat) (X : XS) (i : Nat → Nat → Int32) (j : Nat → Nat → Int64) {A ca : Nat → Prop} {np P t m : Nat} (h5 : R5 X i np) (hP : PO X P) (hP37 : P ≠ 37) (ht : t ≤ 240) (hm : m < 2 ^ 30) (hW : WT i A ca t) (hd : Int32) {Q : Nat → Prop} (hQ : ∀ v, v < np → (shrI hd (nI v) &&& nI 1 = 0 ↔ ¬ Q v)) {T0 E0 : Nat} (h0 : (hd = 0 → T0 = (lat A ca 0 t m).1 ∧ E0 = (lat A ca 0 t m).2) ∧ (¬ hd = 0 → T0 = 0 ∧ E0 = 0)) :
    ∃ i', EvI (d + 2) 1486 [.ref 2, .ref P, .int hd, .int (nI m)] (mm X i j) (bi (gW (i P 0) (i P 1) (i P 2) (T0 + lsT A ca i t m Q np) (E0 + lsE A ca i t m Q np))) (mm X i' j) ∧ (∀ b, b ≠ 37 → i' b = i b) ∧ (∀ k, k ≠ 3 → k ≠ 4 → i' 37 k = i 37 k) := by
  refine EvI.ex ?_
  have hnp := h5.1
  have key : ∀ i1 : Nat → Nat → Int32, (∀ b, b ≠ 37 → i1 b = i b) → (∀ k, k ≠ 3 → k ≠ 4 → i1 37 k = i 37 k) → i1 37 3 = nI T0 → i1 37 4 = nI E0 → WP (d + 2) 1486 (23, [(0, .ref 2), (1, .ref P), (2, .int hd), (3, .int (nI m)), (4, .int (nI 0))], [], mm X i1 j) (qI fun x' M2 => ∃ i', x' = bi (gW (i P 0) (i P 1) (i P 2) (T0 + lsT A ca i t m Q np) (E0 + lsE A ca i t m Q np)) ∧ M2 = mm X i' j ∧ (∀ b, b ≠ 37 → i' b = i b) ∧ (∀ k, k ≠ 3 → k ≠ 4 → i' 37 k = i 37 k)) := by
    intro i1 g1 g2 g3 g4
    refine lup np (fun v (i2 : Nat → Nat → Int32) => (∀ b, b ≠ 37 → i2 b = i b) ∧ (∀ k, k ≠ 3 → k ≠ 4 → i2 37 k = i 37 k) ∧ i2 37 3 = nI (T0 + lsT A ca i t m Q v) ∧ i2 37 4 = nI (E0 + lsE A ca i t m Q v)) (fun v i2 => (23, [(0, .ref 2), (1, .ref P), (2, .int hd), (3, .int (nI m)), (4, .int (nI v))], [], mm X i2 j)) ?_ ?_ 0 i1 (Nat.zero_le _) ⟨g1, g2, g3, g4⟩
    · rintro i2 ⟨g1, g2, g3, g4⟩
      refine s_1486_23 d X i2 j _ hP _ _ _ _ (br_t (by rw [g1 2 (by decide), h5.2.1]; exact Int32.le_refl _) ?_)
      rw [g3, g4, g1 P hP37, Int32.mul_comm (nI (T0 + _)) (i P 0)]
      exact br_c (fun y => qI_of ⟨i2, (bi_f (fun z => z y)).symm, rfl, g1, g2⟩) (fun y => qI_of ⟨i2, (bi_t y).symm, rfl, g1, g2⟩)
    · rintro v i2 hv ⟨g1, g2, g3, g4⟩ go
      refine s_1486_23 d X i2 j _ hP _ _ _ _ (br_f (by rw [g1 2 (by decide), h5.2.1]; exact nI_ge hv (by omega)) ?_)
      rw [propext (hQ v hv), nI_add]
      have k2 : Kp X i i2 := (FrC_w (X := X) (fun b h1 _ _ => g1 b h1)).kp
      refine br_c (fun y => go i2 ⟨g1, g2, by unfold lsT at g3 ⊢; rw [sumQ_n y]; exact g3, by unfold lsE at g4 ⊢; rw [sumQ_n y]; exact g4⟩) (fun y => ⟨(h5.kp k2).ps, ?_, ?_⟩)
      · intro w
        refine absurd ?_ w
        rw [g1 2 (by decide), h5.2.1]
        exact idx_in (by omega) hv
      · intro w hO
        have y := Classical.byContradiction y
        obtain ⟨-, hPT, ⟨-, -, -, q3, -⟩, -⟩ := h5.2.2.2 v hv
        obtain ⟨s1, s2'⟩ := h5.st hv
        rw [tc_nI (by omega), g1 _ (by have := xtNe hPT; omega), q3, s2']
        obtain ⟨i3, hE, k1, k2, k3, k4⟩ := c_1285 0 X i2 j (A := A) (ca := ca) (t := t) (m := m) (f := srN i v) ht hm (by omega) (hW.cg (g2 2 (by decide) (by decide)) (g1 38 (by decide)) (g1 39 (by decide)))
        refine ⟨i3, hE.up (by omega), go i3 ⟨fun b hb => (k1 b hb).trans (g1 b hb), fun k h3 h4 => (k2 k h3 h4).trans (g2 k h3 h4), ?_, ?_⟩⟩
        · rw [k3, g3, nI_add, Nat.add_assoc]; unfold lsT; rw [sumQ_y y]
        · rw [k4, g4, nI_add, Nat.add_assoc]; unfold lsE; rw [sumQ_y y]
  refine s_1486 d X i j _ hP _ _ _ (bq_c (fun y => ?_) (fun y => ?_))
  · refine key _ (fun b hb => by rw [s2_ne hb, s2_ne hb]) (fun k h3 h4 => by rw [s2_ne2 h4, s2_ne2 h3]) ?_ ?_
    · rw [s2_ne2 (by decide), s2_self, (h0.2 y).1]
    · rw [s2_self, (h0.2 y).2]
  · obtain ⟨i3, hE, k1, k2, k3, k4⟩ := c_1285 0 X (s2 (s2 i 37 3 (nI 0)) 37 4 (nI 0)) j (A := A) (ca := ca) (t := t) (m := m) (f := 0) ht hm (by decide) (hW.cg (by rw [s2_ne2 (by decide), s2_ne2 (by decide)]) (by rw [s2_ne (by decide), s2_ne (by decide)]) (by rw [s2_ne (by decide), s2_ne (by decide)]))
    refine ⟨i3, hE.up (by omega), key i3 (fun b hb => by rw [k1 b hb, s2_ne hb, s2_ne hb]) (fun k h3 h4 => by rw [k2 k h3 h4, s2_ne2 h4, s2_ne2 h3]) ?_ ?_⟩
    · rw [k3, s2_ne2 (by decide), s2_self, nI_add, Nat.zero_add, (h0.1 y).1]
    · rw [k4, s2_self, nI_add, Nat.zero_add, (h0.1 y).2]
set_option maxRecDepth 100000 in
theorem s_1616 (d : Nat) (X : XS) (i : Nat → Nat → Int32) (j : Nat → Nat → Int64) (a1 : Int32) (a2 : Int32) (a3 : Int32) (a4 : Int32) (a5 : Int32) (K : Int32 → AM → Prop) (h : (vp_in a4 240) ∧ ((¬ (((shrI (i 72 ((a4).toNatClampNeg)) a2) &&& (nI 1)) = (nI 1)) → K (nI 0) (mm X i j)) ∧ (((shrI (i 72 ((a4).toNatClampNeg)) a2) &&& (nI 1)) = (nI 1) → ((a5 = 0 → (∃ (i5 : Nat → Nat → Int32), EvV (d + 1) 1615 [.ref 42, .int a2, .int a3, .int (nI 0), .int a4] (mm X (s2 (s2 i 42 49 (nI 0)) 42 50 (nI 0)) j) (mm X i5 j) ∧ WP (d + 2) 1616 (48, [(0, .ref 42), (1, .int a1), (2, .int a2), (3, .int a3), (4, .int a4), (5, .int a5), (6, .int (nI 0))], [], (mm X i5 j)) (qI K))) ∧ (¬ (a5 = 0) → (vp_in a1 6) ∧ (∃ (i8 : Nat → Nat → Int32), EvV (d + 1) 1615 [.ref 42, .int a2, .int a3, .int (i 60 ((a1).toNatClampNeg)), .int a4] (mm X (s2 (s2 i 42 49 (nI 0)) 42 50 (nI 0)) j) (mm X i8 j) ∧ WP (d + 2) 1616 (48, [(0, .ref 42), (1, .int a1), (2, .int a2), (3, .int a3), (4, .int a4), (5, .int a5), (6, .int (nI 0))], [], (mm X i8 j)) (qI K))))))) : WI (d + 2) 1616 [.ref 42, .int a1, .int a2, .int a3, .int a4, .int a5] (mm X i j) K := te_1616 (d + 1) 42 a1 a2 a3 a4 a5 (mm X i j) (qI K) ⟨rfl, (te_1590 (d + 1) 42 a2 a4 (mm X i j) _ ⟨rfl, ⟨⟨rfl, h.1⟩, ⟨fun e1 => ⟨k0_01, ⟨_, rfl, ⟨fun e2 => absurd e2 (show ¬ (¬ (nI 0) = 0) by decide), fun _ => ⟨k0_01, ⟨_, rfl, (h.2.1 (e1))⟩⟩⟩⟩⟩, fun e1 => ⟨k1_01, ⟨_, rfl, ⟨fun _ => ⟨rfl, ⟨rfl, ⟨fun e4 => ⟨rfl, (Exists.elim ((h.2.2 ((Classical.byContradiction e1))).1 (e4)) fun i5 h6 => EvV.use h6.1 (tc_1616_45 (d + 1) 42 a1 a2 a3 a4 a5 (mm X i5 j) _ h6.2))⟩, fun e4 => ⟨rfl, ⟨⟨rfl, ((h.2.2 ((Classical.byContradiction e1))).2 (e4)).1⟩, ⟨rfl, (Exists.elim ((h.2.2 ((Classical.byContradiction e1))).2 (e4)).2 fun i8 h9 => EvV.use h9.1 (tc_1616_45 (d + 1) 42 a1 a2 a3 a4 a5 (mm X i8 j) _ h9.2))⟩⟩⟩⟩⟩⟩, fun e3 => absurd (show ¬ (nI 1) = 0 by decide) e3⟩⟩⟩⟩⟩⟩)⟩
set_option maxRecDepth 100000 in
theorem s_1616_48 (d : Nat) (X : XS) (i : Nat → Nat → Int32) (j : Nat → Nat → Int64) (v1 : Int32) (v2 : Int32) (v3 : Int32) (v4 : Int32) (v5 : Int32) (v6 : Int32) (Q : Option (Option Value) → AM → Prop) (h : (((i 42 18) ≤ v6 → (vp_in v1 6) ∧ ((((i 42 50) * ((i 58 ((v1).toNatClampNeg)) - (i 59 ((v1).toNatClampNeg)))) ≤ ((i 57 ((v1).toNatClampNeg)) * (i 42 49)) → Q (some (some (.int (nI 0)))) (mm X i j)) ∧ (¬ (((i 42 50) * ((i 58 ((v1).toNatClampNeg)) - (i 59 ((v1).toNatClampNeg)))) ≤ ((i 57 ((v1).toNatClampNeg)) * (i 42 49))) → Q (some (some (.int (nI 1)))) (mm X i j)))) ∧ (¬ ((i 42 18) ≤ v6) → ((v5 = 0 → (vp_in v1 6) ∧ ((((i 42 50) * ((i 58 ((v1).toNatClampNeg)) - (i 59 ((v1).toNatClampNeg)))) ≤ ((i 57 ((v1).toNatClampNeg)) * (i 42 49)) → Q (some (some (.int (nI 0)))) (mm X i j)) ∧ (¬ (((i 42 50) * ((i 58 ((v1).toNatClampNeg)) - (i 59 ((v1).toNatClampNeg)))) ≤ ((i 57 ((v1).toNatClampNeg)) * (i 42 49))) → Q (some (some (.int (nI 1)))) (mm X i j)))) ∧ (¬ (v5 = 0) → (vp_in v1 6) ∧ ((¬ (((shrI (i 61 ((v1).toNatClampNeg)) v6) &&& (nI 1)) = (nI 1)) → WP (d + 2) 1616 (48, [(0, .ref 42), (1, .int v1), (2, .int v2), (3, .int v3), (4, .int v4), (5, .int v5), (6, .int (v6 + (nI 1)))], [], (mm X i j)) Q) ∧ (((shrI (i 61 ((v1).toNatClampNeg)) v6) &&& (nI 1)) = (nI 1) → (vp_in v6 6) ∧ (∃ (i16 : Nat → Nat → Int32), EvV (d + 1) 1615 [.ref 42, .int v2, .int v3, .int (i 60 ((v6).toNatClampNeg)), .int v4] (mm X i j) (mm X i16 j) ∧ WP (d + 2) 1616 (48, [(0, .ref 42), (1, .int v1), (2, .int v2), (3, .int v3), (4, .int v4), (5, .int v5), (6, .int (v6 + (nI 1)))], [], (mm X i16 j)) Q)))))))) : WP (d + 2) 1616 (48, [(0, .ref 42), (1, .int v1), (2, .int v2), (3, .int v3), (4, .int v4), (5, .int v5), (6, .int v6)], [], mm X i j) Q := tc_1616_48 (d + 1) 42 v1 v2 v3 v4 v5 v6 (mm X i j) Q ⟨rfl, ⟨fun e11 => ⟨rfl, ⟨rfl, ⟨⟨rfl, (h.1 (e11)).1⟩, ⟨rfl, ⟨⟨rfl, (h.1 (e11)).1⟩, ⟨rfl, ⟨⟨rfl, (h.1 (e11)).1⟩, ⟨rfl, ⟨fun e12 => ⟨k0_01, ((h.1 (e11)).2.1 (e12))⟩, fun e12 => ⟨k1_01, ((h.1 (e11)).2.2 (e12))⟩⟩⟩⟩⟩⟩⟩⟩⟩⟩, fun e11 => ⟨fun e13 => ⟨rfl, ⟨rfl, ⟨⟨rfl, ((h.2 (e11)).1 (e13)).1⟩, ⟨rfl, ⟨⟨rfl, ((h.2 (e11)).1 (e13)).1⟩, ⟨rfl, ⟨⟨rfl, ((h.2 (e11)).1 (e13)).1⟩, ⟨rfl, ⟨fun e14 => ⟨k0_01, (((h.2 (e11)).1 (e13)).2.1 (e14))⟩, fun e14 => ⟨k1_01, (((h.2 (e11)).1 (e13)).2.2 (e14))⟩⟩⟩⟩⟩⟩⟩⟩⟩⟩, fun e13 => ⟨rfl, ⟨⟨rfl, ((h.2 (e11)).2 (e13)).1⟩, ⟨fun e15 => (((h.2 (e11)).2 (e13)).2.1 (e15)), fun e15 => ⟨rfl, ⟨⟨rfl, (((h.2 (e11)).2 (e13)).2.2 ((Classical.byContradiction e15))).1⟩, ⟨rfl, (Exists.elim (((h.2 (e11)).2 (e13)).2.2 ((Classical.byContradiction e15))).2 fun i16 h17 => EvV.use h17.1 h17.2)⟩⟩⟩⟩⟩⟩⟩⟩⟩
theorem c_1616 (d : Nat) (X : XS) (i : Nat → Nat → Int32) (j : Nat → Nat → Int64) {A ca : Nat → Prop} {np p s t m : Nat} (h5 : R5 X i np) (hp : p < np) (ht : t < 240) (hm : m < 2 ^ 30) (hA : ∀ v, v ≤ t → (shrI (i 72 v) (nI s) &&& nI 1 = nI 1 ↔ A v)) (hc : ∀ v, v < t → i 73 v = bi (ca v)) (a5 : Int32) {T E : Nat}
    (h1 : a5 = 0 → T = (lat A ca 0 t m).1 ∧ E = (lat A ca 0 t m).2) (h2 : ¬ a5 = 0 → T = (lat A ca (srN i p) t m).1 + lsT A ca i t m (fun v => shrI (i 61 p) (nI v) &&& nI 1 = nI 1) np ∧ E = (lat A ca (srN i p) t m).2 + lsE A ca i t m (fun v => shrI (i 61 p) (nI v) &&& nI 1 = nI 1) np) :
    ∃ i', EvI (d + 2) 1616 [.ref 42, .int (nI p), .int (nI s), .int (nI m), .int (nI t), .int a5] (mm X i j) (bi (A t ∧ gW (i 57 p) (i 58 p) (i 59 p) T E)) (mm X i' j) ∧ (∀ b, b ≠ 42 → i' b = i b) ∧ (∀ k, k ≠ 49 → k ≠ 50 → i' 42 k = i 42 k) := by
  refine EvI.ex ?_
  have hnp := h5.1
  refine s_1616 d X i j _ _ _ _ _ _ ⟨vp_in_nI ht (by decide), ?_⟩
  rw [tc_nI (by omega), propext (hA t (Nat.le_refl _))]
  refine bq_c (fun y => ⟨i, (bi_f (fun z => y z.1)).symm, rfl, fun _ _ => rfl, fun _ _ _ => rfl⟩) (fun y => ?_)
  have ans : ∀ i1 : Nat → Nat → Int32, (∀ b, b ≠ 42 → i1 b = i b) → (∀ k, k ≠ 49 → k ≠ 50 → i1 42 k = i 42 k) → i1 42 49 = nI T → i1 42 50 = nI E → vp_in (nI p) 6 ∧ ((i1 42 50 * (i1 58 (nI p).toNatClampNeg - i1 59 (nI p).toNatClampNeg) ≤ i1 57 (nI p).toNatClampNeg * i1 42 49 → (qI fun x' M2 => ∃ i', x' = bi (A t ∧ gW (i 57 p) (i 58 p) (i 59 p) T E) ∧ M2 = mm X i' j ∧ (∀ b, b ≠ 42 → i' b = i b) ∧ (∀ k, k ≠ 49 → k ≠ 50 → i' 42 k = i 42 k)) (some (some (.int (nI 0)))) (mm X i1 j)) ∧ (¬ i1 42 50 * (i1 58 (nI p).toNatClampNeg - i1 59 (nI p).toNatClampNeg) ≤ i1 57 (nI p).toNatClampNeg * i1 42 49 → (qI fun x' M2 => ∃ i', x' = bi (A t ∧ gW (i 57 p) (i 58 p) (i 59 p) T E) ∧ M2 = mm X i' j ∧ (∀ b, b ≠ 42 → i' b = i b) ∧ (∀ k, k ≠ 49 → k ≠ 50 → i' 42 k = i 42 k)) (some (some (.int (nI 1)))) (mm X i1 j))) := by
    intro i1 g1 g2 g3 g4
    rw [g3, g4, tc_nI (by omega), g1 57 (by decide), g1 58 (by decide), g1 59 (by decide)]
    exact ⟨vp_in_nI (by omega) (by decide), br_c (fun z => qI_of ⟨i1, (bi_f (fun w => w.2 z)).symm, rfl, g1, g2⟩) (fun z => qI_of ⟨i1, (bi_t ⟨y, z⟩).symm, rfl, g1, g2⟩)⟩
  have F0 : ∀ b, b ≠ 42 → (s2 (s2 i 42 49 (nI 0)) 42 50 (nI 0)) b = i b := fun b hb => by rw [s2_ne hb, s2_ne hb]
  have lc : ∀ (i1 : Nat → Nat → Int32) f, f < 2 ^ 30 → (∀ b, b ≠ 42 → i1 b = i b) → ∃ i', EvV (d + 1) 1615 [.ref 42, .int (nI s), .int (nI m), .int (nI f), .int (nI t)] (mm X i1 j) (mm X i' j) ∧ (∀ b, b ≠ 42 → i' b = i1 b) ∧ (∀ k, k ≠ 49 → k ≠ 50 → i' 42 k = i1 42 k) ∧ i' 42 49 = i1 42 49 + nI (lat A ca f t m).1 ∧ i' 42 50 = i1 42 50 + nI (lat A ca f t m).2 := fun i1 f hf g1 => c_1615 d X i1 j (by omega) hm hf (fun v hv => by rw [g1 72 (by decide)]; exact hA v (by omega)) (fun v hv => by rw [g1 73 (by decide)]; exact hc v hv)
  refine br_c (fun z => ?_) (fun z => ?_)
  · obtain ⟨i5, hE, k1, k2, k3, k4⟩ := lc (s2 (s2 i 42 49 (nI 0)) 42 50 (nI 0)) 0 (by decide) F0
    refine ⟨i5, hE, ?_⟩
    have a := ans i5 (fun b hb => (k1 b hb).trans (F0 b hb)) (fun k h3 h4 => by rw [k2 k h3 h4, s2_ne2 h4, s2_ne2 h3]) (by rw [k3, s2_ne2 (by decide), s2_self, nI_add, Nat.zero_add, (h1 z).1]) (by rw [k4, s2_self, nI_add, Nat.zero_add, (h1 z).2])
    exact s_1616_48 d X i5 j _ _ _ _ _ _ _ (br_c (fun _ => a) (fun _ => br_t z a))
  · obtain ⟨T1, T2⟩ := h2 z
    obtain ⟨s1, s2'⟩ := h5.st hp
    rw [tc_nI (by omega), s2']
    obtain ⟨i5, hE, k1, k2, k3, k4⟩ := lc (s2 (s2 i 42 49 (nI 0)) 42 50 (nI 0)) (srN i p) (by omega) F0
    refine ⟨vp_in_nI (by omega) (by decide), i5, hE, ?_⟩
    refine lup np (fun v (i2 : Nat → Nat → Int32) => (∀ b, b ≠ 42 → i2 b = i b) ∧ (∀ k, k ≠ 49 → k ≠ 50 → i2 42 k = i 42 k) ∧ i2 42 49 = nI ((lat A ca (srN i p) t m).1 + lsT A ca i t m (fun v => shrI (i 61 p) (nI v) &&& nI 1 = nI 1) v) ∧ i2 42 50 = nI ((lat A ca (srN i p) t m).2 + lsE A ca i t m (fun v => shrI (i 61 p) (nI v) &&& nI 1 = nI 1) v)) (fun v i2 => (48, [(0, .ref 42), (1, .int (nI p)), (2, .int (nI s)), (3, .int (nI m)), (4, .int (nI t)), (5, .int a5), (6, .int (nI v))], [], mm X i2 j)) ?_ ?_ 0 i5 (Nat.zero_le _) ⟨fun b hb => (k1 b hb).trans (F0 b hb), fun k h3 h4 => by rw [k2 k h3 h4, s2_ne2 h4, s2_ne2 h3], by rw [k3, s2_ne2 (by decide), s2_self, nI_add, Nat.zero_add]; rfl, by rw [k4, s2_self, nI_add, Nat.zero_add]; rfl⟩
    · rintro i2 ⟨g1, g2, g3, g4⟩
      exact s_1616_48 d X i2 j _ _ _ _ _ _ _ (br_t (by rw [g2 18 (by decide) (by decide), h5.2.2.1]; exact Int32.le_refl _) (ans i2 g1 g2 (by rw [g3, T1]) (by rw [g4, T2])))
    · rintro v i2 hv ⟨g1, g2, g3, g4⟩ go
      refine s_1616_48 d X i2 j _ _ _ _ _ _ _ (br_f (by rw [g2 18 (by decide) (by decide), h5.2.2.1]; exact nI_ge hv (by omega)) (br_f z ⟨vp_in_nI (by omega) (by decide), ?_⟩))
      rw [tc_nI (by omega), g1 61 (by decide), nI_add]
      refine bq_c (fun w => go i2 ⟨g1, g2, by unfold lsT at g3 ⊢; rw [sumQ_n w]; exact g3, by unfold lsE at g4 ⊢; rw [sumQ_n w]; exact g4⟩) (fun w => ⟨vp_in_nI (by omega) (by decide), ?_⟩)
      obtain ⟨r1, r2⟩ := h5.st hv
      rw [tc_nI (by omega), g1 60 (by decide), r2]
      obtain ⟨i3, hE, k1, k2, k3, k4⟩ := lc i2 (srN i v) (by omega) g1
      refine ⟨i3, hE, go i3 ⟨fun b hb => (k1 b hb).trans (g1 b hb), fun k h3 h4 => (k2 k h3 h4).trans (g2 k h3 h4), ?_, ?_⟩⟩
      · rw [k3, g3, nI_add, Nat.add_assoc]; unfold lsT; rw [sumQ_y w]
      · rw [k4, g4, nI_add, Nat.add_assoc]; unfold lsE; rw [sumQ_y w]
