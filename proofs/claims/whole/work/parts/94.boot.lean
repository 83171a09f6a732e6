/-! ===== what the two constructors make ===== -/
def Kr (n a : Nat) : Nat := cond (Nat.ble a (n + 1)) (KD a) 0
def Lr (L n a : Nat) : Nat := cond (Nat.beq a 1) L (cond (Nat.ble a (n + 1)) (LN a) 0)
def bM (L n u : Nat) (i : Nat → Nat → Int32) (r : Nat → Nat → Nat) : AM := mk7 (Kr n) (Lr L n) i (fun _ _ => 0) r n u
/-- n cells are made: their kinds and lengths are the tables' -/
def Bt (L n u : Nat) (i : Nat → Nat → Int32) (r : Nat → Nat → Nat) (M : AM) : Prop := M = bM L n u i r ∧ (∀ b, n + 2 ≤ b → i b = fun _ => 0) ∧ (∀ b, n + 2 ≤ b → r b = fun _ => 0)
theorem u1_id {α : Type} (f : Nat → α) (a : Nat) (v : α) (h : f a = v) : u1 f a v = f := by
  funext b
  unfold u1
  by_cases e : b = a
  · rw [if_pos e, e, h]
  · rw [if_neg e]
theorem ble_f {a b : Nat} (h : b < a) : Nat.ble a b = false := by rw [← Bool.not_eq_true, Nat.ble_eq]; omega
theorem ble_t {a b : Nat} (h : a ≤ b) : Nat.ble a b = true := Nat.ble_eq.mpr h
def fI (i : Nat → Nat → Int32) (a t : Nat) (v : Int32) : Nat → Nat → Int32 := fun c k => if c = a ∧ k < t then v else i c k
theorem fI_0 (i : Nat → Nat → Int32) (a : Nat) (v : Int32) : fI i a 0 v = i := by
  funext c k; unfold fI; rw [if_neg (by omega)]
theorem fI_s (i : Nat → Nat → Int32) (a t : Nat) (v : Int32) : s2 (fI i a t v) a t v = fI i a (t + 1) v := by
  funext c k
  rw [s2_ap]
  unfold fI
  by_cases h : c = a ∧ k = t
  · rw [if_pos h, if_pos ⟨h.1, by omega⟩]
  · rw [if_neg h]
    by_cases h2 : c = a ∧ k < t
    · rw [if_pos h2, if_pos ⟨h2.1, by omega⟩]
    · rw [if_neg h2, if_neg (by omega)]
theorem fI_ne {i : Nat → Nat → Int32} {a t : Nat} {v : Int32} {c : Nat} (h : c ≠ a) : fI i a t v c = i c := by
  funext k; unfold fI; rw [if_neg (fun z => h z.1)]
theorem fI_at {i : Nat → Nat → Int32} {a t : Nat} {v : Int32} {k : Nat} (h : k < t) : fI i a t v a k = v := by unfold fI; rw [if_pos ⟨rfl, h⟩]
section boot
variable {L n u : Nat} {i : Nat → Nat → Int32} {r : Nat → Nat → Nat} {M : AM}
theorem Bt.hk (s : Bt L n u i r M) {a c : Nat} (h : a < n + 2) (e : KD a = c) : kd M a = c := by
  rw [s.1]
  show cond (Nat.ble a (n + 1)) (KD a) 0 = c
  rw [ble_t (by omega)]; exact e
theorem Bt.hl (s : Bt L n u i r M) {a c : Nat} (h : a < n + 2) (h1 : a ≠ 1) (e : LN a = c) : ln M a = c := by
  rw [s.1]
  show cond (Nat.beq a 1) L (cond (Nat.ble a (n + 1)) (LN a) 0) = c
  rw [ble_t (by omega), show Nat.beq a 1 = false by rw [← Bool.not_eq_true]; exact fun z => h1 (Nat.eq_of_beq_eq_true z)]; exact e
theorem Bt.hn (s : Bt L n u i r M) : nn M = n := by rw [s.1]; rfl
theorem Bt.hg (s : Bt L n u i r M) (a k : Nat) : gr M a k = r a k := by rw [s.1]; rfl
theorem Bt.fn (s : Bt L n u i r M) {k l w : Nat} (hk : KD (n + 2) = k) (hl : LN (n + 2) = l) : Bt L (n + 1) (u + w) i r (nw M k l w) := by
  obtain ⟨rfl, h1, h2⟩ := s
  refine ⟨?_, fun b hb => h1 b (by omega), fun b hb => h2 b (by omega)⟩
  have e1 : u1 (Kr n) (n + 2) k = Kr (n + 1) := by
    funext a
    unfold u1 Kr
    by_cases e : a = n + 2
    · subst e; rw [if_pos rfl, ble_t (by omega)]; exact hk.symm
    · rw [if_neg e]
      by_cases e2 : a ≤ n + 1
      · rw [ble_t e2, ble_t (by omega)]
      · rw [ble_f (by omega), ble_f (by omega)]
  have e2 : u1 (Lr L n) (n + 2) l = Lr L (n + 1) := by
    funext a
    unfold u1 Lr
    by_cases e : a = n + 2
    · subst e
      rw [if_pos rfl, ble_t (by omega), show Nat.beq (n + 2) 1 = false from rfl]; exact hl.symm
    · rw [if_neg e]
      by_cases e2 : a ≤ n + 1
      · rw [ble_t e2, ble_t (by omega)]
      · rw [ble_f (by omega), ble_f (by omega)]
  show mk7 (u1 (Kr n) (n + 2) k) (u1 (Lr L n) (n + 2) l) (u1 i (n + 2) (fun _ => 0)) (u1 (fun _ _ => 0) (n + 2) (fun _ => 0)) (u1 r (n + 2) (fun _ => 0)) (n + 1) (u + w) = _
  rw [e1, e2, u1_id i _ _ (h1 _ (Nat.le_refl _)), u1_id r _ _ (h2 _ (Nat.le_refl _)), u1_id _ _ _ rfl]
  rfl
theorem Bt.tr (s : Bt L n u i r M) {a k v : Nat} (ha : a < n + 2) : Bt L n u i (s2 r a k v) (sr M a k v) := by
  obtain ⟨rfl, h1, h2⟩ := s
  exact ⟨rfl, h1, fun b hb => by rw [s2_ne (by omega)]; exact h2 b hb⟩
theorem Bt.ti (s : Bt L n u i r M) {a k : Nat} {v : Int32} (ha : a < n + 2) : Bt L n u (s2 i a k v) r (si M a k v) := by
  obtain ⟨rfl, h1, h2⟩ := s
  exact ⟨rfl, fun b hb => by rw [s2_ne (by omega)]; exact h1 b hb, h2⟩
/-- a new array, laid in a field -/
theorem mkAr (s : Bt L n u i r M) {a c k l w f : Nat} (hk : KD (n + 2) = k) (hl : LN (n + 2) = l) (ha : a < n + 2) (hc : KD a = c) : kd (nw M k l w) a = c ∧ Bt L (n + 1) (u + w) i (s2 r a f (n + 2)) (sr (nw M k l w) a f (nn M + 2)) := by
  have q := s.fn (w := w) hk hl
  refine ⟨q.hk (by omega) hc, ?_⟩
  rw [s.hn]
  exact q.tr (by omega)
theorem gw {d y n' pc : Nat} {lv : Lo} {Q : Option (Option Value) → AM → Prop} (hn : n = n') (s : Bt L n u i r M) (g : ∀ M', Bt L n' u i r M' → WP d y (pc, lv, [], M') Q) : WP d y (pc, lv, [], M) Q := by
  subst hn; exact g M s
theorem sz_ok {x : Int32} (h : (decide (¬ x < 0) && decide (x.toNatClampNeg ≤ 4096)) = true) : ¬ x < 0 ∧ x.toNatClampNeg ≤ 4096 := by
  simpa using h
theorem nI_k1 (t : Nat) : nI t + kI 1 = nI (t + 1) := nI_add t 1
/-! constructors of the pieces -/
theorem c0_loop (d : Nat) {Q : Option (Option Value) → AM → Prop} (s : Bt L n u i r M) (hn : 4 ≤ n) (hg : r 3 0 = 4) (k : ∀ M', Bt L n u (fI i 4 16 1) r M' → Q (some none) M') : WP d 0 (47, [(0, .ref 3), (1, .int (kI 0))], [], M) Q := by
  refine lup 16 (fun t (M : AM) => Bt L n u (fI i 4 t 1) r M) (fun t M => (47, [(0, .ref 3), (1, .int (nI t))], [], M)) ?_ ?_ 0 M (Nat.zero_le _) (by rw [fI_0]; exact s)
  · intro M s
    refine tc_0_47 d 3 (nI 16) M Q ⟨s.hk (by omega) rfl, ?_, fun _ => k M s, fun z => absurd ?_ z⟩
    · rw [s.hg, hg]; exact al_k (s.hk (by omega) rfl)
    · rw [s.hg, hg, s.hl (a := 4) (by omega) (by decide) rfl]; exact Int32.le_refl _
  · intro t M ht s ih
    have e4 : kd M 4 = 20 := s.hk (by omega) rfl
    have l4 : ln M 4 = 16 := s.hl (a := 4) (by omega) (by decide) rfl
    refine tc_0_47 d 3 (nI t) M Q ⟨s.hk (by omega) rfl, ?_, fun z => ?_, fun _ => ⟨s.hk (by omega) rfl, ?_, ?_⟩⟩
    · rw [s.hg, hg]; exact al_k e4
    · rw [s.hg, hg, l4] at z; exact absurd z (nI_ge ht (by decide))
    · rw [s.hg, hg, l4]; exact ⟨e4, vp_in_nI ht (by decide)⟩
    · rw [s.hg, hg, nI_k1, nI_clamp (by omega)]
      refine ih _ ?_
      have q := s.ti (a := 4) (k := t) (v := kI 1) (by omega)
      rw [show kI 1 = (1 : Int32) from rfl, fI_s] at q
      exact q
theorem c_0 (d : Nat) {K : AM → Prop} (s : Bt L 2 u i r M) (k : ∀ M', Bt L 7 (u + (kI 16).toNatClampNeg + (kI 4).toNatClampNeg + (kI 3).toNatClampNeg + (kI 3).toNatClampNeg + (kI 3).toNatClampNeg) (fI (s2 i 3 2 (kI 1)) 4 16 1) (s2 (s2 (s2 (s2 (s2 r 3 0 4) 3 1 5) 3 3 6) 3 4 7) 3 5 8) M' → K M') : WV d 0 [.ref 3] M K := by
  have q1 := mkAr s (a := 3) (c := 1) (k := 20) (l := (kI 16).toNatClampNeg) (w := (kI 16).toNatClampNeg) (f := 0) rfl rfl (by decide) rfl
  have q2 := mkAr q1.2 (a := 3) (c := 1) (k := 20) (l := (kI 4).toNatClampNeg) (w := (kI 4).toNatClampNeg) (f := 1) rfl rfl (by decide) rfl
  refine te_0 d 3 M _ ⟨by decide, sz_ok rfl, q1.1, sz_ok rfl, q2.1, ?_⟩
  refine gw (n' := 4) rfl q2.2 fun M s => ?_
  have p0 := s.ti (a := 3) (k := 2) (v := kI 1) (by decide)
  have p1 := mkAr p0 (a := 3) (c := 1) (k := 21) (l := (kI 3).toNatClampNeg) (w := (kI 3).toNatClampNeg) (f := 3) rfl rfl (by decide) rfl
  refine tc_0_19 d 3 M _ ⟨s.hk (by decide) rfl, sz_ok rfl, p1.1, ?_⟩
  refine gw (n' := 5) rfl p1.2 fun M s => ?_
  have o1 := mkAr s (a := 3) (c := 1) (k := 20) (l := (kI 3).toNatClampNeg) (w := (kI 3).toNatClampNeg) (f := 4) rfl rfl (by decide) rfl
  have o2 := mkAr o1.2 (a := 3) (c := 1) (k := 20) (l := (kI 3).toNatClampNeg) (w := (kI 3).toNatClampNeg) (f := 5) rfl rfl (by decide) rfl
  refine tc_0_31 d 3 M _ ⟨sz_ok rfl, o1.1, sz_ok rfl, o2.1, ?_⟩
  refine gw (n' := 7) rfl o2.2 fun M s => ?_
  refine tc_0_45 d 3 M _ ?_
  exact c0_loop d s (by decide) rfl fun M' s' => ⟨rfl, k M' s'⟩
theorem c_128 (d : Nat) {a : Nat} {K : AM → Prop} (s : Bt L n u i r M) (ha : a < n + 2) (hc : KD a = 2) (k1 : KD (n + 2) = 20 ∧ LN (n + 2) = 240) (k2 : KD (n + 1 + 2) = 20 ∧ LN (n + 1 + 2) = 240) (k3 : KD (n + 1 + 1 + 2) = 20 ∧ LN (n + 1 + 1 + 2) = 240)
    (k : ∀ M', Bt L (n + 1 + 1 + 1) (u + (kI 240).toNatClampNeg + (kI 240).toNatClampNeg + (kI 240).toNatClampNeg) i (s2 (s2 (s2 r a 0 (n + 2)) a 1 (n + 1 + 2)) a 2 (n + 1 + 1 + 2)) M' → K M') : WV d 128 [.ref a] M K := by
  have q1 := mkAr s (a := a) (c := 2) (k := 20) (l := (kI 240).toNatClampNeg) (w := (kI 240).toNatClampNeg) (f := 0) k1.1 k1.2 ha hc
  have q2 := mkAr q1.2 (a := a) (c := 2) (k := 20) (l := (kI 240).toNatClampNeg) (w := (kI 240).toNatClampNeg) (f := 1) k2.1 k2.2 (by omega) hc
  refine te_128 d a M _ ⟨fun z => by subst z; exact absurd hc (by decide), sz_ok rfl, q1.1, sz_ok rfl, q2.1, ?_⟩
  refine gw rfl q2.2 fun M s => ?_
  have q3 := mkAr s (a := a) (c := 2) (k := 20) (l := (kI 240).toNatClampNeg) (w := (kI 240).toNatClampNeg) (f := 2) k3.1 k3.2 (by omega) hc
  exact tc_128_22 d a M _ ⟨sz_ok rfl, q3.1, rfl, k _ q3.2⟩
theorem c_1024 (d : Nat) {K : AM → Prop} (s : Bt L 17 u i r M) (k : ∀ M', Bt L 21 (u + (kI 60).toNatClampNeg + (kI 40).toNatClampNeg + (kI 40).toNatClampNeg + (kI 6).toNatClampNeg) i (s2 (s2 (s2 (s2 r 18 0 19) 18 2 20) 18 4 21) 18 6 22) M' → K M') : WV d 1024 [.ref 18] M K := by
  have q1 := mkAr s (a := 18) (c := 9) (k := 20) (l := (kI 60).toNatClampNeg) (w := (kI 60).toNatClampNeg) (f := 0) rfl rfl (by decide) rfl
  have q2 := mkAr q1.2 (a := 18) (c := 9) (k := 20) (l := (kI 40).toNatClampNeg) (w := (kI 40).toNatClampNeg) (f := 2) rfl rfl (by decide) rfl
  refine te_1024 d 18 M _ ⟨by decide, sz_ok rfl, q1.1, sz_ok rfl, q2.1, ?_⟩
  refine gw (n' := 19) rfl q2.2 fun M s => ?_
  have o1 := mkAr s (a := 18) (c := 9) (k := 20) (l := (kI 40).toNatClampNeg) (w := (kI 40).toNatClampNeg) (f := 4) rfl rfl (by decide) rfl
  have o2 := mkAr o1.2 (a := 18) (c := 9) (k := 21) (l := (kI 6).toNatClampNeg) (w := (kI 6).toNatClampNeg) (f := 6) rfl rfl (by decide) rfl
  exact tc_1024_20 d 18 M _ ⟨sz_ok rfl, o1.1, sz_ok rfl, o2.1, rfl, k _ o2.2⟩
theorem c1152_loop (d : Nat) {a : Nat} {Q : Option (Option Value) → AM → Prop} (s : Bt L n u i r M) (hn : a + 1 < n + 2) (h1 : KD a = 10) (h2 : KD (a + 1) = 20) (h3 : LN (a + 1) = 240) (h0 : 0 < a) (hg : r a 0 = a + 1) (k : ∀ M', Bt L n u (fI i (a + 1) 240 (kI (-1))) r M' → Q (some none) M') : WP d 1152 (15, [(0, .ref a), (1, .int (kI 0))], [], M) Q := by
  refine lup 240 (fun t (M : AM) => Bt L n u (fI i (a + 1) t (kI (-1))) r M) (fun t M => (15, [(0, .ref a), (1, .int (nI t))], [], M)) ?_ ?_ 0 M (Nat.zero_le _) (by rw [fI_0]; exact s)
  · intro M s
    refine tc_1152_15 d a (nI 240) M Q ⟨s.hk (by omega) h1, ?_, fun _ => k M s, fun z => absurd ?_ z⟩
    · rw [s.hg, hg]; exact al_k (s.hk (by omega) h2)
    · rw [s.hg, hg, s.hl (a := a + 1) (by omega) (by omega) h3]; exact Int32.le_refl _
  · intro t M ht s ih
    have e4 : kd M (a + 1) = 20 := s.hk (by omega) h2
    have l4 : ln M (a + 1) = 240 := s.hl (a := a + 1) (by omega) (by omega) h3
    refine tc_1152_15 d a (nI t) M Q ⟨s.hk (by omega) h1, ?_, fun z => ?_, fun _ => ⟨s.hk (by omega) h1, ?_, ?_⟩⟩
    · rw [s.hg, hg]; exact al_k e4
    · rw [s.hg, hg, l4] at z; exact absurd z (nI_ge ht (by decide))
    · rw [s.hg, hg, l4]; exact ⟨e4, vp_in_nI ht (by decide)⟩
    · rw [s.hg, hg, nI_k1, nI_clamp (by omega)]
      refine ih _ ?_
      have q := s.ti (a := a + 1) (k := t) (v := kI (-1)) (by omega)
      rw [fI_s] at q
      exact q
theorem c_1152 (d : Nat) {a : Nat} {K : AM → Prop} (s : Bt L n u i r M) (ha : n + 1 = a) (h1 : KD a = 10) (h2 : KD (a + 1) = 20) (h3 : LN (a + 1) = 240) (h0 : 0 < a) (k : ∀ M', Bt L (n + 1) (u + (kI 240).toNatClampNeg) (fI i (a + 1) 240 (kI (-1))) (s2 r a 0 (a + 1)) M' → K M') : WV d 1152 [.ref a] M K := by
  subst ha
  have q1 := mkAr s (a := n + 1) (c := 10) (k := 20) (l := (kI 240).toNatClampNeg) (w := (kI 240).toNatClampNeg) (f := 0) h2 h3 (by omega) h1
  refine te_1152 d (n + 1) M _ ⟨by omega, sz_ok rfl, q1.1, ?_⟩
  refine gw rfl q1.2 fun M s => ?_
  exact c1152_loop d s (by omega) h1 h2 h3 h0 (s2_self _ _ _ _) fun M' s' => ⟨rfl, k M' s'⟩
theorem c_768 (d : Nat) {K : AM → Prop} (s : Bt L 30 u i r M) (k : ∀ M', Bt L 34 (u + (kI 240).toNatClampNeg + (kI 240).toNatClampNeg + (kI 1024).toNatClampNeg + (kI 1024).toNatClampNeg) i (s2 (s2 (s2 (s2 r 31 0 32) 31 1 33) 31 3 34) 31 4 35) M' → K M') : WV d 768 [.ref 31] M K := by
  have q1 := mkAr s (a := 31) (c := 7) (k := 20) (l := (kI 240).toNatClampNeg) (w := (kI 240).toNatClampNeg) (f := 0) rfl rfl (by decide) rfl
  have q2 := mkAr q1.2 (a := 31) (c := 7) (k := 21) (l := (kI 240).toNatClampNeg) (w := (kI 240).toNatClampNeg) (f := 1) rfl rfl (by decide) rfl
  refine te_768 d 31 M _ ⟨by decide, sz_ok rfl, q1.1, sz_ok rfl, q2.1, ?_⟩
  refine gw (n' := 32) rfl q2.2 fun M s => ?_
  have o1 := mkAr s (a := 31) (c := 7) (k := 20) (l := (kI 1024).toNatClampNeg) (w := (kI 1024).toNatClampNeg) (f := 3) rfl rfl (by decide) rfl
  have o2 := mkAr o1.2 (a := 31) (c := 7) (k := 20) (l := (kI 1024).toNatClampNeg) (w := (kI 1024).toNatClampNeg) (f := 4) rfl rfl (by decide) rfl
  exact tc_768_22 d 31 M _ ⟨sz_ok rfl, o1.1, sz_ok rfl, o2.1, rfl, k _ o2.2⟩
theorem c_896 (d : Nat) {K : AM → Prop} (s : Bt L 35 u i r M) (k : ∀ M', Bt L 35 u i r M' → K M') : WV d 896 [.ref 36] M K := te_896 d 36 M _ ⟨by decide, rfl, k _ s⟩
theorem c_1280 (d : Nat) {K : AM → Prop} (s : Bt L 36 u i r M) (k : ∀ M', Bt L 38 (u + (kI 240).toNatClampNeg + (kI 240).toNatClampNeg) i (s2 (s2 r 37 0 38) 37 1 39) M' → K M') : WV d 1280 [.ref 37] M K := by
  have q1 := mkAr s (a := 37) (c := 11) (k := 20) (l := (kI 240).toNatClampNeg) (w := (kI 240).toNatClampNeg) (f := 0) rfl rfl (by decide) rfl
  have q2 := mkAr q1.2 (a := 37) (c := 11) (k := 21) (l := (kI 240).toNatClampNeg) (w := (kI 240).toNatClampNeg) (f := 1) rfl rfl (by decide) rfl
  exact te_1280 d 37 M _ ⟨by decide, sz_ok rfl, q1.1, sz_ok rfl, q2.1, rfl, k _ q2.2⟩
theorem c_640 (d : Nat) {K : AM → Prop} (s : Bt L 39 u i r M) (k : ∀ M', Bt L 40 (u + (kI 20).toNatClampNeg) i (s2 r 40 0 41) M' → K M') : WV d 640 [.ref 40] M K := by
  have q1 := mkAr s (a := 40) (c := 6) (k := 23) (l := (kI 20).toNatClampNeg) (w := (kI 20).toNatClampNeg) (f := 0) rfl rfl (by decide) rfl
  exact te_640 d 40 M _ ⟨by decide, sz_ok rfl, q1.1, rfl, k _ q1.2⟩
end boot
