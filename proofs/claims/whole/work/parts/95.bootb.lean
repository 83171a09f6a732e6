/-! the two constructors and the law's array: by wip/whole/gen95.py -/
section bootb
variable {L u : Nat} {i : Nat → Nat → Int32} {r : Nat → Nat → Nat} {M : AM}
def uC (u : Nat) : Nat := u + 6 + (kI 16).toNatClampNeg + (kI 4).toNatClampNeg + (kI 3).toNatClampNeg + (kI 3).toNatClampNeg + (kI 3).toNatClampNeg + 4 + (kI 240).toNatClampNeg + (kI 240).toNatClampNeg + (kI 240).toNatClampNeg + 4 + (kI 240).toNatClampNeg + (kI 240).toNatClampNeg + (kI 240).toNatClampNeg + (kI 4).toNatClampNeg + 10 + (kI 60).toNatClampNeg + (kI 40).toNatClampNeg + (kI 40).toNatClampNeg + (kI 6).toNatClampNeg + (kI 10).toNatClampNeg + (kI 6).toNatClampNeg + 2 + (kI 240).toNatClampNeg + 2 + (kI 240).toNatClampNeg + (kI 20).toNatClampNeg + (kI 20).toNatClampNeg + 6 + (kI 240).toNatClampNeg + (kI 240).toNatClampNeg + (kI 1024).toNatClampNeg + (kI 1024).toNatClampNeg + 4 + 10 + (kI 240).toNatClampNeg + (kI 240).toNatClampNeg + 2 + (kI 20).toNatClampNeg
def iC (i : Nat → Nat → Int32) : Nat → Nat → Int32 := (fI (fI (fI (s2 i 3 2 (kI 1)) 4 16 1) 26 240 (kI (-1))) 28 240 (kI (-1)))
def rC (r : Nat → Nat → Nat) : Nat → Nat → Nat := (s2 (s2 (s2 (s2 (s2 (s2 (s2 (s2 (s2 (s2 (s2 (s2 (s2 (s2 (s2 (s2 (s2 (s2 (s2 (s2 (s2 (s2 (s2 (s2 (s2 (s2 (s2 (s2 (s2 (s2 (s2 (s2 (s2 (s2 (s2 (s2 (s2 (s2 (s2 r 3 0 4) 3 1 5) 3 3 6) 3 4 7) 3 5 8) 2 0 3) 9 0 10) 9 1 11) 9 2 12) 2 1 9) 13 0 14) 13 1 15) 13 2 16) 2 2 13) 2 3 17) 18 0 19) 18 2 20) 18 4 21) 18 6 22) 2 5 18) 2 6 23) 2 8 24) 25 0 26) 2 10 25) 27 0 28) 2 11 27) 2 12 29) 2 13 30) 31 0 32) 31 1 33) 31 3 34) 31 4 35) 2 15 31) 2 16 36) 37 0 38) 37 1 39) 2 17 37) 40 0 41) 2 18 40)
theorem c_1408 (d : Nat) {K : AM → Prop} (s : Bt L 1 u i r M) (k : ∀ M', Bt L 40 (uC u) (iC i) (rC r) M' → K M') : WV (d + 2) 1408 [.ref 2] M K := by
  refine te_1408 (d + 1) 2 M _ ⟨by decide, ?_⟩
  rw [s.hn]
  refine ⟨(s.fn (k := 1) (l := 0) (w := 6) rfl rfl).hk (by decide) rfl, c_0 (d + 1) (s.fn (k := 1) (l := 0) (w := 6) rfl rfl) fun M1 s1 => ⟨s1.hk (by decide) rfl, ?_⟩⟩
  refine gw (n' := 7) rfl (s1.tr (by decide)) fun M s => ?_
  refine tc_1408_15 (d + 1) 2 M _ ?_
  rw [s.hn]
  refine ⟨(s.fn (k := 2) (l := 0) (w := 4) rfl rfl).hk (by decide) rfl, c_128 (d + 1) (s.fn (k := 2) (l := 0) (w := 4) rfl rfl) (a := 9) (by decide) rfl ⟨rfl, rfl⟩ ⟨rfl, rfl⟩ ⟨rfl, rfl⟩ fun M1 s1 => ⟨s1.hk (by decide) rfl, ?_⟩⟩
  refine gw (n' := 11) rfl (s1.tr (by decide)) fun M s => ?_
  refine tc_1408_26 (d + 1) 2 M _ ?_
  rw [s.hn]
  refine ⟨(s.fn (k := 2) (l := 0) (w := 4) rfl rfl).hk (by decide) rfl, c_128 (d + 1) (s.fn (k := 2) (l := 0) (w := 4) rfl rfl) (a := 13) (by decide) rfl ⟨rfl, rfl⟩ ⟨rfl, rfl⟩ ⟨rfl, rfl⟩ fun M1 s1 => ⟨s1.hk (by decide) rfl, ?_⟩⟩
  refine gw (n' := 15) rfl (s1.tr (by decide)) fun M s => ?_
  have q := mkAr s (a := 2) (c := 12) (k := 24) (l := (kI 4).toNatClampNeg) (w := (kI 4).toNatClampNeg) (f := 3) rfl rfl (by decide) rfl
  refine tc_1408_37 (d + 1) 2 M _ ⟨sz_ok rfl, q.1, ?_⟩
  refine gw (n' := 16) rfl q.2 fun M s => ?_
  clear q
  refine tc_1408_45 (d + 1) 2 M _ ?_
  rw [s.hn]
  refine ⟨(s.fn (k := 9) (l := 0) (w := 10) rfl rfl).hk (by decide) rfl, c_1024 (d + 1) (s.fn (k := 9) (l := 0) (w := 10) rfl rfl) fun M1 s1 => ⟨s1.hk (by decide) rfl, ?_⟩⟩
  refine gw (n' := 21) rfl (s1.tr (by decide)) fun M s => ?_
  have q := mkAr s (a := 2) (c := 12) (k := 25) (l := (kI 10).toNatClampNeg) (w := (kI 10).toNatClampNeg) (f := 6) rfl rfl (by decide) rfl
  refine tc_1408_56 (d + 1) 2 M _ ⟨sz_ok rfl, q.1, ?_⟩
  refine gw (n' := 22) rfl q.2 fun M s => ?_
  clear q
  have q := mkAr s (a := 2) (c := 12) (k := 26) (l := (kI 6).toNatClampNeg) (w := (kI 6).toNatClampNeg) (f := 8) rfl rfl (by decide) rfl
  refine tc_1408_65 (d + 1) 2 M _ ⟨sz_ok rfl, q.1, ?_⟩
  refine gw (n' := 23) rfl q.2 fun M s => ?_
  clear q
  refine tc_1408_74 (d + 1) 2 M _ ?_
  rw [s.hn]
  refine ⟨(s.fn (k := 10) (l := 0) (w := 2) rfl rfl).hk (by decide) rfl, c_1152 (d + 1) (s.fn (k := 10) (l := 0) (w := 2) rfl rfl) (a := 25) rfl rfl rfl rfl (by decide) fun M1 s1 => ⟨s1.hk (by decide) rfl, ?_⟩⟩
  refine gw (n' := 25) rfl (s1.tr (by decide)) fun M s => ?_
  refine tc_1408_85 (d + 1) 2 M _ ?_
  rw [s.hn]
  refine ⟨(s.fn (k := 10) (l := 0) (w := 2) rfl rfl).hk (by decide) rfl, c_1152 (d + 1) (s.fn (k := 10) (l := 0) (w := 2) rfl rfl) (a := 27) rfl rfl rfl rfl (by decide) fun M1 s1 => ⟨s1.hk (by decide) rfl, ?_⟩⟩
  refine gw (n' := 27) rfl (s1.tr (by decide)) fun M s => ?_
  have q := mkAr s (a := 2) (c := 12) (k := 20) (l := (kI 20).toNatClampNeg) (w := (kI 20).toNatClampNeg) (f := 12) rfl rfl (by decide) rfl
  refine tc_1408_96 (d + 1) 2 M _ ⟨sz_ok rfl, q.1, ?_⟩
  refine gw (n' := 28) rfl q.2 fun M s => ?_
  clear q
  have q := mkAr s (a := 2) (c := 12) (k := 20) (l := (kI 20).toNatClampNeg) (w := (kI 20).toNatClampNeg) (f := 13) rfl rfl (by decide) rfl
  refine tc_1408_104 (d + 1) 2 M _ ⟨sz_ok rfl, q.1, ?_⟩
  refine gw (n' := 29) rfl q.2 fun M s => ?_
  clear q
  refine tc_1408_112 (d + 1) 2 M _ ?_
  rw [s.hn]
  refine ⟨(s.fn (k := 7) (l := 0) (w := 6) rfl rfl).hk (by decide) rfl, c_768 (d + 1) (s.fn (k := 7) (l := 0) (w := 6) rfl rfl) fun M1 s1 => ⟨s1.hk (by decide) rfl, ?_⟩⟩
  refine gw (n' := 34) rfl (s1.tr (by decide)) fun M s => ?_
  refine tc_1408_123 (d + 1) 2 M _ ?_
  rw [s.hn]
  refine ⟨(s.fn (k := 8) (l := 0) (w := 4) rfl rfl).hk (by decide) rfl, c_896 (d + 1) (s.fn (k := 8) (l := 0) (w := 4) rfl rfl) fun M1 s1 => ⟨s1.hk (by decide) rfl, ?_⟩⟩
  refine gw (n' := 35) rfl (s1.tr (by decide)) fun M s => ?_
  refine tc_1408_134 (d + 1) 2 M _ ?_
  rw [s.hn]
  refine ⟨(s.fn (k := 11) (l := 0) (w := 10) rfl rfl).hk (by decide) rfl, c_1280 (d + 1) (s.fn (k := 11) (l := 0) (w := 10) rfl rfl) fun M1 s1 => ⟨s1.hk (by decide) rfl, ?_⟩⟩
  refine gw (n' := 38) rfl (s1.tr (by decide)) fun M s => ?_
  refine tc_1408_145 (d + 1) 2 M _ ?_
  rw [s.hn]
  refine ⟨(s.fn (k := 6) (l := 0) (w := 2) rfl rfl).hk (by decide) rfl, c_640 (d + 1) (s.fn (k := 6) (l := 0) (w := 2) rfl rfl) fun M1 s1 => ⟨s1.hk (by decide) rfl, ?_⟩⟩
  exact ⟨rfl, k _ (s1.tr (by decide))⟩
def uD (u : Nat) : Nat := u + (kI 240).toNatClampNeg + (kI 240).toNatClampNeg + (kI 240).toNatClampNeg + (kI 16).toNatClampNeg + (kI 4).toNatClampNeg + (kI 4).toNatClampNeg + (kI 4).toNatClampNeg + (kI 4).toNatClampNeg + (kI 4).toNatClampNeg + (kI 32).toNatClampNeg + (kI 4).toNatClampNeg + (kI 400).toNatClampNeg + (kI 10).toNatClampNeg + (kI 10).toNatClampNeg + (kI 6).toNatClampNeg + (kI 6).toNatClampNeg + (kI 6).toNatClampNeg + (kI 6).toNatClampNeg + (kI 6).toNatClampNeg + (kI 240).toNatClampNeg + (kI 240).toNatClampNeg + (kI 20).toNatClampNeg + (kI 20).toNatClampNeg + (kI 3).toNatClampNeg + (kI 3).toNatClampNeg + (kI 3).toNatClampNeg + (kI 60).toNatClampNeg + (kI 32).toNatClampNeg + (kI 960).toNatClampNeg + (kI 240).toNatClampNeg + (kI 240).toNatClampNeg + (kI 4).toNatClampNeg + (kI 4).toNatClampNeg + (kI 180).toNatClampNeg
def f2 (i : Nat → Nat → Int32) (a b t : Nat) (v : Int32) : Nat → Nat → Int32 := fun c k => if (c = a ∨ c = b) ∧ k < t then v else i c k
theorem f2_0 (i : Nat → Nat → Int32) (a b : Nat) (v : Int32) : f2 i a b 0 v = i := by
  funext c k; unfold f2; rw [if_neg (by omega)]
theorem f2_s (i : Nat → Nat → Int32) (a b t : Nat) (v : Int32) : s2 (s2 (f2 i a b t v) a t v) b t v = f2 i a b (t + 1) v := by
  funext c k
  rw [s2_ap, s2_ap]
  unfold f2
  by_cases h : (c = a ∨ c = b) ∧ k < t + 1
  · rw [if_pos h]
    by_cases h1 : c = b ∧ k = t
    · rw [if_pos h1]
    · rw [if_neg h1]
      by_cases h2 : c = a ∧ k = t
      · rw [if_pos h2]
      · rw [if_neg h2, if_pos ⟨h.1, by omega⟩]
  · rw [if_neg h, if_neg (by omega), if_neg (by omega), if_neg (by omega)]
theorem f2_ne {i : Nat → Nat → Int32} {a b t : Nat} {v : Int32} {c : Nat} (h : c ≠ a) (h2 : c ≠ b) : f2 i a b t v c = i c := by
  funext k; unfold f2; rw [if_neg (fun z => z.1.elim h h2)]
theorem f2_a {i : Nat → Nat → Int32} {a b t : Nat} {v : Int32} {k : Nat} (h : k < t) : f2 i a b t v a k = v := by unfold f2; rw [if_pos ⟨Or.inl rfl, h⟩]
theorem f2_b {i : Nat → Nat → Int32} {a b t : Nat} {v : Int32} {k : Nat} (h : k < t) : f2 i a b t v b k = v := by unfold f2; rw [if_pos ⟨Or.inr rfl, h⟩]
theorem c1536_a (d : Nat) {n : Nat} {Q : Option (Option Value) → AM → Prop} (s : Bt L n u i r M) (hn : 50 ≤ n) (hg : r 42 4 = 46) (k : ∀ M', Bt L n u (fI i 46 16 (kI 1)) r M' → WP d 1536 (301, [(0, .ref 42)], [], M') Q) : WP d 1536 (282, [(0, .ref 42), (1, .int (kI 0))], [], M) Q := by
  refine lup 16 (fun t (M : AM) => Bt L n u (fI i 46 t (kI 1)) r M) (fun t M => (282, [(0, .ref 42), (1, .int (nI t))], [], M)) ?_ ?_ 0 M (Nat.zero_le _) (by rw [fI_0]; exact s)
  · intro M s
    exact tc_1536_282 d 42 (nI 16) M Q ⟨fun _ => k M s, fun z => absurd (Int32.le_refl _) z⟩
  · intro t M ht s ih
    refine tc_1536_282 d 42 (nI t) M Q ⟨fun z => absurd z (nI_ge ht (by decide)), fun _ => ?_⟩
    have e4 : kd M 46 = 20 := s.hk (by omega) rfl
    have l4 : ln M 46 = 16 := s.hl (a := 46) (by omega) (by decide) rfl
    refine tc_1536_288 d 42 (nI t) M Q ⟨s.hk (by omega) rfl, ?_, ?_⟩
    · rw [s.hg, hg, l4]; exact ⟨e4, vp_in_nI ht (by decide)⟩
    · rw [s.hg, hg, nI_clamp (by omega)]
      refine tc_1536_295 d 42 (nI t) _ Q (tc_1536_298 d 42 _ _ Q ?_)
      rw [nI_k1]
      refine ih _ ?_
      have q := s.ti (a := 46) (k := t) (v := kI 1) (by omega)
      rw [fI_s] at q
      exact q
theorem c1536_b (d : Nat) {n : Nat} {Q : Option (Option Value) → AM → Prop} (s : Bt L n u i r M) (hn : 70 ≤ n) (hg : r 42 24 = 62) (hh : r 42 25 = 63) (k : ∀ M', Bt L n u (f2 i 62 63 240 (kI (-1))) r M' → Q (some none) M') : WP d 1536 (303, [(0, .ref 42), (1, .int (kI 0))], [], M) Q := by
  refine lup 240 (fun t (M : AM) => Bt L n u (f2 i 62 63 t (kI (-1))) r M) (fun t M => (303, [(0, .ref 42), (1, .int (nI t))], [], M)) ?_ ?_ 0 M (Nat.zero_le _) (by rw [f2_0]; exact s)
  · intro M s
    exact tc_1536_303 d 42 (nI 240) M Q ⟨fun _ => k M s, fun z => absurd (Int32.le_refl _) z⟩
  · intro t M ht s ih
    refine tc_1536_303 d 42 (nI t) M Q ⟨fun z => absurd z (nI_ge ht (by decide)), fun _ => ?_⟩
    have e4 : kd M 62 = 20 := s.hk (by omega) rfl
    have l4 : ln M 62 = 240 := s.hl (a := 62) (by omega) (by decide) rfl
    have q1 := s.ti (a := 62) (k := t) (v := kI (-1)) (by omega)
    have e5 : kd (si M 62 t (kI (-1))) 63 = 20 := q1.hk (by omega) rfl
    have l5 : ln (si M 62 t (kI (-1))) 63 = 240 := q1.hl (a := 63) (by omega) (by decide) rfl
    refine tc_1536_310 d 42 (nI t) M Q ⟨s.hk (by omega) rfl, ?_, ?_⟩
    · rw [s.hg, hg, l4]; exact ⟨e4, vp_in_nI ht (by decide)⟩
    · rw [s.hg, hg, nI_clamp (by omega)]
      refine tc_1536_317 d 42 (nI t) _ Q ⟨q1.hk (by omega) rfl, ?_, ?_⟩
      · rw [q1.hg, hh, l5]; exact ⟨e5, vp_in_nI ht (by decide)⟩
      · rw [q1.hg, hh, nI_clamp (by omega)]
        refine tc_1536_324 d 42 (nI t) _ Q (tc_1536_327 d 42 _ _ Q ?_)
        rw [nI_k1]
        refine ih _ ?_
        have q := q1.ti (a := 63) (k := t) (v := kI (-1)) (by omega)
        rw [f2_s] at q
        exact q
def iD (i : Nat → Nat → Int32) : Nat → Nat → Int32 := (f2 (fI (s2 i 42 6 (kI 1)) 46 16 (kI 1)) 62 63 240 (kI (-1)))
def rD (r : Nat → Nat → Nat) : Nat → Nat → Nat := (s2 (s2 (s2 (s2 (s2 (s2 (s2 (s2 (s2 (s2 (s2 (s2 (s2 (s2 (s2 (s2 (s2 (s2 (s2 (s2 (s2 (s2 (s2 (s2 (s2 (s2 (s2 (s2 (s2 (s2 (s2 (s2 (s2 (s2 r 42 1 43) 42 2 44) 42 3 45) 42 4 46) 42 5 47) 42 8 48) 42 9 49) 42 10 50) 42 11 51) 42 12 52) 42 13 53) 42 15 54) 42 16 55) 42 17 56) 42 19 57) 42 20 58) 42 21 59) 42 22 60) 42 23 61) 42 24 62) 42 25 63) 42 27 64) 42 28 65) 42 29 66) 42 30 67) 42 31 68) 42 32 69) 42 34 70) 42 37 71) 42 44 72) 42 45 73) 42 47 74) 42 52 75) 42 53 76)
theorem c_1536 (d : Nat) {K : AM → Prop} (s : Bt L 41 u i r M) (k : ∀ M', Bt L 75 (uD u) (iD i) (rD r) M' → K M') : WV d 1536 [.ref 42] M K := by
  have q := mkAr s (a := 42) (c := 13) (k := 20) (l := (kI 240).toNatClampNeg) (w := (kI 240).toNatClampNeg) (f := 1) rfl rfl (by decide) rfl
  refine te_1536 d 42 M _ ⟨by decide, sz_ok rfl, q.1, ?_⟩
  refine gw (n' := 42) rfl q.2 fun M s => ?_
  clear q
  have q := mkAr s (a := 42) (c := 13) (k := 20) (l := (kI 240).toNatClampNeg) (w := (kI 240).toNatClampNeg) (f := 2) rfl rfl (by decide) rfl
  refine tc_1536_13 d 42 M _ ⟨sz_ok rfl, q.1, ?_⟩
  refine gw (n' := 43) rfl q.2 fun M s => ?_
  clear q
  have q := mkAr s (a := 42) (c := 13) (k := 20) (l := (kI 240).toNatClampNeg) (w := (kI 240).toNatClampNeg) (f := 3) rfl rfl (by decide) rfl
  refine tc_1536_22 d 42 M _ ⟨sz_ok rfl, q.1, ?_⟩
  refine gw (n' := 44) rfl q.2 fun M s => ?_
  clear q
  have q := mkAr s (a := 42) (c := 13) (k := 20) (l := (kI 16).toNatClampNeg) (w := (kI 16).toNatClampNeg) (f := 4) rfl rfl (by decide) rfl
  refine tc_1536_31 d 42 M _ ⟨sz_ok rfl, q.1, ?_⟩
  refine gw (n' := 45) rfl q.2 fun M s => ?_
  clear q
  have q := mkAr s (a := 42) (c := 13) (k := 20) (l := (kI 4).toNatClampNeg) (w := (kI 4).toNatClampNeg) (f := 5) rfl rfl (by decide) rfl
  refine tc_1536_39 d 42 M _ ⟨sz_ok rfl, q.1, ?_⟩
  refine gw (n' := 46) rfl q.2 fun M s => ?_
  clear q
  refine tc_1536_46 d 42 M _ ⟨s.hk (by decide) rfl, ?_⟩
  refine gw rfl (s.ti (by decide)) fun M s => ?_
  have q := mkAr s (a := 42) (c := 13) (k := 20) (l := (kI 4).toNatClampNeg) (w := (kI 4).toNatClampNeg) (f := 8) rfl rfl (by decide) rfl
  refine tc_1536_51 d 42 M _ ⟨sz_ok rfl, q.1, ?_⟩
  refine gw (n' := 47) rfl q.2 fun M s => ?_
  clear q
  have q := mkAr s (a := 42) (c := 13) (k := 20) (l := (kI 4).toNatClampNeg) (w := (kI 4).toNatClampNeg) (f := 9) rfl rfl (by decide) rfl
  refine tc_1536_58 d 42 M _ ⟨sz_ok rfl, q.1, ?_⟩
  refine gw (n' := 48) rfl q.2 fun M s => ?_
  clear q
  have q := mkAr s (a := 42) (c := 13) (k := 20) (l := (kI 4).toNatClampNeg) (w := (kI 4).toNatClampNeg) (f := 10) rfl rfl (by decide) rfl
  refine tc_1536_65 d 42 M _ ⟨sz_ok rfl, q.1, ?_⟩
  refine gw (n' := 49) rfl q.2 fun M s => ?_
  clear q
  have q := mkAr s (a := 42) (c := 13) (k := 21) (l := (kI 4).toNatClampNeg) (w := (kI 4).toNatClampNeg) (f := 11) rfl rfl (by decide) rfl
  refine tc_1536_72 d 42 M _ ⟨sz_ok rfl, q.1, ?_⟩
  refine gw (n' := 50) rfl q.2 fun M s => ?_
  clear q
  have q := mkAr s (a := 42) (c := 13) (k := 20) (l := (kI 32).toNatClampNeg) (w := (kI 32).toNatClampNeg) (f := 12) rfl rfl (by decide) rfl
  refine tc_1536_79 d 42 M _ ⟨sz_ok rfl, q.1, ?_⟩
  refine gw (n' := 51) rfl q.2 fun M s => ?_
  clear q
  have q := mkAr s (a := 42) (c := 13) (k := 20) (l := (kI 4).toNatClampNeg) (w := (kI 4).toNatClampNeg) (f := 13) rfl rfl (by decide) rfl
  refine tc_1536_87 d 42 M _ ⟨sz_ok rfl, q.1, ?_⟩
  refine gw (n' := 52) rfl q.2 fun M s => ?_
  clear q
  have q := mkAr s (a := 42) (c := 13) (k := 22) (l := (kI 400).toNatClampNeg) (w := (kI 400).toNatClampNeg) (f := 15) rfl rfl (by decide) rfl
  refine tc_1536_94 d 42 M _ ⟨sz_ok rfl, q.1, ?_⟩
  refine gw (n' := 53) rfl q.2 fun M s => ?_
  clear q
  have q := mkAr s (a := 42) (c := 13) (k := 20) (l := (kI 10).toNatClampNeg) (w := (kI 10).toNatClampNeg) (f := 16) rfl rfl (by decide) rfl
  refine tc_1536_103 d 42 M _ ⟨sz_ok rfl, q.1, ?_⟩
  refine gw (n' := 54) rfl q.2 fun M s => ?_
  clear q
  have q := mkAr s (a := 42) (c := 13) (k := 20) (l := (kI 10).toNatClampNeg) (w := (kI 10).toNatClampNeg) (f := 17) rfl rfl (by decide) rfl
  refine tc_1536_111 d 42 M _ ⟨sz_ok rfl, q.1, ?_⟩
  refine gw (n' := 55) rfl q.2 fun M s => ?_
  clear q
  have q := mkAr s (a := 42) (c := 13) (k := 20) (l := (kI 6).toNatClampNeg) (w := (kI 6).toNatClampNeg) (f := 19) rfl rfl (by decide) rfl
  refine tc_1536_119 d 42 M _ ⟨sz_ok rfl, q.1, ?_⟩
  refine gw (n' := 56) rfl q.2 fun M s => ?_
  clear q
  have q := mkAr s (a := 42) (c := 13) (k := 20) (l := (kI 6).toNatClampNeg) (w := (kI 6).toNatClampNeg) (f := 20) rfl rfl (by decide) rfl
  refine tc_1536_127 d 42 M _ ⟨sz_ok rfl, q.1, ?_⟩
  refine gw (n' := 57) rfl q.2 fun M s => ?_
  clear q
  have q := mkAr s (a := 42) (c := 13) (k := 20) (l := (kI 6).toNatClampNeg) (w := (kI 6).toNatClampNeg) (f := 21) rfl rfl (by decide) rfl
  refine tc_1536_135 d 42 M _ ⟨sz_ok rfl, q.1, ?_⟩
  refine gw (n' := 58) rfl q.2 fun M s => ?_
  clear q
  have q := mkAr s (a := 42) (c := 13) (k := 20) (l := (kI 6).toNatClampNeg) (w := (kI 6).toNatClampNeg) (f := 22) rfl rfl (by decide) rfl
  refine tc_1536_143 d 42 M _ ⟨sz_ok rfl, q.1, ?_⟩
  refine gw (n' := 59) rfl q.2 fun M s => ?_
  clear q
  have q := mkAr s (a := 42) (c := 13) (k := 20) (l := (kI 6).toNatClampNeg) (w := (kI 6).toNatClampNeg) (f := 23) rfl rfl (by decide) rfl
  refine tc_1536_151 d 42 M _ ⟨sz_ok rfl, q.1, ?_⟩
  refine gw (n' := 60) rfl q.2 fun M s => ?_
  clear q
  have q := mkAr s (a := 42) (c := 13) (k := 20) (l := (kI 240).toNatClampNeg) (w := (kI 240).toNatClampNeg) (f := 24) rfl rfl (by decide) rfl
  refine tc_1536_159 d 42 M _ ⟨sz_ok rfl, q.1, ?_⟩
  refine gw (n' := 61) rfl q.2 fun M s => ?_
  clear q
  have q := mkAr s (a := 42) (c := 13) (k := 20) (l := (kI 240).toNatClampNeg) (w := (kI 240).toNatClampNeg) (f := 25) rfl rfl (by decide) rfl
  refine tc_1536_168 d 42 M _ ⟨sz_ok rfl, q.1, ?_⟩
  refine gw (n' := 62) rfl q.2 fun M s => ?_
  clear q
  have q := mkAr s (a := 42) (c := 13) (k := 20) (l := (kI 20).toNatClampNeg) (w := (kI 20).toNatClampNeg) (f := 27) rfl rfl (by decide) rfl
  refine tc_1536_177 d 42 M _ ⟨sz_ok rfl, q.1, ?_⟩
  refine gw (n' := 63) rfl q.2 fun M s => ?_
  clear q
  have q := mkAr s (a := 42) (c := 13) (k := 20) (l := (kI 20).toNatClampNeg) (w := (kI 20).toNatClampNeg) (f := 28) rfl rfl (by decide) rfl
  refine tc_1536_185 d 42 M _ ⟨sz_ok rfl, q.1, ?_⟩
  refine gw (n' := 64) rfl q.2 fun M s => ?_
  clear q
  have q := mkAr s (a := 42) (c := 13) (k := 21) (l := (kI 3).toNatClampNeg) (w := (kI 3).toNatClampNeg) (f := 29) rfl rfl (by decide) rfl
  refine tc_1536_193 d 42 M _ ⟨sz_ok rfl, q.1, ?_⟩
  refine gw (n' := 65) rfl q.2 fun M s => ?_
  clear q
  have q := mkAr s (a := 42) (c := 13) (k := 20) (l := (kI 3).toNatClampNeg) (w := (kI 3).toNatClampNeg) (f := 30) rfl rfl (by decide) rfl
  refine tc_1536_200 d 42 M _ ⟨sz_ok rfl, q.1, ?_⟩
  refine gw (n' := 66) rfl q.2 fun M s => ?_
  clear q
  have q := mkAr s (a := 42) (c := 13) (k := 20) (l := (kI 3).toNatClampNeg) (w := (kI 3).toNatClampNeg) (f := 31) rfl rfl (by decide) rfl
  refine tc_1536_207 d 42 M _ ⟨sz_ok rfl, q.1, ?_⟩
  refine gw (n' := 67) rfl q.2 fun M s => ?_
  clear q
  have q := mkAr s (a := 42) (c := 13) (k := 22) (l := (kI 60).toNatClampNeg) (w := (kI 60).toNatClampNeg) (f := 32) rfl rfl (by decide) rfl
  refine tc_1536_214 d 42 M _ ⟨sz_ok rfl, q.1, ?_⟩
  refine gw (n' := 68) rfl q.2 fun M s => ?_
  clear q
  have q := mkAr s (a := 42) (c := 13) (k := 23) (l := (kI 32).toNatClampNeg) (w := (kI 32).toNatClampNeg) (f := 34) rfl rfl (by decide) rfl
  refine tc_1536_222 d 42 M _ ⟨sz_ok rfl, q.1, ?_⟩
  refine gw (n' := 69) rfl q.2 fun M s => ?_
  clear q
  have q := mkAr s (a := 42) (c := 13) (k := 20) (l := (kI 960).toNatClampNeg) (w := (kI 960).toNatClampNeg) (f := 37) rfl rfl (by decide) rfl
  refine tc_1536_230 d 42 M _ ⟨sz_ok rfl, q.1, ?_⟩
  refine gw (n' := 70) rfl q.2 fun M s => ?_
  clear q
  have q := mkAr s (a := 42) (c := 13) (k := 20) (l := (kI 240).toNatClampNeg) (w := (kI 240).toNatClampNeg) (f := 44) rfl rfl (by decide) rfl
  refine tc_1536_239 d 42 M _ ⟨sz_ok rfl, q.1, ?_⟩
  refine gw (n' := 71) rfl q.2 fun M s => ?_
  clear q
  have q := mkAr s (a := 42) (c := 13) (k := 21) (l := (kI 240).toNatClampNeg) (w := (kI 240).toNatClampNeg) (f := 45) rfl rfl (by decide) rfl
  refine tc_1536_248 d 42 M _ ⟨sz_ok rfl, q.1, ?_⟩
  refine gw (n' := 72) rfl q.2 fun M s => ?_
  clear q
  have q := mkAr s (a := 42) (c := 13) (k := 20) (l := (kI 4).toNatClampNeg) (w := (kI 4).toNatClampNeg) (f := 47) rfl rfl (by decide) rfl
  refine tc_1536_257 d 42 M _ ⟨sz_ok rfl, q.1, ?_⟩
  refine gw (n' := 73) rfl q.2 fun M s => ?_
  clear q
  have q := mkAr s (a := 42) (c := 13) (k := 20) (l := (kI 4).toNatClampNeg) (w := (kI 4).toNatClampNeg) (f := 52) rfl rfl (by decide) rfl
  refine tc_1536_264 d 42 M _ ⟨sz_ok rfl, q.1, ?_⟩
  refine gw (n' := 74) rfl q.2 fun M s => ?_
  clear q
  have q := mkAr s (a := 42) (c := 13) (k := 20) (l := (kI 180).toNatClampNeg) (w := (kI 180).toNatClampNeg) (f := 53) rfl rfl (by decide) rfl
  refine tc_1536_271 d 42 M _ ⟨sz_ok rfl, q.1, ?_⟩
  refine gw (n' := 75) rfl q.2 fun M s => ?_
  clear q
  refine tc_1536_280 d 42 M _ ?_
  refine c1536_a d s (by decide) rfl fun M s => ?_
  refine tc_1536_301 d 42 M _ ?_
  exact c1536_b d s (by decide) rfl rfl fun M s => ⟨rfl, k M s⟩
end bootb
/-- the memory at the law's entry: the script alone -/
def iA (xs : Nat → Int32) : Nat → Nat → Int32 := fun a => cond (Nat.beq a 1) xs (fun _ => 0)
def M0 (L : Nat) (xs : Nat → Int32) : AM := bM L 0 0 (iA xs) (fun _ _ => 0)
def uE : Nat := uD (uC (0 + 19) + 54) + (kI 1).toNatClampNeg
def iE (xs : Nat → Int32) : Nat → Nat → Int32 := iD (iC (iA xs))
def rE : Nat → Nat → Nat := rD (rC (fun _ _ => 0))
theorem boot (d L : Nat) (xs : Nat → Int32) {Q : Option (Option Value) → AM → Prop} (k : WP (d + 3) 1669 (20, [(0, .ref 1), (1, .ref 2), (2, .ref 42), (3, .ref 77)], [], bM L 76 uE (iE xs) rE) Q) : WC (d + 3) 1669 [.ref 1] (M0 L xs) Q := by
  have s0 : Bt L 0 0 (iA xs) (fun _ _ => 0) (M0 L xs) := ⟨rfl, fun b hb => by
    unfold iA
    rw [show Nat.beq b 1 = false by rw [← Bool.not_eq_true]; exact fun z => absurd (Nat.eq_of_beq_eq_true z) (by omega)]; rfl, fun _ _ => rfl⟩
  have s1 := s0.fn (k := 12) (l := 0) (w := 19) rfl rfl
  refine te_1669 (d + 2) 1 (M0 L xs) Q ⟨s1.hk (show 2 < 3 from by decide) rfl, ?_⟩
  refine c_1408 d (M := nw (M0 L xs) 12 0 19) s1 fun M1 s => ?_
  rw [s.hn]
  have s2 := s.fn (k := 13) (l := 0) (w := 54) rfl rfl
  refine ⟨s2.hk (by decide) rfl, c_1536 (d + 2) s2 fun M2 s => ?_⟩
  rw [s.hn]
  have q := s.fn (k := 23) (l := (kI 1).toNatClampNeg) (w := (kI 1).toNatClampNeg) rfl rfl
  refine ⟨sz_ok rfl, ?_⟩
  rw [q.1]
  exact k
