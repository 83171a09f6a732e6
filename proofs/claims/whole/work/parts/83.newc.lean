/-! ===== new cells, once more: references of any cell, what is old ===== -/
def RA (a : Nat) : Prop := ∀ (Y : XS) q, xr Y a q = Y.2.2.1 a q
theorem RA17 : RA 17 := fun _ _ => rfl
theorem RA23 : RA 23 := fun _ _ => rfl
theorem RA24 : RA 24 := fun _ _ => rfl
theorem RAd {a : Nat} (h : 77 < a) : RA a := fun Y q => by
  unfold xr
  rw [show Nat.ble a 77 = false by rw [← Bool.not_eq_true, Nat.ble_eq]; omega]; rfl
section refg
variable {X : XS} {a k v : Nat}
theorem xrR (h : RA a) : xr (XR X a k v) = u1 (xr X) a (u1 (xr X a) k v) := by
  funext b q
  by_cases hb : b = a
  · subst hb
    have : u1 (xr X) b (u1 (xr X b) k v) b q = u1 (xr X b) k v q := by simp [u1]
    rw [this]
    have : xr (XR X b k v) b q = u1 (X.2.2.1 b) k v q := by
      rw [h (XR X b k v)]
      show u1 X.2.2.1 b (u1 (X.2.2.1 b) k v) b q = _
      simp [u1]
    rw [this]
    simp only [u1]
    split
    · rfl
    · exact (h X q).symm
  · have : u1 (xr X) a (u1 (xr X a) k v) b q = xr X b q := by simp [u1, hb]
    rw [this]
    unfold xr XR
    simp [u1, hb]
theorem srR (h : RA a) (i : Nat → Nat → Int32) (j : Nat → Nat → Int64) : sr (mm X i j) a k v = mm (XR X a k v) i j := by
  unfold mm
  rw [xrR h]
  rfl
theorem xrRne {b : Nat} (hb : b ≠ a) : xr (XR X a k v) b = xr X b := by
  funext q
  unfold xr XR
  simp [u1, hb]
theorem xrRk (h : RA a) : xr (XR X a k v) a k = v := by rw [xrR h]; simp [u1]
theorem xrRo (h : RA a) {q : Nat} (hq : q ≠ k) : xr (XR X a k v) a q = xr X a q := by rw [xrR h]; simp [u1, hq]
end refg
section olds
variable {X0 X X' : XS} {i0 i i' : Nat → Nat → Int32}
theorem NX.lt (h : NX X) {b : Nat} (hb : ¬ xt X b = 0 ∨ b ≤ 77) : b < xn X + 2 := by
  refine Classical.byContradiction fun z => ?_
  rcases hb with hb | hb
  · exact hb (h.2 b (by omega))
  · have := h.1; omega
theorem Old.rfl' : Old X X i i := fun _ _ => ⟨rfl, rfl, rfl, rfl, rfl⟩
theorem Old.nw' (o : Old X0 X i0 i) (h0 : NX X0) (hl : xn X0 ≤ xn X) (k l n t : Nat) : Old X0 (XN X k l n t) i0 (zN X i 0) := fun b hb => by
  have := h0.lt hb
  have h76 := h0.1
  have e : b ≠ xn X + 2 := by omega
  obtain ⟨q1, q2, q3, q4, q5⟩ := o b hb
  exact ⟨(xk_Ne (by omega) e).trans q1, (xl_Ne (by omega) e).trans q2, (xt_Ne (by omega) e).trans q3, (xr_Ne (by omega) e).trans q4, (zN_ne e).trans q5⟩
theorem Old.rf' (o : Old X0 X i0 i) (h0 : NX X0) {a : Nat} (ha : xn X0 + 2 ≤ a) (k v : Nat) : Old X0 (XR X a k v) i0 i := fun b hb => by
  have := h0.lt hb
  obtain ⟨q1, q2, q3, q4, q5⟩ := o b hb
  exact ⟨q1, q2, q3, (xrRne (by omega)).trans q4, q5⟩
theorem Old.si' (o : Old X0 X i0 i) (h0 : NX X0) {a : Nat} (ha : xn X0 + 2 ≤ a) (k : Nat) (v : Int32) : Old X0 X i0 (s2 i a k v) := fun b hb => by
  have := h0.lt hb
  obtain ⟨q1, q2, q3, q4, q5⟩ := o b hb
  exact ⟨q1, q2, q3, q4, (s2_ne (by omega)).trans q5⟩
end olds
section ra
variable {X : XS} {i : Nat → Nat → Int32} {a k v : Nat}
theorem GO.ra (ha : a ≤ 77) {g c : Nat} (hG : GO X g) (hT : GT X g c) : GO (XR X a k v) g ∧ GT (XR X a k v) g c ∧ xr (XR X a k v) g = xr X g := by
  have e := xrRne (X := X) (a := a) (k := k) (v := v) (b := g) (fun e => by have := xt_big (X := X) (a := g) (by have := hT.2.1; omega); omega)
  unfold GO GT
  rw [e, xk_R, xl_R, xt_R]
  exact ⟨hG, hT, rfl⟩
theorem R2.ra (ha : a = 23 ∨ a = 24) {n : Nat} (h : R2 X i n) : R2 (XR X a k v) i n := by
  refine ⟨h.1, h.2.1, h.2.2.1, fun g hg => ?_⟩
  obtain ⟨hG, hT, hr⟩ := h.2.2.2 g hg
  obtain ⟨q1, q2, q3⟩ := GO.ra (a := a) (k := k) (v := v) (by omega) hG hT
  rw [xrRne (X := X) (a := a) (b := 17) (by omega), q3]
  exact ⟨q1, q2, hr⟩
theorem R4.ra24 {no ng : Nat} (h : R4 X i no ng) (h2 : R2 X i ng) : R4 (XR X 24 k v) i no ng := R4.rf h h2
theorem R4.ra17' {no ng : Nat} (h : R4 X i no ng) (h2 : ∀ g, g < ng → GO X (xr X 17 g) ∧ GT X (xr X 17 g) g ∧ True) : R4 (XR X 17 ng v) i no (ng + 1) := by
  refine ⟨h.1, h.2.1, h.2.2.1, fun s hs => ?_⟩
  obtain ⟨hO, hT, ⟨g, hg, eg, e56⟩, hl, hr⟩ := h.2.2.2 s hs
  have hh := h2 g hg
  obtain ⟨q1, -, -⟩ := GO.ra (a := 17) (k := ng) (v := v) (by decide) hh.1 hh.2.1
  have e := xrRne (X := X) (a := 17) (k := ng) (v := v) (b := xr X 23 s) (fun e => by have := xt_big (X := X) (a := xr X 23 s) (by have := hT.2.1; omega); omega)
  rw [xrRne (X := X) (a := 17) (b := 23) (by decide), e, xl_R]
  refine ⟨?_, ?_, ⟨g, by omega, ?_, e56⟩, hl, hr⟩
  · unfold OO
    rw [e, xk_R, eg]
    exact ⟨hO.1, q1, hO.2.2⟩
  · unfold OT
    rw [e, xt_R]; exact hT
  · rw [xrRo RA17 (by omega)]; exact eg
theorem R5.ra (ha : a = 17 ∨ a = 23) {np : Nat} (h : R5 X i np) : R5 (XR X a k v) i np := by
  refine ⟨h.1, h.2.1, h.2.2.1, fun p hp => ?_⟩
  rw [xrRne (X := X) (a := a) (b := 24) (by omega)]
  exact h.2.2.2 p hp
theorem R0.ra {n : Nat} (h : R0 X i n) : R0 (XR X a k v) i n := by
  obtain ⟨q1, q2, q3⟩ := h
  refine ⟨q1, ?_, q3⟩
  refine ⟨q2.1, fun t ht => ?_⟩
  have := q2.2 t ht
  exact this
end ra
/-! ===== the making of a glass ===== -/
theorem c_256 (d : Nat) (X : XS) (i : Nat → Nat → Int32) (j : Nat → Nat → Int64) {N : Nat} (hx : 76 ≤ xn X) (hN : 77 < N) (hlt : N ≤ xn X + 1) (hk : xk X N = 3) (a1 a2 a3 : Int32) (t1 t2 t3 : Nat) {K : AM → Prop}
    (h : ∀ X' i' j', (∀ X0 i0, NX X0 → xn X0 + 2 = N → Old X0 X i0 i → Old X0 X' i0 i') → (∀ b, b < xn X + 2 → xk X' b = xk X b ∧ xl X' b = xl X b ∧ xt X' b = xt X b) → (∀ b, b < xn X + 2 → j' b = j b) → (∀ b, b < xn X + 2 → b ≠ N → xr X' b = xr X b ∧ i' b = i b) → xn X' = xn X + 3 → xu X' = xu X + 488 → (∀ b, xn X' + 2 ≤ b → xt X' b = xt X b) →
      xr X' N 4 = xn X + 2 → xr X' N 6 = xn X + 3 → xr X' N 7 = xn X + 4 → (i' N 0 = a1 ∧ i' N 1 = a2 ∧ i' N 2 = a3 ∧ i' N 3 = nI 1 ∧ i' N 5 = i N 5) →
      (xk X' (xn X + 2) = 20 ∧ xl X' (xn X + 2) = 8 ∧ xt X' (xn X + 2) = t1) → (xk X' (xn X + 3) = 20 ∧ xl X' (xn X + 3) = 240 ∧ xt X' (xn X + 3) = t2) → (xk X' (xn X + 4) = 20 ∧ xl X' (xn X + 4) = 240 ∧ xt X' (xn X + 4) = t3) → K (mm X' i' j')) :
    WV d 256 [.ref N, .int a1, .int a2, .int a3] (mm X i j) K := by
  have k8 : (kI 8).toNatClampNeg = 8 := by decide
  have k240 : (kI 240).toNatClampNeg = 240 := by decide
  have e3 : u1 (xk X) (xn X + 2) 20 N = 3 := by unfold u1; rw [if_neg (by omega)]; exact hk
  obtain ⟨XB, hXB⟩ : ∃ XB, XB = XR (XN X 20 8 8 t1) N 4 (xn X + 2) := ⟨_, rfl⟩
  obtain ⟨iB, hiB⟩ : ∃ iB, iB = zN X (s2 i N 3 (kI 1)) 0 := ⟨_, rfl⟩
  obtain ⟨jB, hjB⟩ : ∃ jB, jB = zN X j 0 := ⟨_, rfl⟩
  have nB : xn XB = xn X + 1 := by rw [hXB]; rfl
  have uB : xu XB = xu X + 8 := by rw [hXB]; rfl
  have kB : xk XB = u1 (xk X) (xn X + 2) 20 := by rw [hXB, xk_R, xk_N hx]
  have lB : xl XB = u1 (xl X) (xn X + 2) 8 := by rw [hXB, xl_R, xl_N hx]
  have tB : xt XB = u1 (xt X) (xn X + 2) t1 := by rw [hXB, xt_R, xt_N hx]
  have rB : xr XB = u1 (u1 (xr X) (xn X + 2) fun _ => 0) N (u1 (u1 (xr X) (xn X + 2) (fun _ => 0) N) 4 (xn X + 2)) := by rw [hXB, xrR (RAd hN), xr_N hx]
  have m1 : sr (nw (si (mm X i j) N 3 (kI 1)) 20 8 8) N 4 (nn (si (mm X i j) N 3 (kI 1)) + 2) = mm XB iB jB := by
    show sr (nw (mm X (s2 i N 3 (kI 1)) j) 20 8 8) N 4 (xn X + 2) = _
    rw [nw_mm hx t1, srR (RAd hN), hXB, hiB, hjB]
  obtain ⟨XC, hXC⟩ : ∃ XC, XC = XR (XN XB 20 240 240 t2) N 6 (xn XB + 2) := ⟨_, rfl⟩
  obtain ⟨iC, hiC⟩ : ∃ iC, iC = zN XB iB 0 := ⟨_, rfl⟩
  obtain ⟨jC, hjC⟩ : ∃ jC, jC = zN XB jB 0 := ⟨_, rfl⟩
  have hxB : 76 ≤ xn XB := by omega
  have nC : xn XC = xn X + 2 := by rw [hXC]; show xn XB + 1 = _; omega
  have uC : xu XC = xu X + 248 := by rw [hXC]; show xu XB + 240 = _; omega
  have kC : xk XC = u1 (xk XB) (xn X + 3) 20 := by rw [hXC, xk_R, xk_N hxB, nB]
  have lC : xl XC = u1 (xl XB) (xn X + 3) 240 := by rw [hXC, xl_R, xl_N hxB, nB]
  have tC : xt XC = u1 (xt XB) (xn X + 3) t2 := by rw [hXC, xt_R, xt_N hxB, nB]
  have rC : xr XC = u1 (u1 (xr XB) (xn X + 3) fun _ => 0) N (u1 (u1 (xr XB) (xn X + 3) (fun _ => 0) N) 6 (xn X + 3)) := by rw [hXC, xrR (RAd hN), xr_N hxB, nB]
  have m2 : sr (nw (mm XB iB jB) 20 240 240) N 6 (nn (mm XB iB jB) + 2) = mm XC iC jC := by
    show sr (nw (mm XB iB jB) 20 240 240) N 6 (xn XB + 2) = _
    rw [nw_mm hxB t2, srR (RAd hN), hXC, hiC, hjC]
  obtain ⟨XD, hXD⟩ : ∃ XD, XD = XR (XN XC 20 240 240 t3) N 7 (xn XC + 2) := ⟨_, rfl⟩
  obtain ⟨iD, hiD⟩ : ∃ iD, iD = zN XC iC 0 := ⟨_, rfl⟩
  obtain ⟨jD, hjD⟩ : ∃ jD, jD = zN XC jC 0 := ⟨_, rfl⟩
  have hxC : 76 ≤ xn XC := by omega
  have nD : xn XD = xn X + 3 := by rw [hXD]; show xn XC + 1 = _; omega
  have uD : xu XD = xu X + 488 := by rw [hXD]; show xu XC + 240 = _; omega
  have kD : xk XD = u1 (xk XC) (xn X + 4) 20 := by rw [hXD, xk_R, xk_N hxC, nC]
  have lD : xl XD = u1 (xl XC) (xn X + 4) 240 := by rw [hXD, xl_R, xl_N hxC, nC]
  have tD : xt XD = u1 (xt XC) (xn X + 4) t3 := by rw [hXD, xt_R, xt_N hxC, nC]
  have rD : xr XD = u1 (u1 (xr XC) (xn X + 4) fun _ => 0) N (u1 (u1 (xr XC) (xn X + 4) (fun _ => 0) N) 7 (xn X + 4)) := by rw [hXD, xrR (RAd hN), xr_N hxC, nC]
  have m3 : sr (nw (mm XC iC jC) 20 240 240) N 7 (nn (mm XC iC jC) + 2) = mm XD iD jD := by
    show sr (nw (mm XC iC jC) 20 240 240) N 7 (xn XC + 2) = _
    rw [nw_mm hxC t3, srR (RAd hN), hXD, hiD, hjD]
  have kN : ∀ Y : XS, (Y = XB ∨ Y = XC ∨ Y = XD) → xk Y N = 3 := by
    rintro Y (rfl | rfl | rfl)
    · rw [kB]; exact e3
    · rw [kC]; unfold u1; rw [if_neg (by omega), kB]; exact e3
    · rw [kD]; unfold u1; rw [if_neg (by omega), kC]; unfold u1; rw [if_neg (by omega), kB]; exact e3
  refine te_256 d N a1 a2 a3 _ _ ⟨by omega, ⟨hk, Or.inr rfl⟩, ⟨by decide, by decide⟩, e3, ?_⟩
  rw [k8, m1]
  refine tc_256_17 d N a1 a2 a3 _ _ ⟨⟨by decide, by decide⟩, ?_, ⟨by decide, by decide⟩, ?_, ?_⟩
  · show u1 (xk XB) (xn XB + 2) 20 N = 3
    unfold u1; rw [if_neg (by omega)]; exact kN XB (Or.inl rfl)
  · rw [k240, m2]
    show u1 (xk XC) (xn XC + 2) 20 N = 3
    unfold u1; rw [if_neg (by omega)]; exact kN XC (Or.inr (Or.inl rfl))
  rw [k240, m2, m3]
  have k3 := kN XD (Or.inr (Or.inr rfl))
  refine tc_256_35 d N a1 a2 a3 _ _ ⟨k3, k3, k3, rfl, ?_⟩
  show K (mm XD (s2 (s2 (s2 iD N 0 a1) N 1 a2) N 2 a3) jD)
  have jj : ∀ b, b < xn X + 2 → jD b = j b := fun b hb => by rw [hjD, zN_ne (by omega), hjC, zN_ne (by omega), hjB, zN_ne (by omega)]
  have ii : ∀ b, b < xn X + 2 → iD b = (s2 i N 3 (kI 1)) b := fun b hb => by rw [hiD, zN_ne (by omega), hiC, zN_ne (by omega), hiB, zN_ne (by omega)]
  have iN : iD N = (s2 i N 3 (kI 1)) N := ii N (by omega)
  refine h XD _ jD ?_ ?_ jj ?_ nD uD ?_ ?_ ?_ ?_ ⟨?_, ?_, ?_, ?_, ?_⟩ ⟨?_, ?_, ?_⟩ ⟨?_, ?_, ?_⟩ ⟨?_, ?_, ?_⟩
  · intro X0 i0 h0 hn0 o
    have n0 : xn X0 ≤ xn X := by omega
    have oB : Old X0 XB i0 iB := by
      rw [hXB, hiB]
      exact ((o.si' h0 (a := N) (by omega) 3 (kI 1)).nw' h0 n0 20 8 8 t1).rf' h0 (by omega) _ _
    have oC : Old X0 XC i0 iC := by
      rw [hXC, hiC]
      exact (oB.nw' h0 (by omega) 20 240 240 t2).rf' h0 (by omega) _ _
    have oD : Old X0 XD i0 iD := by
      rw [hXD, hiD]
      exact (oC.nw' h0 (by omega) 20 240 240 t3).rf' h0 (by omega) _ _
    exact ((oD.si' h0 (a := N) (by omega) 0 a1).si' h0 (a := N) (by omega) 1 a2).si' h0 (a := N) (by omega) 2 a3
  · intro b hb
    rw [kD, lD, tD, kC, lC, tC, kB, lB, tB]
    unfold u1
    simp only [if_neg (show ¬ b = xn X + 2 by omega), if_neg (show ¬ b = xn X + 3 by omega), if_neg (show ¬ b = xn X + 4 by omega)]
    exact ⟨trivial, trivial, trivial⟩
  · intro b hb hne
    refine ⟨?_, ?_⟩
    · rw [rD, rC, rB]
      unfold u1
      simp only [if_neg hne, if_neg (show ¬ b = xn X + 2 by omega), if_neg (show ¬ b = xn X + 3 by omega), if_neg (show ¬ b = xn X + 4 by omega)]
    · rw [s2_ne hne, s2_ne hne, s2_ne hne, ii b hb, s2_ne hne]
  · intro b hb
    rw [nD] at hb
    rw [tD, tC, tB]
    unfold u1
    rw [if_neg (by omega), if_neg (by omega), if_neg (by omega)]
  · rw [rD, rC, rB]
    unfold u1
    simp [show ¬ N = xn X + 2 by omega, show ¬ N = xn X + 3 by omega, show ¬ N = xn X + 4 by omega]
  · rw [rD, rC, rB]
    unfold u1
    simp [show ¬ N = xn X + 2 by omega, show ¬ N = xn X + 3 by omega, show ¬ N = xn X + 4 by omega]
  · rw [rD, rC, rB]
    unfold u1
    simp [show ¬ N = xn X + 2 by omega, show ¬ N = xn X + 3 by omega, show ¬ N = xn X + 4 by omega]
  · rw [s2_ne2 (by decide), s2_ne2 (by decide), s2_self]
  · rw [s2_ne2 (by decide), s2_self]
  · rw [s2_self]
  · rw [s2_ne2 (by decide), s2_ne2 (by decide), s2_ne2 (by decide), iN, s2_self]; rfl
  · rw [s2_ne2 (by decide), s2_ne2 (by decide), s2_ne2 (by decide), iN, s2_ne2 (by decide)]
  all_goals first
    | (rw [kD, kC, kB]; unfold u1; simp)
    | (rw [lD, lC, lB]; unfold u1; simp)
    | (rw [tD, tC, tB]; unfold u1; simp)
