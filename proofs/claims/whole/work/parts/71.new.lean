/-! ===== new cells ===== -/
/-- X with one cell more, of kind k, length l, n slots, tag t -/
def XN (X : XS) (k l n t : Nat) : XS := (u1 X.1 (xn X + 2) k, u1 X.2.1 (xn X + 2) l, u1 X.2.2.1 (xn X + 2) (fun _ => 0), xn X + 1, xu X + n, u1 X.2.2.2.2.2 (xn X + 2) t)
/-- numbers with a cell of zeros -/
def zN {α : Type} (X : XS) (i : Nat → Nat → α) (z : α) : Nat → Nat → α := u1 i (xn X + 2) (fun _ => z)
theorem zN_ne {α : Type} {X : XS} {i : Nat → Nat → α} {z : α} {b : Nat} (h : b ≠ xn X + 2) : zN X i z b = i b := by simp [zN, u1, h]
section news
variable {X : XS} {k l n t : Nat}
theorem xk_N (h : 76 ≤ xn X) : xk (XN X k l n t) = u1 (xk X) (xn X + 2) k := by
  funext a
  by_cases e : a = xn X + 2
  · subst e
    unfold xk u1
    rw [show Nat.ble (xn X + 2) 77 = false by rw [← Bool.not_eq_true, Nat.ble_eq]; omega]
    simp [XN, u1]
  · have : u1 (xk X) (xn X + 2) k a = xk X a := by simp [u1, e]
    rw [this]
    unfold xk
    simp [XN, u1, e]
theorem xl_N (h : 76 ≤ xn X) : xl (XN X k l n t) = u1 (xl X) (xn X + 2) l := by
  funext a
  by_cases e : a = xn X + 2
  · subst e
    unfold xl u1
    rw [show Nat.ble (xn X + 2) 77 = false by rw [← Bool.not_eq_true, Nat.ble_eq]; omega]
    simp [XN, u1]
  · have : u1 (xl X) (xn X + 2) l a = xl X a := by simp [u1, e]
    rw [this]
    unfold xl
    simp [XN, u1, e]
theorem xt_N (h : 76 ≤ xn X) : xt (XN X k l n t) = u1 (xt X) (xn X + 2) t := by
  funext a
  by_cases e : a = xn X + 2
  · subst e
    unfold xt u1
    rw [show Nat.ble (xn X + 2) 77 = false by rw [← Bool.not_eq_true, Nat.ble_eq]; omega]
    simp [XN, u1]
  · have : u1 (xt X) (xn X + 2) t a = xt X a := by simp [u1, e]
    rw [this]
    unfold xt
    simp [XN, u1, e]
theorem xr_N (h : 76 ≤ xn X) : xr (XN X k l n t) = u1 (xr X) (xn X + 2) (fun _ => 0) := by
  funext a q
  by_cases e : a = xn X + 2
  · subst e
    unfold xr u1
    rw [show Nat.ble (xn X + 2) 77 = false by rw [← Bool.not_eq_true, Nat.ble_eq]; omega]
    simp [XN, u1]
  · have : u1 (xr X) (xn X + 2) (fun _ => 0) a = xr X a := by simp [u1, e]
    rw [this]
    unfold xr
    simp [XN, u1, e]
theorem nw_mm (h : 76 ≤ xn X) (t : Nat) (i : Nat → Nat → Int32) (j : Nat → Nat → Int64) : nw (mm X i j) k l n = mm (XN X k l n t) (zN X i 0) (zN X j 0) := by
  unfold mm
  rw [xk_N h, xl_N h, xr_N h]
  rfl
theorem xk_Ne (h : 76 ≤ xn X) {a : Nat} (e : a ≠ xn X + 2) : xk (XN X k l n t) a = xk X a := by rw [xk_N h]; simp [u1, e]
theorem xl_Ne (h : 76 ≤ xn X) {a : Nat} (e : a ≠ xn X + 2) : xl (XN X k l n t) a = xl X a := by rw [xl_N h]; simp [u1, e]
theorem xt_Ne (h : 76 ≤ xn X) {a : Nat} (e : a ≠ xn X + 2) : xt (XN X k l n t) a = xt X a := by rw [xt_N h]; simp [u1, e]
theorem xr_Ne (h : 76 ≤ xn X) {a : Nat} (e : a ≠ xn X + 2) : xr (XN X k l n t) a = xr X a := by rw [xr_N h]; simp [u1, e]
theorem NX.new (h : NX X) (t : Nat) : NX (XN X k l n t) := by
  refine ⟨Nat.le_succ_of_le h.1, fun b hb => ?_⟩
  have hb : xn X + 1 + 2 ≤ b := hb
  rw [xt_Ne h.1 (by omega)]
  exact h.2 b (by omega)
theorem NX.ne (h : NX X) {b : Nat} (hb : ¬ xt X b = 0) : b ≠ xn X + 2 := fun e => hb (h.2 b (by omega))
end news
/-- what has a tag, or a fixed name, is as it was -/
def Old (X X' : XS) (i i' : Nat → Nat → Int32) : Prop := ∀ b, (¬ xt X b = 0 ∨ b ≤ 77) → xk X' b = xk X b ∧ xl X' b = xl X b ∧ xt X' b = xt X b ∧ xr X' b = xr X b ∧ i' b = i b
section olds
variable {X X' : XS} {i i' : Nat → Nat → Int32}
theorem Old.new (h : NX X) (k l n t : Nat) (i : Nat → Nat → Int32) : Old X (XN X k l n t) i (zN X i 0) := fun b hb => by
  have e : b ≠ xn X + 2 := by
    rcases hb with hb | hb
    · exact h.ne hb
    · have := h.1; omega
  exact ⟨xk_Ne h.1 e, xl_Ne h.1 e, xt_Ne h.1 e, xr_Ne h.1 e, zN_ne e⟩
theorem Old.f (o : Old X X' i i') (b : Nat) (hb : Nat.ble b 77 = true) : i' b = i b := (o b (Or.inr (Nat.le_of_ble_eq_true hb))).2.2.2.2
theorem Old.r (o : Old X X' i i') (b : Nat) (hb : Nat.ble b 77 = true) : xr X' b = xr X b := (o b (Or.inr (Nat.le_of_ble_eq_true hb))).2.2.2.1
theorem R0.old {n : Nat} (h : R0 X i n) (o : Old X X' i i') : R0 X' i' n := by
  obtain ⟨a, b, c⟩ := h
  unfold R0
  rw [o.f 42 rfl, o.f 43 rfl, o.f 44 rfl, o.f 45 rfl]
  refine ⟨a, ⟨by rw [o.f 9 rfl]; exact b.1, fun t ht => ?_⟩, c⟩
  have := b.2 t ht
  rw [show xr X 9 0 = 10 from rfl, show xr X 9 1 = 11 from rfl, show xr X 9 2 = 12 from rfl] at this
  rw [show xr X' 9 0 = 10 from rfl, show xr X' 9 1 = 11 from rfl, show xr X' 9 2 = 12 from rfl, o.f 10 rfl, o.f 11 rfl, o.f 12 rfl]
  exact this
theorem R1.old (h : R1 i) (o : Old X X' i i') : R1 i' := by
  unfold R1
  rw [o.f 42 rfl, o.f 3 rfl, o.f 4 rfl, o.f 5 rfl, o.f 6 rfl, o.f 7 rfl, o.f 8 rfl, o.f 46 rfl, o.f 47 rfl, o.f 66 rfl, o.f 67 rfl, o.f 68 rfl]
  exact h
theorem GOT.old {g c : Nat} (hG : GO X g) (hT : GT X g c) (o : Old X X' i i') : GO X' g ∧ GT X' g c ∧ xr X' g = xr X g ∧ i' g = i g ∧ i' (xr X g 4) = i (xr X g 4) := by
  have o1 := o g (Or.inl (by have := hT.2.1; omega))
  have o2 := o (xr X g 4) (Or.inl (by have := hT.2.2.1; omega))
  have o3 := o (xr X g 6) (Or.inl (by have := hT.2.2.2.1; omega))
  have o4 := o (xr X g 7) (Or.inl (by have := hT.2.2.2.2; omega))
  refine ⟨?_, ?_, o1.2.2.2.1, o1.2.2.2.2, o2.2.2.2.2⟩
  · unfold GO
    rw [o1.1, o1.2.2.2.1, o2.1, o2.2.1, o3.1, o3.2.1, o4.1, o4.2.1]
    exact hG
  · unfold GT
    rw [o1.2.2.1, o1.2.2.2.1, o2.2.2.1, o3.2.2.1, o4.2.2.1]
    exact hT
theorem R2.old {n : Nat} (h : R2 X i n) (o : Old X X' i i') : R2 X' i' n := by
  refine ⟨h.1, by rw [o.f 2 rfl]; exact h.2.1, by rw [o.f 42 rfl]; exact h.2.2.1, fun g hg => ?_⟩
  have hh := h.2.2.2 g hg
  obtain ⟨a, b, c, d, e⟩ := GOT.old hh.1 hh.2.1 o
  rw [o.r 17 rfl]
  refine ⟨a, b, ?_⟩
  rw [c, d, e, o.f 48 rfl, o.f 49 rfl, o.f 50 rfl, o.f 51 rfl, o.f 52 rfl, o.f 53 rfl]
  exact hh.2.2
theorem R3.old {n : Nat} (h : R3 i n) (o : Old X X' i i') : R3 i' n := by
  unfold R3; rw [o.f 18 rfl, o.f 19 rfl, o.f 42 rfl, o.f 69 rfl]; exact h
theorem R4.old {no ng : Nat} (h : R4 X i no ng) (h2 : R2 X i ng) (o : Old X X' i i') : R4 X' i' no ng := by
  refine ⟨h.1, by rw [o.f 2 rfl]; exact h.2.1, by rw [o.f 42 rfl]; exact h.2.2.1, fun s hs => ?_⟩
  obtain ⟨hO, hT, ⟨g, hg, eg, e56⟩, hl, hr⟩ := h.2.2.2 s hs
  have hh := h2.2.2.2 g hg
  obtain ⟨a, b, -, -, -⟩ := GOT.old hh.1 hh.2.1 o
  have o1 := o (xr X 23 s) (Or.inl (by have := hT.2.1; omega))
  have o2 := o (xr X (xr X 23 s) 1) (Or.inl (by have := hT.2.2.1; omega))
  have o3 := o (xr X (xr X 23 s) 2) (Or.inl (by have := hT.2.2.2; omega))
  rw [o.r 23 rfl]
  refine ⟨?_, ?_, ⟨g, hg, ?_, ?_⟩, ?_, ?_⟩
  · obtain ⟨q1, -, q3, q4⟩ := hO
    unfold OO
    rw [o1.1, o1.2.2.2.1, o2.1, o3.1, eg]
    exact ⟨q1, a, q3, q4⟩
  · unfold OT
    rw [o1.2.2.1, o1.2.2.2.1, o2.2.2.1, o3.2.2.1]
    exact hT
  · rw [o1.2.2.2.1, o.r 17 rfl]; exact eg
  · rw [o.f 56 rfl]; exact e56
  · rw [o1.2.2.2.1, o2.2.1, o3.2.1]; exact hl
  · rw [o1.2.2.2.1, o2.2.1, o2.2.2.2.2, o.f 55 rfl, o.f 54 rfl]; exact hr
theorem R5.old {np : Nat} (h : R5 X i np) (o : Old X X' i i') : R5 X' i' np := by
  refine ⟨h.1, by rw [o.f 2 rfl]; exact h.2.1, by rw [o.f 42 rfl]; exact h.2.2.1, fun p hp => ?_⟩
  have hh := h.2.2.2 p hp
  have o1 := o (xr X 24 p) (Or.inl (by have := hh.2.1; omega))
  rw [o.r 24 rfl, o1.2.2.2.2, o1.2.2.1, o.f 57 rfl, o.f 58 rfl, o.f 59 rfl, o.f 60 rfl, o.f 61 rfl]
  refine ⟨?_, hh.2⟩
  unfold PO; rw [o1.1]; exact hh.1
theorem R6.old (h : R6 i) (o : Old X X' i i') : R6 i' := by
  unfold R6; rw [o.f 25 rfl, o.f 26 rfl, o.f 27 rfl, o.f 28 rfl, o.f 62 rfl, o.f 63 rfl]; exact h
theorem R7.old {n : Nat} (h : R7 i n) (o : Old X X' i i') : R7 i' n := by
  unfold R7 RB; rw [o.f 2 rfl, o.f 42 rfl, o.f 29 rfl, o.f 30 rfl, o.f 64 rfl, o.f 65 rfl, o.f 48 rfl, o.f 49 rfl, o.f 50 rfl]; exact h
theorem Cor.old (h : Cor X i) (o : Old X X' i i') : Cor X' i' := by
  obtain ⟨⟨n, h0⟩, h1, ⟨ng, h2, no, h4⟩, ⟨tn, h3⟩, ⟨np, h5⟩, h6, ns, h7⟩ := h
  exact ⟨⟨n, h0.old o⟩, h1.old o, ⟨ng, h2.old o, no, h4.old h2 o⟩, ⟨tn, h3.old o⟩, ⟨np, h5.old o⟩, h6.old o, ns, h7.old o⟩
theorem Rel.old {j j' : Nat → Nat → Int64} (h : Rel X i j) (hN : NX X') (o : Old X X' i i') (e41 : j' 41 = j 41) (e70 : j' 70 = j 70) : Rel X' i' j' := by
  refine ⟨hN, h.2.1.old o, ?_, ?_⟩
  · unfold R8; rw [o.f 40 rfl, o.f 42 rfl, e41, e70]; exact h.2.2.1
  · unfold RZ; rw [o.f 34 rfl, o.f 35 rfl]; exact h.2.2.2
/-- after an exception -/
theorem Rel.exc {j : Nat → Nat → Int64} (h : Rel X i j) (k l n : Nat) : Rel (XN X k l n 0) (zN X i 0) (zN X j 0) :=
  h.old (h.1.new 0) (Old.new h.1 k l n 0 i) (zN_ne (by have := h.1.1; omega)) (zN_ne (by have := h.1.1; omega))
end olds
