/-! ===== a reference put into 17, 23 or 24 ===== -/
def XR (X : XS) (a k v : Nat) : XS := (X.1, X.2.1, u1 X.2.2.1 a (u1 (X.2.2.1 a) k v), xn X, xu X, X.2.2.2.2.2)
section refs
variable {X : XS} {a k v : Nat}
theorem xk_R : xk (XR X a k v) = xk X := rfl
theorem xl_R : xl (XR X a k v) = xl X := rfl
theorem xt_R : xt (XR X a k v) = xt X := rfl
theorem xn_R : xn (XR X a k v) = xn X := rfl
theorem xr_R (h : a = 17 ∨ a = 23 ∨ a = 24) : xr (XR X a k v) = u1 (xr X) a (u1 (xr X a) k v) := by
  have e' : ∀ (Y : XS) q, xr Y a q = Y.2.2.1 a q := fun Y q => by rcases h with rfl | rfl | rfl <;> rfl
  have e : ∀ q, xr X a q = X.2.2.1 a q := e' X
  funext b q
  by_cases hb : b = a
  · subst hb
    have : u1 (xr X) b (u1 (xr X b) k v) b q = u1 (xr X b) k v q := by simp [u1]
    rw [this]
    have : xr (XR X b k v) b q = u1 (X.2.2.1 b) k v q := by
      rw [e' (XR X b k v)]
      show u1 X.2.2.1 b (u1 (X.2.2.1 b) k v) b q = _
      simp [u1]
    rw [this]
    simp only [u1]
    split
    · rfl
    · exact (e q).symm
  · have : u1 (xr X) a (u1 (xr X a) k v) b q = xr X b q := by simp [u1, hb]
    rw [this]
    unfold xr XR
    simp [u1, hb]
theorem sr_mm (h : a = 17 ∨ a = 23 ∨ a = 24) (i : Nat → Nat → Int32) (j : Nat → Nat → Int64) : sr (mm X i j) a k v = mm (XR X a k v) i j := by
  unfold mm
  rw [xr_R h]
  rfl
theorem xr_Rne (h : a = 17 ∨ a = 23 ∨ a = 24) {b : Nat} (hb : b ≠ a) : xr (XR X a k v) b = xr X b := by
  rw [xr_R h]; simp [u1, hb]
theorem xr_Rk (h : a = 17 ∨ a = 23 ∨ a = 24) : xr (XR X a k v) a k = v := by
  rw [xr_R h]; simp [u1]
theorem xr_Ro (h : a = 17 ∨ a = 23 ∨ a = 24) {q : Nat} (hq : q ≠ k) : xr (XR X a k v) a q = xr X a q := by
  rw [xr_R h]; simp [u1, hq]
theorem NX.ref (h : NX X) : NX (XR X a k v) := h
end refs
section refs24
variable {X : XS} {k v : Nat} {i : Nat → Nat → Int32}
theorem tg24 {b : Nat} (h : 50 ≤ xt X b) : b ≠ 24 := fun e => by have := xt_big h; omega
theorem GO.rf {g c : Nat} (hG : GO X g) (hT : GT X g c) : GO (XR X 24 k v) g ∧ GT (XR X 24 k v) g c ∧ xr (XR X 24 k v) g = xr X g := by
  have e := xr_Rne (X := X) (a := 24) (k := k) (v := v) (Or.inr (Or.inr rfl)) (b := g) (tg24 (X := X) (by have := hT.2.1; omega))
  unfold GO GT
  rw [e, xk_R, xl_R, xt_R]
  exact ⟨hG, hT, rfl⟩
theorem R0.rf {n : Nat} (h : R0 X i n) : R0 (XR X 24 k v) i n := h
theorem R2.rf {n : Nat} (h : R2 X i n) : R2 (XR X 24 k v) i n := by
  refine ⟨h.1, h.2.1, h.2.2.1, fun g hg => ?_⟩
  obtain ⟨hG, hT, hr⟩ := h.2.2.2 g hg
  obtain ⟨a, b, c⟩ := GO.rf (k := k) (v := v) hG hT
  rw [xr_Rne (X := X) (a := 24) (Or.inr (Or.inr rfl)) (b := 17) (by decide), c]
  exact ⟨a, b, hr⟩
theorem R4.rf {no ng : Nat} (h : R4 X i no ng) (h2 : R2 X i ng) : R4 (XR X 24 k v) i no ng := by
  refine ⟨h.1, h.2.1, h.2.2.1, fun s hs => ?_⟩
  obtain ⟨hO, hT, ⟨g, hg, eg, e56⟩, hl, hr⟩ := h.2.2.2 s hs
  have hh := h2.2.2.2 g hg
  obtain ⟨a, -, -⟩ := GO.rf (k := k) (v := v) hh.1 hh.2.1
  have e := xr_Rne (X := X) (a := 24) (k := k) (v := v) (Or.inr (Or.inr rfl)) (b := xr X 23 s) (tg24 (X := X) (by have := hT.2.1; omega))
  rw [xr_Rne (X := X) (a := 24) (Or.inr (Or.inr rfl)) (b := 23) (by decide), xr_Rne (X := X) (a := 24) (Or.inr (Or.inr rfl)) (b := 17) (by decide), e, xl_R]
  refine ⟨?_, ?_, ⟨g, hg, eg, e56⟩, hl, hr⟩
  · unfold OO
    rw [e, xk_R, eg]
    exact ⟨hO.1, a, hO.2.2⟩
  · unfold OT
    rw [e, xt_R]; exact hT
end refs24
