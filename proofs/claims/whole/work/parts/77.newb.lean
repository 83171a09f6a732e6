/-! ===== a reference put into 17, 23 or 24 ===== -/
def XR (X : XS) (a k v : Nat) : XS := (X.1, X.2.1, u1 X.2.2.1 a (u1 (X.2.2.1 a) k v), xn X, xu X, X.2.2.2.2.2)
section refs
variable {X : XS} {a k v : Nat}
theorem xk_R : xk (XR X a k v) = xk X := rfl
theorem xl_R : xl (XR X a k v) = xl X := rfl
theorem xt_R : xt (XR X a k v) = xt X := rfl
theorem xn_R : xn (XR X a k v) = xn X := rfl
theorem xr_R (h : a = 17 ∨ a = 23 ∨ a = 24) : xr (XR X a k v) = u1 (xr X) a (u1 (xr X a) k v) := by
  have e' : ∀ (Y : XS) q, xr Y a q = Y.2.2.1 a q := fun Y q => by rcases h with rfl | rfl | rfl <;> rfl
  have e : ∀ q, xr X a q = X.2.2.1 a q := e' X
  funext b q
  by_cases hb : b = a
  · subst hb
    have : u1 (xr X) b (u1 (xr X b) k v) b q = u1 (xr X b) k v q := by simp [u1]
    rw [this]
    have : xr (XR X b k v) b q = u1 (X.2.2.1 b) k v q := by
      rw [e' (XR X b k v)]
      show u1 X.2.2.1 b (u1 (X.2.2.1 b) k v) b q = _
      simp [u1]
    rw [this]
    simp only [u1]
    split
    · rfl
    · exact (e q).symm
  · have : u1 (xr X) a (u1 (xr X a) k v) b q = xr X b q := by simp [u1, hb]
    rw [this]
    unfold xr XR
    simp [u1, hb]
theorem sr_mm (h : a = 17 ∨ a = 23 ∨ a = 24) (i : Nat → Nat → Int32) (j : Nat → Nat → Int64) : sr (mm X i j) a k v = mm (XR X a k v) i j := by
  unfold mm
  rw [xr_R h]
  rfl
theorem xr_Rne (h : a = 17 ∨ a = 23 ∨ a = 24) {b : Nat} (hb : b ≠ a) : xr (XR X a k v) b = xr X b := by
  rw [xr_R h]; simp [u1, hb]
theorem xr_Rk (h : a = 17 ∨ a = 23 ∨ a = 24) : xr (XR X a k v) a k = v := by
  rw [xr_R h]; simp [u1]
theorem xr_Ro (h : a = 17 ∨ a = 23 ∨ a = 24) {q : Nat} (hq : q ≠ k) : xr (XR X a k v) a q = xr X a q := by
  rw [xr_R h]; simp [u1, hq]
theorem NX.ref (h : NX X) : NX (XR X a k v) := h
end refs
