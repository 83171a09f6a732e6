/-! ===== how a text is read (the class's way): code, what waits, comparisons, brackets, digits, whether a thing is wanted ===== -/
abbrev Sc : Type := List Nat × List Nat × (Nat → Bool) × Nat × Nat × Bool
def stN (b : Nat) : Nat := if b = 33 then 5 else if b = 38 then 2 else if b = 43 then 4 else if b = 45 then 4 else if b = 60 then 3 else if b = 61 then 3 else if b = 62 then 3 else if b = 124 then 1 else if b = 126 then 5 else 0
def popW (s : Nat) : List Nat → List Nat → List Nat × List Nat
  | cd, [] => (cd, [])
  | cd, x :: r => if s ≤ stN x then popW s (cd ++ [1000 + x]) r else (cd, x :: r)
def isLt (b : Nat) : Bool := b == 119 || b == 112 || b == 102 || b == 116 || b == 121 || b == 107 || b == 100
def isDg (b : Nat) : Bool := Nat.ble 48 b && Nat.ble b 57
def tk : Sc → Nat → Option Sc
  | (cd, wt, m, br, dg, true), b =>
    if isDg b then some (cd ++ [b - 48], wt, m, br, 1, false)
    else if isLt b then some (cd ++ [1000 + b], wt, m, br, 0, false)
    else if b = 33 then some (cd, 33 :: wt, m, br, dg, true)
    else if b = 45 then some (cd, 126 :: wt, m, br, dg, true)
    else if b = 40 ∧ br < 5 then some (cd, 40 :: wt, (fun q => if q = br + 1 then false else m q), br + 1, dg, true)
    else none
  | (cd, wt, m, br, dg, false), b =>
    if isDg b then (if dg = 0 ∨ 3 ≤ dg ∨ cd = [] then none else some (cd.dropLast ++ [cd.getLastD 0 * 10 + (b - 48)], wt, m, br, dg + 1, false))
    else if b = 41 then (if br = 0 then none else some ((popW 1 cd wt).1, (popW 1 cd wt).2.tail, m, br - 1, 0, false))
    else if stN b = 0 ∨ 4 < stN b ∨ (stN b = 3 ∧ m br = true) then none
    else some ((popW (stN b) cd wt).1, b :: (popW (stN b) cd wt).2, (fun q => if q = br ∧ stN b ≤ 3 then decide (stN b = 3) else m q), br, dg, true)
def scn (t : Nat → Nat) : Nat → Option Sc
  | 0 => some ([], [], fun _ => false, 0, 0, true)
  | p + 1 => match scn t p with
    | some s => tk s (t p)
    | none => none
/-- the text t of n signs reads well, into the code cd of c signs -/
def SCN (t : Nat → Nat) (n c : Nat) (cd : Nat → Int32) : Prop := ∃ (c0 w : List Nat) (m : Nat → Bool) (dg : Nat), scn t n = some (c0, w, m, 0, dg, false) ∧ (popW 1 c0 w).1.length = c ∧ ∀ q, q < c → cd q = nI ((popW 1 c0 w).1.getD q 0)
def OT (X : XS) (o s : Nat) : Prop := s < 10 ∧ xt X o = 70 + s ∧ xt X (xr X o 1) = 80 + s ∧ xt X (xr X o 2) = 30 + s
/-- no signs stand, the class's as the reference's -/
def R4 (X : XS) (i : Nat → Nat → Int32) (no ng : Nat) : Prop := no ≤ 10 ∧ i 2 7 = nI no ∧ i 42 14 = nI no ∧ ∀ s, s < no → OO X (xr X 23 s) ∧ OT X (xr X 23 s) s ∧
  (∃ g, g < ng ∧ xr X (xr X 23 s) 0 = xr X 17 g ∧ i 56 s = nI g) ∧ (xl X (xr X (xr X 23 s) 1) ≤ 40 ∧ xl X (xr X (xr X 23 s) 2) = xl X (xr X (xr X 23 s) 1)) ∧
  ∃ (t : Nat → Nat) (n : Nat), n ≤ 40 ∧ i 55 s = nI n ∧ (∀ q, q < n → t q < 256 ∧ i 54 (40 * s + q) = (nI (t q)).toInt8.toInt32) ∧ SCN t n (xl X (xr X (xr X 23 s) 1)) (i (xr X (xr X 23 s) 1))
theorem R4.sg {X : XS} {i : Nat → Nat → Int32} {no ng : Nat} (h : R4 X i no ng) : SGs X i := ⟨no, h.1, h.2.1, fun g hg => (h.2.2.2 g hg).1⟩
theorem R4.kp {X : XS} {i i' : Nat → Nat → Int32} {no ng : Nat} (h : R4 X i no ng) (k : Kp X i i') : R4 X i' no ng := by
  refine ⟨h.1, by rw [xt_c k 2 0 rfl rfl (by decide)]; exact h.2.1, by rw [k.2 14 (by decide)]; exact h.2.2.1, fun s hs => ?_⟩
  have hh := h.2.2.2 s hs
  have e2 : i' (xr X (xr X 23 s) 1) = i (xr X (xr X 23 s) 1) := k.1 _ (by have := hh.2.1.2.2.1; omega) (ne42 (X := X) (by have := hh.2.1.2.2.1; omega))
  rw [xt_c k 54 0 rfl rfl (by decide), xt_c k 55 0 rfl rfl (by decide), xt_c k 56 0 rfl rfl (by decide), e2]
  exact hh
/-- what a thing of a code is worth on day t, with the glass g -/
noncomputable def thR (i : Nat → Nat → Int32) (w a k : Nat → Int32) (g t : Nat) (c : Int32) : Int32 :=
  if (c - nI 1000).toInt = 119 then wdR i g (nI 0) (rdR i a g t) else if (c - nI 1000).toInt = 112 then rdR i a g t
  else if (c - nI 1000).toInt = 102 then (if t = 0 then nI 0 else rdR i a g (t - 1) - rdR i a g t)
  else if (c - nI 1000).toInt = 116 then w t else if (c - nI 1000).toInt = 121 then w (t - 1) else if (c - nI 1000).toInt = 107 then k t else if (c - nI 1000).toInt = 100 then nI t else c
/-- what the sign s is worth on day t -/
noncomputable def vlF (X : XS) (i : Nat → Nat → Int32) (w a k : Nat → Int32) (s t : Nat) : Int32 := top1 (evn (thR i w a k (i 56 s).toNatClampNeg t) (i (xr X (xr X 23 s) 1)) (xl X (xr X (xr X 23 s) 1)))
theorem rdR_kp {X : XS} {i i' : Nat → Nat → Int32} (k : Kp X i i') (a : Nat → Int32) (g t : Nat) : rdR i' a g t = rdR i a g t := by
  unfold rdR
  rw [xt_c k 48 0 rfl rfl (by decide), xt_c k 49 0 rfl rfl (by decide), xt_c k 50 0 rfl rfl (by decide), xt_c k 51 0 rfl rfl (by decide)]
theorem hdR_kp {X : XS} {i i' : Nat → Nat → Int32} (k : Kp X i i') (a : Nat → Int32) (g t : Nat) : hdR i' a g t = hdR i a g t := by
  unfold hdR
  rw [xt_c k 48 0 rfl rfl (by decide), xt_c k 49 0 rfl rfl (by decide), xt_c k 50 0 rfl rfl (by decide), xt_c k 51 0 rfl rfl (by decide)]
theorem wdR_kp {X : XS} {i i' : Nat → Nat → Int32} (k : Kp X i i') (g : Nat) (sh v : Int32) : wdR i' g sh v = wdR i g sh v := by
  unfold wdR mcN
  rw [xt_c k 52 0 rfl rfl (by decide), xt_c k 53 0 rfl rfl (by decide)]
theorem thR_kp {X : XS} {i i' : Nat → Nat → Int32} (k : Kp X i i') (w a kk : Nat → Int32) (g t : Nat) : thR i' w a kk g t = thR i w a kk g t := by
  funext c
  unfold thR
  rw [rdR_kp k, rdR_kp k, wdR_kp k]
theorem vlF_kp {X : XS} {i i' : Nat → Nat → Int32} {no ng : Nat} (h : R4 X i no ng) (k : Kp X i i') (w a kk : Nat → Int32) {s : Nat} (hs : s < no) (t : Nat) : vlF X i' w a kk s t = vlF X i w a kk s t := by
  have hh := h.2.2.2 s hs
  have e2 : i' (xr X (xr X 23 s) 1) = i (xr X (xr X 23 s) 1) := k.1 _ (by have := hh.2.1.2.2.1; omega) (ne42 (X := X) (by have := hh.2.1.2.2.1; omega))
  unfold vlF
  rw [thR_kp k, e2, xt_c k 56 0 rfl rfl (by decide)]
set_option maxRecDepth 100000 in
theorem s_388 (d : Nat) (X : XS) (i : Nat → Nat → Int32) (j : Nat → Nat → Int64) (a0 : Nat) (h0 : OO X a0) (a1 : Int32) (a2 : Nat) (h2 : DO X a2) (a3 : Int32) (K : Int32 → AM → Prop) (h : (((a1 - (nI 1000)).toInt = 100 → K a3 (mm X i j)) ∧ (¬ ((a1 - (nI 1000)).toInt = 100) → (((a1 - (nI 1000)).toInt = 101 → K a1 (mm X i j)) ∧ (¬ ((a1 - (nI 1000)).toInt = 101) → (((a1 - (nI 1000)).toInt = 102 → ((a3 ≤ 0 → K (nI 0) (mm X i j)) ∧ (¬ (a3 ≤ 0) → (((nI 240) ≤ a3 → K (nI 0) (mm X i j)) ∧ (¬ ((nI 240) ≤ a3) → (vp_in (a3 - (nI 1)) 240) ∧ (vp_in a3 240) ∧ K ((i (xr X (xr X a0 0) 7) ((a3 - (nI 1)).toNatClampNeg)) - (i (xr X (xr X a0 0) 7) ((a3).toNatClampNeg))) (mm X i j)))))) ∧ (¬ ((a1 - (nI 1000)).toInt = 102) → (((a1 - (nI 1000)).toInt = 103 → K a1 (mm X i j)) ∧ (¬ ((a1 - (nI 1000)).toInt = 103) → (((a1 - (nI 1000)).toInt = 104 → K a1 (mm X i j)) ∧ (¬ ((a1 - (nI 1000)).toInt = 104) → (((a1 - (nI 1000)).toInt = 105 → K a1 (mm X i j)) ∧ (¬ ((a1 - (nI 1000)).toInt = 105) → (((a1 - (nI 1000)).toInt = 106 → K a1 (mm X i j)) ∧ (¬ ((a1 - (nI 1000)).toInt = 106) → (((a1 - (nI 1000)).toInt = 107 → ((i a2 3) ≤ (nI 240)) ∧ K (dyv (i a2 3) (i (xr X a2 2)) a3) (mm X i j)) ∧ (¬ ((a1 - (nI 1000)).toInt = 107) → (((a1 - (nI 1000)).toInt = 108 → K a1 (mm X i j)) ∧ (¬ ((a1 - (nI 1000)).toInt = 108) → (((a1 - (nI 1000)).toInt = 109 → K a1 (mm X i j)) ∧ (¬ ((a1 - (nI 1000)).toInt = 109) → (((a1 - (nI 1000)).toInt = 110 → K a1 (mm X i j)) ∧ (¬ ((a1 - (nI 1000)).toInt = 110) → (((a1 - (nI 1000)).toInt = 111 → K a1 (mm X i j)) ∧ (¬ ((a1 - (nI 1000)).toInt = 111) → (((a1 - (nI 1000)).toInt = 112 → ((a3 < 0 → K (nI 0) (mm X i j)) ∧ (¬ (a3 < 0) → (((nI 240) ≤ a3 → K (nI 0) (mm X i j)) ∧ (¬ ((nI 240) ≤ a3) → (vp_in a3 240) ∧ K (i (xr X (xr X a0 0) 7) ((a3).toNatClampNeg)) (mm X i j)))))) ∧ (¬ ((a1 - (nI 1000)).toInt = 112) → (((a1 - (nI 1000)).toInt = 113 → K a1 (mm X i j)) ∧ (¬ ((a1 - (nI 1000)).toInt = 113) → (((a1 - (nI 1000)).toInt = 114 → K a1 (mm X i j)) ∧ (¬ ((a1 - (nI 1000)).toInt = 114) → (((a1 - (nI 1000)).toInt = 115 → K a1 (mm X i j)) ∧ (¬ ((a1 - (nI 1000)).toInt = 115) → (((a1 - (nI 1000)).toInt = 116 → ((i a2 3) ≤ (nI 240)) ∧ K (dyv (i a2 3) (i (xr X a2 0)) a3) (mm X i j)) ∧ (¬ ((a1 - (nI 1000)).toInt = 116) → (((a1 - (nI 1000)).toInt = 117 → K a1 (mm X i j)) ∧ (¬ ((a1 - (nI 1000)).toInt = 117) → (((a1 - (nI 1000)).toInt = 118 → K a1 (mm X i j)) ∧ (¬ ((a1 - (nI 1000)).toInt = 118) → (((a1 - (nI 1000)).toInt = 119 → (∃ (x4 : Int32), EvI d 265 [.ref (xr X a0 0), .int a3, .int (nI 0)] (mm X i j) x4 (mm X i j) ∧ K x4 (mm X i j))) ∧ (¬ ((a1 - (nI 1000)).toInt = 119) → (((a1 - (nI 1000)).toInt = 120 → K a1 (mm X i j)) ∧ (¬ ((a1 - (nI 1000)).toInt = 120) → (((a1 - (nI 1000)).toInt = 121 → ((a3 ≤ 0 → ((i a2 3) ≤ (nI 240)) ∧ K (dyv (i a2 3) (i (xr X a2 0)) (nI 0)) (mm X i j)) ∧ (¬ (a3 ≤ 0) → ((i a2 3) ≤ (nI 240)) ∧ K (dyv (i a2 3) (i (xr X a2 0)) (a3 - (nI 1))) (mm X i j)))) ∧ (¬ ((a1 - (nI 1000)).toInt = 121) → K a1 (mm X i j)))))))))))))))))))))))))))))))))))))))))))))) : WI (d + 1) 388 [.ref a0, .int a1, .ref a2, .int a3] (mm X i j) K := te_388 d a0 a1 a2 a3 (mm X i j) (qI K) ⟨fun e30 => ⟨_, rfl, (h.1 e30)⟩, fun e30 => ⟨fun e29 => ⟨_, rfl, ((h.2 e30).1 e29)⟩, fun e29 => ⟨fun e28 => ⟨h0.1, ⟨h0.2.1.1, (te_264 d (xr X a0 0) a3 (mm X i j) _ ⟨fun e26 => ⟨_, rfl, ⟨_, rfl, ((((h.2 e30).2 e29).1 e28).1 (e26))⟩⟩, fun e26 => ⟨fun e27 => ⟨_, rfl, ⟨_, rfl, (((((h.2 e30).2 e29).1 e28).2 (e26)).1 (e27))⟩⟩, fun e27 => ⟨h0.2.1.1, ⟨⟨h0.2.1.2.2.2.1, (vin_of h0.2.1.2.2.2.2 (((((h.2 e30).2 e29).1 e28).2 (e26)).2 (e27)).1)⟩, ⟨h0.2.1.1, ⟨⟨h0.2.1.2.2.2.1, (vin_of h0.2.1.2.2.2.2 (((((h.2 e30).2 e29).1 e28).2 (e26)).2 (e27)).2.1)⟩, ⟨_, rfl, ⟨_, rfl, (((((h.2 e30).2 e29).1 e28).2 (e26)).2 (e27)).2.2⟩⟩⟩⟩⟩⟩⟩⟩)⟩⟩, fun e28 => ⟨fun e25 => ⟨_, rfl, ((((h.2 e30).2 e29).2 e28).1 e25)⟩, fun e25 => ⟨fun e24 => ⟨_, rfl, (((((h.2 e30).2 e29).2 e28).2 e25).1 e24)⟩, fun e24 => ⟨fun e23 => ⟨_, rfl, ((((((h.2 e30).2 e29).2 e28).2 e25).2 e24).1 e23)⟩, fun e23 => ⟨fun e22 => ⟨_, rfl, (((((((h.2 e30).2 e29).2 e28).2 e25).2 e24).2 e23).1 e22)⟩, fun e22 => ⟨fun e21 => ⟨h2.1, (p_135 d X i j a2 h2 a3 _ ⟨((((((((h.2 e30).2 e29).2 e28).2 e25).2 e24).2 e23).2 e22).1 e21).1, ⟨_, rfl, ((((((((h.2 e30).2 e29).2 e28).2 e25).2 e24).2 e23).2 e22).1 e21).2⟩⟩)⟩, fun e21 => ⟨fun e20 => ⟨_, rfl, (((((((((h.2 e30).2 e29).2 e28).2 e25).2 e24).2 e23).2 e22).2 e21).1 e20)⟩, fun e20 => ⟨fun e19 => ⟨_, rfl, ((((((((((h.2 e30).2 e29).2 e28).2 e25).2 e24).2 e23).2 e22).2 e21).2 e20).1 e19)⟩, fun e19 => ⟨fun e18 => ⟨_, rfl, (((((((((((h.2 e30).2 e29).2 e28).2 e25).2 e24).2 e23).2 e22).2 e21).2 e20).2 e19).1 e18)⟩, fun e18 => ⟨fun e17 => ⟨_, rfl, ((((((((((((h.2 e30).2 e29).2 e28).2 e25).2 e24).2 e23).2 e22).2 e21).2 e20).2 e19).2 e18).1 e17)⟩, fun e17 => ⟨fun e16 => ⟨h0.1, ⟨h0.2.1.1, (te_263 d (xr X a0 0) a3 (mm X i j) _ ⟨fun e14 => ⟨_, rfl, ⟨_, rfl, ((((((((((((((h.2 e30).2 e29).2 e28).2 e25).2 e24).2 e23).2 e22).2 e21).2 e20).2 e19).2 e18).2 e17).1 e16).1 (e14))⟩⟩, fun e14 => ⟨fun e15 => ⟨_, rfl, ⟨_, rfl, (((((((((((((((h.2 e30).2 e29).2 e28).2 e25).2 e24).2 e23).2 e22).2 e21).2 e20).2 e19).2 e18).2 e17).1 e16).2 (e14)).1 (e15))⟩⟩, fun e15 => ⟨h0.2.1.1, ⟨⟨h0.2.1.2.2.2.1, (vin_of h0.2.1.2.2.2.2 (((((((((((((((h.2 e30).2 e29).2 e28).2 e25).2 e24).2 e23).2 e22).2 e21).2 e20).2 e19).2 e18).2 e17).1 e16).2 (e14)).2 (e15)).1)⟩, ⟨_, rfl, ⟨_, rfl, (((((((((((((((h.2 e30).2 e29).2 e28).2 e25).2 e24).2 e23).2 e22).2 e21).2 e20).2 e19).2 e18).2 e17).1 e16).2 (e14)).2 (e15)).2⟩⟩⟩⟩⟩⟩)⟩⟩, fun e16 => ⟨fun e13 => ⟨_, rfl, ((((((((((((((h.2 e30).2 e29).2 e28).2 e25).2 e24).2 e23).2 e22).2 e21).2 e20).2 e19).2 e18).2 e17).2 e16).1 e13)⟩, fun e13 => ⟨fun e12 => ⟨_, rfl, (((((((((((((((h.2 e30).2 e29).2 e28).2 e25).2 e24).2 e23).2 e22).2 e21).2 e20).2 e19).2 e18).2 e17).2 e16).2 e13).1 e12)⟩, fun e12 => ⟨fun e11 => ⟨_, rfl, ((((((((((((((((h.2 e30).2 e29).2 e28).2 e25).2 e24).2 e23).2 e22).2 e21).2 e20).2 e19).2 e18).2 e17).2 e16).2 e13).2 e12).1 e11)⟩, fun e11 => ⟨fun e10 => ⟨h2.1, (p_133 d X i j a2 h2 a3 _ ⟨(((((((((((((((((h.2 e30).2 e29).2 e28).2 e25).2 e24).2 e23).2 e22).2 e21).2 e20).2 e19).2 e18).2 e17).2 e16).2 e13).2 e12).2 e11).1 e10).1, ⟨_, rfl, (((((((((((((((((h.2 e30).2 e29).2 e28).2 e25).2 e24).2 e23).2 e22).2 e21).2 e20).2 e19).2 e18).2 e17).2 e16).2 e13).2 e12).2 e11).1 e10).2⟩⟩)⟩, fun e10 => ⟨fun e9 => ⟨_, rfl, ((((((((((((((((((h.2 e30).2 e29).2 e28).2 e25).2 e24).2 e23).2 e22).2 e21).2 e20).2 e19).2 e18).2 e17).2 e16).2 e13).2 e12).2 e11).2 e10).1 e9)⟩, fun e9 => ⟨fun e8 => ⟨_, rfl, (((((((((((((((((((h.2 e30).2 e29).2 e28).2 e25).2 e24).2 e23).2 e22).2 e21).2 e20).2 e19).2 e18).2 e17).2 e16).2 e13).2 e12).2 e11).2 e10).2 e9).1 e8)⟩, fun e8 => ⟨fun e7 => ⟨h0.1, ⟨h0.2.1.1, (Exists.elim ((((((((((((((((((((h.2 e30).2 e29).2 e28).2 e25).2 e24).2 e23).2 e22).2 e21).2 e20).2 e19).2 e18).2 e17).2 e16).2 e13).2 e12).2 e11).2 e10).2 e9).2 e8).1 e7) fun x4 h5 => EvI.use h5.1 ⟨_, rfl, h5.2⟩)⟩⟩, fun e7 => ⟨fun e3 => ⟨_, rfl, (((((((((((((((((((((h.2 e30).2 e29).2 e28).2 e25).2 e24).2 e23).2 e22).2 e21).2 e20).2 e19).2 e18).2 e17).2 e16).2 e13).2 e12).2 e11).2 e10).2 e9).2 e8).2 e7).1 e3)⟩, fun e3 => ⟨fun e2 => ⟨fun e1 => ⟨h2.1, (p_133 d X i j a2 h2 (nI 0) _ ⟨(((((((((((((((((((((((h.2 e30).2 e29).2 e28).2 e25).2 e24).2 e23).2 e22).2 e21).2 e20).2 e19).2 e18).2 e17).2 e16).2 e13).2 e12).2 e11).2 e10).2 e9).2 e8).2 e7).2 e3).1 e2).1 (e1)).1, ⟨_, rfl, (((((((((((((((((((((((h.2 e30).2 e29).2 e28).2 e25).2 e24).2 e23).2 e22).2 e21).2 e20).2 e19).2 e18).2 e17).2 e16).2 e13).2 e12).2 e11).2 e10).2 e9).2 e8).2 e7).2 e3).1 e2).1 (e1)).2⟩⟩)⟩, fun e1 => ⟨h2.1, (p_133 d X i j a2 h2 (a3 - (nI 1)) _ ⟨(((((((((((((((((((((((h.2 e30).2 e29).2 e28).2 e25).2 e24).2 e23).2 e22).2 e21).2 e20).2 e19).2 e18).2 e17).2 e16).2 e13).2 e12).2 e11).2 e10).2 e9).2 e8).2 e7).2 e3).1 e2).2 (e1)).1, ⟨_, rfl, (((((((((((((((((((((((h.2 e30).2 e29).2 e28).2 e25).2 e24).2 e23).2 e22).2 e21).2 e20).2 e19).2 e18).2 e17).2 e16).2 e13).2 e12).2 e11).2 e10).2 e9).2 e8).2 e7).2 e3).1 e2).2 (e1)).2⟩⟩)⟩⟩, fun e2 => ⟨_, rfl, ((((((((((((((((((((((h.2 e30).2 e29).2 e28).2 e25).2 e24).2 e23).2 e22).2 e21).2 e20).2 e19).2 e18).2 e17).2 e16).2 e13).2 e12).2 e11).2 e10).2 e9).2 e8).2 e7).2 e3).2 e2)⟩⟩⟩⟩⟩⟩⟩⟩⟩⟩⟩⟩⟩⟩⟩⟩⟩⟩⟩⟩⟩⟩⟩
theorem c_388 (d : Nat) (X : XS) (i : Nat → Nat → Int32) (j : Nat → Nat → Int64) {ng n : Nat} {w a k : Nat → Int32} (h2 : R2 X i ng) (hL : LK X i ng n a) (s : Nat) (hs : OO X s) {g : Nat} (hg : g < ng) (eg : xr X s 0 = xr X 17 g) (o : Nat) (ho : DO X o) (hD : DY X o i n w a k) {t : Nat} (ht : t < n) (c : Int32) :
    EvI (d + 1) 388 [.ref s, .int c, .ref o, .int (nI t)] (mm X i j) (thR i w a k g t c) (mm X i j) := by
  have hn := hD.1.2
  have h4 := h2.1
  refine s_388 d X i j s hs c o ho (nI t) _ ?_
  rw [eg]
  have df : ∀ z : Int, (c - nI 1000).toInt = z → z ≠ 119 → z ≠ 112 → z ≠ 102 → z ≠ 116 → z ≠ 121 → z ≠ 107 → z ≠ 100 → c = thR i w a k g t c := by
    intro z e z1 z2 z3 z4 z5 z6 z7
    unfold thR
    rw [e, if_neg z1, if_neg z2, if_neg z3, if_neg z4, if_neg z5, if_neg z6, if_neg z7]
  refine br_c (fun z => ⟨?_, rfl⟩) (fun z100 => ?_)
  · simp [thR, z]
  refine br_c (fun z => ⟨df _ z (by decide) (by decide) (by decide) (by decide) (by decide) (by decide) (by decide), rfl⟩) (fun _ => ?_)
  refine br_c (fun z => ?_) (fun z102 => ?_)
  · by_cases t0 : t = 0
    · subst t0
      exact br_t (Int32.le_refl _) ⟨by simp [thR, z], rfl⟩
    · refine br_f (nI_nle (by omega) (by omega)) (br_f (nI_ge (by omega) (by decide)) ?_)
      rw [pk_sub (by omega), tc_nI (by omega), tc_nI (by omega), (hL g hg _ (show t - 1 < n by omega)).1, (hL g hg _ ht).1]
      exact ⟨vp_in_nI (by omega) (by decide), vp_in_nI (by omega) (by decide), by simp [thR, z, t0], rfl⟩
  refine br_c (fun z => ⟨df _ z (by decide) (by decide) (by decide) (by decide) (by decide) (by decide) (by decide), rfl⟩) (fun _ => ?_)
  refine br_c (fun z => ⟨df _ z (by decide) (by decide) (by decide) (by decide) (by decide) (by decide) (by decide), rfl⟩) (fun _ => ?_)
  refine br_c (fun z => ⟨df _ z (by decide) (by decide) (by decide) (by decide) (by decide) (by decide) (by decide), rfl⟩) (fun _ => ?_)
  refine br_c (fun z => ⟨df _ z (by decide) (by decide) (by decide) (by decide) (by decide) (by decide) (by decide), rfl⟩) (fun _ => ?_)
  refine br_c (fun z => ⟨hD.ok, ?_, rfl⟩) (fun z107 => ?_)
  · rw [hD.dk (by omega), wv_in ht]; simp [thR, z]
  refine br_c (fun z => ⟨df _ z (by decide) (by decide) (by decide) (by decide) (by decide) (by decide) (by decide), rfl⟩) (fun _ => ?_)
  refine br_c (fun z => ⟨df _ z (by decide) (by decide) (by decide) (by decide) (by decide) (by decide) (by decide), rfl⟩) (fun _ => ?_)
  refine br_c (fun z => ⟨df _ z (by decide) (by decide) (by decide) (by decide) (by decide) (by decide) (by decide), rfl⟩) (fun _ => ?_)
  refine br_c (fun z => ⟨df _ z (by decide) (by decide) (by decide) (by decide) (by decide) (by decide) (by decide), rfl⟩) (fun _ => ?_)
  refine br_c (fun z => br_f (nI_pos (by omega)) (br_f (nI_ge (by omega) (by decide)) ⟨vp_in_nI (by omega) (by decide), ?_, rfl⟩)) (fun z112 => ?_)
  · rw [tc_nI (by omega), (hL g hg _ ht).1]; simp [thR, z]
  refine br_c (fun z => ⟨df _ z (by decide) (by decide) (by decide) (by decide) (by decide) (by decide) (by decide), rfl⟩) (fun _ => ?_)
  refine br_c (fun z => ⟨df _ z (by decide) (by decide) (by decide) (by decide) (by decide) (by decide) (by decide), rfl⟩) (fun _ => ?_)
  refine br_c (fun z => ⟨df _ z (by decide) (by decide) (by decide) (by decide) (by decide) (by decide) (by decide), rfl⟩) (fun _ => ?_)
  refine br_c (fun z => ⟨hD.ok, ?_, rfl⟩) (fun z116 => ?_)
  · rw [hD.dw (by omega), wv_in ht]; simp [thR, z]
  refine br_c (fun z => ⟨df _ z (by decide) (by decide) (by decide) (by decide) (by decide) (by decide) (by decide), rfl⟩) (fun _ => ?_)
  refine br_c (fun z => ⟨df _ z (by decide) (by decide) (by decide) (by decide) (by decide) (by decide) (by decide), rfl⟩) (fun _ => ?_)
  refine br_c (fun z => ⟨_, c_265w _ X i j h2 hg t (by omega) (nI 0), ?_, rfl⟩) (fun z119 => ?_)
  · rw [(hL g hg _ ht).1]; simp [thR, z]
  refine br_c (fun z => ⟨df _ z (by decide) (by decide) (by decide) (by decide) (by decide) (by decide) (by decide), rfl⟩) (fun _ => ?_)
  refine br_c (fun z => ?_) (fun z121 => ⟨?_, rfl⟩)
  · by_cases t0 : t = 0
    · subst t0
      refine br_t (Int32.le_refl _) ⟨hD.ok, ?_, rfl⟩
      rw [hD.dw (by omega), wv_in ht]; simp [thR, z]
    · refine br_f (nI_nle (by omega) (by omega)) ⟨hD.ok, ?_, rfl⟩
      rw [pk_sub (by omega), hD.dw (by omega), wv_in (by omega)]; simp [thR, z]
  · unfold thR; rw [if_neg z119, if_neg z112, if_neg z102, if_neg z116, if_neg z121, if_neg z107, if_neg z100]
theorem LK.up {X : XS} {i i' : Nat → Nat → Int32} {ng n : Nat} {a : Nat → Int32} (h : LK X i ng n a) (k : Kp X i i') (e : ∀ g, g < ng → i' (xr X (xr X 17 g) 7) = i (xr X (xr X 17 g) 7) ∧ i' (xr X (xr X 17 g) 6) = i (xr X (xr X 17 g) 6)) : LK X i' ng n a := fun g hg t ht => by
  rw [(e g hg).1, (e g hg).2, rdR_kp k, hdR_kp k]
  exact h g hg t ht
theorem c_387v (d : Nat) (X : XS) (i : Nat → Nat → Int32) (j : Nat → Nat → Int64) {ng no n : Nat} {w a k : Nat → Int32} (h2 : R2 X i ng) (h4 : R4 X i no ng) (hL : LK X i ng n a) (o : Nat) (ho : DO X o) (hoT : DT X o) (hD : DY X o i n w a k) {s t : Nat} (hs : s < no) (ht : t < n) :
    ∃ i', EvI (d + 2) 387 [.ref (xr X 23 s), .ref o, .int (nI t)] (mm X i j) (vlF X i w a k s t) (mm X i' j) ∧ (∀ b, xt X b ≠ 30 + s → i' b = i b) := by
  obtain ⟨hO, hT, ⟨g, hg, eg, e56⟩, ⟨hc, hc2⟩, -⟩ := h4.2.2.2 s hs
  have hs10 := hT.1
  have := h2.1
  have hgt : (i 56 s).toNatClampNeg = g := by rw [e56, tc_nI (by omega)]
  have hne : xr X (xr X 23 s) 1 ≠ xr X (xr X 23 s) 2 := fun e => by
    have t1 := hT.2.2.1
    have t2 := hT.2.2.2
    rw [e] at t1
    omega
  obtain ⟨i', hE, hf⟩ := c_387 d X i j (xr X 23 s) hO o ho (t := t) hc rfl hc2 hne (th := thR i w a k g t) (fun i1 h1 c => by
    have t2 := hT.2.2.2
    have kk : Kp X i i1 := ⟨fun b hb _ => h1 b (fun e => by rw [e] at hb; omega), fun q _ => by
      rw [h1 42 (fun e => by rw [← e] at t2; exact absurd (show 0 = 30 + s from t2) (by omega))]⟩
    have e1 : ∀ b, nsc X b → i1 b = i b := fun b hb => h1 b (fun e => hb (by rw [e]; omega))
    have hD1 := hD.kp (e1 _ hoT.1) (e1 _ hoT.2.1) (e1 _ hoT.2.2.1) (e1 _ hoT.2.2.2)
    have hL1 := hL.up kk (fun g hg => by
      have hG := (h2.2.2.2 g hg).2.1
      have hg4 := hG.1
      exact ⟨h1 _ (fun e => by have := hG.2.2.2.2; rw [e] at this; omega), h1 _ (fun e => by have := hG.2.2.2.1; rw [e] at this; omega)⟩)
    have := c_388 d X i1 j (h2.kp kk) hL1 (xr X 23 s) hO hg eg o ho hD1 ht c
    rw [thR_kp kk] at this
    exact this)
  refine ⟨i', ?_, fun b hb => hf b (fun e => hb (by rw [e]; exact hT.2.2.2))⟩
  unfold vlF
  rw [hgt]
  exact hE
