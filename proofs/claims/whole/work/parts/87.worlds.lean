/-! ===== worlds ===== -/
theorem ho13 (X : XS) : (13 : Nat) ≠ 31 ∧ (∀ q, q < 3 → xr X 13 q ≠ 31 ∧ xr X 13 q ≠ 32 ∧ xr X 13 q ≠ 33) ∧ (13 : Nat) ≠ 32 ∧ (13 : Nat) ≠ 33 := by
  refine ⟨by decide, fun q hq => ?_, by decide, by decide⟩
  match q, hq with
  | 0, _ => exact ⟨show 14 ≠ 31 by decide, show 14 ≠ 32 by decide, show 14 ≠ 33 by decide⟩
  | 1, _ => exact ⟨show 15 ≠ 31 by decide, show 15 ≠ 32 by decide, show 15 ≠ 33 by decide⟩
  | 2, _ => exact ⟨show 16 ≠ 31 by decide, show 16 ≠ 32 by decide, show 16 ≠ 33 by decide⟩
def wdW (w : Nat → Int32) (m : Nat) (f : Nat → MS) (t : Nat) : Int32 := if t < m then nI (f (t + 1)).1 else w t
def wdA (a : Nat → Int32) (m : Nat) (f : Nat → MS) (t : Nat) : Int32 := if t < m then (f (t + 1)).2.1 else a t
def wdK (k : Nat → Int32) (m : Nat) (f : Nat → MS) (t : Nat) : Int32 := if t < m then (f (t + 1)).2.2.2 else k t
section wd
variable {w a k : Nat → Int32} {m : Nat} {f : Nat → MS}
theorem wd_i {t : Nat} (h : t < m) : wdW w m f t = nI (f (t + 1)).1 ∧ wdA a m f t = (f (t + 1)).2.1 ∧ wdK k m f t = (f (t + 1)).2.2.2 := ⟨if_pos h, if_pos h, if_pos h⟩
theorem wd_o {t : Nat} (h : m ≤ t) : wdW w m f t = w t ∧ wdA a m f t = a t ∧ wdK k m f t = k t := ⟨if_neg (by omega), if_neg (by omega), if_neg (by omega)⟩
end wd
theorem mx00 (x : Int32) : mxI (nI 0) (mnI x (nI 0)) = nI 0 := by
  unfold mxI mnI
  by_cases h : nI 0 < x
  · rw [if_pos h, if_neg (fun h => Int32.lt_irrefl h)]
  · rw [if_neg h, if_neg h]
/-- the world's sequence from the drawn number r -/
def wF (W : Nat → Nat) (sp : Nat → Int32) (r : Int32) : Nat → MS := mks W sp (0, nI 500, r, 0)
theorem wF_lt (W : Nat → Nat) (sp : Nat → Int32) (r : Int32) (e : Nat) : (wF W sp r e).1 < 4 := mks_lt (show (0 : Nat) < 4 by decide) e
theorem wF_s (W : Nat → Nat) (sp : Nat → Int32) (r : Int32) (e : Nat) : wF W sp r (e + 1) = mkst W sp (wF W sp r e) := rfl
theorem wF_D (W : Nat → Nat) (sp : Nat → Int32) (r : Int32) (e : Nat) : DW W (wF W sp r e).1 (wF W sp r e).2.2.1 (wF W sp r (e + 1)).1 (dwf W (wF W sp r e).1 (wF W sp r e).2.2.1).2 := by rw [wF_s]; exact DW_f _ _ _
theorem wF_0 (W : Nat → Nat) (sp : Nat → Int32) (r : Int32) {e : Nat} (h : e = 0) : (wF W sp r e).1 = 0 ∧ (wF W sp r e).2.1 = nI 500 := by subst h; exact ⟨rfl, rfl⟩
theorem wF_l {W : Nat → Nat} {sp : Nat → Int32} {r : Int32} {m e : Nat} (w a : Nat → Int32) (h : 0 < e) (h2 : e ≤ m) : wdW w m (wF W sp r) (e - 1) = nI (wF W sp r e).1 ∧ wdA a m (wF W sp r) (e - 1) = (wF W sp r e).2.1 := by
  obtain ⟨q1, q2, -⟩ := wd_i (w := w) (a := a) (k := w) (f := wF W sp r) (show e - 1 < m by omega)
  rw [q1, q2, show e - 1 + 1 = e by omega]; exact ⟨rfl, rfl⟩
def wR (W : Nat → Nat) (sp : Nat → Int32) (m : Nat) (r0 : Int32) : Nat → Int32
  | 0 => r0
  | e + 1 => (wF W sp (wR W sp m r0 e) m).2.2.1
set_option maxRecDepth 100000 in
theorem s_9_13 (d : Nat) (X : XS) (i : Nat → Nat → Int32) (j : Nat → Nat → Int64)  (K : AM → Prop) (h : ((0 ≤ ((i 13 3) - (nI 1)) → ((i 13 3) ≤ (nI 240)) ∧ (∃ (x3 : Int32), ∃ (i2 : Nat → Nat → Int32), EvI (d + 3) 8 [.ref 3, .int (dyv (i 13 3) (i 14) ((i 13 3) - (nI 1)))] (mm X i j) x3 (mm X i2 j) ∧ ((i2 13 3) ≤ (nI 240)) ∧ ((¬ ((nI 0) ≤ x3 ∧ x3 ≤ (nI 3)) → (((nI 240) ≤ (i2 13 3) → K (mm X (s2 (s2 i2 3 2 (((i2 3 2) * (Int32.ofNat 1103515245)) + (nI 12345))) 3 2 (((((i2 3 2) * (Int32.ofNat 1103515245)) + (nI 12345)) * (Int32.ofNat 1103515245)) + (nI 12345))) j)) ∧ (¬ ((nI 240) ≤ (i2 13 3)) → (vp_in (i2 13 3) 240) ∧ K (mm X (s2 (s2 (s2 (s2 (s2 (s2 i2 3 2 (((i2 3 2) * (Int32.ofNat 1103515245)) + (nI 12345))) 3 2 (((((i2 3 2) * (Int32.ofNat 1103515245)) + (nI 12345)) * (Int32.ofNat 1103515245)) + (nI 12345))) 14 ((i2 13 3).toNatClampNeg) x3) 15 ((i2 13 3).toNatClampNeg) (mxI (nI 0) (mnI (nI 999) ((((dyv (i2 13 3) (i2 15) ((i 13 3) - (nI 1))) + (nI 0)) + (rmI (ushI (((i2 3 2) * (Int32.ofNat 1103515245)) + (nI 12345)) (nI 16)) (nI 21))) - (nI 10))))) 16 ((i2 13 3).toNatClampNeg) (rmI (ushI (((((i2 3 2) * (Int32.ofNat 1103515245)) + (nI 12345)) * (Int32.ofNat 1103515245)) + (nI 12345)) (nI 16)) (nI 8))) 13 3 ((i2 13 3) + (nI 1))) j)))) ∧ ((nI 0) ≤ x3 ∧ x3 ≤ (nI 3) → (vp_in x3 4) ∧ (((nI 240) ≤ (i2 13 3) → K (mm X (s2 (s2 i2 3 2 (((i2 3 2) * (Int32.ofNat 1103515245)) + (nI 12345))) 3 2 (((((i2 3 2) * (Int32.ofNat 1103515245)) + (nI 12345)) * (Int32.ofNat 1103515245)) + (nI 12345))) j)) ∧ (¬ ((nI 240) ≤ (i2 13 3)) → (vp_in (i2 13 3) 240) ∧ K (mm X (s2 (s2 (s2 (s2 (s2 (s2 i2 3 2 (((i2 3 2) * (Int32.ofNat 1103515245)) + (nI 12345))) 3 2 (((((i2 3 2) * (Int32.ofNat 1103515245)) + (nI 12345)) * (Int32.ofNat 1103515245)) + (nI 12345))) 14 ((i2 13 3).toNatClampNeg) x3) 15 ((i2 13 3).toNatClampNeg) (mxI (nI 0) (mnI (nI 999) ((((dyv (i2 13 3) (i2 15) ((i 13 3) - (nI 1))) + (i2 5 ((x3).toNatClampNeg))) + (rmI (ushI (((i2 3 2) * (Int32.ofNat 1103515245)) + (nI 12345)) (nI 16)) (nI 21))) - (nI 10))))) 16 ((i2 13 3).toNatClampNeg) (rmI (ushI (((((i2 3 2) * (Int32.ofNat 1103515245)) + (nI 12345)) * (Int32.ofNat 1103515245)) + (nI 12345)) (nI 16)) (nI 8))) 13 3 ((i2 13 3) + (nI 1))) j))))))) ∧ (¬ (0 ≤ ((i 13 3) - (nI 1))) → (∃ (x16 : Int32), ∃ (i15 : Nat → Nat → Int32), EvI (d + 3) 8 [.ref 3, .int (nI 0)] (mm X i j) x16 (mm X i15 j) ∧ ((¬ ((nI 0) ≤ x16 ∧ x16 ≤ (nI 3)) → (((nI 240) ≤ (i15 13 3) → K (mm X (s2 (s2 i15 3 2 (((i15 3 2) * (Int32.ofNat 1103515245)) + (nI 12345))) 3 2 (((((i15 3 2) * (Int32.ofNat 1103515245)) + (nI 12345)) * (Int32.ofNat 1103515245)) + (nI 12345))) j)) ∧ (¬ ((nI 240) ≤ (i15 13 3)) → (vp_in (i15 13 3) 240) ∧ K (mm X (s2 (s2 (s2 (s2 (s2 (s2 i15 3 2 (((i15 3 2) * (Int32.ofNat 1103515245)) + (nI 12345))) 3 2 (((((i15 3 2) * (Int32.ofNat 1103515245)) + (nI 12345)) * (Int32.ofNat 1103515245)) + (nI 12345))) 14 ((i15 13 3).toNatClampNeg) x16) 15 ((i15 13 3).toNatClampNeg) (mxI (nI 0) (mnI (nI 999) (((nI 500) + (rmI (ushI (((i15 3 2) * (Int32.ofNat 1103515245)) + (nI 12345)) (nI 16)) (nI 21))) - (nI 10))))) 16 ((i15 13 3).toNatClampNeg) (rmI (ushI (((((i15 3 2) * (Int32.ofNat 1103515245)) + (nI 12345)) * (Int32.ofNat 1103515245)) + (nI 12345)) (nI 16)) (nI 8))) 13 3 ((i15 13 3) + (nI 1))) j)))) ∧ ((nI 0) ≤ x16 ∧ x16 ≤ (nI 3) → (vp_in x16 4) ∧ (((nI 240) ≤ (i15 13 3) → K (mm X (s2 (s2 i15 3 2 (((i15 3 2) * (Int32.ofNat 1103515245)) + (nI 12345))) 3 2 (((((i15 3 2) * (Int32.ofNat 1103515245)) + (nI 12345)) * (Int32.ofNat 1103515245)) + (nI 12345))) j)) ∧ (¬ ((nI 240) ≤ (i15 13 3)) → (vp_in (i15 13 3) 240) ∧ K (mm X (s2 (s2 (s2 (s2 (s2 (s2 i15 3 2 (((i15 3 2) * (Int32.ofNat 1103515245)) + (nI 12345))) 3 2 (((((i15 3 2) * (Int32.ofNat 1103515245)) + (nI 12345)) * (Int32.ofNat 1103515245)) + (nI 12345))) 14 ((i15 13 3).toNatClampNeg) x16) 15 ((i15 13 3).toNatClampNeg) (mxI (nI 0) (mnI (nI 999) ((((nI 500) + (i15 5 ((x16).toNatClampNeg))) + (rmI (ushI (((i15 3 2) * (Int32.ofNat 1103515245)) + (nI 12345)) (nI 16)) (nI 21))) - (nI 10))))) 16 ((i15 13 3).toNatClampNeg) (rmI (ushI (((((i15 3 2) * (Int32.ofNat 1103515245)) + (nI 12345)) * (Int32.ofNat 1103515245)) + (nI 12345)) (nI 16)) (nI 8))) 13 3 ((i15 13 3) + (nI 1))) j))))))))) : WV (d + 4) 9 [.ref 3, .ref 13] (mm X i j) K := te_9 (d + 3) 3 13 (mm X i j) (qV K) ⟨rfl, (te_129 (d + 3) 13 (mm X i j) _ ⟨rfl, ⟨_, rfl, ⟨fun e1 => ⟨rfl, (p_133 (d + 3) X i j 13 (DO13 X) ((i 13 3) - (nI 1)) _ ⟨(h.1 (e1)).1, ⟨rfl, (Exists.elim (h.1 (e1)).2 fun x3 h12 => Exists.elim h12 fun i2 h13 => EvI.use h13.1 ⟨fun _ => ⟨rfl, (p_134 (d + 3) X i2 j 13 (DO13 X) ((i 13 3) - (nI 1)) _ ⟨h13.2.1, (tc_9_42 (d + 3) 3 13 x3 (dyv (i2 13 3) (i2 15) ((i 13 3) - (nI 1))) (mm X i2 j) _ ⟨rfl, (te_5 (d + 2) 3 x3 (mm X i2 j) _ (p_1463 (d + 1) X i2 j x3 _ ⟨fun e5 => ⟨_, rfl, ⟨rfl, (te_7 (d + 3) 3 (nI 21) (mm X i2 j) _ ⟨rfl, ⟨rfl, ⟨fun e6 => absurd e6 (show ¬ ((nI 21) ≤ 0) by decide), fun _ => ⟨rfl, ⟨(by decide), ⟨_, rfl, (te_1465 (d + 3) ((((dyv (i2 13 3) (i2 15) ((i 13 3) - (nI 1))) + (nI 0)) + (rmI (ushI (((i2 3 2) * (Int32.ofNat 1103515245)) + (nI 12345)) (nI 16)) (nI 21))) - (nI 10)) (mm X (s2 i2 3 2 (((i2 3 2) * (Int32.ofNat 1103515245)) + (nI 12345))) j) _ ⟨_, rfl, ⟨rfl, (te_7 (d + 3) 3 (nI 8) (mm X (s2 i2 3 2 (((i2 3 2) * (Int32.ofNat 1103515245)) + (nI 12345))) j) _ ⟨rfl, ⟨rfl, ⟨fun e7 => absurd e7 (show ¬ ((nI 8) ≤ 0) by decide), fun _ => ⟨rfl, ⟨(by decide), ⟨_, rfl, ⟨rfl, (te_131 (d + 3) 13 x3 (mxI (nI 0) (mnI (nI 999) ((((dyv (i2 13 3) (i2 15) ((i 13 3) - (nI 1))) + (nI 0)) + (rmI (ushI (((i2 3 2) * (Int32.ofNat 1103515245)) + (nI 12345)) (nI 16)) (nI 21))) - (nI 10)))) (rmI (ushI (((((i2 3 2) * (Int32.ofNat 1103515245)) + (nI 12345)) * (Int32.ofNat 1103515245)) + (nI 12345)) (nI 16)) (nI 8)) (mm X (s2 (s2 i2 3 2 (((i2 3 2) * (Int32.ofNat 1103515245)) + (nI 12345))) 3 2 (((((i2 3 2) * (Int32.ofNat 1103515245)) + (nI 12345)) * (Int32.ofNat 1103515245)) + (nI 12345))) j) _ ⟨rfl, ⟨fun e8 => ⟨rfl, ⟨rfl, ((h13.2.2.1 ((bi_z e5))).1 (e8))⟩⟩, fun e8 => ⟨rfl, ⟨rfl, ⟨⟨rfl, ((h13.2.2.1 ((bi_z e5))).2 (e8)).1⟩, ⟨rfl, ⟨rfl, ⟨⟨rfl, ((h13.2.2.1 ((bi_z e5))).2 (e8)).1⟩, ⟨rfl, ⟨rfl, ⟨⟨rfl, ((h13.2.2.1 ((bi_z e5))).2 (e8)).1⟩, (tc_131_40 (d + 3) 13 (mm X (s2 (s2 (s2 (s2 (s2 i2 3 2 (((i2 3 2) * (Int32.ofNat 1103515245)) + (nI 12345))) 3 2 (((((i2 3 2) * (Int32.ofNat 1103515245)) + (nI 12345)) * (Int32.ofNat 1103515245)) + (nI 12345))) 14 ((i2 13 3).toNatClampNeg) x3) 15 ((i2 13 3).toNatClampNeg) (mxI (nI 0) (mnI (nI 999) ((((dyv (i2 13 3) (i2 15) ((i 13 3) - (nI 1))) + (nI 0)) + (rmI (ushI (((i2 3 2) * (Int32.ofNat 1103515245)) + (nI 12345)) (nI 16)) (nI 21))) - (nI 10))))) 16 ((i2 13 3).toNatClampNeg) (rmI (ushI (((((i2 3 2) * (Int32.ofNat 1103515245)) + (nI 12345)) * (Int32.ofNat 1103515245)) + (nI 12345)) (nI 16)) (nI 8))) j) _ ⟨rfl, ⟨rfl, ⟨rfl, ⟨rfl, ((h13.2.2.1 ((bi_z e5))).2 (e8)).2⟩⟩⟩⟩)⟩⟩⟩⟩⟩⟩⟩⟩⟩⟩⟩)⟩⟩⟩⟩⟩⟩⟩)⟩⟩)⟩⟩⟩⟩⟩⟩)⟩⟩, fun e5 => ⟨rfl, ⟨⟨rfl, (h13.2.2.2 ((bi_n e5))).1⟩, ⟨_, rfl, ⟨rfl, (te_7 (d + 3) 3 (nI 21) (mm X i2 j) _ ⟨rfl, ⟨rfl, ⟨fun e9 => absurd e9 (show ¬ ((nI 21) ≤ 0) by decide), fun _ => ⟨rfl, ⟨(by decide), ⟨_, rfl, (te_1465 (d + 3) ((((dyv (i2 13 3) (i2 15) ((i 13 3) - (nI 1))) + (i2 5 ((x3).toNatClampNeg))) + (rmI (ushI (((i2 3 2) * (Int32.ofNat 1103515245)) + (nI 12345)) (nI 16)) (nI 21))) - (nI 10)) (mm X (s2 i2 3 2 (((i2 3 2) * (Int32.ofNat 1103515245)) + (nI 12345))) j) _ ⟨_, rfl, ⟨rfl, (te_7 (d + 3) 3 (nI 8) (mm X (s2 i2 3 2 (((i2 3 2) * (Int32.ofNat 1103515245)) + (nI 12345))) j) _ ⟨rfl, ⟨rfl, ⟨fun e10 => absurd e10 (show ¬ ((nI 8) ≤ 0) by decide), fun _ => ⟨rfl, ⟨(by decide), ⟨_, rfl, ⟨rfl, (te_131 (d + 3) 13 x3 (mxI (nI 0) (mnI (nI 999) ((((dyv (i2 13 3) (i2 15) ((i 13 3) - (nI 1))) + (i2 5 ((x3).toNatClampNeg))) + (rmI (ushI (((i2 3 2) * (Int32.ofNat 1103515245)) + (nI 12345)) (nI 16)) (nI 21))) - (nI 10)))) (rmI (ushI (((((i2 3 2) * (Int32.ofNat 1103515245)) + (nI 12345)) * (Int32.ofNat 1103515245)) + (nI 12345)) (nI 16)) (nI 8)) (mm X (s2 (s2 i2 3 2 (((i2 3 2) * (Int32.ofNat 1103515245)) + (nI 12345))) 3 2 (((((i2 3 2) * (Int32.ofNat 1103515245)) + (nI 12345)) * (Int32.ofNat 1103515245)) + (nI 12345))) j) _ ⟨rfl, ⟨fun e11 => ⟨rfl, ⟨rfl, ((h13.2.2.2 ((bi_n e5))).2.1 (e11))⟩⟩, fun e11 => ⟨rfl, ⟨rfl, ⟨⟨rfl, ((h13.2.2.2 ((bi_n e5))).2.2 (e11)).1⟩, ⟨rfl, ⟨rfl, ⟨⟨rfl, ((h13.2.2.2 ((bi_n e5))).2.2 (e11)).1⟩, ⟨rfl, ⟨rfl, ⟨⟨rfl, ((h13.2.2.2 ((bi_n e5))).2.2 (e11)).1⟩, (tc_131_40 (d + 3) 13 (mm X (s2 (s2 (s2 (s2 (s2 i2 3 2 (((i2 3 2) * (Int32.ofNat 1103515245)) + (nI 12345))) 3 2 (((((i2 3 2) * (Int32.ofNat 1103515245)) + (nI 12345)) * (Int32.ofNat 1103515245)) + (nI 12345))) 14 ((i2 13 3).toNatClampNeg) x3) 15 ((i2 13 3).toNatClampNeg) (mxI (nI 0) (mnI (nI 999) ((((dyv (i2 13 3) (i2 15) ((i 13 3) - (nI 1))) + (i2 5 ((x3).toNatClampNeg))) + (rmI (ushI (((i2 3 2) * (Int32.ofNat 1103515245)) + (nI 12345)) (nI 16)) (nI 21))) - (nI 10))))) 16 ((i2 13 3).toNatClampNeg) (rmI (ushI (((((i2 3 2) * (Int32.ofNat 1103515245)) + (nI 12345)) * (Int32.ofNat 1103515245)) + (nI 12345)) (nI 16)) (nI 8))) j) _ ⟨rfl, ⟨rfl, ⟨rfl, ⟨rfl, ((h13.2.2.2 ((bi_n e5))).2.2 (e11)).2⟩⟩⟩⟩)⟩⟩⟩⟩⟩⟩⟩⟩⟩⟩⟩)⟩⟩⟩⟩⟩⟩⟩)⟩⟩)⟩⟩⟩⟩⟩⟩)⟩⟩⟩⟩⟩))⟩)⟩)⟩, fun e4 => absurd ((e1)) e4⟩)⟩⟩)⟩, fun e1 => ⟨rfl, (Exists.elim (h.2 (e1)) fun x16 h25 => Exists.elim h25 fun i15 h26 => EvI.use h26.1 ⟨fun e17 => absurd e17 ((e1)), fun _ => (tc_9_42 (d + 3) 3 13 x16 (nI 500) (mm X i15 j) _ ⟨rfl, (te_5 (d + 2) 3 x16 (mm X i15 j) _ (p_1463 (d + 1) X i15 j x16 _ ⟨fun e18 => ⟨_, rfl, ⟨rfl, (te_7 (d + 3) 3 (nI 21) (mm X i15 j) _ ⟨rfl, ⟨rfl, ⟨fun e19 => absurd e19 (show ¬ ((nI 21) ≤ 0) by decide), fun _ => ⟨rfl, ⟨(by decide), ⟨_, rfl, (te_1465 (d + 3) (((nI 500) + (rmI (ushI (((i15 3 2) * (Int32.ofNat 1103515245)) + (nI 12345)) (nI 16)) (nI 21))) - (nI 10)) (mm X (s2 i15 3 2 (((i15 3 2) * (Int32.ofNat 1103515245)) + (nI 12345))) j) _ ⟨_, rfl, ⟨rfl, (te_7 (d + 3) 3 (nI 8) (mm X (s2 i15 3 2 (((i15 3 2) * (Int32.ofNat 1103515245)) + (nI 12345))) j) _ ⟨rfl, ⟨rfl, ⟨fun e20 => absurd e20 (show ¬ ((nI 8) ≤ 0) by decide), fun _ => ⟨rfl, ⟨(by decide), ⟨_, rfl, ⟨rfl, (te_131 (d + 3) 13 x16 (mxI (nI 0) (mnI (nI 999) (((nI 500) + (rmI (ushI (((i15 3 2) * (Int32.ofNat 1103515245)) + (nI 12345)) (nI 16)) (nI 21))) - (nI 10)))) (rmI (ushI (((((i15 3 2) * (Int32.ofNat 1103515245)) + (nI 12345)) * (Int32.ofNat 1103515245)) + (nI 12345)) (nI 16)) (nI 8)) (mm X (s2 (s2 i15 3 2 (((i15 3 2) * (Int32.ofNat 1103515245)) + (nI 12345))) 3 2 (((((i15 3 2) * (Int32.ofNat 1103515245)) + (nI 12345)) * (Int32.ofNat 1103515245)) + (nI 12345))) j) _ ⟨rfl, ⟨fun e21 => ⟨rfl, ⟨rfl, ((h26.2.1 ((bi_z e18))).1 (e21))⟩⟩, fun e21 => ⟨rfl, ⟨rfl, ⟨⟨rfl, ((h26.2.1 ((bi_z e18))).2 (e21)).1⟩, ⟨rfl, ⟨rfl, ⟨⟨rfl, ((h26.2.1 ((bi_z e18))).2 (e21)).1⟩, ⟨rfl, ⟨rfl, ⟨⟨rfl, ((h26.2.1 ((bi_z e18))).2 (e21)).1⟩, (tc_131_40 (d + 3) 13 (mm X (s2 (s2 (s2 (s2 (s2 i15 3 2 (((i15 3 2) * (Int32.ofNat 1103515245)) + (nI 12345))) 3 2 (((((i15 3 2) * (Int32.ofNat 1103515245)) + (nI 12345)) * (Int32.ofNat 1103515245)) + (nI 12345))) 14 ((i15 13 3).toNatClampNeg) x16) 15 ((i15 13 3).toNatClampNeg) (mxI (nI 0) (mnI (nI 999) (((nI 500) + (rmI (ushI (((i15 3 2) * (Int32.ofNat 1103515245)) + (nI 12345)) (nI 16)) (nI 21))) - (nI 10))))) 16 ((i15 13 3).toNatClampNeg) (rmI (ushI (((((i15 3 2) * (Int32.ofNat 1103515245)) + (nI 12345)) * (Int32.ofNat 1103515245)) + (nI 12345)) (nI 16)) (nI 8))) j) _ ⟨rfl, ⟨rfl, ⟨rfl, ⟨rfl, ((h26.2.1 ((bi_z e18))).2 (e21)).2⟩⟩⟩⟩)⟩⟩⟩⟩⟩⟩⟩⟩⟩⟩⟩)⟩⟩⟩⟩⟩⟩⟩)⟩⟩)⟩⟩⟩⟩⟩⟩)⟩⟩, fun e18 => ⟨rfl, ⟨⟨rfl, (h26.2.2 ((bi_n e18))).1⟩, ⟨_, rfl, ⟨rfl, (te_7 (d + 3) 3 (nI 21) (mm X i15 j) _ ⟨rfl, ⟨rfl, ⟨fun e22 => absurd e22 (show ¬ ((nI 21) ≤ 0) by decide), fun _ => ⟨rfl, ⟨(by decide), ⟨_, rfl, (te_1465 (d + 3) ((((nI 500) + (i15 5 ((x16).toNatClampNeg))) + (rmI (ushI (((i15 3 2) * (Int32.ofNat 1103515245)) + (nI 12345)) (nI 16)) (nI 21))) - (nI 10)) (mm X (s2 i15 3 2 (((i15 3 2) * (Int32.ofNat 1103515245)) + (nI 12345))) j) _ ⟨_, rfl, ⟨rfl, (te_7 (d + 3) 3 (nI 8) (mm X (s2 i15 3 2 (((i15 3 2) * (Int32.ofNat 1103515245)) + (nI 12345))) j) _ ⟨rfl, ⟨rfl, ⟨fun e23 => absurd e23 (show ¬ ((nI 8) ≤ 0) by decide), fun _ => ⟨rfl, ⟨(by decide), ⟨_, rfl, ⟨rfl, (te_131 (d + 3) 13 x16 (mxI (nI 0) (mnI (nI 999) ((((nI 500) + (i15 5 ((x16).toNatClampNeg))) + (rmI (ushI (((i15 3 2) * (Int32.ofNat 1103515245)) + (nI 12345)) (nI 16)) (nI 21))) - (nI 10)))) (rmI (ushI (((((i15 3 2) * (Int32.ofNat 1103515245)) + (nI 12345)) * (Int32.ofNat 1103515245)) + (nI 12345)) (nI 16)) (nI 8)) (mm X (s2 (s2 i15 3 2 (((i15 3 2) * (Int32.ofNat 1103515245)) + (nI 12345))) 3 2 (((((i15 3 2) * (Int32.ofNat 1103515245)) + (nI 12345)) * (Int32.ofNat 1103515245)) + (nI 12345))) j) _ ⟨rfl, ⟨fun e24 => ⟨rfl, ⟨rfl, ((h26.2.2 ((bi_n e18))).2.1 (e24))⟩⟩, fun e24 => ⟨rfl, ⟨rfl, ⟨⟨rfl, ((h26.2.2 ((bi_n e18))).2.2 (e24)).1⟩, ⟨rfl, ⟨rfl, ⟨⟨rfl, ((h26.2.2 ((bi_n e18))).2.2 (e24)).1⟩, ⟨rfl, ⟨rfl, ⟨⟨rfl, ((h26.2.2 ((bi_n e18))).2.2 (e24)).1⟩, (tc_131_40 (d + 3) 13 (mm X (s2 (s2 (s2 (s2 (s2 i15 3 2 (((i15 3 2) * (Int32.ofNat 1103515245)) + (nI 12345))) 3 2 (((((i15 3 2) * (Int32.ofNat 1103515245)) + (nI 12345)) * (Int32.ofNat 1103515245)) + (nI 12345))) 14 ((i15 13 3).toNatClampNeg) x16) 15 ((i15 13 3).toNatClampNeg) (mxI (nI 0) (mnI (nI 999) ((((nI 500) + (i15 5 ((x16).toNatClampNeg))) + (rmI (ushI (((i15 3 2) * (Int32.ofNat 1103515245)) + (nI 12345)) (nI 16)) (nI 21))) - (nI 10))))) 16 ((i15 13 3).toNatClampNeg) (rmI (ushI (((((i15 3 2) * (Int32.ofNat 1103515245)) + (nI 12345)) * (Int32.ofNat 1103515245)) + (nI 12345)) (nI 16)) (nI 8))) j) _ ⟨rfl, ⟨rfl, ⟨rfl, ⟨rfl, ((h26.2.2 ((bi_n e18))).2.2 (e24)).2⟩⟩⟩⟩)⟩⟩⟩⟩⟩⟩⟩⟩⟩⟩⟩)⟩⟩⟩⟩⟩⟩⟩)⟩⟩)⟩⟩⟩⟩⟩⟩)⟩⟩⟩⟩⟩))⟩)⟩)⟩⟩⟩⟩)⟩
theorem c_9_13 (d : Nat) (X : XS) (i : Nat → Nat → Int32) (j : Nat → Nat → Int64) {W : Nat → Nat} (hW : ∀ q, q < 16 → i 4 q = nI (W q) ∧ W q < 10) {n : Nat} (hn : n < 240) {w a k : Nat → Int32} (hD : DY X 13 i n w a k) {l : Nat} (hl : l < 4) (l0 : n = 0 → l = 0) (l1 : 0 < n → w (n - 1) = nI l) {a0 : Int32} (b0 : n = 0 → a0 = nI 500) (b1 : 0 < n → a (n - 1) = a0) {v : Nat} {r : Int32} (h : DW W l (i 3 2) v r)
    (h1 : w n = nI v) (h2 : a n = mkA a0 (i 5 v) (rn r)) (h3 : k n = mkK (rn (rn r))) :
    ∃ i', EvV (d + 4) 9 [.ref 3, .ref 13] (mm X i j) (mm X i' j) ∧ i' 3 2 = rn (rn r) ∧ DY X 13 i' (n + 1) w a k ∧ (∀ b, b ≠ 3 → b ≠ 13 → b ≠ 14 → b ≠ 15 → b ≠ 16 → i' b = i b) := by
  have e1 := hD.1.1
  have hv4 := h.lt hl
  obtain ⟨iA, hA⟩ : ∃ iA, iA = s2 i 3 2 r := ⟨_, rfl⟩
  have fA : ∀ b, b ≠ 3 → iA b = i b := fun b hb => by rw [hA, s2_ne hb]
  have rA : iA 3 2 = r := by rw [hA, s2_self]
  have v0 : nI 0 ≤ nI v ∧ nI v ≤ nI 3 := ⟨nI_le (by omega) (by omega), nI_le (by omega) (by decide)⟩
  have hDA : DY X 13 iA n w a k := hD.kp (fA 13 (by decide)) (fA 14 (by decide)) (fA 15 (by decide)) (fA 16 (by decide))
  have fin : ∃ i', i' = (s2 (s2 (s2 (s2 (s2 (s2 iA 3 2 (rn r)) 3 2 (rn (rn r))) 14 n (nI v)) 15 n (mkA a0 (i 5 v) (rn r))) 16 n (mkK (rn (rn r)))) 13 3 (nI n + nI 1)) ∧ i' 3 2 = rn (rn r) ∧ DY X 13 i' (n + 1) w a k ∧ (∀ b, b ≠ 3 → b ≠ 13 → b ≠ 14 → b ≠ 15 → b ≠ 16 → i' b = i b) := by
    refine ⟨_, rfl, ?_, ?_, fun b x3 x4 x5 x6 x7 => ?_⟩
    · rw [s2_ne (show 3 ≠ 13 by decide), s2_ne (show 3 ≠ 16 by decide), s2_ne (show 3 ≠ 15 by decide), s2_ne (show 3 ≠ 14 by decide), s2_self]
    · refine dy_add (p := 14) (q := 15) (r := 16) rfl rfl rfl ⟨by decide, by decide, by decide, by decide, by decide, by decide⟩ ?_ hn h1 h2 h3
      have g : ∀ b, b ≠ 3 → (s2 (s2 iA 3 2 (rn r)) 3 2 (rn (rn r))) b = iA b := fun b hb => by rw [s2_ne hb, s2_ne hb]
      exact hDA.kp (g 13 (by decide)) (g 14 (by decide)) (g 15 (by decide)) (g 16 (by decide))
    · rw [s2_ne x4, s2_ne x7, s2_ne x6, s2_ne x5, s2_ne x3, s2_ne x3]; exact fA b x3
  obtain ⟨i', hi', q1, q2, q3⟩ := fin
  refine ⟨i', ?_, q1, q2, q3⟩
  have eA : iA 13 3 = nI n := (congrFun (fA 13 (by decide)) 3).trans e1
  refine s_9_13 _ X i j _ ?_
  rw [e1]
  refine br_c (fun z => ?_) (fun z => ?_)
  · have n0 : 0 < n := by
      refine Nat.pos_of_ne_zero fun e => ?_
      subst e
      exact absurd z (by decide)
    refine ⟨nI_le (by omega) (by decide), nI v, iA, ?_, ?_⟩
    · have hh := c_8 (d := d) X i j hW hl h
      rw [← hA] at hh
      have hw1 : dyv (nI n) (i 14) (nI (n - 1)) = nI l := by
        have q := hD.dw (t := n - 1) (by omega)
        rw [e1] at q
        exact q.trans ((wv_in (by omega)).trans (l1 n0))
      rw [pk_sub (by omega), hw1]
      exact hh
    · rw [eA, rA, tc_nI (by omega), tc_nI (by omega)]
      refine ⟨nI_le (by omega) (by decide), bq_f v0 ⟨vp_in_nI (by omega) (by decide), br_f (nI_ge hn (by decide)) ⟨vp_in_nI hn (by decide), ?_⟩⟩⟩
      rw [hi']
      have ea : dyv (nI n) (iA 15) (nI n - nI 1) = a0 := by
        have q := hDA.da (t := n - 1) (by omega)
        rw [eA] at q
        rw [pk_sub (by omega)]
        exact q.trans ((wv_in (by omega)).trans (b1 n0))
      rw [ea, fA 5 (by decide)]
      rfl
  · have n0 : n = 0 := Classical.byContradiction fun e => z (by rw [pk_sub (by omega)]; exact nI_pos' (by omega))
    refine ⟨nI v, iA, ?_, ?_⟩
    · have hh := c_8 (d := d) X i j hW hl h
      rw [← hA, l0 n0] at hh
      exact hh
    · rw [eA, rA, tc_nI (by omega), tc_nI (by omega)]
      refine bq_f v0 ⟨vp_in_nI (by omega) (by decide), br_f (nI_ge hn (by decide)) ⟨vp_in_nI hn (by decide), ?_⟩⟩
      rw [hi', b0 n0, fA 5 (by decide)]
      rfl

set_option maxRecDepth 100000 in
theorem s_1487 (d : Nat) (X : XS) (i : Nat → Nat → Int32) (j : Nat → Nat → Int64) (a1 : Int32) (K : AM → Prop) (h : WP (d + 5) 1487 (10, [(0, .ref 2), (1, .int a1), (2, .int (nI 0))], [], (mm X (s2 i 13 3 (mxI (nI 0) (mnI (i 13 3) (nI 0)))) j)) (qV K)) : WV (d + 5) 1487 [.ref 2, .int a1] (mm X i j) K := te_1487 (d + 4) 2 a1 (mm X i j) (qV K) ⟨rfl, ⟨rfl, (te_132 (d + 4) 13 (nI 0) (mm X i j) _ ⟨rfl, ⟨rfl, ⟨rfl, h⟩⟩⟩)⟩⟩
set_option maxRecDepth 100000 in
theorem s_1487_10 (d : Nat) (X : XS) (i : Nat → Nat → Int32) (j : Nat → Nat → Int64) (v1 : Int32) (v2 : Int32) (Q : Option (Option Value) → AM → Prop) (h : ((v1 ≤ v2 → Q (some none) (mm X i j)) ∧ (¬ (v1 ≤ v2) → (∃ (i2 : Nat → Nat → Int32), EvV (d + 4) 9 [.ref 3, .ref 13] (mm X i j) (mm X i2 j) ∧ WP (d + 5) 1487 (10, [(0, .ref 2), (1, .int v1), (2, .int (v2 + (nI 1)))], [], (mm X i2 j)) Q)))) : WP (d + 5) 1487 (10, [(0, .ref 2), (1, .int v1), (2, .int v2)], [], mm X i j) Q := tc_1487_10 (d + 4) 2 v1 v2 (mm X i j) Q ⟨fun e1 => (h.1 (e1)), fun e1 => ⟨rfl, ⟨rfl, ⟨rfl, (Exists.elim (h.2 (e1)) fun i2 h3 => EvV.use h3.1 h3.2)⟩⟩⟩⟩
theorem c_1487 (d : Nat) (X : XS) (i : Nat → Nat → Int32) (j : Nat → Nat → Int64) {W : Nat → Nat} (hW : ∀ q, q < 16 → i 4 q = nI (W q) ∧ W q < 10) {sp : Nat → Int32} (hs : ∀ q, q < 4 → i 5 q = sp q) {m : Nat} (hm : m ≤ 240) (w a k : Nat → Int32) :
    ∃ i', EvV (d + 5) 1487 [.ref 2, .int (nI m)] (mm X i j) (mm X i' j) ∧ i' 3 2 = (wF W sp (i 3 2) m).2.2.1 ∧ DY X 13 i' m (wdW w m (wF W sp (i 3 2))) (wdA a m (wF W sp (i 3 2))) (wdK k m (wF W sp (i 3 2))) ∧ (∀ b, b ≠ 3 → b ≠ 13 → b ≠ 14 → b ≠ 15 → b ≠ 16 → i' b = i b) := by
  refine EvV.ex ?_
  obtain ⟨f, hf⟩ : ∃ f, f = wF W sp (i 3 2) := ⟨_, rfl⟩
  rw [← hf]
  refine s_1487 _ X i j (nI m) _ ?_
  refine lup m (fun e (i1 : Nat → Nat → Int32) => i1 3 2 = (f e).2.2.1 ∧ DY X 13 i1 e (wdW w m f) (wdA a m f) (wdK k m f) ∧ (∀ b, b ≠ 3 → b ≠ 13 → b ≠ 14 → b ≠ 15 → b ≠ 16 → i1 b = i b)) (fun e i1 => (10, [(0, .ref 2), (1, .int (nI m)), (2, .int (nI e))], [], mm X i1 j)) ?_ ?_ 0 _ (Nat.zero_le _) ⟨?_, ⟨⟨?_, by omega⟩, fun t ht => absurd ht (by omega)⟩, fun b _ h13 _ _ _ => s2_ne h13⟩
  · rintro i1 ⟨hr, hc, f1⟩
    try dsimp only
    exact s_1487_10 _ X i1 j _ _ _ (br_t (Int32.le_refl _) (qV_of ⟨i1, rfl, hr, hc, f1⟩))
  · rintro e i1 he ⟨hr, hc, f1⟩ go
    try dsimp only
    refine s_1487_10 _ X i1 j _ _ _ (br_f (nI_ge he (by omega)) ?_)
    obtain ⟨b1, b2, b3⟩ := wd_i (w := w) (a := a) (k := k) (f := f) he
    have e4 : i1 4 = i 4 := f1 4 (by decide) (by decide) (by decide) (by decide) (by decide)
    have e5 : i1 5 = i 5 := f1 5 (by decide) (by decide) (by decide) (by decide) (by decide)
    have hD : DW W (f e).1 (f e).2.2.1 (f (e + 1)).1 (dwf W (f e).1 (f e).2.2.1).2 := by rw [hf]; exact wF_D _ _ _ _
    have fS : f (e + 1) = mkst W sp (f e) := by rw [hf]; rfl
    have hl4 : (f e).1 < 4 := by rw [hf]; exact wF_lt _ _ _ _
    have hl5 : (f (e + 1)).1 < 4 := by rw [hf]; exact wF_lt _ _ _ _
    have z0 : e = 0 → (f e).1 = 0 ∧ (f e).2.1 = nI 500 := fun h => by rw [hf]; exact wF_0 _ _ _ h
    have z1 : 0 < e → wdW w m f (e - 1) = nI (f e).1 ∧ wdA a m f (e - 1) = (f e).2.1 := fun h => by rw [hf]; exact wF_l w a h (by omega)
    obtain ⟨i3, hE, q1, q2, q3⟩ := c_9_13 d X i1 j (W := W) (fun q hq => by rw [e4]; exact hW q hq) (show e < 240 by omega) hc hl4 (fun z => (z0 z).1) (fun z => (z1 z).1) (a0 := (f e).2.1) (fun z => (z0 z).2) (fun z => (z1 z).2) (v := (f (e + 1)).1) (by rw [hr]; exact hD) b1 (by rw [b2, e5, hs _ hl5, fS]; rfl) (by rw [b3, fS]; rfl)
    rw [nI_add]
    refine ⟨i3, hE, go i3 ⟨?_, q2, fun b c3 c9 c10 c11 c12 => (q3 b c3 c9 c10 c11 c12).trans (f1 b c3 c9 c10 c11 c12)⟩⟩
    rw [q1, fS]; rfl
  · rw [s2_ne (by decide), hf]; rfl
  · rw [s2_self]; exact mx00 _
/-- what a world leaves of both -/
def KW (X : XS) (i i' : Nat → Nat → Int32) : Prop := (∀ b, ¬ (10 ≤ xt X b ∧ xt X b < 50) → b ≠ 3 → b ≠ 42 → b ≠ 43 → b ≠ 44 → b ≠ 45 → i' b = i b) ∧ (∀ k, k < 35 → k ≠ 0 → k ≠ 6 → i' 42 k = i 42 k)
section kw
variable {X : XS} {i i' : Nat → Nat → Int32}
theorem KW.ag (h : KW X i i') : Ag X (fun b => scrB b || upN [3, 43, 44, 45] b) (fun t => 10 ≤ t ∧ t < 50) (fun k => Nat.ble 35 k || upN [0, 6] k) (fun _ => false) i i' := by
  refine ⟨fun b hb he h42 _ => ?_, fun b hb ht => h.1 b ht (by omega) (by omega) (by omega) (by omega) (by omega), fun k hk => ?_, fun k _ => by rw [h.1 2 (fun z => absurd (show 10 ≤ 0 from z.1) (by decide)) (by decide) (by decide) (by decide) (by decide) (by decide)]⟩
  · rw [Bool.or_eq_false_iff] at he
    have q := upN_ne he.2
    refine h.1 b (fun z => ?_) (q 3 (by simp)) h42 (q 43 (by simp)) (q 44 (by simp)) (q 45 (by simp))
    rw [xt_fix X hb] at z
    have he := he.1
    unfold scrB at he
    rw [Bool.and_eq_false_iff] at he
    rcases he with he | he
    · rw [Nat.ble_eq.mpr z.1] at he; cases he
    · rw [Nat.ble_eq.mpr (by omega)] at he; cases he
  · rw [Bool.or_eq_false_iff] at hk
    have q := upN_ne hk.2
    refine h.2 k (Classical.byContradiction fun z => ?_) (q 0 (by simp)) (q 6 (by simp))
    have hk := hk.1
    rw [show Nat.ble 35 k = true from Nat.ble_eq.mpr (by omega)] at hk; cases hk
theorem R2.kw {n : Nat} (h : R2 X i n) (k : KW X i i') : R2 X i' n := h.ag k.ag rfl (fun t ht z => by omega)
theorem R4.kw {no ng : Nat} (h : R4 X i no ng) (k : KW X i i') : R4 X i' no ng := h.ag k.ag rfl (fun t ht z => by omega)
theorem KW.f (k : KW X i i') (b : Nat) (hb : (Nat.ble b 77 && (!scrB b && (!upN [3, 42, 43, 44, 45] b))) = true) : i' b = i b := by
  simp only [Bool.and_eq_true, Bool.not_eq_true'] at hb
  have q := upN_ne hb.2.2
  refine k.1 b (fun z => ?_) (q 3 (by simp)) (q 42 (by simp)) (q 43 (by simp)) (q 44 (by simp)) (q 45 (by simp))
  rw [xt_fix X (Nat.le_of_ble_eq_true hb.1)] at z
  have he := hb.2.1
  unfold scrB at he
  rw [Bool.and_eq_false_iff] at he
  rcases he with he | he
  · rw [Nat.ble_eq.mpr z.1] at he; cases he
  · rw [Nat.ble_eq.mpr (by omega)] at he; cases he
theorem vlF_kw {no ng : Nat} (h : R4 X i no ng) (k : KW X i i') (w a kk : Nat → Int32) {s : Nat} (hs : s < no) (t : Nat) : vlF X i' w a kk s t = vlF X i w a kk s t := by
  have hh := h.2.2.2 s hs
  have l77 := xt_big (X := X) (a := xr X (xr X 23 s) 1) (by have := hh.2.1.2.2.1; omega)
  have e2 : i' (xr X (xr X 23 s) 1) = i (xr X (xr X 23 s) 1) := k.1 _ (by have := hh.2.1.2.2.1; omega) (by omega) (by omega) (by omega) (by omega) (by omega)
  have er : ∀ g t, rdR i' a g t = rdR i a g t := fun g t => by
    unfold rdR; rw [k.f 48 rfl, k.f 49 rfl, k.f 50 rfl, k.f 51 rfl]
  have ew : ∀ g sh v, wdR i' g sh v = wdR i g sh v := fun g sh v => by
    unfold wdR mcN; rw [k.f 52 rfl, k.f 53 rfl]
  have et : ∀ g, thR i' w a kk g t = thR i w a kk g t := fun g => by
    funext c
    unfold thR
    rw [er, er, ew]
  unfold vlF
  rw [e2, k.f 56 rfl, et]
theorem stF_kw {no ng : Nat} (h : R4 X i no ng) (k : KW X i i') (w a kk : Nat → Int32) (bits : Int32) (t : Nat) : ∀ e, e ≤ no → stF X i' w a kk bits t e = stF X i w a kk bits t e
  | 0, _ => rfl
  | e + 1, he => by
    unfold stF
    rw [stF_kw h k w a kk bits t e (by omega), vlF_kw h k w a kk (by omega) t]
theorem stF_B {no : Nat} (hno : no ≤ 10) (w a k : Nat → Int32) (bits : Int32) (kn : Nat) : SB kn (fun t => stF X i w a k bits t no) := fun t _ => by
  have key : ∀ e, e ≤ no → ∃ m, m < 2 ^ e ∧ stF X i w a k bits t e = nI m := by
    intro e
    induction e with
    | zero => intro _; exact ⟨0, by decide, rfl⟩
    | succ e ih =>
      intro he
      obtain ⟨m, hm, em⟩ := ih (by omega)
      by_cases hc : ¬ (shrI bits (nI e) &&& nI 1) = 0 ∧ ¬ vlF X i w a k e t = 0
      · refine ⟨m ||| 2 ^ e, ?_, ?_⟩
        · exact Nat.or_lt_two_pow (Nat.lt_of_lt_of_le hm (Nat.pow_le_pow_right (by decide) (by omega))) (Nat.pow_lt_pow_right (by decide) (by omega))
        · rw [stF, if_pos hc, em, shl10 e (by omega), nI_or]
      · exact ⟨m, Nat.lt_of_lt_of_le hm (Nat.pow_le_pow_right (by decide) (by omega)), by rw [stF, if_neg hc, em]⟩
  obtain ⟨m, hm, em⟩ := key no (Nat.le_refl _)
  exact ⟨m, Nat.lt_of_lt_of_le hm (by have := Nat.pow_le_pow_right (n := 2) (by decide) hno; omega), em⟩
theorem Rel.wld {j j' : Nat → Nat → Int64} (h : Rel X i j) (f : ∀ b, ¬ (10 ≤ xt X b ∧ xt X b < 50) → b ≠ 3 → b ≠ 42 → i' b = i b) (e3 : i' 3 2 = i 3 2) (f42 : ∀ k, k < 35 → i' 42 k = i 42 k) (z : RZ i') (r8 : R8 i' j') : Rel X i' j' := by
  obtain ⟨hx, ⟨⟨n, h0⟩, h1, ⟨ng, h2, no, h4⟩, ⟨tn, h3⟩, ⟨np, h5⟩, h6, ns, h7⟩, h8, hz⟩ := h
  have g : Ag X (fun b => scrB b || upN [3] b) (fun t => 10 ≤ t ∧ t < 50) (fun k => Nat.ble 35 k) (fun _ => false) i i' := by
    refine ⟨fun b hb he h42 _ => ?_, fun b hb ht => f b ht (by omega) (by omega), fun k hk => ?_, fun k _ => by rw [f 2 (fun z => absurd (show 10 ≤ 0 from z.1) (by decide)) (by decide) (by decide)]⟩
    · rw [Bool.or_eq_false_iff] at he
      have q := upN_ne he.2
      refine f b (fun z => ?_) (q 3 (by simp)) h42
      rw [xt_fix X hb] at z
      have he := he.1
      unfold scrB at he
      rw [Bool.and_eq_false_iff] at he
      rcases he with he | he
      · rw [Nat.ble_eq.mpr z.1] at he; cases he
      · rw [Nat.ble_eq.mpr (by omega)] at he; cases he
    · refine f42 k (Classical.byContradiction fun z => ?_)
      dsimp only at hk
      rw [show Nat.ble 35 k = true from Nat.ble_eq.mpr (by omega)] at hk; cases hk
  refine ⟨hx, ⟨⟨n, h0.ag g rfl⟩, ?_, ⟨ng, h2.ag g rfl (fun t ht z => by omega), no, h4.ag g rfl (fun t ht z => by omega)⟩, ⟨tn, h3.ag g rfl⟩, ⟨np, h5.ag g rfl (fun t ht z => by omega)⟩, h6.ag g rfl, ns, h7.ag g rfl⟩, r8, z⟩
  obtain ⟨r1, r2⟩ := h1
  refine ⟨by rw [e3, f42 6 (by decide)]; exact r1, ?_⟩
  rw [g.f 4 rfl, g.f 5 rfl, g.f 6 rfl, g.f 7 rfl, g.f 8 rfl, g.f 46 rfl, g.f 47 rfl, g.f 66 rfl, g.f 67 rfl, g.f 68 rfl]
  exact r2
end kw
set_option maxRecDepth 100000 in
theorem s_1608 (d : Nat) (X : XS) (i : Nat → Nat → Int32) (j : Nat → Nat → Int64) (a1 : Int32) (a2 : Int32) (K : Int32 → AM → Prop) (h : (∃ (x1 : Int32), EvI (d + 3) 1603 [.ref 42, .int a1, .int (nI 1), .int (nI 0), .int (i 42 46)] (mm X i j) x1 (mm X i j) ∧ (∃ (x2 : Int32), EvI (d + 3) 1603 [.ref 42, .int a1, .int (nI 0), .int (nI 0), .int (i 42 46)] (mm X i j) x2 (mm X i j) ∧ ((x2 ≤ x1 → (∃ (x4 : Int32), EvI (d + 4) 1603 [.ref 42, .int a1, .int (nI 0), .int (nI 0), .int (i 42 46)] (mm X i j) x4 (mm X i j) ∧ (∃ (x6 : Int32), ∃ (i5 : Nat → Nat → Int32), EvI (d + 4) 1607 [.ref 42, .int a1, .int a2] (mm X i j) x6 (mm X i5 j) ∧ K (x4 - x6) (mm X i5 j)))) ∧ (¬ (x2 ≤ x1) → (∃ (x12 : Int32), EvI (d + 4) 1603 [.ref 42, .int a1, .int (nI 1), .int (nI 0), .int (i 42 46)] (mm X i j) x12 (mm X i j) ∧ (∃ (x14 : Int32), ∃ (i13 : Nat → Nat → Int32), EvI (d + 4) 1607 [.ref 42, .int a1, .int a2] (mm X i j) x14 (mm X i13 j) ∧ K (x12 - x14) (mm X i13 j)))))))) : WI (d + 5) 1608 [.ref 42, .int a1, .int a2] (mm X i j) K := te_1608 (d + 4) 42 a1 a2 (mm X i j) (qI K) ⟨rfl, ⟨rfl, (te_1604 (d + 3) 42 a1 (nI 0) (i 42 46) (mm X i j) _ ⟨rfl, (Exists.elim h fun x1 h22 => EvI.use h22.1 ⟨rfl, (Exists.elim h22.2 fun x2 h20 => EvI.use h20.1 ⟨fun e3 => ⟨k0_01, ⟨_, rfl, ⟨rfl, ⟨rfl, (Exists.elim (h20.2.1 (e3)) fun x4 h10 => EvI.use h10.1 ⟨rfl, (Exists.elim h10.2 fun x6 h7 => Exists.elim h7 fun i5 h8 => EvI.use h8.1 ⟨_, rfl, h8.2⟩)⟩)⟩⟩⟩⟩, fun e3 => ⟨k1_01, ⟨_, rfl, ⟨rfl, ⟨rfl, (Exists.elim (h20.2.2 (e3)) fun x12 h18 => EvI.use h18.1 ⟨rfl, (Exists.elim h18.2 fun x14 h15 => Exists.elim h15 fun i13 h16 => EvI.use h16.1 ⟨_, rfl, h16.2⟩)⟩)⟩⟩⟩⟩⟩)⟩)⟩)⟩⟩
theorem c_1608 (d : Nat) (X : XS) (i : Nat → Nat → Int32) (j : Nat → Nat → Int64) {p n : Nat} (hp : p < 6) (hn : n ≤ 240) {so : Nat → Int32} {ca : Nat → Prop} (h46 : i 42 46 = nI n) (hs : ∀ t, t < n → i 72 t = so t) (hc : ∀ t, t < n → i 73 t = bi (ca t)) (bits : Int32) :
    EvI (d + 5) 1608 [.ref 42, .int (nI p), .int bits] (mm X i j) (blC (i 57 p) (i 58 p) (i 59 p) ca n - byS (i 57 p) (i 58 p) (i 59 p) so ca bits n n) (mm X (s2 i 42 48 (nI (ct (fst1 so bits) n))) j) := by
  have c1 := cb_1603 0 X i j hp bT hn hc
  have c2 := cb_1603 0 X i j hp bF hn hc
  have c3 := c_1607 d X i j hp hn h46 hs hc bits
  refine s_1608 _ X i j _ _ _ ?_
  rw [h46]
  refine ⟨_, c1.up (by omega), _, c2.up (by omega), ?_⟩
  rw [saN]
  by_cases hb : saP (i 57 p) (i 58 p) (i 59 p) (nI n) (nI (ct ca n))
  · exact br_f (fun y => y hb) ⟨_, c1.up (by omega), _, _, c3, by rw [blT hb], rfl⟩
  · exact br_t hb ⟨_, c2.up (by omega), _, _, c3, by rw [blF hb], rfl⟩
def mxN (f : Nat → Nat) : Nat → Nat
  | 0 => 0
  | n + 1 => max (mxN f n) (f n)
theorem mxN_le {f : Nat → Nat} {c : Nat} (h : ∀ t, f t ≤ c) : ∀ n, mxN f n ≤ c
  | 0 => Nat.zero_le _
  | n + 1 => by rw [mxN]; have := mxN_le h n; have := h n; omega
