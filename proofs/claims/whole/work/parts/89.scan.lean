/-! ===== the class's scanner ===== -/
def ltI (x : Int32) : Int32 := match prm 385 [.int x] with
  | some (.int v) => v
  | _ => 0
theorem p_385 (d : Nat) (X : XS) (i : Nat → Nat → Int32) (j : Nat → Nat → Int64) (x : Int32) (K : Int32 → AM → Prop) (h : K (ltI x) (mm X i j)) : WI d 385 [.int x] (mm X i j) K := ⟨0, _, rfl, _, rfl, h⟩
theorem lt_b : ∀ b, b < 256 → ltI (nI b) = nI (if isLt b then 1 else 0) := by decide +kernel
theorem stI_b : ∀ b, b < 256 → stI (nI b) = nI (stN b) := by decide +kernel
theorem stN_5 (b : Nat) : stN b ≤ 5 := by
  unfold stN
  repeat' split
  all_goals decide
def StkN (f : Nat → Int32) : List Nat → Prop
  | [] => True
  | x :: r => f r.length = nI x ∧ StkN f r
theorem StkN.up {f g : Nat → Int32} : ∀ {w : List Nat}, StkN f w → (∀ q, q < w.length → g q = f q) → StkN g w
  | [], _, _ => trivial
  | x :: r, h, e => ⟨(e _ (by simp)).trans h.1, h.2.up fun q hq => e q (by simp; omega)⟩
/-- code and what waits, in the class's cells -/
def CWr (i : Nat → Nat → Int32) (cd wt : List Nat) : Prop := i 18 3 = nI cd.length ∧ (∀ q, q < cd.length → i 20 q = nI (cd.getD q 0)) ∧ i 18 5 = nI wt.length ∧ StkN (i 21) wt ∧ ∀ x, x ∈ wt → x < 256
def SCr (i : Nat → Nat → Int32) (cd wt : List Nat) (m : Nat → Bool) (br dg : Nat) (wa : Bool) : Prop := CWr i cd wt ∧ (∀ q, q ≤ br → i 22 q = nI (if m q then 1 else 0)) ∧ i 18 7 = nI br ∧ i 18 8 = nI dg ∧ i 18 9 = nI (if wa then 1 else 0) ∧ br ≤ 5 ∧ dg ≤ 3
def FrT (i i' : Nat → Nat → Int32) : Prop := (∀ b, b ≠ 18 → b ≠ 20 → b ≠ 21 → b ≠ 22 → i' b = i b) ∧ i' 18 1 = i 18 1
theorem FrT.rf {i : Nat → Nat → Int32} : FrT i i := ⟨fun _ _ _ _ _ => rfl, rfl⟩
theorem FrT.tr {i i' i'' : Nat → Nat → Int32} (h : FrT i i') (h2 : FrT i' i'') : FrT i i'' := ⟨fun b h1 h3 h4 h5 => (h2.1 b h1 h3 h4 h5).trans (h.1 b h1 h3 h4 h5), h2.2.trans h.2⟩
/-- a number written behind the code -/
theorem CWr.wr {i : Nat → Nat → Int32} {cd wt : List Nat} (h : CWr i cd wt) (v : Nat) {i' : Nat → Nat → Int32} (e3 : i' 18 3 = nI (cd.length + 1)) (e5 : i' 18 5 = i 18 5) (e20 : ∀ q, i' 20 q = if q = cd.length then nI v else i 20 q) (e21 : i' 21 = i 21) : CWr i' (cd ++ [v]) wt := by
  obtain ⟨h1, h2, h3, h4, h5⟩ := h
  refine ⟨by rw [e3]; simp, fun q hq => ?_, e5.trans h3, by rw [e21]; exact h4, h5⟩
  rw [e20]
  by_cases z : q = cd.length
  · subst z
    rw [if_pos rfl, getD_e]
  · have hq : q < cd.length := by simp at hq; omega
    rw [if_neg z, getD_l hq]; exact h2 q hq
/-- a sign put to what waits -/
theorem CWr.aw {i : Nat → Nat → Int32} {cd wt : List Nat} (h : CWr i cd wt) {v : Nat} (hv : v < 256) {i' : Nat → Nat → Int32} (e3 : i' 18 3 = i 18 3) (e5 : i' 18 5 = nI (wt.length + 1)) (e20 : i' 20 = i 20) (e21 : ∀ q, i' 21 q = if q = wt.length then nI v else i 21 q) : CWr i' cd (v :: wt) := by
  obtain ⟨h1, h2, h3, h4, h5⟩ := h
  refine ⟨e3.trans h1, fun q hq => by rw [e20]; exact h2 q hq, e5, ⟨by rw [e21, if_pos rfl], h4.up fun q hq => by rw [e21, if_neg (by omega)]⟩, fun x hx => ?_⟩
  rcases List.mem_cons.mp hx with rfl | hx
  · exact hv
  · exact h5 x hx
set_option maxRecDepth 100000 in
theorem s_1036 (d : Nat) (X : XS) (i : Nat → Nat → Int32) (j : Nat → Nat → Int64) (a1 : Int32) (K : AM → Prop) (h : (((i 18 5) ≤ 0 → K (mm X i j)) ∧ (¬ ((i 18 5) ≤ 0) → (vp_in ((i 18 5) - (nI 1)) 40) ∧ (((stI (i 21 (((i 18 5) - (nI 1)).toNatClampNeg))) < a1 → K (mm X i j)) ∧ (¬ ((stI (i 21 (((i 18 5) - (nI 1)).toNatClampNeg))) < a1) → (((nI 40) ≤ (i 18 3) → WP (d + 1) 1036 (0, [(0, .ref 18), (1, .int a1)], [], (mm X (s2 i 18 5 ((i 18 5) - (nI 1))) j)) (qV K)) ∧ (¬ ((nI 40) ≤ (i 18 3)) → (vp_in (i 18 3) 40) ∧ WP (d + 1) 1036 (0, [(0, .ref 18), (1, .int a1)], [], (mm X (s2 (s2 (s2 i 18 5 ((i 18 5) - (nI 1))) 20 ((i 18 3).toNatClampNeg) ((nI 1000) + (i 21 (((i 18 5) - (nI 1)).toNatClampNeg)))) 18 3 ((i 18 3) + (nI 1))) j)) (qV K)))))))) : WV (d + 1) 1036 [.ref 18, .int a1] (mm X i j) K := te_1036 d 18 a1 (mm X i j) (qV K) ⟨rfl, ⟨fun e1 => ⟨rfl, (h.1 (e1))⟩, fun e1 => ⟨rfl, ⟨rfl, ⟨⟨rfl, (h.2 (e1)).1⟩, (p_386 d X i j (i 21 (((i 18 5) - (nI 1)).toNatClampNeg)) _ ⟨fun e2 => ⟨rfl, ((h.2 (e1)).2.1 (e2))⟩, fun e2 => ⟨rfl, ⟨rfl, ⟨rfl, ⟨rfl, ⟨⟨rfl, (h.2 (e1)).1⟩, ⟨rfl, (te_1038 d 18 ((nI 1000) + (i 21 (((i 18 5) - (nI 1)).toNatClampNeg))) (mm X (s2 i 18 5 ((i 18 5) - (nI 1))) j) _ ⟨rfl, ⟨fun e3 => ⟨rfl, (((h.2 (e1)).2.2 (e2)).1 (e3))⟩, fun e3 => ⟨rfl, ⟨rfl, ⟨⟨rfl, (((h.2 (e1)).2.2 (e2)).2 (e3)).1⟩, ⟨rfl, ⟨rfl, ⟨rfl, (((h.2 (e1)).2.2 (e2)).2 (e3)).2⟩⟩⟩⟩⟩⟩⟩⟩)⟩⟩⟩⟩⟩⟩⟩)⟩⟩⟩⟩⟩
set_option maxRecDepth 100000 in
theorem s_1036_0 (d : Nat) (X : XS) (i : Nat → Nat → Int32) (j : Nat → Nat → Int64) (v1 : Int32) (Q : Option (Option Value) → AM → Prop) (h : (((i 18 5) ≤ 0 → Q (some none) (mm X i j)) ∧ (¬ ((i 18 5) ≤ 0) → (vp_in ((i 18 5) - (nI 1)) 40) ∧ (((stI (i 21 (((i 18 5) - (nI 1)).toNatClampNeg))) < v1 → Q (some none) (mm X i j)) ∧ (¬ ((stI (i 21 (((i 18 5) - (nI 1)).toNatClampNeg))) < v1) → (((nI 40) ≤ (i 18 3) → WP (d + 1) 1036 (0, [(0, .ref 18), (1, .int v1)], [], (mm X (s2 i 18 5 ((i 18 5) - (nI 1))) j)) Q) ∧ (¬ ((nI 40) ≤ (i 18 3)) → (vp_in (i 18 3) 40) ∧ WP (d + 1) 1036 (0, [(0, .ref 18), (1, .int v1)], [], (mm X (s2 (s2 (s2 i 18 5 ((i 18 5) - (nI 1))) 20 ((i 18 3).toNatClampNeg) ((nI 1000) + (i 21 (((i 18 5) - (nI 1)).toNatClampNeg)))) 18 3 ((i 18 3) + (nI 1))) j)) Q))))))) : WP (d + 1) 1036 (0, [(0, .ref 18), (1, .int v1)], [], mm X i j) Q := tc_1036_0 d 18 v1 (mm X i j) Q ⟨rfl, ⟨fun e4 => (h.1 (e4)), fun e4 => ⟨rfl, ⟨rfl, ⟨⟨rfl, (h.2 (e4)).1⟩, (p_386 d X i j (i 21 (((i 18 5) - (nI 1)).toNatClampNeg)) _ ⟨fun e5 => ((h.2 (e4)).2.1 (e5)), fun e5 => ⟨rfl, ⟨rfl, ⟨rfl, ⟨rfl, ⟨⟨rfl, (h.2 (e4)).1⟩, ⟨rfl, (te_1038 d 18 ((nI 1000) + (i 21 (((i 18 5) - (nI 1)).toNatClampNeg))) (mm X (s2 i 18 5 ((i 18 5) - (nI 1))) j) _ ⟨rfl, ⟨fun e6 => ⟨rfl, (((h.2 (e4)).2.2 (e5)).1 (e6))⟩, fun e6 => ⟨rfl, ⟨rfl, ⟨⟨rfl, (((h.2 (e4)).2.2 (e5)).2 (e6)).1⟩, ⟨rfl, ⟨rfl, ⟨rfl, (((h.2 (e4)).2.2 (e5)).2 (e6)).2⟩⟩⟩⟩⟩⟩⟩⟩)⟩⟩⟩⟩⟩⟩⟩)⟩⟩⟩⟩⟩
theorem lp_1036 (d : Nat) (X : XS) (j : Nat → Nat → Int64) (s : Nat) (hs : s ≤ 5) (K : AM → Prop) : ∀ (wt cd : List Nat) (i : Nat → Nat → Int32), CWr i cd wt → cd.length + wt.length ≤ 40 →
    (∀ i', CWr i' (popW s cd wt).1 (popW s cd wt).2 → (popW s cd wt).1.length + (popW s cd wt).2.length = cd.length + wt.length → (∀ b, b ≠ 18 → b ≠ 20 → i' b = i b) → (∀ k, k ≠ 3 → k ≠ 5 → i' 18 k = i 18 k) → K (mm X i' j)) →
    WP (d + 1) 1036 (0, [(0, .ref 18), (1, .int (nI s))], [], mm X i j) (qV K)
  | [], cd, i, h, hl, hK => by
    refine s_1036_0 d X i j (nI s) _ (br_t (by rw [h.2.2.1]; exact Int32.le_refl _) (qV_of (hK i h rfl (fun _ _ _ => rfl) fun _ _ _ => rfl)))
  | x :: r, cd, i, h, hl, hK => by
    have h' := h
    obtain ⟨h1, h2, h3, h4, h5⟩ := h
    have hx := h5 x (by simp)
    have h3 : i 18 5 = nI (r.length + 1) := h3
    simp only [List.length_cons] at hl
    refine s_1036_0 d X i j (nI s) _ (br_f (by rw [h3]; exact nI_nle (by omega) (by omega)) ?_)
    rw [h3, pk_sub (by omega), Nat.add_sub_cancel, tc_nI (by omega), h4.1, stI_b x hx, h1, tc_nI (by omega)]
    have h55 := stN_5 x
    refine ⟨vp_in_nI (by omega) (by decide), br_c (fun z => ?_) (fun z => br_f (nI_ge (by omega) (by decide)) ⟨vp_in_nI (by omega) (by decide), ?_⟩)⟩
    · have z : ¬ s ≤ stN x := by rw [nI_ltI (by omega) (by omega)] at z; omega
      have e : popW s cd (x :: r) = (cd, x :: r) := by unfold popW; rw [if_neg z]
      rw [e] at hK
      exact qV_of (hK i h' rfl (fun _ _ _ => rfl) fun _ _ _ => rfl)
    · have z : s ≤ stN x := by rw [nI_ltI (by omega) (by omega)] at z; omega
      have e : popW s cd (x :: r) = popW s (cd ++ [1000 + x]) r := by
        conv => lhs; unfold popW
        rw [if_pos z]
      rw [nI_add, nI_add]
      obtain ⟨i2, hi2⟩ : ∃ i2, i2 = s2 (s2 (s2 i 18 5 (nI r.length)) 20 cd.length (nI (1000 + x))) 18 3 (nI (cd.length + 1)) := ⟨_, rfl⟩
      rw [← hi2]
      have c0 : CWr (s2 i 18 5 (nI r.length)) cd r := ⟨by rw [s2_ne2 (by decide)]; exact h1, fun q hq => by rw [s2_ne (by decide)]; exact h2 q hq, s2_self _ _ _ _, by rw [s2_ne (by decide)]; exact h4.2, fun y hy => h5 y (by simp [hy])⟩
      refine lp_1036 d X j s hs K r (cd ++ [1000 + x]) i2 (c0.wr _ (by rw [hi2, s2_self]) (by rw [hi2, s2_ne2 (by decide), s2_ne (by decide)]) (fun q => by rw [hi2, s2_ne (by decide), s2_same]) (by rw [hi2, s2_ne (by decide), s2_ne (by decide)])) (by simp; omega) (fun i' g1 g2 g3 g4 => ?_)
      rw [e] at hK
      refine hK i' g1 (by rw [g2]; simp; omega) (fun b b18 b20 => ?_) (fun k k3 k5 => ?_)
      · rw [g3 b b18 b20, hi2, s2_ne b18, s2_ne b20, s2_ne b18]
      · rw [g4 k k3 k5, hi2, s2_ne2 k3, s2_ne (by decide), s2_ne2 k5]
theorem c_1036 (d : Nat) (X : XS) (i : Nat → Nat → Int32) (j : Nat → Nat → Int64) {s : Nat} (hs : s ≤ 5) {cd wt : List Nat} (h : CWr i cd wt) (hl : cd.length + wt.length ≤ 40) :
    ∃ i', EvV (d + 1) 1036 [.ref 18, .int (nI s)] (mm X i j) (mm X i' j) ∧ CWr i' (popW s cd wt).1 (popW s cd wt).2 ∧ (popW s cd wt).1.length + (popW s cd wt).2.length = cd.length + wt.length ∧ (∀ b, b ≠ 18 → b ≠ 20 → i' b = i b) ∧ (∀ k, k ≠ 3 → k ≠ 5 → i' 18 k = i 18 k) := by
  refine EvV.ex (WC_of rfl ?_)
  exact lp_1036 d X j s hs _ wt cd i h hl fun i' g1 g2 g3 g4 => ⟨i', rfl, g1, g2, g3, g4⟩
/-- how a step of the class answers to the scanner's -/
def TKR (b : Nat) (cd wt : List Nat) (m : Nat → Bool) (br dg : Nat) (wa : Bool) (i i' : Nat → Nat → Int32) (x : Int32) : Prop := FrT i i' ∧ ((∃ cd' wt' m' br' dg' wa', tk (cd, wt, m, br, dg, wa) b = some (cd', wt', m', br', dg', wa') ∧ SCr i' cd' wt' m' br' dg' wa' ∧ cd'.length + wt'.length ≤ cd.length + wt.length + 1 ∧ x = nI 1) ∨ (tk (cd, wt, m, br, dg, wa) b = none ∧ x = nI 0))
theorem TKR.bi {b : Nat} {cd wt : List Nat} {m : Nat → Bool} {br dg : Nat} {wa : Bool} {i i' : Nat → Nat → Int32} {x : Int32} (h : TKR b cd wt m br dg wa i i' x) : ∃ P : Prop, x = bi P := by
  rcases h.2 with ⟨-, -, -, -, -, -, -, -, -, h⟩ | ⟨-, h⟩
  · exact ⟨True, by rw [h, bi_t trivial]; rfl⟩
  · exact ⟨False, by rw [h, bi_f id]; rfl⟩
section steps
variable {X : XS} {i : Nat → Nat → Int32} {j : Nat → Nat → Int64} {b : Nat} {cd wt : List Nat} {m : Nat → Bool} {br dg : Nat} {wa : Bool}
set_option maxRecDepth 100000 in
theorem s_1031 (d : Nat) (X : XS) (i : Nat → Nat → Int32) (j : Nat → Nat → Int64) (a1 : Int32) (K : Int32 → AM → Prop) (h : (((nI 40) ≤ (i 18 3) → K (nI 1) (mm X (s2 (s2 i 18 8 (nI 1)) 18 9 (nI 0)) j)) ∧ (¬ ((nI 40) ≤ (i 18 3)) → (vp_in (i 18 3) 40) ∧ K (nI 1) (mm X (s2 (s2 (s2 (s2 i 20 ((i 18 3).toNatClampNeg) a1) 18 3 ((i 18 3) + (nI 1))) 18 8 (nI 1)) 18 9 (nI 0)) j)))) : WI (d + 1) 1031 [.ref 18, .int a1] (mm X i j) K := te_1031 d 18 a1 (mm X i j) (qI K) ⟨rfl, (te_1038 d 18 a1 (mm X i j) _ ⟨rfl, ⟨fun e1 => ⟨rfl, ⟨rfl, ⟨⟨rfl, k0_01⟩, ⟨k1_01, ⟨_, rfl, (h.1 (e1))⟩⟩⟩⟩⟩, fun e1 => ⟨rfl, ⟨rfl, ⟨⟨rfl, (h.2 (e1)).1⟩, ⟨rfl, ⟨rfl, ⟨rfl, ⟨rfl, ⟨⟨rfl, k0_01⟩, ⟨k1_01, ⟨_, rfl, (h.2 (e1)).2⟩⟩⟩⟩⟩⟩⟩⟩⟩⟩⟩⟩)⟩
theorem c_1031 (d : Nat) (h : SCr i cd wt m br dg true) (hl : cd.length + wt.length < 40) (hb : b < 256) (hd : isDg b = true) : ∃ x i', EvI (d + 1) 1031 [.ref 18, .int (nI b - nI 48)] (mm X i j) x (mm X i' j) ∧ TKR b cd wt m br dg true i i' x := by
  obtain ⟨hc, h1, h2, h3, h4, h5, h6⟩ := h
  obtain ⟨-, b48, -⟩ := sb_dv b hb hd
  refine EvI.exx (s_1031 d X i j _ _ ?_)
  rw [hc.1, tc_nI (by omega), pk_sub b48, nI_add]
  refine br_f (nI_ge (by omega) (by decide)) ⟨vp_in_nI (by omega) (by decide), _, rfl, ⟨fun c c1 c2 c3 c4 => ?_, ?_⟩, Or.inl ⟨_, _, _, _, _, _, tk_dig1 hd, ⟨hc.wr (b - 48) ?_ ?_ ?_ ?_, fun q hq => ?_, ?_, ?_, ?_, h5, by decide⟩, by simp; omega, rfl⟩⟩
  · rw [s2_ne c1, s2_ne c1, s2_ne c1, s2_ne c2]
  · rw [s2_ne2 (by decide), s2_ne2 (by decide), s2_ne2 (by decide), s2_ne (by decide)]
  · rw [s2_ne2 (by decide), s2_ne2 (by decide), s2_self]
  · rw [s2_ne2 (by decide), s2_ne2 (by decide), s2_ne2 (by decide), s2_ne (by decide)]
  · intro q; rw [s2_ne (by decide), s2_ne (by decide), s2_ne (by decide), s2_same]
  · rw [s2_ne (by decide), s2_ne (by decide), s2_ne (by decide), s2_ne (by decide)]
  · rw [s2_ne (by decide), s2_ne (by decide), s2_ne (by decide), s2_ne (by decide)]; exact h1 q hq
  · rw [s2_ne2 (by decide), s2_ne2 (by decide), s2_ne2 (by decide), s2_ne (by decide)]; exact h2
  · rw [s2_ne2 (by decide), s2_self]
  · rw [s2_self]; rfl
set_option maxRecDepth 100000 in
theorem s_1032 (d : Nat) (X : XS) (i : Nat → Nat → Int32) (j : Nat → Nat → Int64) (a1 : Int32) (K : Int32 → AM → Prop) (h : (((i 18 8) = 0 → K (nI 0) (mm X i j)) ∧ (¬ ((i 18 8) = 0) → (((nI 3) ≤ (i 18 8) → K (nI 0) (mm X i j)) ∧ (¬ ((nI 3) ≤ (i 18 8)) → ((¬ ((i 18 3) = 0) → (vp_in ((i 18 3) - (nI 1)) 40) ∧ K (nI 1) (mm X (s2 (s2 i 20 (((i 18 3) - (nI 1)).toNatClampNeg) (((i 20 (((i 18 3) - (nI 1)).toNatClampNeg)) * (nI 10)) + a1)) 18 8 ((i 18 8) + (nI 1))) j)) ∧ ((i 18 3) = 0 → K (nI 0) (mm X i j)))))))) : WI d 1032 [.ref 18, .int a1] (mm X i j) K := te_1032 d 18 a1 (mm X i j) (qI K) ⟨rfl, ⟨fun e1 => ⟨k0_01, ⟨_, rfl, (h.1 (e1))⟩⟩, fun e1 => ⟨rfl, ⟨fun e2 => ⟨k0_01, ⟨_, rfl, ((h.2 (e1)).1 (e2))⟩⟩, fun e2 => ⟨rfl, ⟨fun e3 => ⟨rfl, ⟨rfl, ⟨rfl, ⟨rfl, ⟨⟨rfl, (((h.2 (e1)).2 (e2)).1 (e3)).1⟩, ⟨⟨rfl, (((h.2 (e1)).2 (e2)).1 (e3)).1⟩, ⟨rfl, ⟨rfl, ⟨k1_01, ⟨_, rfl, (((h.2 (e1)).2 (e2)).1 (e3)).2⟩⟩⟩⟩⟩⟩⟩⟩⟩⟩, fun e3 => ⟨k0_01, ⟨_, rfl, (((h.2 (e1)).2 (e2)).2 ((Classical.byContradiction e3)))⟩⟩⟩⟩⟩⟩⟩⟩
theorem c_1032 (d : Nat) (h : SCr i cd wt m br dg false) (hl : cd.length + wt.length < 40) (hb : b < 256) (hd : isDg b = true) : ∃ x i', EvI d 1032 [.ref 18, .int (nI b - nI 48)] (mm X i j) x (mm X i' j) ∧ TKR b cd wt m br dg false i i' x := by
  have h' := h
  obtain ⟨hc, h1, h2, h3, h4, h5, h6⟩ := h
  obtain ⟨-, b48, -⟩ := sb_dv b hb hd
  have none : (dg = 0 ∨ 3 ≤ dg ∨ cd = []) → TKR b cd wt m br dg false i i (nI 0) := fun z => ⟨FrT.rf, Or.inr ⟨by
    unfold tk
    simp only [hd, if_true]
    rw [if_pos z], rfl⟩⟩
  refine EvI.exx (s_1032 d X i j _ _ ?_)
  rw [h3, hc.1]
  refine br_c (fun z => ⟨i, rfl, none (Or.inl ((nIz (by omega)).mp z))⟩) (fun z => br_c (fun z2 => ⟨i, rfl, none (Or.inr (Or.inl ((nI_leI (by decide) (by omega)).mp z2)))⟩) (fun z2 => bq_c (fun z3 => ?_) (fun z3 => ⟨i, rfl, none (Or.inr (Or.inr (List.eq_nil_of_length_eq_zero ((nIz (by omega)).mp z3))))⟩)))
  have d0 : 0 < dg := Nat.pos_of_ne_zero fun e => z (by rw [e]; rfl)
  have d3 : dg < 3 := Nat.not_le.mp fun e => z2 (nI_le e (by omega))
  have c0 : cd ≠ [] := fun e => z3 (by rw [e]; rfl)
  obtain ⟨cd0, v, rfl⟩ : ∃ cd0 v, cd = cd0 ++ [v] := ⟨cd.dropLast, cd.getLast c0, (List.dropLast_concat_getLast c0).symm⟩
  have el : (cd0 ++ [v]).length = cd0.length + 1 := by simp
  have ev : i 20 cd0.length = nI v := by
    rw [hc.2.1 cd0.length (by rw [el]; omega), getD_e]
  rw [el] at hl ⊢
  rw [pk_sub (by omega), Nat.add_sub_cancel, tc_nI (by omega), ev, pk_sub b48, pk_mul, nI_add, nI_add]
  obtain ⟨k1, k2, k3, k4, k5⟩ := hc
  refine ⟨vp_in_nI (by omega) (by decide), _, rfl, ⟨fun c c1 c2 c3 c4 => by rw [s2_ne c1, s2_ne c2], by rw [s2_ne2 (by decide), s2_ne (by decide)]⟩, Or.inl ⟨_, _, _, _, _, _, tk_dig2 hd d0 d3, ⟨⟨?_, fun q hq => ?_, ?_, ?_, k5⟩, fun q hq => ?_, ?_, s2_self _ _ _ _, ?_, h5, by omega⟩, by simp, rfl⟩⟩
  · rw [s2_ne2 (by decide), s2_ne (by decide), k1, el]; simp
  · rw [s2_ne (by decide), s2_same]
    by_cases z : q = cd0.length
    · subst z; rw [if_pos rfl, getD_e]
    · have hq' : q < cd0.length := by simp at hq; omega
      rw [if_neg z, getD_l hq', k2 q (by rw [el]; omega), getD_l hq']
  · rw [s2_ne2 (by decide), s2_ne (by decide)]; exact k3
  · rw [s2_ne (by decide), s2_ne (by decide)]; exact k4
  · rw [s2_ne (by decide), s2_ne (by decide)]; exact h1 q hq
  · rw [s2_ne2 (by decide), s2_ne (by decide)]; exact h2
  · rw [s2_ne2 (by decide), s2_ne (by decide)]; exact h4
set_option maxRecDepth 100000 in
theorem s_1033 (d : Nat) (X : XS) (i : Nat → Nat → Int32) (j : Nat → Nat → Int64) (a1 : Int32) (K : Int32 → AM → Prop) (h : (((ltI a1) = 0 → ((a1 = (nI 33) → ((¬ (a1 = (nI 45)) → (((nI 40) ≤ (i 18 5) → K (nI 1) (mm X i j)) ∧ (¬ ((nI 40) ≤ (i 18 5)) → (vp_in (i 18 5) 40) ∧ K (nI 1) (mm X (s2 (s2 i 21 ((i 18 5).toNatClampNeg) a1) 18 5 ((i 18 5) + (nI 1))) j)))) ∧ (a1 = (nI 45) → (((nI 40) ≤ (i 18 5) → K (nI 1) (mm X i j)) ∧ (¬ ((nI 40) ≤ (i 18 5)) → (vp_in (i 18 5) 40) ∧ K (nI 1) (mm X (s2 (s2 i 21 ((i 18 5).toNatClampNeg) (nI 126)) 18 5 ((i 18 5) + (nI 1))) j)))))) ∧ (¬ (a1 = (nI 33)) → ((¬ (a1 = (nI 45)) → ((¬ (a1 = (nI 40)) → K (nI 0) (mm X i j)) ∧ (a1 = (nI 40) → (((i 18 7) < (nI 5) → (vp_in ((i 18 7) + (nI 1)) 6) ∧ (((nI 40) ≤ (i 18 5) → K (nI 1) (mm X (s2 (s2 i 18 7 ((i 18 7) + (nI 1))) 22 (((i 18 7) + (nI 1)).toNatClampNeg) (bnar 21 (nI 0))) j)) ∧ (¬ ((nI 40) ≤ (i 18 5)) → (vp_in (i 18 5) 40) ∧ K (nI 1) (mm X (s2 (s2 (s2 (s2 i 18 7 ((i 18 7) + (nI 1))) 22 (((i 18 7) + (nI 1)).toNatClampNeg) (bnar 21 (nI 0))) 21 ((i 18 5).toNatClampNeg) a1) 18 5 ((i 18 5) + (nI 1))) j)))) ∧ (¬ ((i 18 7) < (nI 5)) → K (nI 0) (mm X i j)))))) ∧ (a1 = (nI 45) → (((nI 40) ≤ (i 18 5) → K (nI 1) (mm X i j)) ∧ (¬ ((nI 40) ≤ (i 18 5)) → (vp_in (i 18 5) 40) ∧ K (nI 1) (mm X (s2 (s2 i 21 ((i 18 5).toNatClampNeg) (nI 126)) 18 5 ((i 18 5) + (nI 1))) j)))))))) ∧ (¬ ((ltI a1) = 0) → (((nI 40) ≤ (i 18 3) → K (nI 1) (mm X (s2 (s2 i 18 8 (nI 0)) 18 9 (nI 0)) j)) ∧ (¬ ((nI 40) ≤ (i 18 3)) → (vp_in (i 18 3) 40) ∧ K (nI 1) (mm X (s2 (s2 (s2 (s2 i 20 ((i 18 3).toNatClampNeg) ((nI 1000) + a1)) 18 3 ((i 18 3) + (nI 1))) 18 8 (nI 0)) 18 9 (nI 0)) j)))))) : WI (d + 1) 1033 [.ref 18, .int a1] (mm X i j) K := te_1033 d 18 a1 (mm X i j) (qI K) (p_385 d X i j a1 _ ⟨fun e1 => ⟨fun e2 => ⟨fun e3 => ⟨rfl, (te_1037 d 18 a1 (mm X i j) _ ⟨rfl, ⟨fun e4 => ⟨rfl, ⟨k1_01, ⟨_, rfl, ((((h.1 (e1)).1 (e2)).1 (e3)).1 (e4))⟩⟩⟩, fun e4 => ⟨rfl, ⟨rfl, ⟨⟨rfl, ((((h.1 (e1)).1 (e2)).1 (e3)).2 (e4)).1⟩, ⟨rfl, ⟨rfl, ⟨rfl, ⟨k1_01, ⟨_, rfl, ((((h.1 (e1)).1 (e2)).1 (e3)).2 (e4)).2⟩⟩⟩⟩⟩⟩⟩⟩⟩⟩)⟩, fun e3 => ⟨rfl, (te_1037 d 18 (nI 126) (mm X i j) _ ⟨rfl, ⟨fun e5 => ⟨rfl, ⟨k1_01, ⟨_, rfl, ((((h.1 (e1)).1 (e2)).2 ((Classical.byContradiction e3))).1 (e5))⟩⟩⟩, fun e5 => ⟨rfl, ⟨rfl, ⟨⟨rfl, ((((h.1 (e1)).1 (e2)).2 ((Classical.byContradiction e3))).2 (e5)).1⟩, ⟨rfl, ⟨rfl, ⟨rfl, ⟨k1_01, ⟨_, rfl, ((((h.1 (e1)).1 (e2)).2 ((Classical.byContradiction e3))).2 (e5)).2⟩⟩⟩⟩⟩⟩⟩⟩⟩⟩)⟩⟩, fun e2 => ⟨fun e6 => ⟨fun e7 => ⟨k0_01, ⟨_, rfl, ((((h.1 (e1)).2 (e2)).1 (e6)).1 (e7))⟩⟩, fun e7 => ⟨rfl, ⟨fun e8 => ⟨rfl, ⟨rfl, ⟨rfl, ⟨rfl, ⟨⟨(Or.inl rfl), (((((h.1 (e1)).2 (e2)).1 (e6)).2 ((Classical.byContradiction e7))).1 (e8)).1⟩, ⟨rfl, (te_1037 d 18 a1 (mm X (s2 (s2 i 18 7 ((i 18 7) + (nI 1))) 22 (((i 18 7) + (nI 1)).toNatClampNeg) (bnar 21 (nI 0))) j) _ ⟨rfl, ⟨fun e9 => ⟨rfl, ⟨k1_01, ⟨_, rfl, ((((((h.1 (e1)).2 (e2)).1 (e6)).2 ((Classical.byContradiction e7))).1 (e8)).2.1 (e9))⟩⟩⟩, fun e9 => ⟨rfl, ⟨rfl, ⟨⟨rfl, ((((((h.1 (e1)).2 (e2)).1 (e6)).2 ((Classical.byContradiction e7))).1 (e8)).2.2 (e9)).1⟩, ⟨rfl, ⟨rfl, ⟨rfl, ⟨k1_01, ⟨_, rfl, ((((((h.1 (e1)).2 (e2)).1 (e6)).2 ((Classical.byContradiction e7))).1 (e8)).2.2 (e9)).2⟩⟩⟩⟩⟩⟩⟩⟩⟩⟩)⟩⟩⟩⟩⟩⟩, fun e8 => ⟨k0_01, ⟨_, rfl, (((((h.1 (e1)).2 (e2)).1 (e6)).2 ((Classical.byContradiction e7))).2 (e8))⟩⟩⟩⟩⟩, fun e6 => ⟨fun e10 => absurd e10 (fun z => z ((Classical.byContradiction e6))), fun _ => ⟨rfl, (te_1037 d 18 (nI 126) (mm X i j) _ ⟨rfl, ⟨fun e11 => ⟨rfl, ⟨k1_01, ⟨_, rfl, ((((h.1 (e1)).2 (e2)).2 ((Classical.byContradiction e6))).1 (e11))⟩⟩⟩, fun e11 => ⟨rfl, ⟨rfl, ⟨⟨rfl, ((((h.1 (e1)).2 (e2)).2 ((Classical.byContradiction e6))).2 (e11)).1⟩, ⟨rfl, ⟨rfl, ⟨rfl, ⟨k1_01, ⟨_, rfl, ((((h.1 (e1)).2 (e2)).2 ((Classical.byContradiction e6))).2 (e11)).2⟩⟩⟩⟩⟩⟩⟩⟩⟩⟩)⟩⟩⟩⟩, fun e1 => ⟨rfl, (te_1038 d 18 ((nI 1000) + a1) (mm X i j) _ ⟨rfl, ⟨fun e12 => ⟨rfl, ⟨rfl, ⟨⟨rfl, k0_01⟩, ⟨k1_01, ⟨_, rfl, ((h.2 (e1)).1 (e12))⟩⟩⟩⟩⟩, fun e12 => ⟨rfl, ⟨rfl, ⟨⟨rfl, ((h.2 (e1)).2 (e12)).1⟩, ⟨rfl, ⟨rfl, ⟨rfl, ⟨rfl, ⟨⟨rfl, k0_01⟩, ⟨k1_01, ⟨_, rfl, ((h.2 (e1)).2 (e12)).2⟩⟩⟩⟩⟩⟩⟩⟩⟩⟩⟩⟩)⟩⟩)
theorem c_1033 (d : Nat) (h : SCr i cd wt m br dg true) (hl : cd.length + wt.length < 40) (hb : b < 256) (hd : isDg b = false) : ∃ x i', EvI (d + 1) 1033 [.ref 18, .int (nI b)] (mm X i j) x (mm X i' j) ∧ TKR b cd wt m br dg true i i' x := by
  have h' := h
  obtain ⟨hc, h1, h2, h3, h4, h5, h6⟩ := h
  have eq : ∀ c, c < 128 → (nI b = nI c ↔ b = c) := fun c hc => nI_eq (by omega) (by omega)
  -- a sign put to what waits
  have wait : ∀ v, v < 256 → tk (cd, wt, m, br, dg, true) b = some (cd, v :: wt, m, br, dg, true) → ∃ i', mm X (s2 (s2 i 21 wt.length (nI v)) 18 5 (nI (wt.length + 1))) j = mm X i' j ∧ TKR b cd wt m br dg true i i' (nI 1) := fun v hv ht =>
    ⟨_, rfl, ⟨fun c c1 c2 c3 c4 => by rw [s2_ne c1, s2_ne c3], by rw [s2_ne2 (by decide), s2_ne (by decide)]⟩, Or.inl ⟨_, _, _, _, _, _, ht, ⟨hc.aw hv (by rw [s2_ne2 (by decide), s2_ne (by decide)]) (s2_self _ _ _ _) (by rw [s2_ne (by decide), s2_ne (by decide)]) (fun q => by rw [s2_ne (by decide), s2_same]), fun q hq => by rw [s2_ne (by decide), s2_ne (by decide)]; exact h1 q hq, by rw [s2_ne2 (by decide), s2_ne (by decide)]; exact h2, by rw [s2_ne2 (by decide), s2_ne (by decide)]; exact h3, by rw [s2_ne2 (by decide), s2_ne (by decide)]; exact h4, h5, h6⟩, by simp; omega, rfl⟩⟩
  refine EvI.exx (s_1033 d X i j _ _ ?_)
  rw [lt_b b hb, hc.1, hc.2.2.1, h2, tc_nI (by omega), tc_nI (by omega), nI_add, nI_add, nI_add, nI_add, tc_nI (by omega)]
  have ge : ¬ nI 40 ≤ nI wt.length := nI_ge (by omega) (by decide)
  have vin : vp_in (nI wt.length) 40 := vp_in_nI (by omega) (by decide)
  cases hlt : isLt b with
  | false =>
    have no : b ≠ 33 → b ≠ 45 → (b = 40 → ¬ br < 5) → ∃ i', mm X i j = mm X i' j ∧ TKR b cd wt m br dg true i i' (nI 0) := fun n1 n2 n3 => ⟨i, rfl, FrT.rf, Or.inr ⟨tk_bad hd hlt n1 n2 n3, rfl⟩⟩
    refine br_t rfl (br_c (fun z => ?_) (fun z33 => bq_c (fun z45 => bq_c (fun z40 => no ?_ ?_ ?_) (fun z40 => br_c (fun z => ?_) (fun z => no ?_ ?_ ?_))) (fun z45 => br_f ge ⟨vin, wait 126 (by decide) ?_⟩)))
    · have e := (eq 33 (by decide)).mp z
      subst e
      exact bq_t (by decide) (br_f ge ⟨vin, wait 33 (by decide) rfl⟩)
    · exact fun e => z33 ((eq 33 (by decide)).mpr e)
    · exact fun e => z45 ((eq 45 (by decide)).mpr e)
    · exact fun e => absurd ((eq 40 (by decide)).mpr e) z40
    · have e := (eq 40 (by decide)).mp z40
      subst e
      have br5 : br < 5 := (nI_ltI (by omega) (by decide)).mp z
      refine ⟨vp_in_nI (by omega) (by decide), br_f ge ⟨vin, _, rfl, ⟨fun c c1 c2 c3 c4 => ?_, ?_⟩, Or.inl ⟨_, _, _, _, _, _, tk_40 br5, ⟨hc.aw (by decide) ?_ ?_ ?_ ?_, fun q hq => ?_, ?_, ?_, ?_, by omega, h6⟩, by simp; omega, rfl⟩⟩⟩
      · rw [s2_ne c1, s2_ne c3, s2_ne c4, s2_ne c1]
      · rw [s2_ne2 (by decide), s2_ne (by decide), s2_ne (by decide), s2_ne2 (by decide)]
      · rw [s2_ne2 (by decide), s2_ne (by decide), s2_ne (by decide), s2_ne2 (by decide)]
      · rw [s2_self]
      · rw [s2_ne (by decide), s2_ne (by decide), s2_ne (by decide), s2_ne (by decide)]
      · intro q; rw [s2_ne (by decide), s2_same, s2_ne (by decide), s2_ne (by decide)]
      · rw [s2_ne (by decide), s2_ne (by decide), s2_same]
        by_cases z : q = br + 1
        · rw [if_pos z]; show _ = nI (if (if q = br + 1 then false else m q) = true then 1 else 0); rw [if_pos z]; rfl
        · rw [if_neg z]; show _ = nI (if (if q = br + 1 then false else m q) = true then 1 else 0); rw [if_neg z, s2_ne (by decide)]; exact h1 q (by omega)
      · rw [s2_ne2 (by decide), s2_ne (by decide), s2_ne (by decide), s2_self]
      · rw [s2_ne2 (by decide), s2_ne (by decide), s2_ne (by decide), s2_ne2 (by decide)]; exact h3
      · rw [s2_ne2 (by decide), s2_ne (by decide), s2_ne (by decide), s2_ne2 (by decide)]; exact h4
    · exact fun e => z33 ((eq 33 (by decide)).mpr e)
    · exact fun e => z45 ((eq 45 (by decide)).mpr e)
    · exact fun _ q => z (nI_lt q (by decide))
    · have e := (eq 45 (by decide)).mp z45
      subst e
      rfl
  | true =>
    refine br_f (by decide) (br_f (nI_ge (by omega) (by decide)) ⟨vp_in_nI (by omega) (by decide), _, rfl, ⟨fun c c1 c2 c3 c4 => ?_, ?_⟩, Or.inl ⟨_, _, _, _, _, _, tk_let hd hlt, ⟨hc.wr (1000 + b) ?_ ?_ ?_ ?_, fun q hq => ?_, ?_, ?_, ?_, h5, by decide⟩, by simp; omega, rfl⟩⟩)
    · rw [s2_ne c1, s2_ne c1, s2_ne c1, s2_ne c2]
    · rw [s2_ne2 (by decide), s2_ne2 (by decide), s2_ne2 (by decide), s2_ne (by decide)]
    · rw [s2_ne2 (by decide), s2_ne2 (by decide), s2_self]
    · rw [s2_ne2 (by decide), s2_ne2 (by decide), s2_ne2 (by decide), s2_ne (by decide)]
    · intro q; rw [s2_ne (by decide), s2_ne (by decide), s2_ne (by decide), s2_same]
    · rw [s2_ne (by decide), s2_ne (by decide), s2_ne (by decide), s2_ne (by decide)]
    · rw [s2_ne (by decide), s2_ne (by decide), s2_ne (by decide), s2_ne (by decide)]; exact h1 q hq
    · rw [s2_ne2 (by decide), s2_ne2 (by decide), s2_ne2 (by decide), s2_ne (by decide)]; exact h2
    · rw [s2_ne2 (by decide), s2_self]
    · rw [s2_self]; rfl
end steps
