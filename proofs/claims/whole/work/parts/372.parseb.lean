/-! ===== the reference's reading of a text, against the scanner's ===== -/
theorem EvV.up {d d' y : Nat} {as : List Value} {M M' : AM} (h : EvV d y as M M') (hd : d ≤ d') : EvV d' y as M M' := by
  obtain ⟨n, r, h1, h2⟩ := h
  exact ⟨n, r, cee_mono h1 (Nat.le_refl _) hd, h2⟩
theorem EvI.up {d d' y : Nat} {as : List Value} {M M' : AM} {x : Int32} (h : EvI d y as M x M') (hd : d ≤ d') : EvI d' y as M x M' := by
  obtain ⟨n, r, h1, h2⟩ := h
  exact ⟨n, r, cee_mono h1 (Nat.le_refl _) hd, h2⟩
theorem EvL.up {d d' y : Nat} {as : List Value} {M M' : AM} {x : Int64} (h : EvL d y as M x M') (hd : d ≤ d') : EvL d' y as M x M' := by
  obtain ⟨n, r, h1, h2⟩ := h
  exact ⟨n, r, cee_mono h1 (Nat.le_refl _) hd, h2⟩
theorem nIm1 {m : Nat} (h : m < 2 ^ 31) : ¬ nI m = kI (-1) := fun e => by
  have := nI_pos (n := m) h
  rw [e] at this
  exact this (by decide)
theorem EvI.exx {d y : Nat} {as : List Value} {M : AM} {X : XS} {j : Nat → Nat → Int64} {P : Int32 → (Nat → Nat → Int32) → Prop} (main : WI d y as M (fun x M2 => ∃ i', M2 = mm X i' j ∧ P x i')) : ∃ x i', EvI d y as M x (mm X i' j) ∧ P x i' := by
  obtain ⟨n1, ⟨r, M2⟩, h1, x, h2, i', h4, h5⟩ := main
  dsimp only at h2 h4
  subst h2; subst h4
  exact ⟨x, i', ⟨n1, _, h1, _, rfl, rfl, rfl⟩, h5⟩
def hvI (b sz at_ : Int32) (row : Nat → Int32) : Int32 := if sz ≤ at_ then kI (-1) else if nI 40 ≤ at_ then kI (-1) else row (b + at_).toNatClampNeg
def hvO (b sz at_ : Int32) : Prop := ¬ sz ≤ at_ → ¬ nI 40 ≤ at_ → vp_in (b + at_) 400
set_option maxRecDepth 100000 in
theorem s_1574 (d : Nat) (X : XS) (i : Nat → Nat → Int32) (j : Nat → Nat → Int64)  (K : Int32 → AM → Prop) (h : (((i 42 39) ≤ (i 42 40) → K (kI (-1)) (mm X i j)) ∧ (¬ ((i 42 39) ≤ (i 42 40)) → (((nI 40) ≤ (i 42 40) → K (kI (-1)) (mm X i j)) ∧ (¬ ((nI 40) ≤ (i 42 40)) → (vp_in ((i 42 38) + (i 42 40)) 400) ∧ K (i 54 (((i 42 38) + (i 42 40)).toNatClampNeg)) (mm X i j)))))) : WI d 1574 [.ref 42] (mm X i j) K := te_1574 d 42 (mm X i j) (qI K) ⟨rfl, ⟨rfl, ⟨fun e1 => ⟨_, rfl, (h.1 (e1))⟩, fun e1 => ⟨rfl, ⟨fun e2 => ⟨_, rfl, ((h.2 (e1)).1 (e2))⟩, fun e2 => ⟨rfl, ⟨rfl, ⟨rfl, ⟨⟨(Or.inr rfl), ((h.2 (e1)).2 (e2)).1⟩, ⟨_, rfl, ((h.2 (e1)).2 (e2)).2⟩⟩⟩⟩⟩⟩⟩⟩⟩⟩
theorem p_1574 (d : Nat) (X : XS) (i : Nat → Nat → Int32) (j : Nat → Nat → Int64) (K : Int32 → AM → Prop) (h : hvO (i 42 38) (i 42 39) (i 42 40) ∧ K (hvI (i 42 38) (i 42 39) (i 42 40) (i 54)) (mm X i j)) : WI d 1574 [.ref 42] (mm X i j) K := by
  obtain ⟨h1, h2⟩ := h
  unfold hvI at h2
  refine s_1574 d X i j K (br_c (fun z => by rw [if_pos z] at h2; exact h2) (fun z => br_c (fun y => by rw [if_neg z, if_pos y] at h2; exact h2) (fun y => ⟨h1 z y, by rw [if_neg z, if_neg y] at h2; exact h2⟩)))
/-- the text of n signs at the place of sign s -/
def TXT (i : Nat → Nat → Int32) (s n : Nat) (t : Nat → Nat) : Prop := s < 10 ∧ n ≤ 60 ∧ i 42 38 = nI (40 * s) ∧ i 42 39 = nI n ∧ ∀ q, q < min n 40 → t q < 256 ∧ i 54 (40 * s + q) = sb (t q)
/-- the reading stands at p, with what is wrong -/
def StP (i0 i : Nat → Nat → Int32) (p : Nat) (w : Int32) : Prop := (∀ b, b ≠ 42 → i b = i0 b) ∧ (∀ k, k ≠ 40 → k ≠ 41 → i 42 k = i0 42 k) ∧ i 42 40 = nI p ∧ i 42 41 = w
theorem StP.adv {i0 i : Nat → Nat → Int32} {p : Nat} {w : Int32} (h : StP i0 i p w) : StP i0 (s2 i 42 40 (i 42 40 + nI 1)) (p + 1) w := by
  obtain ⟨h1, h2, h3, h4⟩ := h
  exact ⟨fun b hb => by rw [s2_ne hb]; exact h1 b hb, fun k k0 k1 => by rw [s2_ne2 k0]; exact h2 k k0 k1, by rw [s2_self, h3, nI_add], by rw [s2_ne2 (by decide)]; exact h4⟩
theorem StP.bad {i0 i : Nat → Nat → Int32} {p : Nat} {w : Int32} (h : StP i0 i p w) : StP i0 (s2 i 42 41 (i 42 40)) p (nI p) := by
  obtain ⟨h1, h2, h3, h4⟩ := h
  exact ⟨fun b hb => by rw [s2_ne hb]; exact h1 b hb, fun k k0 k1 => by rw [s2_ne2 k1]; exact h2 k k0 k1, by rw [s2_ne2 (by decide)]; exact h3, by rw [s2_self, h3]⟩
def hbN (t : Nat → Nat) (N p : Nat) : Int32 := if p < N then sb (t p) else kI (-1)
theorem hv_of {i0 i : Nat → Nat → Int32} {s n p : Nat} {t : Nat → Nat} {w : Int32} (hT : TXT i0 s n t) (hs : StP i0 i p w) (hp : p ≤ 60) : hvO (i 42 38) (i 42 39) (i 42 40) ∧ hvI (i 42 38) (i 42 39) (i 42 40) (i 54) = hbN t (min n 40) p := by
  obtain ⟨h1, h2, h3, h4, h5⟩ := hT
  obtain ⟨g1, g2, g3, -⟩ := hs
  have e38 : i 42 38 = nI (40 * s) := by rw [g2 38 (by decide) (by decide)]; exact h3
  have e39 : i 42 39 = nI n := by rw [g2 39 (by decide) (by decide)]; exact h4
  rw [e38, e39, g3, g1 54 (by decide)]
  unfold hvO hvI hbN
  rw [nI_add, tc_nI (by omega)]
  constructor
  · intro z y
    rw [nI_leI (by omega) (by omega)] at z y
    exact vp_in_nI (by omega) (by decide)
  · by_cases z : n ≤ p
    · rw [if_pos (nI_le z (by omega)), if_neg (by omega)]
    · rw [if_neg (nI_ge (by omega) (by omega))]
      by_cases y : 40 ≤ p
      · rw [if_pos (nI_le y (by omega)), if_neg (by omega)]
      · rw [if_neg (nI_ge (by omega) (by omega)), if_pos (by omega)]
        exact (h5 p (by omega)).2
theorem hb_eq {t : Nat → Nat} {N p c : Nat} (hb : p < N → t p < 256) (hc : c < 128) : hbN t N p = nI c ↔ p < N ∧ t p = c := by
  unfold hbN
  by_cases z : p < N
  · rw [if_pos z, sb_eq _ (hb z) c hc]; exact ⟨fun h => ⟨z, h⟩, fun h => h.2⟩
  · rw [if_neg z]; exact ⟨fun h => absurd h (m1_c c hc), fun h => absurd h.1 z⟩
theorem hb_dg {t : Nat → Nat} {N p : Nat} (hb : p < N → t p < 256) : (nI 48 ≤ hbN t N p ∧ hbN t N p ≤ nI 57) ↔ p < N ∧ isDg (t p) = true := by
  unfold hbN
  by_cases z : p < N
  · rw [if_pos z, sb_dig _ (hb z)]; exact ⟨fun h => ⟨z, h⟩, fun h => h.2⟩
  · rw [if_neg z]; exact ⟨fun h => absurd h m1_d, fun h => absurd h.1 z⟩
/-- where the scanner finds the text wrong -/
def PBAD (t : Nat → Nat) (n N w : Nat) : Prop := w ≤ N ∧ ∃ s : Sc, scn t w = some s ∧ (w < N → tk s (t w) = none) ∧ (w = N → 40 < n ∨ s.2.2.2.2.2 = true ∨ 0 < s.2.2.2.1)
def PSt (S b : Nat) (mb : Bool) : Prop := (S ≤ 4 → b ≠ 43 ∧ b ≠ 45) ∧ (S ≤ 3 → (b = 60 ∨ b = 61 ∨ b = 62) → mb = true) ∧ (S ≤ 2 → b ≠ 38) ∧ (S ≤ 1 → b ≠ 124)
theorem PSt.mo {S S' b : Nat} {mb : Bool} (h : PSt S b mb) (hs : S ≤ S') : PSt S' b mb := ⟨fun z => h.1 (by omega), fun z => h.2.1 (by omega), fun z => h.2.2.1 (by omega), fun z => h.2.2.2 (by omega)⟩
theorem PSt5 (b : Nat) (mb : Bool) : PSt 5 b mb := ⟨fun z => absurd z (by decide), fun z => absurd z (by decide), fun z => absurd z (by decide), fun z => absurd z (by decide)⟩
/-- read well up to p: the value x stands above what stood before -/
def PK (th : Int32 → Int32) (t : Nat → Nat) (N L S : Nat) (st0 : List Int32) (wt0 : List Nat) (m0 : Nat → Bool) (br p : Nat) (x : Int32) : Prop :=
  ∃ (cd1 pre : List Nat) (m1 : Nat → Bool) (dg1 : Nat), scn t p = some (cd1, pre ++ wt0, m1, br, dg1, false) ∧ (∀ y, y ∈ pre → L ≤ stN y) ∧ evL th (cd1 ++ up1 pre) = some (x :: st0) ∧ (∀ q, q < br → m1 q = m0 q) ∧ (4 ≤ L → m1 br = m0 br) ∧ (p < N → isDg (t p) = true → dg1 = 0 ∨ 3 ≤ dg1) ∧ (p < N → PSt S (t p) (m1 br))
section pks
variable {th : Int32 → Int32} {t : Nat → Nat} {N L S : Nat} {st0 : List Int32} {wt0 : List Nat} {m0 : Nat → Bool} {br p : Nat} {x : Int32}
theorem PK.add {S' : Nat} (h : PK th t N L S st0 wt0 m0 br p x) (f : p < N → ∀ mb, PSt S (t p) mb → PSt S' (t p) mb) : PK th t N L S' st0 wt0 m0 br p x := by
  obtain ⟨c, pre, m1, dg, h1, h2, h3, h4, h5, h6, h7⟩ := h
  exact ⟨c, pre, m1, dg, h1, h2, h3, h4, h5, h6, fun z => f z _ (h7 z)⟩
theorem PK.low {L' : Nat} (h : PK th t N L S st0 wt0 m0 br p x) (hl : L' ≤ L) : PK th t N L' S st0 wt0 m0 br p x := by
  obtain ⟨c, pre, m1, dg, h1, h2, h3, h4, h5, h6, h7⟩ := h
  exact ⟨c, pre, m1, dg, h1, fun y hy => Nat.le_trans hl (h2 y hy), h3, h4, fun z => h5 (by omega), h6, h7⟩
/-- one that binds a single thing -/
theorem PK.un {b : Nat} (h : PK th t N 5 S st0 (b :: wt0) m0 br p x) (hb : b < 256) (h5 : stN b = 5) : PK th t N 5 S st0 wt0 m0 br p (jnI (nI b) x (nI 0)) := by
  obtain ⟨c, pre, m1, dg, h1, h2, h3, h4, h5', h6, h7⟩ := h
  refine ⟨c, pre ++ [b], m1, dg, by rw [h1, List.append_assoc]; rfl, fun y hy => ?_, ?_, h4, h5', h6, h7⟩
  · rcases List.mem_append.mp hy with hy | hy
    · exact h2 y hy
    · rw [List.mem_singleton.mp hy, h5]; exact Nat.le_refl _
  · rw [up1_a, ← List.append_assoc, evL_s th _ _ h3, stp_un hb h5]
/-- a link, behind what stood left of it -/
theorem PK.join {b Lc : Nat} {m' : Nat → Bool} {o : Int32} (h : PK th t N Lc S (x :: st0) (b :: wt0) m' br p o) (hb : b < 256) (h1 : 1 ≤ stN b ∧ stN b ≤ 4) (hL : L ≤ stN b) (hc : L ≤ Lc) (hm : ∀ q, q < br → m' q = m0 q) (hf : 4 ≤ L → m' br = m0 br) : PK th t N L S st0 wt0 m0 br p (jnI (nI b) x o) := by
  obtain ⟨c, pre, m1, dg, g1, g2, g3, g4, g5, g6, g7⟩ := h
  refine ⟨c, pre ++ [b], m1, dg, by rw [g1, List.append_assoc]; rfl, fun y hy => ?_, ?_, fun q hq => (g4 q hq).trans (hm q hq), fun z => (g5 (by omega)).trans (hf z), g6, g7⟩
  · rcases List.mem_append.mp hy with hy | hy
    · exact Nat.le_trans hc (g2 y hy)
    · rw [List.mem_singleton.mp hy]; exact hL
  · rw [up1_a, ← List.append_assoc, evL_s th _ _ g3, stp_bi hb h1]
end pks
