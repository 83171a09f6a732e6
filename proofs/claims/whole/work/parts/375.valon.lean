/-! ===== what a sign is worth: the reference reads its text again ===== -/
/-- what a reading of the reference leaves as it was -/
def FrP (X : XS) (i i' : Nat → Nat → Int32) : Prop := (∀ b, xt X b ≠ 40 → b ≠ 42 → i' b = i b) ∧ (∀ k, k < 38 → i' 42 k = i 42 k)
theorem FrP.rf {X : XS} {i : Nat → Nat → Int32} : FrP X i i := ⟨fun _ _ _ => rfl, fun _ _ => rfl⟩
theorem FrP.tr {X : XS} {i i' i'' : Nat → Nat → Int32} (h : FrP X i i') (h2 : FrP X i' i'') : FrP X i i'' := ⟨fun b hb h4 => (h2.1 b hb h4).trans (h.1 b hb h4), fun k hk => (h2.2 k hk).trans (h.2 k hk)⟩
theorem FrP.fr {X : XS} {i i' : Nat → Nat → Int32} (h : FrP X i i') : FrR X i i' := ⟨h.1, fun k hk => h.2 k (by omega)⟩
theorem lt_c : ∀ b, b < 256 → isLt b = true → ((sb b).toUInt32 % 65536).toInt32 = nI b := by decide +kernel
section ths
variable (i : Nat → Nat → Int32) (w a k : Nat → Int32) (g t : Nat)
theorem th119 : thR i w a k g t (nI (1000 + 119)) = wdR i g (nI 0) (rdR i a g t) := by unfold thR; rw [if_pos (by decide)]
theorem th112 : thR i w a k g t (nI (1000 + 112)) = rdR i a g t := by unfold thR; rw [if_neg (by decide), if_pos (by decide)]
theorem th102 : thR i w a k g t (nI (1000 + 102)) = if t = 0 then nI 0 else rdR i a g (t - 1) - rdR i a g t := by unfold thR; rw [if_neg (by decide), if_neg (by decide), if_pos (by decide)]
theorem th116 : thR i w a k g t (nI (1000 + 116)) = w t := by unfold thR; rw [if_neg (by decide), if_neg (by decide), if_neg (by decide), if_pos (by decide)]
theorem th121 : thR i w a k g t (nI (1000 + 121)) = w (t - 1) := by unfold thR; rw [if_neg (by decide), if_neg (by decide), if_neg (by decide), if_neg (by decide), if_pos (by decide)]
theorem th107 : thR i w a k g t (nI (1000 + 107)) = k t := by unfold thR; rw [if_neg (by decide), if_neg (by decide), if_neg (by decide), if_neg (by decide), if_neg (by decide), if_pos (by decide)]
theorem th100 : thR i w a k g t (nI (1000 + 100)) = nI t := by unfold thR; rw [if_neg (by decide), if_neg (by decide), if_neg (by decide), if_neg (by decide), if_neg (by decide), if_neg (by decide), if_pos (by decide)]
theorem thN (v : Nat) (h : v < 1000) : thR i w a k g t (nI v) = nI v := by
  have e : (nI v - nI 1000).toInt = (v : Int) - 1000 := pk_sub_toInt (by omega) (by decide)
  unfold thR
  rw [e, if_neg (by omega), if_neg (by omega), if_neg (by omega), if_neg (by omega), if_neg (by omega), if_neg (by omega), if_neg (by omega)]
end ths
set_option maxRecDepth 100000 in
theorem s_1584 (d : Nat) (X : XS) (i : Nat → Nat → Int32) (j : Nat → Nat → Int64) (a1 : Int32) (K : Int32 → AM → Prop) (h : ((a1.toInt = 102 → ((¬ ((i 42 42) = 0) → (vp_in ((((nI 240) * (i 42 43)) + (i 42 42)) - (nI 1)) 960) ∧ (vp_in (((nI 240) * (i 42 43)) + (i 42 42)) 960) ∧ K ((i 71 (((((nI 240) * (i 42 43)) + (i 42 42)) - (nI 1)).toNatClampNeg)) - (i 71 ((((nI 240) * (i 42 43)) + (i 42 42)).toNatClampNeg))) (mm X i j)) ∧ ((i 42 42) = 0 → K (nI 0) (mm X i j)))) ∧ (¬ (a1.toInt = 102) → ((a1.toInt = 103 → K (i 42 42) (mm X i j)) ∧ (¬ (a1.toInt = 103) → ((a1.toInt = 104 → K (i 42 42) (mm X i j)) ∧ (¬ (a1.toInt = 104) → ((a1.toInt = 105 → K (i 42 42) (mm X i j)) ∧ (¬ (a1.toInt = 105) → ((a1.toInt = 106 → K (i 42 42) (mm X i j)) ∧ (¬ (a1.toInt = 106) → ((a1.toInt = 107 → (vp_in (i 42 42) 240) ∧ K (i 45 ((i 42 42).toNatClampNeg)) (mm X i j)) ∧ (¬ (a1.toInt = 107) → ((a1.toInt = 108 → K (i 42 42) (mm X i j)) ∧ (¬ (a1.toInt = 108) → ((a1.toInt = 109 → K (i 42 42) (mm X i j)) ∧ (¬ (a1.toInt = 109) → ((a1.toInt = 110 → K (i 42 42) (mm X i j)) ∧ (¬ (a1.toInt = 110) → ((a1.toInt = 111 → K (i 42 42) (mm X i j)) ∧ (¬ (a1.toInt = 111) → ((a1.toInt = 112 → (vp_in (((nI 240) * (i 42 43)) + (i 42 42)) 960) ∧ K (i 71 ((((nI 240) * (i 42 43)) + (i 42 42)).toNatClampNeg)) (mm X i j)) ∧ (¬ (a1.toInt = 112) → ((a1.toInt = 113 → K (i 42 42) (mm X i j)) ∧ (¬ (a1.toInt = 113) → ((a1.toInt = 114 → K (i 42 42) (mm X i j)) ∧ (¬ (a1.toInt = 114) → ((a1.toInt = 115 → K (i 42 42) (mm X i j)) ∧ (¬ (a1.toInt = 115) → ((a1.toInt = 116 → (vp_in (i 42 42) 240) ∧ K (i 43 ((i 42 42).toNatClampNeg)) (mm X i j)) ∧ (¬ (a1.toInt = 116) → ((a1.toInt = 117 → K (i 42 42) (mm X i j)) ∧ (¬ (a1.toInt = 117) → ((a1.toInt = 118 → K (i 42 42) (mm X i j)) ∧ (¬ (a1.toInt = 118) → ((a1.toInt = 119 → (vp_in (((nI 240) * (i 42 43)) + (i 42 42)) 960) ∧ (∃ (x20 : Int32), EvI d 1564 [.ref 42, .int (i 42 43), .int (i 71 ((((nI 240) * (i 42 43)) + (i 42 42)).toNatClampNeg)), .int (nI 0)] (mm X i j) x20 (mm X i j) ∧ K x20 (mm X i j))) ∧ (¬ (a1.toInt = 119) → ((a1.toInt = 120 → K (i 42 42) (mm X i j)) ∧ (¬ (a1.toInt = 120) → ((a1.toInt = 121 → ((¬ ((i 42 42) = 0) → (vp_in ((i 42 42) - (nI 1)) 240) ∧ K (i 43 (((i 42 42) - (nI 1)).toNatClampNeg)) (mm X i j)) ∧ ((i 42 42) = 0 → K (i 43 0) (mm X i j)))) ∧ (¬ (a1.toInt = 121) → K (i 42 42) (mm X i j)))))))))))))))))))))))))))))))))))))))))) : WI (d + 2) 1584 [.ref 42, .int a1] (mm X i j) K := te_1584 (d + 1) 42 a1 (mm X i j) (qI K) ⟨rfl, ⟨fun e1 => ⟨rfl, ⟨rfl, (te_1583 (d + 1) 42 (i 42 43) (i 42 42) (mm X i j) _ ⟨fun e2 => ⟨rfl, ⟨⟨rfl, ((h.1 e1).1 (e2)).1⟩, ⟨rfl, ⟨⟨rfl, ((h.1 e1).1 (e2)).2.1⟩, ⟨_, rfl, ⟨_, rfl, ((h.1 e1).1 (e2)).2.2⟩⟩⟩⟩⟩⟩, fun e2 => ⟨_, rfl, ⟨_, rfl, ((h.1 e1).2 ((Classical.byContradiction e2)))⟩⟩⟩)⟩⟩, fun e1 => ⟨fun e3 => ⟨_, rfl, ((h.2 e1).1 e3)⟩, fun e3 => ⟨fun e4 => ⟨_, rfl, (((h.2 e1).2 e3).1 e4)⟩, fun e4 => ⟨fun e5 => ⟨_, rfl, ((((h.2 e1).2 e3).2 e4).1 e5)⟩, fun e5 => ⟨fun e6 => ⟨_, rfl, (((((h.2 e1).2 e3).2 e4).2 e5).1 e6)⟩, fun e6 => ⟨fun e7 => ⟨rfl, ⟨⟨rfl, ((((((h.2 e1).2 e3).2 e4).2 e5).2 e6).1 e7).1⟩, ⟨_, rfl, ((((((h.2 e1).2 e3).2 e4).2 e5).2 e6).1 e7).2⟩⟩⟩, fun e7 => ⟨fun e8 => ⟨_, rfl, (((((((h.2 e1).2 e3).2 e4).2 e5).2 e6).2 e7).1 e8)⟩, fun e8 => ⟨fun e9 => ⟨_, rfl, ((((((((h.2 e1).2 e3).2 e4).2 e5).2 e6).2 e7).2 e8).1 e9)⟩, fun e9 => ⟨fun e10 => ⟨_, rfl, (((((((((h.2 e1).2 e3).2 e4).2 e5).2 e6).2 e7).2 e8).2 e9).1 e10)⟩, fun e10 => ⟨fun e11 => ⟨_, rfl, ((((((((((h.2 e1).2 e3).2 e4).2 e5).2 e6).2 e7).2 e8).2 e9).2 e10).1 e11)⟩, fun e11 => ⟨fun e12 => ⟨rfl, ⟨rfl, ⟨⟨rfl, (((((((((((h.2 e1).2 e3).2 e4).2 e5).2 e6).2 e7).2 e8).2 e9).2 e10).2 e11).1 e12).1⟩, ⟨_, rfl, (((((((((((h.2 e1).2 e3).2 e4).2 e5).2 e6).2 e7).2 e8).2 e9).2 e10).2 e11).1 e12).2⟩⟩⟩⟩, fun e12 => ⟨fun e13 => ⟨_, rfl, ((((((((((((h.2 e1).2 e3).2 e4).2 e5).2 e6).2 e7).2 e8).2 e9).2 e10).2 e11).2 e12).1 e13)⟩, fun e13 => ⟨fun e14 => ⟨_, rfl, (((((((((((((h.2 e1).2 e3).2 e4).2 e5).2 e6).2 e7).2 e8).2 e9).2 e10).2 e11).2 e12).2 e13).1 e14)⟩, fun e14 => ⟨fun e15 => ⟨_, rfl, ((((((((((((((h.2 e1).2 e3).2 e4).2 e5).2 e6).2 e7).2 e8).2 e9).2 e10).2 e11).2 e12).2 e13).2 e14).1 e15)⟩, fun e15 => ⟨fun e16 => ⟨rfl, ⟨⟨rfl, (((((((((((((((h.2 e1).2 e3).2 e4).2 e5).2 e6).2 e7).2 e8).2 e9).2 e10).2 e11).2 e12).2 e13).2 e14).2 e15).1 e16).1⟩, ⟨_, rfl, (((((((((((((((h.2 e1).2 e3).2 e4).2 e5).2 e6).2 e7).2 e8).2 e9).2 e10).2 e11).2 e12).2 e13).2 e14).2 e15).1 e16).2⟩⟩⟩, fun e16 => ⟨fun e17 => ⟨_, rfl, ((((((((((((((((h.2 e1).2 e3).2 e4).2 e5).2 e6).2 e7).2 e8).2 e9).2 e10).2 e11).2 e12).2 e13).2 e14).2 e15).2 e16).1 e17)⟩, fun e17 => ⟨fun e18 => ⟨_, rfl, (((((((((((((((((h.2 e1).2 e3).2 e4).2 e5).2 e6).2 e7).2 e8).2 e9).2 e10).2 e11).2 e12).2 e13).2 e14).2 e15).2 e16).2 e17).1 e18)⟩, fun e18 => ⟨fun e19 => ⟨rfl, ⟨rfl, (te_1567 d 42 (i 42 43) (i 42 42) (mm X i j) _ ⟨rfl, ⟨⟨rfl, ((((((((((((((((((h.2 e1).2 e3).2 e4).2 e5).2 e6).2 e7).2 e8).2 e9).2 e10).2 e11).2 e12).2 e13).2 e14).2 e15).2 e16).2 e17).2 e18).1 e19).1⟩, ⟨rfl, (Exists.elim ((((((((((((((((((h.2 e1).2 e3).2 e4).2 e5).2 e6).2 e7).2 e8).2 e9).2 e10).2 e11).2 e12).2 e13).2 e14).2 e15).2 e16).2 e17).2 e18).1 e19).2 fun x20 h21 => EvI.use h21.1 ⟨_, rfl, ⟨_, rfl, h21.2⟩⟩)⟩⟩⟩)⟩⟩, fun e19 => ⟨fun e23 => ⟨_, rfl, (((((((((((((((((((h.2 e1).2 e3).2 e4).2 e5).2 e6).2 e7).2 e8).2 e9).2 e10).2 e11).2 e12).2 e13).2 e14).2 e15).2 e16).2 e17).2 e18).2 e19).1 e23)⟩, fun e23 => ⟨fun e24 => ⟨rfl, ⟨fun e25 => ⟨⟨rfl, (((((((((((((((((((((h.2 e1).2 e3).2 e4).2 e5).2 e6).2 e7).2 e8).2 e9).2 e10).2 e11).2 e12).2 e13).2 e14).2 e15).2 e16).2 e17).2 e18).2 e19).2 e23).1 e24).1 (e25)).1⟩, ⟨_, rfl, (((((((((((((((((((((h.2 e1).2 e3).2 e4).2 e5).2 e6).2 e7).2 e8).2 e9).2 e10).2 e11).2 e12).2 e13).2 e14).2 e15).2 e16).2 e17).2 e18).2 e19).2 e23).1 e24).1 (e25)).2⟩⟩, fun e25 => ⟨⟨rfl, (vpk 0 240 rfl)⟩, ⟨_, rfl, (((((((((((((((((((((h.2 e1).2 e3).2 e4).2 e5).2 e6).2 e7).2 e8).2 e9).2 e10).2 e11).2 e12).2 e13).2 e14).2 e15).2 e16).2 e17).2 e18).2 e19).2 e23).1 e24).2 ((Classical.byContradiction e25)))⟩⟩⟩⟩, fun e24 => ⟨_, rfl, ((((((((((((((((((((h.2 e1).2 e3).2 e4).2 e5).2 e6).2 e7).2 e8).2 e9).2 e10).2 e11).2 e12).2 e13).2 e14).2 e15).2 e16).2 e17).2 e18).2 e19).2 e23).2 e24)⟩⟩⟩⟩⟩⟩⟩⟩⟩⟩⟩⟩⟩⟩⟩⟩⟩⟩⟩⟩⟩⟩
set_option maxRecDepth 100000 in
theorem c_1584 (X : XS) (i : Nat → Nat → Int32) (j : Nat → Nat → Int64) {ng n g t b : Nat} (h2 : R2 X i ng) (hn : n ≤ 240) (hS : SHW i i ng n) (hg : g < ng) (ht : t < n) (et : i 42 42 = nI t) (eg : i 42 43 = nI g) (hb : b < 256) (hl : isLt b = true) :
    EvI 2 1584 [.ref 42, .int (nI b)] (mm X i j) (thR i (i 43) (i 44) (i 45) g t (nI (1000 + b))) (mm X i j) := by
  have h4 := h2.1
  have e71 := hS g hg t ht
  have tz : ∀ u, u < 2 ^ 31 → (nI u = 0 ↔ u = 0) := fun u hu => nI_eq hu (b := 0) (by decide)
  refine s_1584 0 X i j (nI b) _ ?_
  rw [et, eg, pk_mul, nI_add, tc_nI (by omega), tc_nI (by omega), e71]
  rcases (isLt_of b hb).mp hl with rfl | rfl | rfl | rfl | rfl | rfl | rfl
  · repeat (first | refine br_t (by decide) ?_ | refine br_f (by decide) ?_)
    rw [th119]
    exact ⟨vp_in_nI (by omega) (by decide), _, c_1564w 0 X i j h2 hg _ _, rfl, rfl⟩
  · repeat (first | refine br_t (by decide) ?_ | refine br_f (by decide) ?_)
    rw [th112]
    exact ⟨vp_in_nI (by omega) (by decide), rfl, rfl⟩
  · refine br_t (by decide) ?_
    rw [th102]
    by_cases t0 : t = 0
    · exact bq_f (by rw [tz t (by omega)]; exact t0) ⟨by rw [if_pos t0], rfl⟩
    · refine bq_t (by rw [tz t (by omega)]; exact t0) ?_
      rw [pk_sub (by omega), tc_nI (by omega), show 240 * g + t - 1 = 240 * g + (t - 1) by omega, hS g hg (t - 1) (by omega)]
      exact ⟨vp_in_nI (by omega) (by decide), vp_in_nI (by omega) (by decide), by rw [if_neg t0], rfl⟩
  · repeat (first | refine br_t (by decide) ?_ | refine br_f (by decide) ?_)
    rw [th116]
    exact ⟨vp_in_nI (by omega) (by decide), rfl, rfl⟩
  · repeat (first | refine br_t (by decide) ?_ | refine br_f (by decide) ?_)
    rw [th121]
    by_cases t0 : t = 0
    · exact bq_f (by rw [tz t (by omega)]; exact t0) ⟨by rw [t0], rfl⟩
    · refine bq_t (by rw [tz t (by omega)]; exact t0) ?_
      rw [pk_sub (by omega), tc_nI (by omega)]
      exact ⟨vp_in_nI (by omega) (by decide), rfl, rfl⟩
  · repeat (first | refine br_t (by decide) ?_ | refine br_f (by decide) ?_)
    rw [th107]
    exact ⟨vp_in_nI (by omega) (by decide), rfl, rfl⟩
  · repeat (first | refine br_t (by decide) ?_ | refine br_f (by decide) ?_)
    rw [th100]
    exact ⟨rfl, rfl⟩
theorem scn_mo {t : Nat → Nat} {p : Nat} (h : scn t p = none) : ∀ {q : Nat}, p ≤ q → scn t q = none := by
  intro q hq
  induction q with
  | zero => have : p = 0 := by omega
            subst this; exact h
  | succ q ih =>
    by_cases e : p = q + 1
    · subst e; exact h
    · rw [scn, ih (by omega)]
theorem scn_no {t : Nat → Nat} {p q : Nat} {s s' : Sc} (h : scn t p = some s) (h2 : tk s (t p) = none) (h3 : scn t q = some s') : ¬ p < q := fun z => by
  have : scn t (p + 1) = none := by rw [scn, h]; exact h2
  rw [scn_mo this z] at h3; cases h3
/-- a text that the scanner takes whole is read to its end -/
theorem read_ok {X : XS} {i0 i : Nat → Nat → Int32} {j : Nat → Nat → Int64} {th : Int32 → Int32} {t : Nat → Nat} {s n c : Nat} {cd : Nat → Int32} (hT : TXT i0 s n t) (h40 : n ≤ 40) (hN : ∀ v, v < 1000 → th (nI v) = nI v) (hL : LETS X i0 j th) (hC : SCN t n c cd) (hst : StP i0 i 0 (kI (-1))) :
    ∃ x i', EvI 207 1578 [.ref 42, .int (nI 0)] (mm X i j) x (mm X i' j) ∧ x = top1 (evn th cd c) ∧ StP i0 i' n (kI (-1)) := by
  obtain ⟨c0, wt, m, dg, hs, hc, hq⟩ := hC
  have hNe : n = min n 40 := by omega
  obtain ⟨x, i', hE, hR⟩ := (pt_all hT hNe hN hL (n - 0) 0 rfl (Nat.zero_le _)).2.2.2.2 [] [] (fun _ => false) 0 0 [] i rfl (fun _ => by decide) rfl (by decide) (fun _ => rfl) hst
  rcases hR with ⟨p', h1, h2, h3, c1, pre, m1, dg1, g1, g2, g3, g4, g5, g6, g7⟩ | ⟨p', w, h1, h2, h3, s', h4, h5, h6⟩
  · have hp : p' = n := by
      refine Classical.byContradiction fun z => ?_
      have pN : p' < n := by omega
      obtain ⟨s1, s2', s3, s4⟩ := g7 pN
      obtain ⟨s5, s6⟩ := s1 (by decide)
      exact scn_no g1 (tk_none (fun h => g6 pN h) (fun _ => rfl) ⟨s5, s6, s3 (by decide), s4 (by decide)⟩ (s2' (by decide))) hs pN
    subst hp
    rw [hs, List.append_nil] at g1
    have ec : c0 = c1 ∧ wt = pre := by
      injection g1 with e
      exact ⟨congrArg (·.1) e, congrArg (·.2.1) e⟩
    obtain ⟨rfl, rfl⟩ := ec
    have ep := popW_pre (s := 1) (wt := []) (show (0 : Nat) < 1 by decide) (pre := wt) (cd := c0) g2
    rw [List.append_nil] at ep
    rw [ep] at hc hq
    refine ⟨x, i', hE, ?_, h3⟩
    have hc : (c0 ++ up1 wt).length = c := hc
    rw [evL_evn (l := c0 ++ up1 wt) (by omega) hq, ← hc, List.take_length, g3]; rfl
  · exfalso
    by_cases wn : w < n
    · exact scn_no h4 (h5 wn) hs wn
    · have : w = n := by omega
      subst this
      rw [hs] at h4
      injection h4 with e
      subst e
      rcases h6 rfl with h | h | h
      · omega
      · cases h
      · exact absurd (show 0 < 0 from h) (by decide)
set_option maxRecDepth 100000 in
theorem s_1586 (d : Nat) (X : XS) (i : Nat → Nat → Int32) (j : Nat → Nat → Int64) (a1 : Int32) (a2 : Int32) (K : Int32 → AM → Prop) (h : (vp_in a1 10) ∧ (∃ (x2 : Int32), ∃ (i1 : Nat → Nat → Int32), EvI (d + 259) 1578 [.ref 42, .int (nI 0)] (mm X (s2 (s2 (s2 (s2 (s2 (s2 i 42 38 ((nI 40) * a1)) 42 39 (i 55 ((a1).toNatClampNeg))) 42 40 (nI 0)) 42 41 (kI (-1))) 42 42 a2) 42 43 (i 56 ((a1).toNatClampNeg))) j) x2 (mm X i1 j) ∧ K x2 (mm X i1 j))) : WI (d + 260) 1586 [.ref 42, .int a1, .int a2] (mm X i j) K := te_1586 (d + 259) 42 a1 a2 (mm X i j) (qI K) ⟨rfl, ⟨rfl, ⟨⟨rfl, h.1⟩, ⟨rfl, ⟨rfl, (tc_1586_23 (d + 259) 42 a1 a2 (mm X (s2 (s2 (s2 i 42 38 ((nI 40) * a1)) 42 39 (i 55 ((a1).toNatClampNeg))) 42 40 (nI 0)) j) _ ⟨rfl, ⟨rfl, ⟨rfl, ⟨⟨rfl, h.1⟩, ⟨rfl, (tc_1586_43 (d + 259) 42 (mm X (s2 (s2 (s2 (s2 (s2 (s2 i 42 38 ((nI 40) * a1)) 42 39 (i 55 ((a1).toNatClampNeg))) 42 40 (nI 0)) 42 41 (kI (-1))) 42 42 a2) 42 43 (i 56 ((a1).toNatClampNeg))) j) _ ⟨rfl, (Exists.elim h.2 fun x2 h3 => Exists.elim h3 fun i1 h4 => EvI.use h4.1 ⟨_, rfl, h4.2⟩)⟩)⟩⟩⟩⟩⟩)⟩⟩⟩⟩⟩
theorem c_1586 (d : Nat) (X : XS) (i : Nat → Nat → Int32) (j : Nat → Nat → Int64) {ng no n : Nat} (h2 : R2 X i ng) (h4 : R4 X i no ng) (hn : n ≤ 240) (hS : SHW i i ng n) {s t : Nat} (hs : s < no) (ht : t < n) :
    ∃ i', EvI (d + 260) 1586 [.ref 42, .int (nI s), .int (nI t)] (mm X i j) (vlF X i (i 43) (i 44) (i 45) s t) (mm X i' j) ∧ (∀ b, b ≠ 42 → i' b = i b) ∧ (∀ k, k < 38 ∨ 44 ≤ k → i' 42 k = i 42 k) := by
  have hno := h4.1
  have hng := h2.1
  obtain ⟨hO, hOT, ⟨g, hg, eg, e56⟩, ⟨hl1, hl2⟩, tx, tn, htn, e55, htx, hC⟩ := h4.2.2.2 s hs
  obtain ⟨i0, hi0⟩ : ∃ i0, i0 = s2 (s2 (s2 (s2 (s2 (s2 i 42 38 (nI (40 * s))) 42 39 (nI tn)) 42 40 (nI 0)) 42 41 (kI (-1))) 42 42 (nI t)) 42 43 (nI g) := ⟨_, rfl⟩
  have f0 : ∀ b, b ≠ 42 → i0 b = i b := fun b hb => by rw [hi0, s2_ne hb, s2_ne hb, s2_ne hb, s2_ne hb, s2_ne hb, s2_ne hb]
  have k0 : ∀ k, k < 38 ∨ 44 ≤ k → i0 42 k = i 42 k := fun k hk => by rw [hi0, s2_ne2 (by omega), s2_ne2 (by omega), s2_ne2 (by omega), s2_ne2 (by omega), s2_ne2 (by omega), s2_ne2 (by omega)]
  have v38 : i0 42 38 = nI (40 * s) := by rw [hi0, s2_ne2 (by decide), s2_ne2 (by decide), s2_ne2 (by decide), s2_ne2 (by decide), s2_ne2 (by decide), s2_self]
  have v39 : i0 42 39 = nI tn := by rw [hi0, s2_ne2 (by decide), s2_ne2 (by decide), s2_ne2 (by decide), s2_ne2 (by decide), s2_self]
  have v40 : i0 42 40 = nI 0 := by rw [hi0, s2_ne2 (by decide), s2_ne2 (by decide), s2_ne2 (by decide), s2_self]
  have v41 : i0 42 41 = kI (-1) := by rw [hi0, s2_ne2 (by decide), s2_ne2 (by decide), s2_self]
  have v42 : i0 42 42 = nI t := by rw [hi0, s2_ne2 (by decide), s2_self]
  have v43 : i0 42 43 = nI g := by rw [hi0, s2_self]
  have hT : TXT i0 s tn tx := ⟨by omega, by omega, v38, v39, fun q hq => by
    rw [f0 54 (by decide)]
    exact htx q (by omega)⟩
  obtain ⟨th, hth⟩ : ∃ th, th = thR i (i 43) (i 44) (i 45) g t := ⟨_, rfl⟩
  have hL : LETS X i0 j th := by
    intro b hb hl i1 p w hs1
    refine ⟨fun _ => ?_, fun z => absurd (v42.symm.trans z) (nIm1 (by omega))⟩
    have fi : ∀ b, b ≠ 42 → i1 b = i b := fun b hb => (hs1.1 b hb).trans (f0 b hb)
    have kk : Kp X i i1 := ⟨fun b _ hb => fi b hb, fun k hk => (hs1.2.1 k (by omega) (by omega)).trans (k0 k (by omega))⟩
    have hS1 : SHW i1 i1 ng n := fun g hg t ht => by rw [fi 71 (by decide), rdR_kp kk, fi 44 (by decide)]; exact hS g hg t ht
    have := c_1584 X i1 j (h2.kp kk) hn hS1 hg ht ((hs1.2.1 42 (by decide) (by decide)).trans v42) ((hs1.2.1 43 (by decide) (by decide)).trans v43) hb hl
    rw [fi 43 (by decide), fi 44 (by decide), fi 45 (by decide), thR_kp kk, ← hth] at this
    rw [lt_c b hb hl]; exact this
  obtain ⟨x, i', hE, hx, hs'⟩ := read_ok hT htn (by rw [hth]; exact fun v hv => thN _ _ _ _ _ _ v hv) hL hC (i := i0) ⟨fun _ _ => rfl, fun _ _ _ => rfl, v40, v41⟩
  refine ⟨i', ?_, fun b hb => (hs'.1 b hb).trans (f0 b hb), fun k hk => (hs'.2.1 k (by omega) (by omega)).trans (k0 k hk)⟩
  refine s_1586 _ X i j _ _ _ ⟨vp_in_nI (by omega) (by decide), x, i', ?_, ?_, rfl⟩
  · rw [tc_nI (by omega), pk_mul, e55, e56, ← hi0]; exact hE.up (by omega)
  · unfold vlF
    rw [e56, tc_nI (by omega), ← hth]; exact hx
