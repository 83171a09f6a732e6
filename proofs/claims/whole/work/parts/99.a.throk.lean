/-! ===== what holds of the launch and of what was there before the law; the throws ===== -/
def kws : List Cond := Cond.classLink RX11 128 nse :: Cond.initialized nse :: Cond.classLink (rcl 13) 13 nse :: Cond.castable nse nse :: oXs RX11 132
def isDC : Cond → Bool
  | .declares _ => true
  | .castable _ _ => true
  | _ => false
set_option maxRecDepth 100000 in
theorem kws_ok : kws.all (fun w => goodWord w || isDC w) = true := by decide +kernel
set_option maxRecDepth 100000 in
theorem kws_ot : kws.all (fun w => vx_ot w) = true := by decide +kernel
theorem kw_moved {w : Cond} {u U : State} (hg : (goodWord w || isDC w) = true) (hW : u.WarmedH U.vm) {a : Array Value} (h : w.before a u = true) (a' : Array Value) : w.before a' U = true := by
  cases hz : goodWord w with
  | true => exact word_at hW (good_of_word hz) h
  | false =>
    rw [hz, Bool.false_or] at hg
    unfold isDC at hg
    split at hg
    · exact va_tabs rfl (rfl : (u.setVm U.vm).vm = U.vm) (by rw [Cond.declares_setVm hW.alike]; exact h)
    · exact va_tabs rfl (rfl : (u.setVm U.vm).vm = U.vm) (by rw [Cond.castable_setVm hW.alike]; exact h)
    · cases hg
def ktx : List (Nat × String) := [(130, "no such step"), (177, "no such glass, day or reading"), (244, "no such sign or day"), (347, "no such person, signs or event"), (459, "no such number in the row")]
/-- KS: what else is held of the heap -/
def KYd (base b L : Nat) (xs : Nat → Int32) (KS : State → Heap → Prop) (U : State) (H : Heap) : Prop := va_X b L xs U H ∧ b < base ∧ (∀ w ∈ kws, ∀ a, w.before a U = true) ∧
  vx_Zq Bundle.tN "UNASSIGNED_STACK" Bundle.steD (fun q => base ≤ q) U H ∧ vx_Zq Bundle.tN "SUPPRESSED_SENTINEL" Bundle.listD (fun q => base ≤ q) U H ∧ (∀ q ∈ ktx, ∃ a, vk_R RX11 q.1 q.2 a U) ∧ KS U H
theorem KYd.ok {base b L : Nat} {xs : Nat → Int32} {KS : State → Heap → Prop} (hKS : KYok base KS) : KYok base (KYd base b L xs KS) := by
  constructor
  · rintro u U H hW ⟨h1, h2, h3, h4, h5, h6, h7⟩
    refine ⟨va_X.moved hW.alike h1, h2, fun w hw a => kw_moved (List.all_eq_true.mp kws_ok w hw) hW (h3 w hw #[]) a, vx_Zq.moved hW.alike h4, vx_Zq.moved hW.alike h5, fun q hq => ?_, hKS.1 u U H hW h7⟩
    obtain ⟨a, ha⟩ := h6 q hq
    exact ⟨a, vk_R.warm hW ha⟩
  · rintro U H H1 hq ⟨h1, h2, h3, h4, h5, h6, h7⟩
    exact ⟨va_X.kept h1 (hq b h2), h2, h3, vx_Zq.kept h4 (fun a _ ha => hq a (Nat.not_le.mp ha)), vx_Zq.kept h5 (fun a _ ha => hq a (Nat.not_le.mp ha)), h6, hKS.2 U H H1 hq h7⟩
theorem KYd.x {base b L : Nat} {xs : Nat → Int32} {KS : State → Heap → Prop} : KYx base b L xs (KYd base b L xs KS) := by
  rintro U H ⟨h1, h2, h3, -⟩
  exact ⟨h1, h2, h3 _ (by unfold kws; simp), h3 _ (by unfold kws; simp)⟩
theorem WdH.exc {base b L : Nat} {xs : Nat → Int32} {D : va_G} {ac : Nat → ClassId} {M : AM} {H H' : Heap} (h : WdH base b L xs D ac M H) (z : H'.size = H.size + 1) (oq : ∀ q : Nat, q < H.size → H'[q]? = H[q]?) (n : Nat) : WdH base b L xs D ac (nw M 30 0 n) H' :=
  h.new (by decide) z oq (fun e => absurd rfl e)
theorem thr_st {y pc : Nat} (h : thr y pc = true) : (y = 1413 ∧ pc = 18) ∨ (y = 1419 ∧ pc = 32) ∨ (y = 1426 ∧ pc = 21) ∨ (y = 1438 ∧ pc = 29) ∨ (y = 1461 ∧ pc = 17) := by
  unfold thr at h
  cases hf : fnd thl y with
  | none => rw [hf] at h; cases h
  | some q =>
    rw [hf] at h
    have e := Nat.eq_of_beq_eq_true h
    have hm := fnd_mem hf
    unfold thl at hm
    simp only [List.mem_cons, List.not_mem_nil, or_false, Prod.mk.injEq] at hm
    omega
set_option maxRecDepth 100000 in
set_option maxHeartbeats 4000000 in
theorem throk {l : Launch} (hl : l.stackTraces = false) {base b L : Nat} {xs : Nat → Int32} {D : va_G} {ac : Nat → ClassId} {KS : State → Heap → Prop} : ThrOk l base b L xs D ac (KYd base b L xs KS) := by
  rintro y pc st M ⟨ht, rfl⟩ p e R s m args below meth c H locs cells slots ls S K hY hc0 hlocks hls hW hO hlo hf hlc hcl hsl
  obtain ⟨k1, k2, k3, k4, k5, k6, k7⟩ := hY
  intro T hT X
  have hsz : s.heap.size ≤ H.size := by rw [← hT]; exact (vx_frame X.same).1
  have hS : va_S (fun q => base ≤ q) s.heap H locs := ⟨hsz, fun q _ ha => hO q (Nat.not_le.mp ha), hlo⟩
  have hx : ∀ t : State, s.vm.Alike t.vm → t.heap.size = H.size + 1 → (∀ q : Nat, q < H.size → t.heap[q]? = H[q]?) → XcA base b L xs D ac (nw M 30 0 6) nse s t := fun t _ h1 h2 => ⟨rfl, hW.exc h1 h2 6, fun q hq => (h2 q (by rw [hW.1]; omega)).trans (hO q hq)⟩
  have hat : ∀ w ∈ oXs RX11 132, w.before args s = true := fun w hw => k3 w (List.mem_cons_of_mem _ (List.mem_cons_of_mem _ (List.mem_cons_of_mem _ (List.mem_cons_of_mem _ hw)))) args
  have hgood : ∀ w ∈ Cond.classLink RX11 128 nse :: Cond.initialized nse :: oXs RX11 132, vx_ot w = true := fun w hw => List.all_eq_true.mp kws_ot w (by
    rcases List.mem_cons.mp hw with rfl | hw
    · exact List.mem_cons_self
    · rcases List.mem_cons.mp hw with rfl | hw
      · exact List.mem_cons_of_mem _ List.mem_cons_self
      · exact List.mem_cons_of_mem _ (List.mem_cons_of_mem _ (List.mem_cons_of_mem _ (List.mem_cons_of_mem _ hw))))
  have hown := S.2.2.2.1
  rcases thr_st ht with ⟨rfl, rfl⟩ | ⟨rfl, rfl⟩ | ⟨rfl, rfl⟩ | ⟨rfl, rfl⟩ | ⟨rfl, rfl⟩
  · obtain ⟨sa, hs⟩ := k6 (130, "no such step") (by unfold ktx; simp)
    exact ab_thrM (sa := sa) S.1 S.2.1 hl (own := RX11) (ik := 128) (is := 130) (ic := 132) hown (k3 _ (by unfold kws; simp) args) (k3 _ (by unfold kws; simp) args) hs hat hgood k4 k5 hS (hls.trans S.2.2.1.symm)
      (dec_ok (ins_ok (y := 1413) (pc := 18) rfl) rfl) (dec_ok (ins_ok (y := 1413) (pc := 21) rfl) rfl) (dec_ok (ins_ok (y := 1413) (pc := 22) rfl) rfl) (dec_ok (ins_ok (y := 1413) (pc := 24) rfl) rfl) (dec_ok (ins_ok (y := 1413) (pc := 27) rfl) rfl)
      (by rw [hc0]; exact fun x h => nomatch h) (by show 2 + 3 < _; omega) (by show 0 + 82 ≤ _; omega) hcl hsl hlocks hx hlo (Nat.le_refl _) (Nat.le_refl _) T hT X
  · obtain ⟨sa, hs⟩ := k6 (177, "no such glass, day or reading") (by unfold ktx; simp)
    exact ab_thrM (sa := sa) S.1 S.2.1 hl (own := RX11) (ik := 128) (is := 177) (ic := 132) hown (k3 _ (by unfold kws; simp) args) (k3 _ (by unfold kws; simp) args) hs hat hgood k4 k5 hS (hls.trans S.2.2.1.symm)
      (dec_ok (ins_ok (y := 1419) (pc := 32) rfl) rfl) (dec_ok (ins_ok (y := 1419) (pc := 35) rfl) rfl) (dec_ok (ins_ok (y := 1419) (pc := 36) rfl) rfl) (dec_ok (ins_ok (y := 1419) (pc := 38) rfl) rfl) (dec_ok (ins_ok (y := 1419) (pc := 41) rfl) rfl)
      (by rw [hc0]; exact fun x h => nomatch h) (by show 2 + 3 < _; omega) (by show 0 + 82 ≤ _; omega) hcl hsl hlocks hx hlo (Nat.le_refl _) (Nat.le_refl _) T hT X
  · obtain ⟨sa, hs⟩ := k6 (244, "no such sign or day") (by unfold ktx; simp)
    exact ab_thrM (sa := sa) S.1 S.2.1 hl (own := RX11) (ik := 128) (is := 244) (ic := 132) hown (k3 _ (by unfold kws; simp) args) (k3 _ (by unfold kws; simp) args) hs hat hgood k4 k5 hS (hls.trans S.2.2.1.symm)
      (dec_ok (ins_ok (y := 1426) (pc := 21) rfl) rfl) (dec_ok (ins_ok (y := 1426) (pc := 24) rfl) rfl) (dec_ok (ins_ok (y := 1426) (pc := 25) rfl) rfl) (dec_ok (ins_ok (y := 1426) (pc := 27) rfl) rfl) (dec_ok (ins_ok (y := 1426) (pc := 30) rfl) rfl)
      (by rw [hc0]; exact fun x h => nomatch h) (by show 2 + 3 < _; omega) (by show 0 + 82 ≤ _; omega) hcl hsl hlocks hx hlo (Nat.le_refl _) (Nat.le_refl _) T hT X
  · obtain ⟨sa, hs⟩ := k6 (347, "no such person, signs or event") (by unfold ktx; simp)
    exact ab_thrMW (sa := sa) S.1 S.2.1 hl (own := RX11) (ik := 128) (is := 347) (ic := 132) hown (k3 _ (by unfold kws; simp) args) (k3 _ (by unfold kws; simp) args) hs hat hgood k4 k5 hS (hls.trans S.2.2.1.symm)
      (dec_ok (ins_ok (y := 1438) (pc := 29) rfl) rfl) (dec_ok (ins_ok (y := 1438) (pc := 32) rfl) rfl) (dec_ok (ins_ok (y := 1438) (pc := 33) rfl) rfl) (dec_ok (ins_ok (y := 1438) (pc := 36) rfl) rfl) (dec_ok (ins_ok (y := 1438) (pc := 39) rfl) rfl)
      (by rw [hc0]; exact fun x h => nomatch h) (by show 2 + 3 < _; omega) (by show 0 + 82 ≤ _; omega) hcl hsl hlocks hx hlo (Nat.le_refl _) (Nat.le_refl _) T hT X
  · obtain ⟨sa, hs⟩ := k6 (459, "no such number in the row") (by unfold ktx; simp)
    exact ab_thrMW (sa := sa) S.1 S.2.1 hl (own := RX11) (ik := 128) (is := 459) (ic := 132) hown (k3 _ (by unfold kws; simp) args) (k3 _ (by unfold kws; simp) args) hs hat hgood k4 k5 hS (hls.trans S.2.2.1.symm)
      (dec_ok (ins_ok (y := 1461) (pc := 17) rfl) rfl) (dec_ok (ins_ok (y := 1461) (pc := 20) rfl) rfl) (dec_ok (ins_ok (y := 1461) (pc := 21) rfl) rfl) (dec_ok (ins_ok (y := 1461) (pc := 24) rfl) rfl) (dec_ok (ins_ok (y := 1461) (pc := 27) rfl) rfl)
      (by rw [hc0]; exact fun x h => nomatch h) (by show 2 + 3 < _; omega) (by show 0 + 82 ≤ _; omega) hcl hsl hlocks hx hlo (Nat.le_refl _) (Nat.le_refl _) T hT X
