/-! ===== isLetter: the one method that stands for itself ===== -/
def jf (c : Int32) : Int32 := if c < 0 ∨ 255 < c then -1 else jix c.toInt8.toInt32 7 0
theorem prz_n (x : Int32) : ∃ n, n < 65536 ∧ prz x = nI n := by
  refine ⟨x.toUInt32.toNat % 65536, Nat.mod_lt _ (by decide), ?_⟩
  unfold prz
  apply Int32.toBitVec_inj.mp
  apply BitVec.eq_of_toNat_eq
  show (x.toUInt32 % 65536).toNat = (BitVec.ofNat 32 (x.toUInt32.toNat % 65536)).toNat
  rw [UInt32.toNat_mod, BitVec.toNat_ofNat]
  show x.toUInt32.toNat % 65536 = _
  omega
set_option maxRecDepth 100000 in
theorem jf_small : ∀ n, n < 256 → (jf (nI n) < 0 ↔ ¬ (nI n = 119 ∨ nI n = 112 ∨ nI n = 102 ∨ nI n = 116 ∨ nI n = 121 ∨ nI n = 107 ∨ nI n = 100)) := by decide +kernel
theorem jf_ok (x : Int32) : jf (prz x) < 0 ↔ ¬ (prz x = 119 ∨ prz x = 112 ∨ prz x = 102 ∨ prz x = 116 ∨ prz x = 121 ∨ prz x = 107 ∨ prz x = 100) := by
  obtain ⟨n, hn, e⟩ := prz_n x
  rw [e]
  by_cases h : n < 256
  · exact jf_small n h
  · have hb : nI n < 0 ∨ 255 < nI n := Or.inr (nI_lt (a := 255) (by omega) (by omega))
    have ne : ∀ q : Nat, q < 256 → ¬ nI n = nI q := fun q hq z => by rw [nI_eq (by omega) (by omega)] at z; omega
    constructor
    · rintro - (z | z | z | z | z | z | z)
      · exact ne 119 (by decide) z
      · exact ne 112 (by decide) z
      · exact ne 102 (by decide) z
      · exact ne 116 (by decide) z
      · exact ne 121 (by decide) z
      · exact ne 107 (by decide) z
      · exact ne 100 (by decide) z
    · intro _
      unfold jf
      rw [if_pos hb]
      decide
set_option maxRecDepth 100000 in
set_option maxHeartbeats 4000000 in
theorem primok {l : Launch} {base b L a v : Nat} {xs : Nat → Int32} {D : va_G} {ac : Nat → ClassId} : PrimOk l base b L xs D ac (KYd base b L xs (KSd base a v)) := by
  intro d y as M w hp
  unfold prm at hp
  cases hy : Nat.beq y 385 with
  | false => rw [hy] at hp; cases hp
  | true =>
    rw [hy] at hp
    have e := Nat.eq_of_beq_eq_true hy
    subst e
    simp only [cond_true] at hp
    split at hp
    · rename_i x
      cases hp
      refine Met.ofW (cc := prog_5_method_2_code) (maxL := 1) (ret := some .boolean) (by decide) rfl ?_
      intro p e s m args below meth c s₁ B hml hv
      obtain ⟨rfl, hW, hKX, hY⟩ := hv
      have hK : KSd base a v s s.heap := hY.2.2.2.2.2.2
      have hx := B.exec
      have hb := B.bytes
      have hr := B.returns
      have hlocks := B.notSynchronized
      have hown : s.vm.findClass RX3 = some m.cls := findClass_of_methodNamed B.named
      have hl := lv_entry ([.int x]) (n := 1) (Nat.le_of_ble_eq_true rfl)
      show W p l e _ s m _ below meth c s.heap [] 0 0 _ (entryFrame m ([Value.int x] : List Value).toArray 1)
      rw [lg_entry_eq]
      generalize (lg_sl ([.int x]) ++ List.replicate (1 - (lg_sl ([.int x])).length) Slot.unset).toArray = ls at hl ⊢
      have hl : lv_has ls 1 [(0, .int x)] := hl
      have fin : ∀ {H : Heap}, ∀ t : State, t.heap = s.heap → WdH base b L xs D ac M t.heap ∧ ∀ q, q < base → t.heap[q]? = s.heap[q]? := fun t ht => ⟨by rw [ht]; exact hW, fun q _ => by rw [ht]⟩
      refine va_ldcS hx hb hown hK.2.1 dI_0 ?_
      refine lv_iload_n hx hb dI_2 rfl (lv_at hl 0 rfl) ?_
      refine lv_i2c (v := prz x) hx hb dI_3 rfl ?_
      refine pj_v (n := 1) (as := [.int (prz x)]) (rest := []) (y := jA) (bytes := prog_23_method_79_code) (maxL := 2) (ret := some .int) hx hb hml hown hK (m_A l base a v (prz x)) (goodIn_sub (by decide +kernel) (by decide +kernel)) rfl rfl (by decide +kernel) ⟨by show 3 + 1 ≤ d + 10; omega, by show 8 + (2 + 11) + 120 ≤ 100 * d + 1000; omega⟩ rfl hl.1 rfl (Nat.le_of_ble_eq_true rfl) dI_4 ⟨Nat.le_refl _, Nat.le_refl _⟩ ?_
      refine lv_if_lt (tgt := 14) hx hb dI_7 rfl (fun h => ?_) (fun h => ?_)
      · refine lv_iconst (v := 0) hx hb dI_14 (by decide) ?_
        have e0 := (jf_ok x).mp h
        rw [if_neg e0]
        exact W.zret hx hb hr rfl (fun t ht _ => ⟨rfl, (fin (H := s.heap) t ht).1, (fin (H := s.heap) t ht).2⟩) (fun q hq => nomatch hq) dI_15 hlocks
      · refine lv_iconst (v := 1) hx hb dI_10 (by decide) ?_
        refine lv_goto (tgt := 15) hx hb dI_11 rfl ?_
        have e0 := Classical.byContradiction fun z => h ((jf_ok x).mpr z)
        rw [if_pos e0]
        exact W.zret hx hb hr rfl (fun t ht _ => ⟨rfl, (fin (H := s.heap) t ht).1, (fin (H := s.heap) t ht).2⟩) (fun q hq => nomatch hq) dI_15 hlocks
    · cases hp
