/-! ===== what signs save is never below 0 ===== -/
noncomputable def dcN (P E : Prop) (c l s : Nat) : Nat := @ite _ P (Classical.propDecidable _) (c + @ite _ E (Classical.propDecidable _) s 0) (@ite _ E (Classical.propDecidable _) l 0)
theorem dcI_N (P E : Prop) (c l s : Nat) : dcI P E (nI c) (nI l) (nI s) = nI (dcN P E c l s) := by
  unfold dcN
  by_cases p : P
  · rw [dcy p, if_pos p]
    by_cases e : E
    · rw [if_pos e, bi_t e, ← nI1, pk_mul, pk_mul, nI_add, Nat.mul_one, Nat.mul_one]
    · rw [if_neg e, bi_f e, ← nI0, pk_mul, pk_mul, nI_add, Nat.mul_one, Nat.mul_zero]
  · rw [dcn p, if_neg p]
    by_cases e : E
    · rw [if_pos e, bi_t e, ← nI1, pk_mul, Nat.mul_one]
    · rw [if_neg e, bi_f e, ← nI0, pk_mul, Nat.mul_zero]
theorem sm_nI (F : Nat → Nat) : ∀ n, sm (fun t => nI (F t)) n = nI (nsm F n)
  | 0 => rfl
  | n + 1 => by rw [sm, sm_nI F n, nI_add]; rfl
theorem nsm_add (f g : Nat → Nat) : ∀ n, nsm (fun t => f t + g t) n = nsm f n + nsm g n
  | 0 => rfl
  | n + 1 => by rw [nsm, nsm, nsm, nsm_add f g n]; omega
theorem nsm_cg {f g : Nat → Nat} : ∀ {n : Nat}, (∀ t, t < n → f t = g t) → nsm f n = nsm g n
  | 0, _ => rfl
  | n + 1, h => by rw [nsm, nsm, nsm_cg (n := n) fun k hk => h k (by omega), h n (by omega)]
theorem nsm_mn {f g : Nat → Nat} : ∀ {n : Nat}, (∀ t, t < n → f t ≤ g t) → nsm f n ≤ nsm g n
  | 0, _ => Nat.le_refl _
  | n + 1, h => by
    rw [nsm, nsm]
    have := nsm_mn (n := n) fun k hk => h k (by omega)
    have := h n (by omega)
    omega
theorem nsm_0 : ∀ n, nsm (fun _ => 0) n = 0
  | 0 => rfl
  | n + 1 => by rw [nsm, nsm_0 n]
theorem nsm_one (x F : Nat) : ∀ m, nsm (fun v => if x = v then F else 0) m = if x < m then F else 0
  | 0 => by rw [if_neg (by omega)]; rfl
  | m + 1 => by
    rw [nsm, nsm_one x F m]
    by_cases h : x = m
    · subst h; rw [if_neg (by omega), if_pos rfl, if_pos (by omega)]; omega
    · rw [if_neg h]
      by_cases q : x < m
      · rw [if_pos q, if_pos (by omega)]; omega
      · rw [if_neg q, if_neg (by omega)]
theorem nsm_grp (F x : Nat → Nat) (m : Nat) : ∀ n, (∀ t, t < n → x t < m) → nsm F n = nsm (fun v => nsm (fun t => if x t = v then F t else 0) n) m
  | 0, _ => (nsm_0 m).symm
  | n + 1, h => by
    show nsm F n + F n = nsm (fun v => nsm (fun t => if x t = v then F t else 0) n + (if x n = v then F n else 0)) m
    rw [nsm_add, ← nsm_grp F x m n (fun t ht => h t (by omega)), nsm_one, if_pos (h n (by omega))]
theorem grp_T (ca : Nat → Prop) (x : Nat → Nat) (v c l s : Nat) : ∀ n, nsm (fun t => if x t = v then dcN True (ca t) c l s else 0) n = c * ct (fun t => x t = v) n + s * ct (fun t => x t = v ∧ ca t) n
  | 0 => by show 0 = c * 0 + s * 0; omega
  | n + 1 => by
    rw [nsm, grp_T ca x v c l s n]
    by_cases h : x n = v
    · rw [if_pos h, ct_t (p := fun t => x t = v) h]
      unfold dcN
      rw [if_pos trivial]
      by_cases e : ca n
      · rw [if_pos e, ct_t (p := fun t => x t = v ∧ ca t) ⟨h, e⟩, Nat.mul_add, Nat.mul_add]; omega
      · rw [if_neg e, ct_f (p := fun t => x t = v ∧ ca t) (fun q => e q.2), Nat.mul_add]; omega
    · rw [if_neg h, ct_f (p := fun t => x t = v) h, ct_f (p := fun t => x t = v ∧ ca t) (fun q => h q.1)]; rfl
theorem grp_F (ca : Nat → Prop) (x : Nat → Nat) (v c l s : Nat) : ∀ n, nsm (fun t => if x t = v then dcN False (ca t) c l s else 0) n = l * ct (fun t => x t = v ∧ ca t) n
  | 0 => by show 0 = l * 0; omega
  | n + 1 => by
    rw [nsm, grp_F ca x v c l s n]
    by_cases h : x n = v
    · rw [if_pos h]
      unfold dcN
      rw [if_neg id]
      by_cases e : ca n
      · rw [if_pos e, ct_t (p := fun t => x t = v ∧ ca t) ⟨h, e⟩, Nat.mul_add]; omega
      · rw [if_neg e, ct_f (p := fun t => x t = v ∧ ca t) (fun q => e q.2)]; rfl
    · rw [if_neg h, ct_f (p := fun t => x t = v ∧ ca t) (fun q => h q.1)]; rfl
theorem all_T (ca : Nat → Prop) (c l s : Nat) : ∀ n, nsm (fun t => dcN True (ca t) c l s) n = c * n + s * ct ca n
  | 0 => by show 0 = c * 0 + s * 0; omega
  | n + 1 => by
    rw [nsm, all_T ca c l s n]
    unfold dcN
    rw [if_pos trivial]
    by_cases e : ca n
    · rw [if_pos e, ct_t e, Nat.mul_add, Nat.mul_add]; omega
    · rw [if_neg e, ct_f e, Nat.mul_add]; omega
theorem all_F (ca : Nat → Prop) (c l s : Nat) : ∀ n, nsm (fun t => dcN False (ca t) c l s) n = l * ct ca n
  | 0 => by show 0 = l * 0; omega
  | n + 1 => by
    rw [nsm, all_F ca c l s n]
    unfold dcN
    rw [if_neg id]
    by_cases e : ca n
    · rw [if_pos e, ct_t e, Nat.mul_add]; omega
    · rw [if_neg e, ct_f e]; rfl
theorem dcN_P {P : Prop} (h : P) (E : Prop) (c l s : Nat) : dcN P E c l s = dcN True E c l s := by unfold dcN; rw [if_pos h, if_pos trivial]
theorem dcN_n {P : Prop} (h : ¬ P) (E : Prop) (c l s : Nat) : dcN P E c l s = dcN False E c l s := by unfold dcN; rw [if_neg h, if_neg id]
theorem saP_N {c l s m e : Nat} (hc : c < 1000) (hl : l < 1000) (hs : s < 1000) (hm : m ≤ 240) (he : e ≤ 240) : saP (nI c) (nI l) (nI s) (nI m) (nI e) ↔ c * m + s * e < l * e := by
  have h1 : c * m ≤ 1000 * 240 := Nat.mul_le_mul (by omega) hm
  have h2 : s * e ≤ 1000 * 240 := Nat.mul_le_mul (by omega) he
  have h3 : l * e ≤ 1000 * 240 := Nat.mul_le_mul (by omega) he
  unfold saP
  rw [pk_mul, pk_mul, pk_mul, nI_add, nI_ltI (by omega) (by omega)]
theorem sav {c l s kn : Nat} {so : Nat → Int32} {ca : Nat → Prop} (hc : c < 1000) (hl : l < 1000) (hs : s < 1000) (hk : kn ≤ 240) (hB : SB kn so) (bits : Int32) : ∃ v, v ≤ 240000 ∧ blC (nI c) (nI l) (nI s) ca kn - byS (nI c) (nI l) (nI s) so ca bits kn kn = nI v := by
  obtain ⟨x, hx⟩ : ∃ x : Nat → Nat, ∀ t, t < kn → x t < 1024 ∧ so t &&& bits = nI (x t) := by
    have : ∀ t, ∃ v, t < kn → v < 1024 ∧ so t &&& bits = nI v := fun t => by
      by_cases ht : t < kn
      · obtain ⟨m, hm, e⟩ := hB t ht
        obtain ⟨v, hv, e2, -⟩ := and_lt hm bits
        exact ⟨v, fun _ => ⟨hv, by rw [e]; exact e2⟩⟩
      · exact ⟨0, fun h => absurd h ht⟩
    exact Classical.axiomOfChoice this
  obtain ⟨Q, hQ⟩ : ∃ Q : Nat → Prop, Q = fun v => abP (nI c) (nI l) (nI s) so ca bits (nI v) kn := ⟨_, rfl⟩
  obtain ⟨F, hF⟩ : ∃ F : Nat → Nat, F = fun t => dcN (abP (nI c) (nI l) (nI s) so ca bits (so t &&& bits) kn) (ca t) c l s := ⟨_, rfl⟩
  have eby : byS (nI c) (nI l) (nI s) so ca bits kn kn = nI (nsm F kn) := by
    unfold byS
    rw [← sm_nI, hF]
    exact sm_cong fun t _ => dcI_N _ _ _ _ _
  have eg : nsm F kn = nsm (fun v => nsm (fun t => if x t = v then dcN (Q v) (ca t) c l s else 0) kn) 1024 := by
    rw [nsm_grp F x 1024 kn fun t ht => (hx t ht).1]
    refine nsm_cg fun v hv => nsm_cg fun t ht => ?_
    by_cases h : x t = v
    · rw [if_pos h, if_pos h, hF, hQ]
      dsimp only
      rw [(hx t ht).2, h]
    · rw [if_neg h, if_neg h]
  have ms : ∀ v, v < 1024 → mS so bits (nI v) kn = ct (fun t => x t = v) kn ∧ eS so ca bits (nI v) kn = ct (fun t => x t = v ∧ ca t) kn := fun v hv => by
    have e : ∀ t, t < kn → (so t &&& bits = nI v ↔ x t = v) := fun t ht => by
      obtain ⟨q1, q2⟩ := hx t ht
      rw [q2, nI_eq (by omega) (by omega)]
    exact ⟨ct_cong fun t ht => e t ht, ct_cong fun t ht => by rw [e t ht]⟩
  have lev : ∀ v, v < 1024 → nsm (fun t => if x t = v then dcN (Q v) (ca t) c l s else 0) kn ≤ c * ct (fun t => x t = v) kn + s * ct (fun t => x t = v ∧ ca t) kn ∧ nsm (fun t => if x t = v then dcN (Q v) (ca t) c l s else 0) kn ≤ l * ct (fun t => x t = v ∧ ca t) kn := fun v hv => by
    obtain ⟨m1, m2⟩ := ms v hv
    have k1 := ct_le (fun t => x t = v) kn
    have k2 : ct (fun t => x t = v ∧ ca t) kn ≤ ct (fun t => x t = v) kn := ct_mono (fun t h => h.1) kn
    have hq : Q v ↔ (0 < ct (fun t => x t = v) kn ∧ c * ct (fun t => x t = v) kn + s * ct (fun t => x t = v ∧ ca t) kn < l * ct (fun t => x t = v ∧ ca t) kn) ∨ (ct (fun t => x t = v) kn = 0 ∧ saP (nI c) (nI l) (nI s) (nI kn) (nI (ct ca kn))) := by
      rw [hQ]
      show abP _ _ _ _ _ _ _ _ ↔ _
      unfold abP
      rw [m1, m2, saP_N hc hl hs (by omega) (by omega)]
    by_cases y : Q v
    · have e : nsm (fun t => if x t = v then dcN (Q v) (ca t) c l s else 0) kn = c * ct (fun t => x t = v) kn + s * ct (fun t => x t = v ∧ ca t) kn := by
        rw [← grp_T ca x v c l s kn]
        exact nsm_cg fun t _ => by rw [dcN_P y]
      rw [e]
      refine ⟨Nat.le_refl _, ?_⟩
      rcases hq.mp y with ⟨-, h⟩ | ⟨h, -⟩
      · omega
      · rw [h, show ct (fun t => x t = v ∧ ca t) kn = 0 by omega]; omega
    · have e : nsm (fun t => if x t = v then dcN (Q v) (ca t) c l s else 0) kn = l * ct (fun t => x t = v ∧ ca t) kn := by
        rw [← grp_F ca x v c l s kn]
        exact nsm_cg fun t _ => by rw [dcN_n y]
      rw [e]
      refine ⟨?_, Nat.le_refl _⟩
      by_cases z : ct (fun t => x t = v) kn = 0
      · rw [show ct (fun t => x t = v ∧ ca t) kn = 0 by omega]; omega
      · exact Nat.not_lt.mp fun h => y (hq.mpr (Or.inl ⟨by omega, h⟩))
  have hT : nsm F kn ≤ c * kn + s * ct ca kn := by
    rw [← all_T ca c l s kn, eg, nsm_grp (fun t => dcN True (ca t) c l s) x 1024 kn fun t ht => (hx t ht).1]
    exact nsm_mn fun v hv => by rw [grp_T]; exact (lev v hv).1
  have hFF : nsm F kn ≤ l * ct ca kn := by
    rw [← all_F ca c l s kn, eg, nsm_grp (fun t => dcN False (ca t) c l s) x 1024 kn fun t ht => (hx t ht).1]
    exact nsm_mn fun v hv => by rw [grp_F]; exact (lev v hv).2
  have k3 := ct_le ca kn
  have b1 : c * kn ≤ 1000 * 240 := Nat.mul_le_mul (by omega) hk
  have b2 : s * ct ca kn ≤ 1000 * 240 := Nat.mul_le_mul (by omega) (by omega)
  have b3 : l * ct ca kn ≤ 1000 * 240 := Nat.mul_le_mul (by omega) (by omega)
  rw [eby]
  by_cases y : saP (nI c) (nI l) (nI s) (nI kn) (nI (ct ca kn))
  · have h := (saP_N hc hl hs hk (by omega)).mp y
    rw [blT y, coT, pk_mul, pk_mul, nI_add, pk_sub hT]
    exact ⟨_, by omega, rfl⟩
  · rw [blF y, coF, pk_mul, pk_sub hFF]
    exact ⟨_, by omega, rfl⟩
