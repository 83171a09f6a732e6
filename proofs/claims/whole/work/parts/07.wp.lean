/-! ===== what the machine's runs mean: WP, and a walk over straight code ===== -/
theorem run_mono : ∀ (n d y : Nat) (c : Cf) (r : Re), run n d y c = some r → ∀ n' d' : Nat, n ≤ n' → d ≤ d' → run n' d' y c = some r
  | 0, d, y, c, r, h, n', d', hn, hd => by simp [run] at h
  | n + 1, d, y, (pc, lv, st, M), r, h, n', d', hn, hd => by
    obtain ⟨m, rfl⟩ : ∃ m, n' = m + 1 := ⟨n' - 1, by omega⟩
    have ih := run_mono n
    have hm : n ≤ m := by omega
    unfold run at h ⊢
    cases hi : ins y pc with
    | none => simp only [hi] at h; cases h
    | some i =>
      simp only [hi] at h ⊢
      cases ho : isem y (mcl y) i pc lv st M with
      | none => simp only [ho] at h; cases h
      | some o =>
        simp only [ho] at h ⊢
        rcases o with ⟨c, b, p, lv', st', M'⟩ | ⟨c, y', as, pc', lv', st', M'⟩ | ⟨c, v, M'⟩
        · dsimp only at h ⊢
          by_cases hc : ckp c
          · rw [if_pos hc] at h ⊢
            exact ih _ _ _ _ h _ _ hm hd
          · rw [if_neg hc] at h; cases h
        · dsimp only at h ⊢
          by_cases hc : ckp c ∧ szL as ≤ mxl y'
          · rw [if_pos hc] at h ⊢
            cases d with
            | zero => cases h
            | succ d0 =>
              obtain ⟨e, rfl⟩ : ∃ e, d' = e + 1 := ⟨d' - 1, by omega⟩
              dsimp only at h ⊢
              cases hg : cee (run n d0) y' as M' with
              | none => rw [hg] at h; cases h
              | some z =>
                have hg' : cee (run m e) y' as M' = some z := by
                  unfold cee at hg ⊢
                  cases hp : prm y' as with
                  | some v => simp only [hp] at hg ⊢; exact hg
                  | none => simp only [hp] at hg ⊢; exact ih _ _ _ _ hg _ _ hm (by omega)
                rw [hg] at h
                rw [hg']
                obtain ⟨v, M2⟩ := z
                cases v with
                | some v => exact ih _ _ _ _ h _ _ hm hd
                | none =>
                  unfold aft at h ⊢
                  dsimp only at h ⊢
                  cases hh : han y pc with
                  | none => simp only [hh] at h; cases h
                  | some q => simp only [hh] at h ⊢; exact ih _ _ _ _ h _ _ hm hd
          · rw [if_neg hc] at h; cases h
        · exact h
theorem cee_mono {n n' d d' y : Nat} {as : List Value} {M : AM} {r : Re} (h : cee (run n d) y as M = some r) (hn : n ≤ n') (hd : d ≤ d') : cee (run n' d') y as M = some r := by
  unfold cee at h ⊢
  cases hp : prm y as with
  | some v => simp only [hp] at h ⊢; exact h
  | none => simp only [hp] at h ⊢; exact run_mono _ _ _ _ _ h _ _ hn hd
/-- from here the machine ends, and Q holds of its answer and memory -/
def WP (d y : Nat) (c : Cf) (Q : Option (Option Value) → AM → Prop) : Prop := ∃ (n : Nat) (r : Re), run n d y c = some r ∧ Q r.1 r.2
/-- a call of a method -/
def WC (d y : Nat) (as : List Value) (M : AM) (Q : Option (Option Value) → AM → Prop) : Prop := ∃ (n : Nat) (r : Re), cee (run n d) y as M = some r ∧ Q r.1 r.2
theorem WP.mono {d d' y : Nat} {c : Cf} {Q Q' : Option (Option Value) → AM → Prop} (h : WP d y c Q) (hd : d ≤ d') (hQ : ∀ v M, Q v M → Q' v M) : WP d' y c Q' := by
  obtain ⟨n, r, h1, h2⟩ := h
  exact ⟨n, r, run_mono _ _ _ _ _ h1 _ _ (Nat.le_refl _) hd, hQ _ _ h2⟩
theorem WC.mono {d d' y : Nat} {as : List Value} {M : AM} {Q Q' : Option (Option Value) → AM → Prop} (h : WC d y as M Q) (hd : d ≤ d') (hQ : ∀ v M, Q v M → Q' v M) : WC d' y as M Q' := by
  obtain ⟨n, r, h1, h2⟩ := h
  exact ⟨n, r, cee_mono h1 (Nat.le_refl _) hd, hQ _ _ h2⟩
def ckq : Option Prop → Prop → Prop
  | none, P => P
  | some c, P => c ∧ P
def selq : List (Prop × Nat) → Nat → (Nat → Prop) → Prop
  | [], d, f => f d
  | (c, p) :: r, d, f => (c → f p) ∧ (¬ c → selq r d f)
theorem selq_sel : ∀ (b : List (Prop × Nat)) (d : Nat) (f : Nat → Prop), selq b d f → f (sel b d)
  | [], d, f, h => h
  | (c, p) :: r, d, f, h => by
    unfold sel
    by_cases hc : c
    · rw [if_pos hc]; exact h.1 hc
    · rw [if_neg hc]; exact selq_sel r d f (h.2 hc)
theorem ckq_ckp {c : Option Prop} {P : Prop} (h : ckq c P) : ckp c ∧ P := by
  cases c with
  | none => exact ⟨trivial, h⟩
  | some c => exact h
/-- what a call's answer must be, by the callee's return type: then the walk goes on with it -/
def ansK (t : Option FieldType) (K : Option Value → AM → Prop) : Option (Option Value) → AM → Prop := match t with
  | none => fun r M => r = some none ∧ K none M
  | some .long => fun r M => ∃ x : Int64, r = some (some (.long x)) ∧ K (some (.long x)) M
  | some (.object _) => fun r M => ∃ x : Nat, r = some (some (.ref x)) ∧ K (some (.ref x)) M
  | some (.array _) => fun r M => ∃ x : Nat, r = some (some (.ref x)) ∧ K (some (.ref x)) M
  | some _ => fun r M => ∃ x : Int32, r = some (some (.int x)) ∧ K (some (.int x)) M
theorem ansK_use {t : Option FieldType} {K : Option Value → AM → Prop} {r : Option (Option Value)} {M : AM} (h : ansK t K r M) : ∃ v, r = some v ∧ K v M := by
  cases t with
  | none => exact ⟨_, h⟩
  | some t =>
    cases t <;> (obtain ⟨x, h1, h2⟩ := h; exact ⟨_, h1, h2⟩)
theorem WP_norm {d y pc : Nat} {lv : Lo} {st : List Value} {M : AM} {Q : Option (Option Value) → AM → Prop} {i : Instr} {c : Option Prop} {b : List (Prop × Nat)} {p : Nat} {lv' : Lo} {st' : List Value} {M' : AM}
    (hi : ins y pc = some i) (ho : isem y (mcl y) i pc lv st M = some (.inl (c, b, p, lv', st', M'))) (hc : ckp c) (k : WP d y (sel b p, lv', st', M') Q) : WP d y (pc, lv, st, M) Q := by
  obtain ⟨n, r, h1, h2⟩ := k
  refine ⟨n + 1, r, ?_, h2⟩
  unfold run
  simp only [hi, ho, if_pos hc]
  exact h1
theorem WP_ret {d y pc : Nat} {lv : Lo} {st : List Value} {M : AM} {Q : Option (Option Value) → AM → Prop} {i : Instr} {c : Option Prop} {v : Option (Option Value)} {M' : AM}
    (hi : ins y pc = some i) (ho : isem y (mcl y) i pc lv st M = some (.inr (.inr (c, v, M')))) (hc : ckp c) (k : Q v M') : WP d y (pc, lv, st, M) Q := by
  refine ⟨1, (v, M'), ?_, k⟩
  unfold run
  simp only [hi, ho, if_pos hc]
theorem WP_call {d y pc : Nat} {lv : Lo} {st : List Value} {M : AM} {Q : Option (Option Value) → AM → Prop} {i : Instr} {c : Option Prop} {y' : Nat} {as : List Value} {pc' : Nat} {lv' : Lo} {st' : List Value} {M' : AM}
    (hi : ins y pc = some i) (ho : isem y (mcl y) i pc lv st M = some (.inr (.inl (c, y', as, pc', lv', st', M')))) (hc : ckp c) (hz : szL as ≤ mxl y')
    (k : WC d y' as M' (fun r M2 => (∃ v, r = some v ∧ WP (d + 1) y (pc', lv', v.toList ++ st', M2) Q) ∨ (∃ q, r = none ∧ han y pc = some q ∧ WP (d + 1) y (q.1, rm1 q.2 lv', [], M2) Q))) : WP (d + 1) y (pc, lv, st, M) Q := by
  obtain ⟨n0, ⟨v, M2⟩, g1, g2⟩ := k
  have fin : ∃ (n : Nat) (r : Re), (∀ n', n ≤ n' → aft (run n' (d + 1) y) y pc pc' lv' st' (some (v, M2)) = some r) ∧ Q r.1 r.2 := by
    rcases g2 with ⟨v1, e1, n, r, h1, h2⟩ | ⟨⟨q1, q2⟩, e1, e2, n, r, h1, h2⟩
    · dsimp only at e1
      subst e1
      exact ⟨n, r, fun n' hn => run_mono _ _ _ _ _ h1 _ _ hn (Nat.le_refl _), h2⟩
    · dsimp only at e1
      subst e1
      refine ⟨n, r, fun n' hn => ?_, h2⟩
      unfold aft
      simp only [e2]
      exact run_mono _ _ _ _ _ h1 _ _ hn (Nat.le_refl _)
  obtain ⟨n, r, h1, h2⟩ := fin
  refine ⟨n + n0 + 1, r, ?_, h2⟩
  unfold run
  simp only [hi, ho]
  rw [if_pos ⟨hc, hz⟩, cee_mono g1 (show n0 ≤ n + n0 by omega) (Nat.le_refl _)]
  exact h1 (n + n0) (by omega)
/-! ===== fewer locals known: the same run ===== -/
theorem fnd_kill (k : Nat) (j : Nat) : ∀ l : Lo, fnd (kill k l) j = if j = k then none else fnd l j
  | [] => by simp [kill, fnd]
  | q :: r => by
    have ih := fnd_kill k j r
    unfold kill
    cases hb : Nat.beq q.1 k with
    | true =>
      have e : q.1 = k := Nat.eq_of_beq_eq_true hb
      simp only [cond_true]
      rw [ih]
      split
      · rfl
      · rename_i hj
        have : Nat.beq q.1 j = false := by
          cases hc : Nat.beq q.1 j with
          | false => rfl
          | true => exact absurd ((Nat.eq_of_beq_eq_true hc).symm.trans e) hj
        simp [fnd, this]
    | false =>
      simp only [cond_false, fnd]
      rw [ih]
      cases hc : Nat.beq q.1 j with
      | false => simp
      | true =>
        have e : q.1 = j := Nat.eq_of_beq_eq_true hc
        have : ¬ j = k := fun z => by
          rw [← e] at z
          rw [z, Nat.beq_refl] at hb
          cases hb
        simp [this]
theorem fnd_prv (i j : Nat) (w : Value) (l : Lo) : fnd (prv i l) j = some w ↔ fnd l j = some w ∧ ¬ (j + 1 = i ∧ is2 w = true) := by
  unfold prv
  cases i with
  | zero => simp
  | succ k =>
    simp only []
    cases hk : fnd l k with
    | none =>
      simp only []
      constructor
      · intro h
        refine ⟨h, fun z => ?_⟩
        have : j = k := by omega
        rw [this, hk] at h; cases h
      · exact fun h => h.1
    | some v =>
      simp only []
      cases h2 : is2 v with
      | true =>
        simp only [cond_true]
        rw [fnd_kill]
        constructor
        · intro h
          split at h
          · cases h
          · rename_i hj; exact ⟨h, fun z => hj (by omega)⟩
        · intro h
          rw [if_neg (fun z => ?_)]
          · exact h.1
          · subst z
            rw [hk] at h
            have e := Option.some.inj h.1
            exact h.2 ⟨rfl, by rw [← e]; exact h2⟩
      | false =>
        simp only [cond_false]
        constructor
        · intro h
          refine ⟨h, fun z => ?_⟩
          have : j = k := by omega
          rw [this, hk] at h
          have e := Option.some.inj h
          rw [← e, h2] at z
          exact absurd z.2 (by decide)
        · exact fun h => h.1
theorem fnd_rm1 (i j : Nat) (w : Value) (l : Lo) : fnd (rm1 i l) j = some w ↔ ¬ j = i ∧ fnd l j = some w ∧ ¬ (j + 1 = i ∧ is2 w = true) := by
  unfold rm1
  rw [fnd_kill]
  by_cases h : j = i
  · simp [h]
  · rw [if_neg h, fnd_prv]; simp [h]
theorem fnd_rm2 (i j : Nat) (w : Value) (l : Lo) : fnd (rm2 i l) j = some w ↔ ¬ j = i + 1 ∧ ¬ j = i ∧ fnd l j = some w ∧ ¬ (j + 1 = i ∧ is2 w = true) := by
  unfold rm2
  rw [fnd_kill, fnd_kill]
  by_cases h0 : j = i + 1
  · simp [h0]
  · rw [if_neg h0]
    by_cases h : j = i
    · simp [h]
    · rw [if_neg h, fnd_prv]; simp [h, h0]
theorem fnd_cons {α : Type} (i : Nat) (v : α) (l : List (Nat × α)) (j : Nat) : fnd ((i, v) :: l) j = if j = i then some v else fnd l j := by
  show cond (Nat.beq i j) (some v) (fnd l j) = _
  by_cases h : j = i
  · subst h
    simp [Nat.beq_refl]
  · have : Nat.beq i j = false := by
      cases hc : Nat.beq i j with
      | false => rfl
      | true => exact absurd (Nat.eq_of_beq_eq_true hc).symm h
    simp [this, h]
def LE2 (a b : Lo) : Prop := ∀ i v, fnd a i = some v → fnd b i = some v
theorem LE2.rf (a : Lo) : LE2 a a := fun _ _ h => h
theorem LE2.rm1 {a b : Lo} (h : LE2 a b) (i : Nat) : LE2 (rm1 i a) (rm1 i b) := fun j w hj => by
  rw [fnd_rm1] at hj ⊢
  exact ⟨hj.1, h _ _ hj.2.1, hj.2.2⟩
theorem LE2.rm2 {a b : Lo} (h : LE2 a b) (i : Nat) : LE2 (rm2 i a) (rm2 i b) := fun j w hj => by
  rw [fnd_rm2] at hj ⊢
  exact ⟨hj.1, hj.2.1, h _ _ hj.2.2.1, hj.2.2.2⟩
theorem LE2.cons {a b : Lo} (h : LE2 a b) (i : Nat) (v : Value) : LE2 ((i, v) :: a) ((i, v) :: b) := fun j w hj => by
  rw [fnd_cons] at hj ⊢
  split at hj
  · rename_i e; rw [if_pos e]; exact hj
  · rename_i e; rw [if_neg e]; exact h _ _ hj
def OL (o o1 : (Option Prop × List (Prop × Nat) × Cf) ⊕ (Option Prop × Nat × List Value × Cf) ⊕ (Option Prop × Option (Option Value) × AM)) : Prop := match o, o1 with
  | .inl (c, b, p, lv, st, M), .inl (c1, b1, p1, lv1, st1, M1) => c = c1 ∧ b = b1 ∧ p = p1 ∧ LE2 lv lv1 ∧ st = st1 ∧ M = M1
  | .inr (.inl (c, y, as, p, lv, st, M)), .inr (.inl (c1, y1, as1, p1, lv1, st1, M1)) => c = c1 ∧ y = y1 ∧ as = as1 ∧ p = p1 ∧ LE2 lv lv1 ∧ st = st1 ∧ M = M1
  | .inr (.inr q), .inr (.inr q1) => q = q1
  | _, _ => False
theorem ldL_loc {lv lv1 : Lo} {i pc : Nat} {st : List Value} {M : AM} {ok : Value → Bool} {o} (hL : LE2 lv lv1) (h : ldL lv i pc st M ok = some o) : ∃ o1, ldL lv1 i pc st M ok = some o1 ∧ OL o o1 := by
  unfold ldL at h ⊢
  cases hf : fnd lv i with
  | none => simp only [hf] at h; cases h
  | some v =>
    simp only [hf] at h
    simp only [hL _ _ hf]
    cases hk : ok v with
    | false => rw [hk] at h; cases h
    | true =>
      rw [hk] at h
      cases h
      exact ⟨_, rfl, rfl, rfl, rfl, hL, rfl, rfl⟩
theorem stL_loc {mx : Nat} {lv lv1 : Lo} {i pc : Nat} {st : List Value} {M : AM} {ok : Value → Bool} {o} (hL : LE2 lv lv1) (h : stL mx lv i pc st M ok = some o) : ∃ o1, stL mx lv1 i pc st M ok = some o1 ∧ OL o o1 := by
  unfold stL at h ⊢
  cases st with
  | nil => cases h
  | cons v r =>
    dsimp only at h ⊢
    cases hk : (ok v && Nat.ble (i + 1) mx) with
    | false => rw [hk] at h; cases h
    | true =>
      rw [hk] at h
      cases h
      exact ⟨_, rfl, rfl, rfl, rfl, (hL.rm1 i).cons i v, rfl, rfl⟩
theorem stJ_loc {mx : Nat} {lv lv1 : Lo} {i pc : Nat} {st : List Value} {M : AM} {o} (hL : LE2 lv lv1) (h : stJ mx lv i pc st M = some o) : ∃ o1, stJ mx lv1 i pc st M = some o1 ∧ OL o o1 := by
  unfold stJ at h ⊢
  split at h
  · rename_i x r
    cases hk : (Nat.ble (i + 2) mx) with
    | false => rw [hk] at h; cases h
    | true =>
      rw [hk] at h
      cases h
      exact ⟨_, rfl, rfl, rfl, rfl, (hL.rm2 i).cons i _, rfl, rfl⟩
  · cases h
theorem isem_loc {y own : Nat} {i : Instr} {pc : Nat} {lv lv1 : Lo} {st : List Value} {M : AM} {o} (hL : LE2 lv lv1) (h : isem y own i pc lv st M = some o) : ∃ o1, isem y own i pc lv1 st M = some o1 ∧ OL o o1 := by
  unfold isem at h ⊢
  cases hl : locI i with
  | none =>
    simp only [hl] at h ⊢
    cases ho : isem3 y own i pc st M with
    | none => rw [ho] at h; cases h
    | some q =>
      rw [ho] at h
      rcases q with ⟨c, b, p, st', M'⟩ | ⟨c, y', as, p, st', M'⟩ | q
      · cases h; exact ⟨_, rfl, rfl, rfl, rfl, hL, rfl, rfl⟩
      · cases h; exact ⟨_, rfl, rfl, rfl, rfl, rfl, hL, rfl, rfl⟩
      · cases h; exact ⟨_, rfl, rfl⟩
  | some q =>
    simp only [hl] at h ⊢
    obtain ⟨a, k, n, x⟩ := q
    unfold locX at h ⊢
    split at h <;> rename_i heq <;> cases heq
    · exact ldL_loc hL h
    · exact ldL_loc hL h
    · exact ldL_loc hL h
    · exact stL_loc hL h
    · exact stL_loc hL h
    · exact stJ_loc hL h
    · split at h
      · rename_i v hf
        cases hk : (Nat.ble (k + 1) (mxl y)) with
        | false => rw [hk] at h; cases h
        | true =>
          rw [hk] at h
          cases h
          refine ⟨.inl (none, [], pc + n, (k, .int (v + kI x)) :: rm1 k lv1, st, M), ?_, rfl, rfl, rfl, (hL.rm1 k).cons k _, rfl, rfl⟩
          rename_i h0 h1 h2 h3 h4 h5
          split <;> first | (exact absurd rfl (by assumption)) | skip
          all_goals first | (simp only [hL _ _ hf, hk, cond_true]; done) | (rename_i hh; cases (hL _ _ hf).symm.trans hh; simp only [hk, cond_true]; done) | (exfalso; rename_i hh; exact hh _ (hL _ _ hf))
      · cases h
theorem run_loc : ∀ (n d y pc : Nat) (lv lv1 : Lo) (st : List Value) (M : AM) (r : Re), LE2 lv lv1 → run n d y (pc, lv, st, M) = some r → run n d y (pc, lv1, st, M) = some r
  | 0, d, y, pc, lv, lv1, st, M, r, hL, h => by simp [run] at h
  | n + 1, d, y, pc, lv, lv1, st, M, r, hL, h => by
    have ih := run_loc n
    unfold run at h ⊢
    cases hi : ins y pc with
    | none => simp only [hi] at h; cases h
    | some i =>
      simp only [hi] at h ⊢
      cases ho : isem y (mcl y) i pc lv st M with
      | none => simp only [ho] at h; cases h
      | some o =>
        obtain ⟨o1, ho1, hOL⟩ := isem_loc hL ho
        simp only [ho] at h
        simp only [ho1]
        rcases o with ⟨c, b, p, lv', st', M'⟩ | ⟨c, y', as, pc', lv', st', M'⟩ | ⟨c, v, M'⟩
        · rcases o1 with ⟨c1, b1, p1, lv1', st1', M1'⟩ | q | q
          · obtain ⟨rfl, rfl, rfl, hL', rfl, rfl⟩ := hOL
            dsimp only at h ⊢
            by_cases hc : ckp c
            · rw [if_pos hc] at h ⊢
              exact ih _ _ _ _ _ _ _ _ hL' h
            · rw [if_neg hc] at h; cases h
          · exact hOL.elim
          · exact hOL.elim
        · rcases o1 with q | ⟨c1, y1', as1, pc1', lv1', st1', M1'⟩ | q
          · exact hOL.elim
          · obtain ⟨rfl, rfl, rfl, rfl, hL', rfl, rfl⟩ := hOL
            dsimp only at h ⊢
            by_cases hc : ckp c ∧ szL as ≤ mxl y'
            · rw [if_pos hc] at h ⊢
              cases d with
              | zero => cases h
              | succ d0 =>
                dsimp only at h ⊢
                generalize cee (run n d0) y' as M' = g at h ⊢
                cases g with
                | none => cases h
                | some z =>
                  obtain ⟨v, M2⟩ := z
                  cases v with
                  | some v => exact ih _ _ _ _ _ _ _ _ hL' h
                  | none =>
                    unfold aft at h ⊢
                    dsimp only at h ⊢
                    cases hh : han y pc with
                    | none => simp only [hh] at h; cases h
                    | some q => simp only [hh] at h ⊢; exact ih _ _ _ _ _ _ _ _ (hL'.rm1 _) h
            · rw [if_neg hc] at h; cases h
          · exact hOL.elim
        · rcases o1 with q | q | ⟨c1, v1, M1'⟩
          · exact hOL.elim
          · exact hOL.elim
          · cases hOL
            exact h
theorem pick_le : ∀ (l : List Nat) (lv : Lo), LE2 (pick l lv) lv
  | [], lv => fun i v h => by simp [pick, fnd] at h
  | k :: r, lv => fun i v h => by
    unfold pick at h
    cases hk : fnd lv k with
    | none => simp only [hk] at h; exact pick_le r lv i v h
    | some w =>
      simp only [hk] at h
      rw [fnd_cons] at h
      split at h
      · rename_i e; rw [e, hk]; exact h
      · exact pick_le r lv i v h
theorem WP_pick {d y pc : Nat} {lv : Lo} {st : List Value} {M : AM} {Q : Option (Option Value) → AM → Prop} (l : List Nat) (h : WP d y (pc, pick l lv, st, M) Q) : WP d y (pc, lv, st, M) Q := by
  obtain ⟨n, r, h1, h2⟩ := h
  exact ⟨n, r, run_loc _ _ _ _ _ _ _ _ _ (pick_le l lv) h1, h2⟩
/-- a walk over straight code up to the places of 'cuts' (with the locals that live there) -/
def wps : Nat → List (Nat × List Nat) → Nat → Nat → Cf → (Option (Option Value) → AM → Prop) → Prop
  | 0, _, d, y, c, Q => WP d y c Q
  | k + 1, cuts, d, y, (pc, lv, st, M), Q => match ins y pc with
    | none => False
    | some i => match isem y (mcl y) i pc lv st M with
      | none => False
      | some (.inl (c, b, p, lv', st', M')) => ckq c (selq b p fun p' => match fnd cuts p' with
        | some l => WP d y (p', pick l lv', st', M') Q
        | none => wps k cuts d y (p', lv', st', M') Q)
      | some (.inr (.inl (c, y', as, pc', lv', st', M'))) => ckq c (match d with
        | 0 => False
        | d' + 1 => cond (Nat.ble (szL as) (mxl y')) (match han y pc with
          | none => WC d' y' as M' (ansK (mrt y') fun v M2 => match fnd cuts pc' with
            | some l => WP (d' + 1) y (pc', pick l lv', v.toList ++ st', M2) Q
            | none => wps k cuts (d' + 1) y (pc', lv', v.toList ++ st', M2) Q)
          | some q => WC d' y' as M' (fun r M2 => (ansK (mrt y') (fun v M3 => WP (d' + 1) y (pc', lv', v.toList ++ st', M3) Q) r M2) ∨ (r = none ∧ WP (d' + 1) y (q.1, rm1 q.2 lv', [], M2) Q))) False)
      | some (.inr (.inr (c, v, M'))) => ckq c (Q v M')
theorem wps_ok : ∀ (k : Nat) (cuts : List (Nat × List Nat)) (d y : Nat) (c : Cf) (Q : Option (Option Value) → AM → Prop), wps k cuts d y c Q → WP d y c Q
  | 0, cuts, d, y, c, Q, h => h
  | k + 1, cuts, d, y, (pc, lv, st, M), Q, h => by
    have ih := wps_ok k
    unfold wps at h
    cases hi : ins y pc with
    | none => simp only [hi] at h
    | some i =>
      simp only [hi] at h
      cases ho : isem y (mcl y) i pc lv st M with
      | none => simp only [ho] at h
      | some o =>
        simp only [ho] at h
        rcases o with ⟨c, b, p, lv', st', M'⟩ | ⟨c, y', as, pc', lv', st', M'⟩ | ⟨c, v, M'⟩
        · obtain ⟨hc, hs⟩ := ckq_ckp h
          refine WP_norm hi ho hc ?_
          have h1 := selq_sel _ _ _ hs
          generalize sel b p = p' at h1 ⊢
          cases hf : fnd cuts p' with
          | none => simp only [hf] at h1; exact ih _ _ _ _ _ h1
          | some l => simp only [hf] at h1; exact WP_pick l h1
        · obtain ⟨hc, hs⟩ := ckq_ckp h
          cases d with
          | zero => exact hs.elim
          | succ d' =>
            dsimp only at hs
            cases hz : Nat.ble (szL as) (mxl y') with
            | false => rw [hz] at hs; exact hs.elim
            | true =>
              rw [hz] at hs
              simp only [cond_true] at hs
              refine WP_call hi ho hc (Nat.ble_eq.mp hz) ?_
              cases hh : han y pc with
              | none =>
                simp only [hh] at hs
                refine hs.mono (Nat.le_refl _) fun r M2 hr => ?_
                obtain ⟨v, rfl, hv⟩ := ansK_use hr
                refine Or.inl ⟨v, rfl, ?_⟩
                cases hf : fnd cuts pc' with
                | none => simp only [hf] at hv; exact ih _ _ _ _ _ hv
                | some l => simp only [hf] at hv; exact WP_pick l hv
              | some q =>
                simp only [hh] at hs
                refine hs.mono (Nat.le_refl _) fun r M2 hr => ?_
                rcases hr with hr | ⟨hr, hw⟩
                · obtain ⟨v, rfl, hv⟩ := ansK_use hr
                  exact Or.inl ⟨v, rfl, hv⟩
                · exact Or.inr ⟨q, hr, rfl, hw⟩
        · obtain ⟨hc, hs⟩ := ckq_ckp h
          exact WP_ret hi ho hc hs
