def Gr (M : AM) (q : Option Prop × List (Prop × Nat) × Nat × St2) : Prop := nn M ≤ nn q.2.2.2.2 ∧ us M ≤ us q.2.2.2.2
theorem Go0 {pc : Nat} {st : List Value} {M : AM} {q} (h : o0 pc st M = some q) : Gr M q := by cases (o0_some h); exact ⟨Nat.le_refl _, Nat.le_refl _⟩
theorem GoC {p : Prop} {pc : Nat} {st : List Value} {M : AM} {q} (h : oC p pc st M = some q) : Gr M q := by cases (oC_some h); exact ⟨Nat.le_refl _, Nat.le_refl _⟩
theorem GoCM {p : Prop} {pc : Nat} {st : List Value} {M M1 : AM} {q} (h : oC p pc st M1 = some q) (h1 : nn M ≤ nn M1) (h2 : us M ≤ us M1) : Gr M q := by cases (oC_some h); exact ⟨h1, h2⟩
theorem GoB {p : Prop} {pc off : Int} {nxt : Nat} {st : List Value} {M : AM} {q} (h : oB p pc off nxt st M = some q) : Gr M q := by obtain ⟨t, -, e⟩ := oB_some h; cases e; exact ⟨Nat.le_refl _, Nat.le_refl _⟩
theorem GoG {pc off : Int} {st : List Value} {M : AM} {q} (h : oG pc off st M = some q) : Gr M q := by obtain ⟨t, -, e⟩ := oG_some h; cases e; exact ⟨Nat.le_refl _, Nat.le_refl _⟩
theorem nwGr (M : AM) (a b c : Nat) : nn M ≤ nn (nw M a b c) ∧ us M ≤ us (nw M a b c) := ⟨by rw [nn_nw]; omega, by rw [us_nw]; omega⟩
set_option maxHeartbeats 4000000 in
theorem grow2 {own : Nat} {ini : Bool} {i : Instr} {pc : Nat} {st : List Value} {M : AM} {q} (h : isem2 own ini i pc st M = some q) : Gr M q := by
  unfold isem2 at h
  split at h
  all_goals first
    | exact Go0 h
    | exact GoG h
    | (obtain ⟨x, y, r, rfl, h⟩ := p2_some h; first | exact Go0 h | exact GoC h | (split at h <;> exact GoB h))
    | (obtain ⟨x, y, r, rfl, h⟩ := q2_some h; first | exact Go0 h | exact GoC h)
    | (obtain ⟨x, r, rfl, h⟩ := p1_some h; first | exact Go0 h | (split at h <;> exact GoB h))
    | (obtain ⟨x, r, rfl, h⟩ := r1_some h; first | exact GoB h | exact GoC h)
    | (obtain ⟨a, x, r, rfl, h⟩ := ri_some h; first | exact Go0 h | exact GoC h)
    | (obtain ⟨a, j, x, r, rfl, h⟩ := rii_some h; exact GoCM h (Nat.le_refl _) (Nat.le_refl _))
    | (obtain ⟨a, j, x, r, rfl, h⟩ := ril_some h; exact GoCM h (Nat.le_refl _) (Nat.le_refl _))
    | (obtain ⟨a, j, x, r, rfl, h⟩ := rir_some h; exact GoCM h (Nat.le_refl _) (Nat.le_refl _))
    | (split at h <;> first | exact Go0 h | cases h)
    | skip
  · obtain ⟨x, r, rfl, h9⟩ := p1_some h
    clear h
    split at h9
    · cases h9; exact ⟨Nat.le_refl _, Nat.le_refl _⟩
    · cases h9
  · obtain ⟨x, r, rfl, h9⟩ := p1_some h
    clear h
    split at h9
    · cases h9; exact ⟨Nat.le_refl _, Nat.le_refl _⟩
    · cases h9
  · rename_i t
    cases hz0 : Nat.beq (akd t) 0 with
    | true => rw [hz0] at h; cases h
    | false => rw [hz0] at h; obtain ⟨x, r, rfl, h⟩ := p1_some h; exact GoCM h (nwGr _ _ _ _).1 (nwGr _ _ _ _).2
  · split at h
    · rename_i k0 z1 z2 hl
      cases hz0 : (Nat.ble 2 k0 && Nat.ble k0 4) with
      | false => rw [hz0] at h; cases h
      | true => rw [hz0] at h; obtain ⟨x, r, rfl, h⟩ := p1_some h; exact GoCM h (nwGr _ _ _ _).1 (nwGr _ _ _ _).2
    · cases h
  · split at h
    · obtain ⟨x, r, rfl, h⟩ := r1_some h; exact GoC h
    · cases h
  · split at h
    · rename_i idx _ c0 k0 z0 hl
      cases hf : (!(finF c0 k0) || (ini && Nat.beq own c0)) with
      | false => rw [hf] at h; cases h
      | true =>
        rw [hf] at h
        simp only [cond_true] at h
        split at h
        · obtain ⟨a, x, r, rfl, h⟩ := ri_some h; exact GoCM h (Nat.le_refl _) (Nat.le_refl _)
        · obtain ⟨a, x, r, rfl, h⟩ := ri_some h; exact GoCM h (Nat.le_refl _) (Nat.le_refl _)
        · split at h
          · exact GoCM h (Nat.le_refl _) (Nat.le_refl _)
          · cases h
        · split at h
          · exact GoCM h (Nat.le_refl _) (Nat.le_refl _)
          · cases h
        · cases h
    · cases h
  · exact nwGr _ _ _ _
  · split at h
    · split at h
      · exact GoCM h (Nat.le_refl _) (Nat.le_refl _)
      · cases h
    · rename_i y _ _ _
      have cz : ∀ (b : Bool) (o : Ou2), cond b o none = some q → o = some q := fun b o h9 => by
        cases b with
        | true => exact h9
        | false => cases h9
      cases h1 : Nat.beq y 1920 with
      | true => rw [h1] at h; obtain ⟨x, r, rfl, h9⟩ := p1_some h; exact Go0 (cz _ _ h9)
      | false =>
        rw [h1] at h
        cases h2 : Nat.beq y 1921 with
        | true => rw [h2] at h; obtain ⟨x, z, r, rfl, h9⟩ := p2_some h; exact Go0 (cz _ _ h9)
        | false =>
          rw [h2] at h
          cases h3 : Nat.beq y 1922 with
          | true => rw [h3] at h; obtain ⟨x, z, r, rfl, h9⟩ := p2_some h; exact Go0 (cz _ _ h9)
          | false => rw [h3] at h; cases h
    · cases h
  · split at h
    · split at h
      · exact GoC h
      · cases h
    · cases h
  · cases h
theorem ivk_some {own idx pc : Nat} {st : List Value} {M M' : AM} {ck : Option Prop} {y' : Nat} {as : List Value} {pc' : Nat} {st' : List Value} (h : ivk own idx pc st M = some (ck, y', as, pc', st', M')) :
    ∃ z n9, lk own idx = some (1, y', z, n9) ∧ pc' = pc + 3 ∧ M' = M ∧ st = as.reverse ++ st' ∧ as.length = nar y' ∧ (st'.map fun v => cond (is2 v) 2 1).sum ≤ 8 ∧ (isi y' = true → ∃ a r, as = .ref a :: r ∧ ck = some (kd M a = mcl y' + 1)) ∧ (isi y' = false → ck = none) := by
  unfold ivk at h
  split at h
  · rename_i y9 z n9 hl
    cases hb : (Nat.ble (nar y9) st.length && Nat.ble (((st.drop (nar y9)).map fun v => cond (is2 v) 2 1).sum) 8) with
    | false => rw [hb] at h; cases h
    | true =>
      rw [hb] at h
      simp only [Bool.and_eq_true, Nat.ble_eq] at hb
      simp only [cond_true] at h
      have e1 : st = (st.take (nar y9)).reverse.reverse ++ st.drop (nar y9) := by rw [List.reverse_reverse, List.take_append_drop]
      have e2 : (st.take (nar y9)).reverse.length = nar y9 := by rw [List.length_reverse, List.length_take]; omega
      cases hi : isi y9 with
      | true =>
        rw [hi] at h
        simp only [cond_true] at h
        split at h
        · rename_i a r hr
          cases h
          refine ⟨z, n9, hl, rfl, rfl, by rw [← hr]; exact e1, by rw [← hr]; exact e2, hb.2, fun _ => ⟨a, r, rfl, rfl⟩, fun h9 => by (rw [hi] at h9; cases h9)⟩
        · cases h
      | false =>
        rw [hi] at h
        simp only [cond_false] at h
        cases h
        exact ⟨z, n9, hl, rfl, rfl, e1, e2, hb.2, fun h9 => by (rw [hi] at h9; cases h9), fun _ => rfl⟩
  · cases h
theorem grow3 {y own : Nat} {i : Instr} {pc : Nat} {st : List Value} {M : AM} {o} (h : isem3 y own i pc st M = some o) : (∀ c b p st' M', o = .inl (c, b, p, st', M') → isem2 own (inS y) i pc st M = some (c, b, p, st', M') ∧ nn M ≤ nn M' ∧ us M ≤ us M') ∧
    (∀ c y' as p st' M', o = .inr (.inl (c, y', as, p, st', M')) → M' = M) ∧ (∀ c v M', o = .inr (.inr (c, v, M')) → (M' = M ∧ v ≠ none) ∨ (M' = nw M 30 0 6 ∧ v = none ∧ (thr y pc = true ∧ st = []) ∧ c = none)) := by
  have h2 : up2 (isem2 own (inS y) i pc st M) = some o → _ := fun h9 => show (∀ c b p st' M', o = .inl (c, b, p, st', M') → isem2 own (inS y) i pc st M = some (c, b, p, st', M') ∧ nn M ≤ nn M' ∧ us M ≤ us M') ∧
      (∀ c y' as p st' M', o = .inr (.inl (c, y', as, p, st', M')) → M' = M) ∧ (∀ c v M', o = .inr (.inr (c, v, M')) → (M' = M ∧ v ≠ none) ∨ (M' = nw M 30 0 6 ∧ v = none ∧ (thr y pc = true ∧ st = []) ∧ c = none)) by
    unfold up2 at h9
    cases ho : isem2 own (inS y) i pc st M with
    | none => rw [ho] at h9; cases h9
    | some q =>
      rw [ho] at h9
      cases h9
      have hg := grow2 ho
      refine ⟨fun c b p st' M' e => ?_, fun _ _ _ _ _ _ e => by (cases e), fun _ _ _ e => by (cases e)⟩
      cases e
      exact ⟨rfl, hg⟩
  have h3 : ∀ idx ok, cal3 own idx pc st M ok = some o → (∀ c b p st' M', o = .inl (c, b, p, st', M') → isem2 own (inS y) i pc st M = some (c, b, p, st', M') ∧ nn M ≤ nn M' ∧ us M ≤ us M') ∧
      (∀ c y' as p st' M', o = .inr (.inl (c, y', as, p, st', M')) → M' = M) ∧ (∀ c v M', o = .inr (.inr (c, v, M')) → (M' = M ∧ v ≠ none) ∨ (M' = nw M 30 0 6 ∧ v = none ∧ (thr y pc = true ∧ st = []) ∧ c = none)) := by
    intro idx ok h9
    unfold cal3 at h9
    split at h9
    · rename_i c y' q hv
      cases hk : ok y' with
      | false => rw [hk] at h9; cases h9
      | true =>
        rw [hk] at h9
        cases h9
        refine ⟨fun _ _ _ _ _ e => by (cases e), fun c2 y2 as2 p2 st2 M2 e => ?_, fun _ _ _ e => by (cases e)⟩
        cases e
        obtain ⟨_, _, _, _, h5, _⟩ := ivk_some hv
        exact h5
    · cases h9
  unfold isem3 at h
  split at h
  · exact h3 _ _ h
  · split at h
    · rename_i y' _ _ _
      cases hz : Nat.ble 1920 y' with
      | true => rw [hz] at h; exact h2 h
      | false => rw [hz] at h; exact h3 _ _ h
    · exact h2 h
  · split at h
    · exact h3 _ _ h
    · exact h2 h
  · split at h
    · cases ht : (thr y pc && st.isEmpty) with
      | false => rw [ht] at h; cases h
      | true =>
        rw [ht] at h
        cases h
        simp only [Bool.and_eq_true, List.isEmpty_iff] at ht
        exact ⟨fun _ _ _ _ _ e => by (cases e), fun _ _ _ _ _ _ e => by (cases e), fun c v M' e => by cases e; exact Or.inr ⟨rfl, rfl, ht, rfl⟩⟩
    · exact h2 h
  · split at h
    · cases h
      exact ⟨fun _ _ _ _ _ e => by (cases e), fun _ _ _ _ _ _ e => by (cases e), fun c v M' e => by cases e; exact Or.inl ⟨rfl, fun z => by cases z⟩⟩
    · cases h
  · split at h
    · cases h
      exact ⟨fun _ _ _ _ _ e => by (cases e), fun _ _ _ _ _ _ e => by (cases e), fun c v M' e => by cases e; exact Or.inl ⟨rfl, fun z => by cases z⟩⟩
    · cases h
  · split at h
    · cases h
      exact ⟨fun _ _ _ _ _ e => by (cases e), fun _ _ _ _ _ _ e => by (cases e), fun c v M' e => by cases e; exact Or.inl ⟨rfl, fun z => by cases z⟩⟩
    · cases h
  · split at h
    · cases h
      exact ⟨fun _ _ _ _ _ e => by (cases e), fun _ _ _ _ _ _ e => by (cases e), fun c v M' e => by cases e; exact Or.inl ⟨rfl, fun z => by cases z⟩⟩
    · cases h
  · exact h2 h
theorem locX_inl {mx : Nat} {q : Nat × Nat × Nat × Int} {pc : Nat} {lv : Lo} {st : List Value} {M : AM} {o} (h : locX mx q pc lv st M = some o) : ∃ p lv' st', o = .inl (none, [], p, lv', st', M) := by
  obtain ⟨a, k, n, x⟩ := q
  unfold locX at h
  split at h <;> rename_i heq <;> cases heq
  · obtain ⟨v, -, -, rfl⟩ := ldL_some h; exact ⟨_, _, _, rfl⟩
  · obtain ⟨v, -, -, rfl⟩ := ldL_some h; exact ⟨_, _, _, rfl⟩
  · obtain ⟨v, -, -, rfl⟩ := ldL_some h; exact ⟨_, _, _, rfl⟩
  · obtain ⟨v, r, -, -, -, rfl⟩ := stL_some h; exact ⟨_, _, _, rfl⟩
  · obtain ⟨v, r, -, -, -, rfl⟩ := stL_some h; exact ⟨_, _, _, rfl⟩
  · obtain ⟨v, r, -, -, rfl⟩ := stJ_some h; exact ⟨_, _, _, rfl⟩
  · split at h
    · rename_i v hf
      cases hk : (Nat.ble (k + 1) mx) with
      | false => rw [hk] at h; cases h
      | true => rw [hk] at h; cases h; exact ⟨_, _, _, rfl⟩
    · cases h
theorem run_grow : ∀ (n d y : Nat) (c : Cf) (r : Re), run n d y c = some r → nn c.2.2.2 ≤ nn r.2 ∧ us c.2.2.2 ≤ us r.2
  | 0, d, y, c, r, h => by simp [run] at h
  | n + 1, d, y, (pc, lv, st, M), r, h => by
    have ih := run_grow n
    unfold run at h
    cases hi : ins y pc with
    | none => simp only [hi] at h; cases h
    | some i =>
      simp only [hi] at h
      cases ho : isem y (mcl y) i pc lv st M with
      | none => simp only [ho] at h; cases h
      | some o =>
        simp only [ho] at h
        have key : (∀ c b p lv' st' M', o = .inl (c, b, p, lv', st', M') → nn M ≤ nn M' ∧ us M ≤ us M') ∧ (∀ c y' as p lv' st' M', o = .inr (.inl (c, y', as, p, lv', st', M')) → M' = M) ∧ (∀ c v M', o = .inr (.inr (c, v, M')) → nn M ≤ nn M' ∧ us M ≤ us M') := by
          unfold isem at ho
          cases hl : locI i with
          | some q =>
            simp only [hl] at ho
            obtain ⟨p, lv', st', rfl⟩ := locX_inl ho
            exact ⟨fun c b p lv' st' M' e => by cases e; exact ⟨Nat.le_refl _, Nat.le_refl _⟩, fun _ _ _ _ _ _ _ e => by (cases e), fun _ _ _ e => by (cases e)⟩
          | none =>
            simp only [hl] at ho
            cases h3 : isem3 y (mcl y) i pc st M with
            | none => rw [h3] at ho; cases ho
            | some q =>
              rw [h3] at ho
              obtain ⟨g1, g2, g3⟩ := grow3 h3
              rcases q with ⟨c, b, p, st', M'⟩ | ⟨c, y', as, p, st', M'⟩ | ⟨c, v, M'⟩
              · cases ho
                exact ⟨fun c b p lv' st' M' e => by cases e; exact (g1 _ _ _ _ _ rfl).2, fun _ _ _ _ _ _ _ e => by (cases e), fun _ _ _ e => by (cases e)⟩
              · cases ho
                exact ⟨fun _ _ _ _ _ _ e => by (cases e), fun c y' as p lv' st' M' e => by cases e; exact g2 _ _ _ _ _ _ rfl, fun _ _ _ e => by (cases e)⟩
              · cases ho
                refine ⟨fun _ _ _ _ _ _ e => by (cases e), fun _ _ _ _ _ _ _ e => by (cases e), fun c v M' e => ?_⟩
                cases e
                rcases g3 _ _ _ rfl with ⟨rfl, -⟩ | ⟨rfl, -⟩
                · exact ⟨Nat.le_refl _, Nat.le_refl _⟩
                · exact nwGr _ _ _ _
        obtain ⟨k1, k2, k3⟩ := key
        rcases o with ⟨c, b, p, lv', st', M'⟩ | ⟨c, y', as, pc', lv', st', M'⟩ | ⟨c, v, M'⟩
        · dsimp only at h
          obtain ⟨g1, g2⟩ := k1 _ _ _ _ _ _ rfl
          by_cases hc : ckp c
          · rw [if_pos hc] at h
            have := ih _ _ _ _ h
            exact ⟨Nat.le_trans g1 this.1, Nat.le_trans g2 this.2⟩
          · rw [if_neg hc] at h; cases h
        · dsimp only at h
          have hM := k2 _ _ _ _ _ _ _ rfl
          subst hM
          by_cases hc : ckp c ∧ szL as ≤ mxl y'
          · rw [if_pos hc] at h
            cases d with
            | zero => cases h
            | succ d0 =>
              dsimp only at h
              cases hg : cee (run n d0) y' as M' with
              | none => rw [hg] at h; cases h
              | some z =>
                rw [hg] at h
                have hz : nn M' ≤ nn z.2 ∧ us M' ≤ us z.2 := by
                  unfold cee at hg
                  cases hp : prm y' as with
                  | some v => simp only [hp] at hg; cases hg; exact ⟨Nat.le_refl _, Nat.le_refl _⟩
                  | none => simp only [hp] at hg; exact ih _ _ _ _ hg
                obtain ⟨v, M2⟩ := z
                cases v with
                | some v =>
                  have := ih _ _ _ _ h
                  exact ⟨Nat.le_trans hz.1 this.1, Nat.le_trans hz.2 this.2⟩
                | none =>
                  unfold aft at h
                  dsimp only at h
                  cases hh : han y pc with
                  | none => simp only [hh] at h; cases h
                  | some q =>
                    simp only [hh] at h
                    have := ih _ _ _ _ h
                    exact ⟨Nat.le_trans hz.1 this.1, Nat.le_trans hz.2 this.2⟩
          · rw [if_neg hc] at h; cases h
        · dsimp only at h
          by_cases hc : ckp c
          · rw [if_pos hc] at h; cases h; exact k3 _ _ _ rfl
          · rw [if_neg hc] at h; cases h

