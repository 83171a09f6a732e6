/-! a call leaves the script (cell 1) as it was -/
def SC (M M' : AM) : Prop := gi M' 1 = gi M 1 ∧ ln M' 1 = ln M 1 ∧ nn M ≤ nn M' ∧ ∀ a, a < nn M + 2 → kd M' a = kd M a
theorem SC.refl (M : AM) : SC M M := ⟨rfl, rfl, Nat.le_refl _, fun _ _ => rfl⟩
theorem SC.trans {A B C : AM} (h : SC A B) (k : SC B C) : SC A C := ⟨k.1.trans h.1, k.2.1.trans h.2.1, Nat.le_trans h.2.2.1 k.2.2.1, fun a ha => (k.2.2.2 a (by have := h.2.2.1; omega)).trans (h.2.2.2 a ha)⟩
theorem SC.k1 {A B : AM} (h : SC A B) (k : kd A 1 = 27) : kd B 1 = 27 := (h.2.2.2 1 (by omega)).trans k
def SK (M : AM) (q : Option Prop × List (Prop × Nat) × Nat × St2) : Prop := kd M 1 = 27 → ckp q.1 → SC M q.2.2.2.2
theorem So0 {pc : Nat} {st : List Value} {M : AM} {q} (h : o0 pc st M = some q) : SK M q := by cases (o0_some h); exact fun _ _ => SC.refl _
theorem SoC {p : Prop} {pc : Nat} {st : List Value} {M : AM} {q} (h : oC p pc st M = some q) : SK M q := by cases (oC_some h); exact fun _ _ => SC.refl _
theorem SoCM {p : Prop} {pc : Nat} {st : List Value} {M M1 : AM} {q} (h : oC p pc st M1 = some q) (h1 : kd M 1 = 27 → p → SC M M1) : SK M q := by cases (oC_some h); exact h1
theorem SoB {p : Prop} {pc off : Int} {nxt : Nat} {st : List Value} {M : AM} {q} (h : oB p pc off nxt st M = some q) : SK M q := by obtain ⟨t, -, e⟩ := oB_some h; cases e; exact fun _ _ => SC.refl _
theorem SoG {pc off : Int} {st : List Value} {M : AM} {q} (h : oG pc off st M = some q) : SK M q := by obtain ⟨t, -, e⟩ := oG_some h; cases e; exact fun _ _ => SC.refl _
theorem scW {M : AM} {a : Nat} {f : Nat → Int32} (h1 : kd M 1 = 27) (h : kd M a ≠ 27) : SC M (wi M a f) := by
  have e : ¬ 1 = a := fun e => h (e ▸ h1)
  exact ⟨u1_ne _ _ e, rfl, Nat.le_refl _, fun _ _ => rfl⟩
theorem scI {M : AM} {a k : Nat} {v : Int32} (h1 : kd M 1 = 27) (h : kd M a ≠ 27) : SC M (si M a k v) := scW h1 h
theorem scL {M : AM} {a k : Nat} {v : Int64} : SC M (sl M a k v) := ⟨rfl, rfl, Nat.le_refl _, fun _ _ => rfl⟩
theorem scR {M : AM} {a k v : Nat} : SC M (sr M a k v) := ⟨rfl, rfl, Nat.le_refl _, fun _ _ => rfl⟩
theorem scN (M : AM) (k l n : Nat) : SC M (nw M k l n) := by
  have e : ¬ 1 = nn M + 2 := by omega
  exact ⟨u1_ne _ (fun _ => (0 : Int32)) e, u1_ne _ l e, Nat.le_succ _, fun a ha => u1_ne _ k (show ¬ a = nn M + 2 by omega)⟩
set_option maxHeartbeats 4000000 in
theorem keep2 {own : Nat} {ini : Bool} {i : Instr} {pc : Nat} {st : List Value} {M : AM} {q} (h : isem2 own ini i pc st M = some q) : SK M q := by
  unfold isem2 at h
  split at h
  all_goals first
    | exact So0 h
    | exact SoG h
    | (obtain ⟨x, y, r, rfl, h⟩ := p2_some h; first | exact So0 h | exact SoC h | (split at h <;> exact SoB h))
    | (obtain ⟨x, y, r, rfl, h⟩ := q2_some h; first | exact So0 h | exact SoC h)
    | (obtain ⟨x, r, rfl, h⟩ := p1_some h; first | exact So0 h | (split at h <;> exact SoB h))
    | (obtain ⟨x, r, rfl, h⟩ := r1_some h; first | exact SoB h | exact SoC h)
    | (obtain ⟨a, x, r, rfl, h⟩ := ri_some h; first | exact So0 h | exact SoC h)
    | (obtain ⟨a, j, x, r, rfl, h⟩ := rii_some h; exact SoCM h (fun g c => scI g (by rw [c.1]; decide)))
    | (obtain ⟨a, j, x, r, rfl, h⟩ := rii_some h; exact SoCM h (fun g c => scI g (by rcases c.1 with e | e <;> rw [e] <;> decide)))
    | (obtain ⟨a, j, x, r, rfl, h⟩ := ril_some h; exact SoCM h (fun _ _ => scL))
    | (obtain ⟨a, j, x, r, rfl, h⟩ := rir_some h; exact SoCM h (fun _ _ => scR))
    | (split at h <;> first | exact So0 h | cases h)
    | skip
  · obtain ⟨x, r, rfl, h9⟩ := p1_some h
    clear h
    split at h9
    · cases h9; exact fun _ _ => SC.refl _
    · cases h9
  · obtain ⟨x, r, rfl, h9⟩ := p1_some h
    clear h
    split at h9
    · cases h9; exact fun _ _ => SC.refl _
    · cases h9
  · rename_i t
    cases hz0 : Nat.beq (akd t) 0 with
    | true => rw [hz0] at h; cases h
    | false => rw [hz0] at h; obtain ⟨x, r, rfl, h⟩ := p1_some h; exact SoCM h (fun _ _ => scN _ _ _ _)
  · split at h
    · rename_i k0 z1 z2 hl
      cases hz0 : (Nat.ble 2 k0 && Nat.ble k0 4) with
      | false => rw [hz0] at h; cases h
      | true => rw [hz0] at h; obtain ⟨x, r, rfl, h⟩ := p1_some h; exact SoCM h (fun _ _ => scN _ _ _ _)
    · cases h
  · split at h
    · obtain ⟨x, r, rfl, h⟩ := r1_some h; exact SoC h
    · cases h
  · split at h
    · rename_i idx _ c0 k0 z0 hl
      have g2 := lk_ok hl
      simp only [lkok, Bool.and_eq_true, Nat.ble_eq] at g2
      have hc : c0 + 1 ≤ 13 := g2.1.1.1
      cases hf : (!(finF c0 k0) || (ini && Nat.beq own c0)) with
      | false => rw [hf] at h; cases h
      | true =>
        rw [hf] at h
        simp only [cond_true] at h
        split at h
        · obtain ⟨a, x, r, rfl, h⟩ := ri_some h; exact SoCM h (fun g c => scI g (by rw [c]; omega))
        · obtain ⟨a, x, r, rfl, h⟩ := ri_some h; exact SoCM h (fun g c => scI g (by rw [c.1]; omega))
        · split at h
          · exact SoCM h (fun _ _ => scR)
          · cases h
        · split at h
          · exact SoCM h (fun _ _ => scR)
          · cases h
        · cases h
    · cases h
  · exact fun _ _ => scN _ _ _ _
  · split at h
    · split at h
      · exact SoCM h (fun g c => scW g (by rw [c.1.2]; decide))
      · cases h
    · rename_i y _ _ _
      have cz : ∀ (b : Bool) (o : Ou2), cond b o none = some q → o = some q := fun b o h9 => by
        cases b with
        | true => exact h9
        | false => cases h9
      cases h1 : Nat.beq y 1920 with
      | true => rw [h1] at h; obtain ⟨x, r, rfl, h9⟩ := p1_some h; exact So0 (cz _ _ h9)
      | false =>
        rw [h1] at h
        cases h2 : Nat.beq y 1921 with
        | true => rw [h2] at h; obtain ⟨x, z, r, rfl, h9⟩ := p2_some h; exact So0 (cz _ _ h9)
        | false =>
          rw [h2] at h
          cases h3 : Nat.beq y 1922 with
          | true => rw [h3] at h; obtain ⟨x, z, r, rfl, h9⟩ := p2_some h; exact So0 (cz _ _ h9)
          | false => rw [h3] at h; cases h
    · cases h
  · split at h
    · split at h
      · exact SoC h
      · cases h
    · cases h
  · cases h
theorem run_keep : ∀ (n d y : Nat) (c : Cf) (r : Re), run n d y c = some r → kd c.2.2.2 1 = 27 → SC c.2.2.2 r.2
  | 0, d, y, c, r, h, _ => by simp [run] at h
  | n + 1, d, y, (pc, lv, st, M), r, h, hm => by
    have ih := run_keep n
    dsimp only at hm ⊢
    unfold run at h
    cases hi : ins y pc with
    | none => simp only [hi] at h; cases h
    | some i =>
      simp only [hi] at h
      cases ho : isem y (mcl y) i pc lv st M with
      | none => simp only [ho] at h; cases h
      | some o =>
        simp only [ho] at h
        have key : (∀ c b p lv' st' M', o = .inl (c, b, p, lv', st', M') → ckp c → SC M M') ∧ (∀ c y' as p lv' st' M', o = .inr (.inl (c, y', as, p, lv', st', M')) → M' = M) ∧ (∀ c v M', o = .inr (.inr (c, v, M')) → SC M M') := by
          unfold isem at ho
          cases hl : locI i with
          | some q =>
            simp only [hl] at ho
            obtain ⟨p, lv', st', rfl⟩ := locX_inl ho
            exact ⟨fun c b p lv' st' M' e => by cases e; exact fun _ => SC.refl _, fun _ _ _ _ _ _ _ e => by (cases e), fun _ _ _ e => by (cases e)⟩
          | none =>
            simp only [hl] at ho
            cases h3 : isem3 y (mcl y) i pc st M with
            | none => rw [h3] at ho; cases ho
            | some q =>
              rw [h3] at ho
              obtain ⟨g1, g2, g3⟩ := grow3 h3
              rcases q with ⟨c, b, p, st', M'⟩ | ⟨c, y', as, p, st', M'⟩ | ⟨c, v, M'⟩
              · cases ho
                exact ⟨fun c b p lv' st' M' e hc => by cases e; exact keep2 (g1 _ _ _ _ _ rfl).1 hm hc, fun _ _ _ _ _ _ _ e => by (cases e), fun _ _ _ e => by (cases e)⟩
              · cases ho
                exact ⟨fun _ _ _ _ _ _ e => by (cases e), fun c y' as p lv' st' M' e => by cases e; exact g2 _ _ _ _ _ _ rfl, fun _ _ _ e => by (cases e)⟩
              · cases ho
                refine ⟨fun _ _ _ _ _ _ e => by (cases e), fun _ _ _ _ _ _ _ e => by (cases e), fun c v M' e => ?_⟩
                cases e
                rcases g3 _ _ _ rfl with ⟨rfl, -⟩ | ⟨rfl, -⟩
                · exact SC.refl _
                · exact scN _ _ _ _
        obtain ⟨k1, k2, k3⟩ := key
        rcases o with ⟨c, b, p, lv', st', M'⟩ | ⟨c, y', as, pc', lv', st', M'⟩ | ⟨c, v, M'⟩
        · dsimp only at h
          by_cases hc : ckp c
          · rw [if_pos hc] at h
            have g1 := k1 _ _ _ _ _ _ rfl hc
            exact SC.trans g1 (ih _ _ _ _ h (g1.k1 hm))
          · rw [if_neg hc] at h; cases h
        · dsimp only at h
          have hM := k2 _ _ _ _ _ _ _ rfl
          subst hM
          by_cases hc : ckp c ∧ szL as ≤ mxl y'
          · rw [if_pos hc] at h
            cases d with
            | zero => cases h
            | succ d0 =>
              dsimp only at h
              cases hg : cee (run n d0) y' as M' with
              | none => rw [hg] at h; cases h
              | some z =>
                rw [hg] at h
                have hz : SC M' z.2 := by
                  unfold cee at hg
                  cases hp : prm y' as with
                  | some v => simp only [hp] at hg; cases hg; exact SC.refl _
                  | none => simp only [hp] at hg; exact ih _ _ _ _ hg hm
                obtain ⟨v, M2⟩ := z
                cases v with
                | some v => exact SC.trans hz (ih _ _ _ _ h (hz.k1 hm))
                | none =>
                  unfold aft at h
                  dsimp only at h
                  cases hh : han y pc with
                  | none => simp only [hh] at h; cases h
                  | some q =>
                    simp only [hh] at h
                    exact SC.trans hz (ih _ _ _ _ h (hz.k1 hm))
          · rw [if_neg hc] at h; cases h
        · dsimp only at h
          by_cases hc : ckp c
          · rw [if_pos hc] at h; cases h; exact k3 _ _ _ rfl
          · rw [if_neg hc] at h; cases h
theorem cee_keep {n d y : Nat} {as : List Value} {M : AM} {z : Re} (h : cee (run n d) y as M = some z) (hm : kd M 1 = 27) : SC M z.2 := by
  unfold cee at h
  cases hp : prm y as with
  | some v => simp only [hp] at h; cases h; exact SC.refl _
  | none => simp only [hp] at h; exact run_keep _ _ _ _ _ h hm
theorem WC.keep {d y : Nat} {as : List Value} {M : AM} {Q : Option (Option Value) → AM → Prop} (h : WC d y as M Q) (hm : kd M 1 = 27) : WC d y as M (fun r M' => Q r M' ∧ SC M M') := by
  obtain ⟨n, r, h1, h2⟩ := h
  exact ⟨n, r, h1, h2, cee_keep h1 hm⟩
