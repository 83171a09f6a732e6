section SIM
variable {p : Program} {l : Launch} {e : Env} {R : Room} {s : State} {m : MethodId} {args : Array Value} {below : List Frame} {meth : Method} {c : Code} {H : Heap} {locs : List Loc} {cells slots : Nat} {Q : State → Prop}
variable {cc : ByteArray} {nL pc : Nat} {ls : Array Slot} {base b L : Nat} {xs : Nat → Int32} {D : va_G} {ac : Nat → ClassId}
/-- the heap's side of a store into an int-like array -/
theorem st_arr {j : Nat} {cA : ClassId} {n : Nat} {x : Int32} {H' : Heap} {a : Nat} (f : Nat → Int32) (e : H'[a]? = some ((arrV cA n (fun q => .int (f q))).setSlot j (.int x))) : va_at D vwCl (a, .inl (cA, n, .inl (u1 f j x))) H' := by
  show H'[a]? = some (vp_cell _ _)
  rw [e, vp_cell_i, arrV_store]
  congr 2
  funext q
  by_cases hq : q = j
  · subst hq; simp [updV, u1]
  · simp [updV, u1, hq]
theorem st_arl {j : Nat} {cA : ClassId} {n : Nat} {x : Int64} {H' : Heap} {a : Nat} (f : Nat → Int64) (e : H'[a]? = some ((arrV cA n (fun q => .long (f q))).setSlot j (.long x))) : va_at D vwCl (a, .inl (cA, n, .inr (.inl (u1 f j x)))) H' := by
  show H'[a]? = some (vp_cell _ _)
  rw [e, vp_cell_l, arrV_store]
  congr 2
  funext q
  by_cases hq : q = j
  · subst hq; simp [updV, u1]
  · simp [updV, u1, hq]
theorem st_arq {j : Nat} {cA : ClassId} {n v : Nat} {H' : Heap} {a : Nat} (f : Nat → Nat) (hv : rfo base b v = some (base + (v - 2))) (e : H'[a]? = some ((arrV cA n (fun q => va_rf (rfo base b (f q)))).setSlot j (.ref (base + (v - 2))))) : va_at D vwCl (a, .inl (cA, n, .inr (.inr (.inr (.inr (fun q => rfo base b (u1 f j v q))))))) H' := by
  show H'[a]? = some (vp_cell _ _)
  rw [e, vp_cell_q, arrV_store]
  congr 2
  funext q
  by_cases hq : q = j
  · subst hq; simp [updV, u1, hv, va_rf]
  · simp [updV, u1, hq]
/-- a field is stored -/
theorem put_fld {own k ci : Nat} {r : Nat} {v : Value} {rest : List Value} {V : Nat → Value} {idx : Nat} (S : CallFix p m c cc nL s args big (rcl own)) (K : KXs D ac s) (hc : ci < 13) (hk : k < ncl ci) (hlk : (Cond.fieldLink (rcl own) idx (tcl ci k).1 (tcl ci k).2.1 (tcl ci k).2.2.1).before args s = true)
    (hdecl : (tcl ci k).1 = rcl ci) (hfin : finF ci k = true → meth.name = "<init>" ∧ own = ci) (hn : narrow (tyF ci k) v = v) (hfit : fits (tyF ci k) v = true)
    (hat : va_at D vwCl (base + r, .inr (ci, (List.range (ncl ci)).map V)) H) (hdg : decode cc pc = .ok (.putfield idx, 3))
    (kk : ∀ (H1 : Heap), (∀ V' : Nat → Value, V' k = v → (∀ j, ¬ j = k → V' j = V j) → va_at D vwCl (base + r, .inr (ci, (List.range (ncl ci)).map V')) H1) → H1.size = H.size → (∀ q : Nat, q ≠ base + r → H1[q]? = H[q]?) → ∀ z : Loc, z.base = base + r → W p l e R s m args below meth c H1 (locs ++ [z]) cells slots Q (F0 m (pc + 3) ls rest)) :
    W p l e R s m args below meth c H locs cells slots Q (F0 m pc ls (v :: .ref (base + r) :: rest)) := by
  obtain ⟨hx, hb, hml, hown, hts⟩ := S
  have hin := big_mem_u hc
  have hap := va_apart (D := D) (cl := vwCl) (tys := tys7 ac) (own := rcl own) hts hin (tyF ci) (ty_at ci hc).1 (ty_at ci hc).2 K.1 (vw_at ci hc)
  obtain ⟨r0, h1, cell, q1, q2, q3, q4⟩ := hat
  have hr : r0 = (rcl ci, tcl ci, ncl ci) := Option.some.inj (h1.symm.trans (vw_at ci hc))
  subst hr
  obtain ⟨hS, hfc, kC, hkC, hkind⟩ := K.1.1 ci _ (vw_at ci hc)
  obtain ⟨cf, kf, fi, f, hi, hsl⟩ := hS k hk
  have hlay := hts _ (hin _ (u_in_lay hk))
  have hst := (u_facts hfc hkC (u_lays hts hin hk) hi).1
  have fin : ∀ H' : Heap, H'[base + r]? = some (cell.setSlot f.slot v) → (∀ V' : Nat → Value, V' k = v → (∀ j, ¬ j = k → V' j = V j) → va_at D vwCl (base + r, .inr (ci, (List.range (ncl ci)).map V')) H') := by
    intro H' e1 V' hV1 hV2
    refine ⟨_, vw_at ci hc, ?_⟩
    rw [hsl] at e1
    have h9 : t_OB (base + r) (D.1 ci) (ncl ci) (D.2 ci) H' (updV (vp_V ((List.range (ncl ci)).map V)) k v) := ⟨_, e1, q2, q3, t_set q4 hap hk v⟩
    have hl : k < ((List.range (ncl ci)).map V).length := by simpa using hk
    have h10 := t_OB.to (V := updV (vp_V ((List.range (ncl ci)).map V)) k v) h9 (fun j _ => vp_updV_set hl v j)
    rw [← hV1, map_range_set hV2] at h10
    exact h10
  unfold u_lay at hlay
  cases hf : (tcl ci k).2.2.2 with
  | false =>
    rw [if_neg (by rw [hf]; decide)] at hlay
    have h6 := u_store hfc hkC hkind hlay hi ((ty_at ci hc).1 k hk) hn hfit
    refine W.putK hx hb (f := f) ⟨hown, hlk, ⟨_, _, _, hi⟩, hst⟩ (by rw [q2]; exact h6) q1 q3 (by rw [hsl]; exact k2_hasslot (q4 k hk)) rfl rfl hdg fun H' e1 e2 e3 => ?_
    exact kk H' (fin H' e1) e2 e3 _ rfl
  | true =>
    obtain ⟨hin2, hoc⟩ := hfin (by unfold finF; exact hf)
    subst hoc
    rw [if_pos hf] at hlay
    have hcf : m.cls = cf := by
      obtain ⟨_, _, c', _, _, _, -, -, hf', -, -, -, hown2, -⟩ := Cond.laysFinal_spec hlay
      have e1 : c' = cf := by have := hi.symm.trans hf'; simp at this; exact this.1.symm
      rw [hdecl] at hown2
      rw [← e1]; exact Option.some.inj (hown.symm.trans hown2)
    have h6 := u_fits hfc hkC hkind (Or.inr hlay) hi ((ty_at own hc).1 k hk) hn hfit
    refine W.putFinK hx hb hown hlk hi hst hcf hin2 (by rw [q2]; exact h6) q1 q3 (by rw [hsl]; exact k2_hasslot (q4 k hk)) rfl rfl hdg fun H' e1 e2 e3 => ?_
    exact kk H' (fin H' e1) e2 e3 _ rfl
theorem loc_app {P : Nat → Prop} {locs : List Loc} {z : Loc} (h : ∀ q ∈ locs, P q.base) (hz : P z.base) : ∀ q ∈ locs ++ [z], P q.base := fun q hq => by
  rcases List.mem_append.mp hq with h1 | h1
  · exact h q h1
  · rw [List.mem_singleton.mp h1]; exact hz
end SIM

