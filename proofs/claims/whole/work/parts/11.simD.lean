def LR (base b nL : Nat) (lv : Lo) (ls : Array Slot) : Prop := ls.size = nL ∧ lv_wf ls ∧ ∀ i v, fnd lv i = some v → ls[i]? = some (.val (rl base b v))
def lst (base b nL : Nat) (lv : Lo) : List (Nat × Value) := (List.range nL).filterMap fun j => (fnd lv j).map fun w => (j, rl base b w)
theorem lst_mem {base b nL : Nat} {lv : Lo} {j : Nat} {w : Value} (hj : j < nL) (h : fnd lv j = some w) : (j, rl base b w) ∈ lst base b nL lv :=
  List.mem_filterMap.mpr ⟨j, List.mem_range.mpr hj, by rw [h]; rfl⟩
theorem LR.has {base b nL : Nat} {lv : Lo} {ls : Array Slot} (h : LR base b nL lv ls) : lv_has ls nL (lst base b nL lv) := by
  refine ⟨h.1, h.2.1, fun q hq => ?_⟩
  obtain ⟨j, -, hj⟩ := List.mem_filterMap.mp hq
  cases hf : fnd lv j with
  | none => rw [hf] at hj; cases hj
  | some w => rw [hf] at hj; cases hj; exact h.2.2 _ _ hf
theorem cat_is2 (base b : Nat) (w : Value) : ((rl base b w).category == 2) = is2 w := by
  cases w with
  | ref r => show ((va_rf (rfo base b r)).category == 2) = _; rw [cat_rf]; rfl
  | _ => rfl
theorem LR.of1 {base b nL : Nat} {lv : Lo} {ls ls' : Array Slot} (h0 : LR base b nL lv ls) {i : Nat} {v : Value} (h : lv_has ls' nL ((i, rl base b v) :: (lst base b nL lv).filter (fun q => !(q.1 == i) && !(q.1 + 1 == i && q.2.category == 2)))) : LR base b nL ((i, v) :: rm1 i lv) ls' := by
  refine ⟨h.1, h.2.1, fun j w hj => ?_⟩
  rw [fnd_cons] at hj
  split at hj
  · rename_i e; cases hj; subst e; exact h.2.2 (j, _) List.mem_cons_self
  · rename_i e
    obtain ⟨h1, h2, h3⟩ := (fnd_rm1 i j w lv).mp hj
    have hlt : j < nL := by rw [← h0.1]; exact (Array.getElem?_eq_some_iff.mp (h0.2.2 _ _ h2)).1
    refine h.2.2 (j, rl base b w) (List.mem_cons_of_mem _ (List.mem_filter.mpr ⟨lst_mem hlt h2, ?_⟩))
    show (!(j == i) && !(j + 1 == i && (rl base b w).category == 2)) = true
    rw [cat_is2]
    have e1 : (j == i) = false := by simpa using h1
    rw [e1]
    cases hw : is2 w with
    | false => simp
    | true =>
      have : ¬ j + 1 = i := fun z => h3 ⟨z, hw⟩
      simp [this]
theorem LR.of2 {base b nL : Nat} {lv : Lo} {ls ls' : Array Slot} (h0 : LR base b nL lv ls) {i : Nat} {v : Value} (h : lv_has ls' nL ((i, rl base b v) :: (lst base b nL lv).filter (fun q => !(q.1 == i) && (!(q.1 == i + 1) && !(q.1 + 1 == i && q.2.category == 2))))) : LR base b nL ((i, v) :: rm2 i lv) ls' := by
  refine ⟨h.1, h.2.1, fun j w hj => ?_⟩
  rw [fnd_cons] at hj
  split at hj
  · rename_i e; cases hj; subst e; exact h.2.2 (j, _) List.mem_cons_self
  · rename_i e
    obtain ⟨h0', h1, h2, h3⟩ := (fnd_rm2 i j w lv).mp hj
    have hlt : j < nL := by rw [← h0.1]; exact (Array.getElem?_eq_some_iff.mp (h0.2.2 _ _ h2)).1
    refine h.2.2 (j, rl base b w) (List.mem_cons_of_mem _ (List.mem_filter.mpr ⟨lst_mem hlt h2, ?_⟩))
    show (!(j == i) && (!(j == i + 1) && !(j + 1 == i && (rl base b w).category == 2))) = true
    rw [cat_is2]
    have e1 : (j == i) = false := by simpa using h1
    have e2 : (j == i + 1) = false := by simpa using h0'
    rw [e1, e2]
    cases hw : is2 w with
    | false => simp
    | true =>
      have : ¬ j + 1 = i := fun z => h3 ⟨z, hw⟩
      simp [this]
theorem LR.drop1 {base b nL : Nat} {lv : Lo} {ls ls' : Array Slot} {k : Nat} {v : Value} (h : LR base b nL ((k, v) :: rm1 k lv) ls) : LR base b nL (rm1 k lv) ls := by
  refine ⟨h.1, h.2.1, fun j w hj => h.2.2 j w ?_⟩
  rw [fnd_cons, if_neg ((fnd_rm1 k j w lv).mp hj).1]
  exact hj
theorem ldL_some {lv : Lo} {i pc : Nat} {st : List Value} {M : AM} {ok : Value → Bool} {o} (h : ldL lv i pc st M ok = some o) : ∃ v, fnd lv i = some v ∧ ok v = true ∧ o = .inl (none, [], pc, lv, v :: st, M) := by
  unfold ldL at h
  cases hf : fnd lv i with
  | none => simp only [hf] at h; cases h
  | some v =>
    simp only [hf] at h
    cases hk : ok v with
    | false => rw [hk] at h; cases h
    | true => rw [hk] at h; cases h; exact ⟨v, rfl, hk, rfl⟩
theorem stL_some {mx : Nat} {lv : Lo} {i pc : Nat} {st : List Value} {M : AM} {ok : Value → Bool} {o} (h : stL mx lv i pc st M ok = some o) : ∃ v r, st = v :: r ∧ ok v = true ∧ i < mx ∧ o = .inl (none, [], pc, (i, v) :: rm1 i lv, r, M) := by
  unfold stL at h
  cases st with
  | nil => cases h
  | cons v r =>
    dsimp only at h
    cases hk : (ok v && Nat.ble (i + 1) mx) with
    | false => rw [hk] at h; cases h
    | true =>
      rw [hk] at h; cases h
      simp only [Bool.and_eq_true, Nat.ble_eq] at hk
      exact ⟨v, r, rfl, hk.1, hk.2, rfl⟩
theorem stJ_some {mx : Nat} {lv : Lo} {i pc : Nat} {st : List Value} {M : AM} {o} (h : stJ mx lv i pc st M = some o) : ∃ x r, st = .long x :: r ∧ i + 1 < mx ∧ o = .inl (none, [], pc, (i, .long x) :: rm2 i lv, r, M) := by
  unfold stJ at h
  split at h
  · rename_i x r
    cases hk : (Nat.ble (i + 2) mx) with
    | false => rw [hk] at h; cases h
    | true => rw [hk] at h; cases h; exact ⟨x, r, rfl, Nat.ble_eq.mp hk, rfl⟩
  · cases h
theorem isI_some {v : Value} (h : isI v = true) : ∃ x, v = .int x := by cases v <;> first | exact ⟨_, rfl⟩ | cases h
theorem isJ_some {v : Value} (h : isJ v = true) : ∃ x, v = .long x := by cases v <;> first | exact ⟨_, rfl⟩ | cases h
theorem isR_some {v : Value} (h : isR v = true) : ∃ x, v = .ref x := by cases v <;> first | exact ⟨_, rfl⟩ | cases h
section SIM3
variable {p : Program} {l : Launch} {e : Env} {R : Room} {s : State} {m : MethodId} {args : Array Value} {below : List Frame} {meth : Method} {c : Code} {H : Heap} {locs : List Loc} {cells slots : Nat} {Q : State → Prop}
variable {cc : ByteArray} {pc : Nat} {ls : Array Slot} {base b : Nat}
set_option maxHeartbeats 4000000 in
theorem simL {nL : Nat} (hx : p.tables.exec = Jvm.exec) (hb : c.code = cc) {i : Instr} (hd : dec cc pc i = true) {q : Nat × Nat × Nat × Int} (hl : locI i = some q) {lv : Lo} {st : List Value} {M : AM} {o}
    (h : locX nL q pc lv st M = some o) (hL : LR base b nL lv ls)
    (k : ∀ (ls' : Array Slot) (lv' : Lo) (st' : List Value) (p' : Nat), o = .inl (none, [], p', lv', st', M) → LR base b nL lv' ls' → W p l e R s m args below meth c H locs cells slots Q (F0 m p' ls' (st'.map (rl base b)))) :
    W p l e R s m args below meth c H locs cells slots Q (F0 m pc ls (st.map (rl base b))) := by
  unfold locI at hl
  split at hl <;> cases hl <;> unfold locX at h
  · obtain ⟨v, hf, hv, rfl⟩ := ldL_some h
    obtain ⟨x, rfl⟩ := isI_some hv
    exact lv_iload hx hb (dec_ok hd rfl) (hL.2.2 _ _ hf) (k _ _ _ _ rfl hL)
  · obtain ⟨v, hf, hv, rfl⟩ := ldL_some h
    obtain ⟨x, rfl⟩ := isI_some hv
    exact lv_iload_n hx hb (dec_ok hd rfl) rfl (hL.2.2 _ _ hf) (k _ _ _ _ rfl hL)
  · obtain ⟨v, hf, hv, rfl⟩ := ldL_some h
    obtain ⟨x, rfl⟩ := isJ_some hv
    exact lv_lload hx hb (dec_ok hd rfl) (hL.2.2 _ _ hf) (k _ _ _ _ rfl hL)
  · obtain ⟨v, hf, hv, rfl⟩ := ldL_some h
    obtain ⟨x, rfl⟩ := isJ_some hv
    exact lv_lload_n hx hb (dec_ok hd rfl) rfl (hL.2.2 _ _ hf) (k _ _ _ _ rfl hL)
  · obtain ⟨v, hf, hv, rfl⟩ := ldL_some h
    obtain ⟨x, rfl⟩ := isR_some hv
    have hq := hL.2.2 _ _ hf
    have kk := k _ _ _ _ rfl hL
    match x, hq, kk with
    | 0, hq, kk => exact lv_aloadN hx hb (dec_ok hd rfl) hq kk
    | 1, hq, kk => exact lv_aload hx hb (dec_ok hd rfl) hq kk
    | x + 2, hq, kk => exact lv_aload hx hb (dec_ok hd rfl) hq kk
  · obtain ⟨v, hf, hv, rfl⟩ := ldL_some h
    obtain ⟨x, rfl⟩ := isR_some hv
    have hq := hL.2.2 _ _ hf
    have kk := k _ _ _ _ rfl hL
    match x, hq, kk with
    | 0, hq, kk => exact lv_aload_nN hx hb (dec_ok hd rfl) rfl hq kk
    | 1, hq, kk => exact lv_aload_n hx hb (dec_ok hd rfl) rfl hq kk
    | x + 2, hq, kk => exact lv_aload_n hx hb (dec_ok hd rfl) rfl hq kk
  · obtain ⟨v, r, rfl, hv, hi, rfl⟩ := stL_some h
    obtain ⟨x, rfl⟩ := isI_some hv
    exact lv_istore hx hb (dec_ok hd rfl) hL.has hi rfl (fun ls' h' => k ls' _ _ _ rfl (hL.of1 (v := .int x) h'))
  · obtain ⟨v, r, rfl, hv, hi, rfl⟩ := stL_some h
    obtain ⟨x, rfl⟩ := isI_some hv
    exact lv_istore_n hx hb (dec_ok hd rfl) rfl hL.has hi rfl (fun ls' h' => k ls' _ _ _ rfl (hL.of1 (v := .int x) h'))
  · obtain ⟨v, r, rfl, hv, hi, rfl⟩ := stL_some h
    obtain ⟨x, rfl⟩ := isR_some hv
    match x, k with
    | 0, k => exact lv_astoreN hx hb (dec_ok hd rfl) hL.has hi rfl (fun ls' h' => k ls' _ _ _ rfl (hL.of1 (v := .ref 0) h'))
    | 1, k => exact lv_astore hx hb (dec_ok hd rfl) hL.has hi rfl (fun ls' h' => k ls' _ _ _ rfl (hL.of1 (v := .ref 1) h'))
    | x + 2, k => exact lv_astore hx hb (dec_ok hd rfl) hL.has hi rfl (fun ls' h' => k ls' _ _ _ rfl (hL.of1 (v := .ref (x + 2)) h'))
  · obtain ⟨v, r, rfl, hv, hi, rfl⟩ := stL_some h
    obtain ⟨x, rfl⟩ := isR_some hv
    match x, k with
    | 0, k => exact lv_astore_nN hx hb (dec_ok hd rfl) rfl hL.has hi rfl (fun ls' h' => k ls' _ _ _ rfl (hL.of1 (v := .ref 0) h'))
    | 1, k => exact lv_astore_n hx hb (dec_ok hd rfl) rfl hL.has hi rfl (fun ls' h' => k ls' _ _ _ rfl (hL.of1 (v := .ref 1) h'))
    | x + 2, k => exact lv_astore_n hx hb (dec_ok hd rfl) rfl hL.has hi rfl (fun ls' h' => k ls' _ _ _ rfl (hL.of1 (v := .ref (x + 2)) h'))
  · obtain ⟨x, r, rfl, hi, rfl⟩ := stJ_some h
    exact lv_lstore hx hb (dec_ok hd rfl) hL.has hi rfl (fun ls' h' => k ls' _ _ _ rfl (hL.of2 (v := .long x) h'))
  · obtain ⟨x, r, rfl, hi, rfl⟩ := stJ_some h
    exact lv_lstore_n hx hb (dec_ok hd rfl) rfl hL.has hi rfl (fun ls' h' => k ls' _ _ _ rfl (hL.of2 (v := .long x) h'))
  · rename_i k9 n9
    replace h : (match fnd lv k9 with
        | some (.int v) => cond (Nat.ble (k9 + 1) nL) (some (.inl (none, [], pc + 3, (k9, .int (v + kI n9)) :: rm1 k9 lv, st, M))) none
        | _ => none : Out) = some o := h
    split at h
    · rename_i x hf
      cases hk : (Nat.ble (k9 + 1) nL) with
      | false => rw [hk] at h; cases h
      | true =>
        rw [hk] at h; cases h
        have hi := Nat.ble_eq.mp hk
        have hs := hL.2.2 _ _ hf
        refine lv_iinc (k := 0) hx hb (dec_ok hd rfl) (lv := (_, Value.int x) :: lst base b nL lv) ⟨hL.1, hL.2.1, fun q hq => ?_⟩ rfl rfl hi rfl (fun ls' h' => k ls' _ _ _ rfl (hL.of1 (v := .int _) ⟨h'.1, h'.2.1, fun q hq => h'.2.2 q ?_⟩))
        · rcases List.mem_cons.mp hq with e | e
          · rw [e]; exact hs
          · exact hL.has.2.2 q e
        · rcases List.mem_cons.mp hq with e | e
          · rw [e]; exact List.mem_cons_self
          · refine List.mem_cons_of_mem _ ?_
            rw [List.filter_cons]
            split
            · exact List.mem_cons_of_mem _ e
            · exact e
    · cases h
end SIM3
