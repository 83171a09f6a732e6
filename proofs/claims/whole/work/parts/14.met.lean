theorem call3 {y own : Nat} {i : Instr} {pc : Nat} {st : List Value} {M M' : AM} {ck : Option Prop} {y' : Nat} {as : List Value} {pc' : Nat} {st' : List Value} (h : isem3 y own i pc st M = some (.inr (.inl (ck, y', as, pc', st', M')))) :
    ∃ idx, ivk own idx pc st M = some (ck, y', as, pc', st', M') ∧ ((i = .invokevirtual idx ∧ isi y' = true ∧ inS y' = false) ∨ (i = .invokestatic idx ∧ isi y' = false ∧ ¬ 1920 ≤ y') ∨ (i = .invokespecial idx ∧ inS y' = true ∧ isi y' = true)) := by
  have no2 : up2 (isem2 own (inS y) i pc st M) = some (.inr (.inl (ck, y', as, pc', st', M'))) → False := by
    intro h9
    unfold up2 at h9
    split at h9 <;> cases h9
  have h3 : ∀ idx ok, cal3 own idx pc st M ok = some (.inr (.inl (ck, y', as, pc', st', M'))) → ivk own idx pc st M = some (ck, y', as, pc', st', M') ∧ ok y' = true := by
    intro idx ok h9
    unfold cal3 at h9
    split at h9
    · rename_i c y2 q hv
      cases hk : ok y2 with
      | false => rw [hk] at h9; cases h9
      | true => rw [hk] at h9; cases h9; exact ⟨hv, hk⟩
    · cases h9
  unfold isem3 at h
  split at h
  · rename_i idx
    obtain ⟨g1, g2⟩ := h3 _ _ h
    simp only [Bool.and_eq_true, Bool.not_eq_true'] at g2
    exact ⟨idx, g1, Or.inl ⟨rfl, g2⟩⟩
  · rename_i idx
    split at h
    · rename_i y9 _ _ _
      cases hz : Nat.ble 1920 y9 with
      | true => rw [hz] at h; exact (no2 h).elim
      | false =>
        rw [hz] at h
        obtain ⟨g1, g2⟩ := h3 _ _ h
        simp only [Bool.and_eq_true, Bool.not_eq_true'] at g2
        refine ⟨idx, g1, Or.inr (Or.inl ⟨rfl, g2.1, fun z => ?_⟩)⟩
        rw [Nat.ble_eq.mpr z] at g2
        exact absurd g2.2 (by decide)
    · exact (no2 h).elim
  · rename_i idx
    split at h
    · obtain ⟨g1, g2⟩ := h3 _ _ h
      simp only [Bool.and_eq_true] at g2
      exact ⟨idx, g1, Or.inr (Or.inr ⟨rfl, g2⟩)⟩
    · exact (no2 h).elim
  · split at h
    · cases ht : (thr y pc && st.isEmpty) <;> rw [ht] at h <;> cases h
    · exact (no2 h).elim
  · split at h <;> cases h
  · split at h <;> cases h
  · split at h <;> cases h
  · split at h <;> cases h
  · exact (no2 h).elim
def tabOf (y : Nat) : List ExceptionTableEntry := match fnd hhl y with
  | some h => tableOf h
  | none => []
/-- the simulation, n steps -/
def SimP (l : Launch) (base b L : Nat) (xs : Nat → Int32) (D : va_G) (ac : Nat → ClassId) (KY : State → Heap → Prop) (n : Nat) : Prop :=
  ∀ (d y pc : Nat) (lv : Lo) (st : List Value) (M M1 : AM) (r : Option (Option Value)), run n d y (pc, lv, st, M) = some (r, M1) →
  ∀ (p : Program) (e : Env) (R : Room) (s : State) (m : MethodId) (args : Array Value) (below : List Frame) (meth : Method) (c : Code) (H : Heap) (locs : List Loc) (cells slots : Nat) (Q : State → Prop) (ls : Array Slot),
    CallFix p m c (mby y) (mxl y) s args big (rcl (mcl y)) → KXs D ac s → KY s s.heap → (inS y = true → meth.name = "<init>") → c.exceptionTable.toList = tabOf y →
    LR base b (mxl y) lv ls → WdH base b L xs D ac M H → (∀ q, q < base → H[q]? = s.heap[q]?) → (∀ q ∈ locs, base ≤ q.base) → d + 10 ≤ R.frames → 100 * d + 1000 ≤ R.locals → cells + (nn M1 - nn M) ≤ R.cells → slots + (us M1 - us M) ≤ R.slots →
    (∀ (v : Option Value) (H' : Heap) (locs' : List Loc) (ls' : Array Slot) (pc' : Nat) (i : Instr) (st' : List Value) (M0 : AM) (ck : Option Prop), r = some v → ins y pc' = some i → isem3 y (mcl y) i pc' st' M0 = some (.inr (.inr (ck, some v, M1))) → ckp ck → WdH base b L xs D ac M1 H' → (∀ q, q < base → H'[q]? = s.heap[q]?) → (∀ q ∈ locs', base ≤ q.base) →
      W p l e R s m args below meth c H' locs' (cells + (nn M1 - nn M)) (slots + (us M1 - us M)) Q (F0 m pc' ls' (st'.map (rl base b)))) →
    (∀ (H' : Heap) (locs' : List Loc) (ls' : Array Slot) (pc' : Nat) (st' : List Value) (M2 : AM), r = none → thr y pc' = true ∧ st' = [] → M1 = nw M2 30 0 6 → nn M ≤ nn M2 → us M ≤ us M2 → ls'.size = mxl y → WdH base b L xs D ac M2 H' → (∀ q, q < base → H'[q]? = s.heap[q]?) → (∀ q ∈ locs', base ≤ q.base) →
      W p l e R s m args below meth c H' locs' (cells + (nn M2 - nn M)) (slots + (us M2 - us M)) Q (F0 m pc' ls' (st'.map (rl base b)))) →
    W p l e R s m args below meth c H locs cells slots Q (F0 m pc ls (st.map (rl base b)))
theorem met_ofWH {l : Launch} {y : MethodName} {ws ws' : List Cond} {rm : Room} {Pc : Array Value → State → Prop} {Qc : Array Value → State → Outcome → State → Prop} {mc ms : Nat} {free : Addr → Prop} {cc : ByteArray} {maxL : Nat} {ret : Option FieldType} {hh : List (Nat × Nat × Nat × Nat)}
    (hy : plainName y.cls = true) (hw : ws = Cond.codeWith y cc maxL ret hh :: ws')
    (body : ∀ p e s m args below meth c s₁, BodyLoose p l y (headSpec ws rm) cc maxL ret e s m args below meth c s₁ → c.maxLocals = maxL → Pc args s →
      W p l e (headSpec ws rm).room s m args below meth c s.heap [] 0 0 (MQ below Qc args s mc ms free) (entryFrame m args maxL)) : Met l y ws rm Pc Qc mc ms free := by
  refine MetFree.of_bodyS (code := cc) (maxLocals := maxL) (ret := ret) hy ?_ ?_
  · intro args s m h hn
    obtain ⟨m9, meth, c, hn9, h1, h2, h3, h4, -, h5, h6, -⟩ := Cond.codeWith_spec (atoms_spec (ws := ws) h _ (by rw [hw]; exact List.mem_cons_self))
    cases hn.symm.trans hn9
    exact ⟨meth, c, h1, h2, h3, h4, h5, h6⟩
  · intro p e s m args below meth c s₁ B hml hP _
    have hh0 : s₁.heap = s.heap := by rw [B.state]; rfl
    obtain ⟨t, a1, o, b1, b2, b3⟩ := body p e s m args below meth c s₁ B hml hP s₁ hh0 (Stand.of_body B)
    exact ⟨t, o, a1, b1, b2, ⟨b3.1, b3.2⟩⟩
theorem lg_len (base b : Nat) : ∀ as : List Value, (lg_sl (as.map (rl base b))).length = szL as
  | [] => rfl
  | v :: r => by
    have ih := lg_len base b r
    unfold lg_sl at ih ⊢
    rw [List.map_cons, List.flatMap_cons, List.length_append, ih]
    have e := cat_is2' (base := base) (b := b) v
    show _ = cond (is2 v) 2 1 + szL r
    cases h2 : is2 v with
    | true => rw [h2] at e; rw [if_pos (by simpa using e)]; rfl
    | false => rw [h2] at e; rw [if_neg (by rw [e]; decide)]; rfl
theorem ent_args (base b : Nat) : ∀ (as : List Value) (i j : Nat) (w : Value), fnd (entL i as) j = some w → (j, rl base b w) ∈ lv_args i (as.map (rl base b))
  | [], i, j, w, h => by simp [entL, fnd] at h
  | v :: r, i, j, w, h => by
    unfold entL at h
    rw [fnd_cons] at h
    show (j, rl base b w) ∈ (i, rl base b v) :: lv_args (if (rl base b v).category = 2 then i + 2 else i + 1) (r.map (rl base b))
    split at h
    · rename_i e; cases h; rw [e]; exact List.mem_cons_self
    · refine List.mem_cons_of_mem _ ?_
      have e := cat_is2' (base := base) (b := b) v
      cases h2 : is2 v with
      | true => rw [h2] at e h; rw [if_pos (by simpa using e)]; exact ent_args base b r _ j w h
      | false => rw [h2] at e h; rw [if_neg (by rw [e]; decide)]; exact ent_args base b r _ j w h
theorem LR_entry {base b nL : Nat} {as : List Value} (h : szL as ≤ nL) : LR base b nL (entL 0 as) ((lg_sl (as.map (rl base b)) ++ List.replicate (nL - (lg_sl (as.map (rl base b))).length) Slot.unset).toArray) := by
  have h1 := lv_entry (as.map (rl base b)) (n := nL) (by rw [lg_len]; exact h)
  exact ⟨h1.1, h1.2.1, fun i v hv => h1.2.2 (i, rl base b v) (ent_args base b as 0 i v hv)⟩
theorem ymeta_at {y : Nat} (hy : y ∈ yls) (h9 : ¬ 1920 ≤ y) : plainName (mnm y).cls = true ∧ ((mnm y).cls ≠ "java/lang/invoke/MethodHandle" ∧ (mnm y).cls ≠ "java/lang/invoke/VarHandle" ∧ (parseMethodDescriptor (mnm y).desc).map (fun d => d.parameters.length) = some (nar y - cond (isi y) 1 0)) ∧ (mnm y).cls = rcl (mcl y) ∧ mxl y ≤ 20 ∧ mcl y < 16 ∧
    (inS y = true → (mnm y).name = "<init>" ∧ mrt y = none ∧ isi y = true) ∧ (isi y = true → 1 ≤ nar y ∧ mcl y < 13) ∧ (∀ h, fnd hhl y = some h → isi y = false) := by
  have h := List.all_eq_true.mp yls_ok y hy
  unfold ymeta at h
  have e1 : Nat.ble 1920 y = false := by
    cases hb : Nat.ble 1920 y with
    | false => rfl
    | true => exact absurd (Nat.ble_eq.mp hb) h9
  rw [e1] at h
  simp only [Bool.false_or, Bool.and_eq_true, decide_eq_true_eq, Nat.ble_eq] at h
  obtain ⟨⟨⟨⟨⟨⟨⟨⟨⟨h1, h2⟩, h3⟩, h4⟩, h5⟩, h6⟩, h7⟩, h8⟩, h10⟩, h11⟩ := h
  refine ⟨h1, ⟨h2, h3, h4⟩, h5, h6, by omega, fun hi => ?_, fun hi => ?_, fun hh e => ?_⟩
  · rw [hi] at h8
    simp only [cond_true, Bool.and_eq_true, decide_eq_true_eq] at h8
    refine ⟨h8.1.1, ?_, h8.2⟩
    cases hm : mrt y with
    | none => rfl
    | some t => rw [hm] at h8; exact absurd h8.1.2 (fun z => by cases z)
  · rw [hi] at h10
    simp only [cond_true, Bool.and_eq_true, Nat.ble_eq] at h10
    exact ⟨h10.1, by omega⟩
  · rw [e] at h11
    simpa using h11
section MET
variable {l : Launch} {base b L : Nat} {xs : Nat → Int32} {D : va_G} {ac : Nat → ClassId} {KY : State → Heap → Prop}
/-- a callee's body, by the simulation -/
theorem body_of {n d y : Nat} {as : List Value} {M M1 : AM} {v : Option Value} (hy : y ∈ yls) (h9 : ¬ 1920 ≤ y) (hsim : SimP l base b L xs D ac KY n) (hrun : run n d y (0, entL 0 as, [], M) = some (some v, M1)) (hz : szL as ≤ mxl y)
    {p : Program} {e : Env} {s : State} {m : MethodId} {args : Array Value} {below : List Frame} {meth : Method} {c : Code} {s₁ : State} (B : BodyLoose p l (mnm y) (headSpec (cdw y :: big) (rmA d (nn M1 - nn M) (us M1 - us M))) (mby y) (mxl y) (mrt y) e s m args below meth c s₁) (hml : c.maxLocals = mxl y) (htab : c.exceptionTable.toList = tabOf y) (hP : PcA base b L xs D ac KY M as args s) :
    W p l e (rmA d (nn M1 - nn M) (us M1 - us M)) s m args below meth c s.heap [] 0 0 (MQ below (QcA base b L xs D ac M1 v) args s (nn M1 - nn M) (us M1 - us M) (fun q => base ≤ q)) (entryFrame m args (mxl y)) := by
  obtain ⟨rfl, hW, hK, hY⟩ := hP
  have hown : s.vm.findClass (mnm y).cls = some m.cls := findClass_of_methodNamed B.named
  obtain ⟨-, -, g3, -, -, g6, -, -⟩ := ymeta_at hy h9
  rw [g3] at hown
  have hts := atoms_spec (ws := cdw y :: big) B.pre
  have S : CallFix p m c (mby y) (mxl y) s (as.map (rl base b)).toArray big (rcl (mcl y)) := ⟨B.exec, B.bytes, hml, hown, fun w hw => hts w (List.mem_cons_of_mem _ hw)⟩
  have hlocks := B.notSynchronized
  have hr := B.returns
  rw [lg_entry_eq]
  refine hsim d y 0 (entL 0 as) [] M M1 (some v) hrun p e _ s m _ below meth c s.heap [] 0 0 _ _ S hK hY (fun hi => by rw [(name_of_methodNamed B.named B.method).1]; exact (g6 hi).1) htab (LR_entry hz) hW (fun _ _ => rfl) (fun q h => by cases h) (Nat.le_refl _) (Nat.le_refl _) (by rw [Nat.zero_add]; exact Nat.le_refl _) (by rw [Nat.zero_add]; exact Nat.le_refl _) ?_ (fun _ _ _ _ _ _ h => by cases h)
  intro v' H' locs' ls' pc' i st' M0 ck hv hi h3 hck hW' hO' hlo'
  cases hv
  rw [Nat.zero_add, Nat.zero_add]
  exact ret_end S.1 S.2.1 (ins_ok hi) h3 hck hr (fun t ht hWm => ⟨rfl, by rw [ht]; exact hW', fun q hq => by rw [ht]; exact hO' q hq⟩) (fun q hq => hlo' q hq) hlocks
theorem met_of {n d y : Nat} {as : List Value} {M M1 : AM} {v : Option Value} (hy : y ∈ yls) (h9 : ¬ 1920 ≤ y) (hsim : SimP l base b L xs D ac KY n) (hrun : run n d y (0, entL 0 as, [], M) = some (some v, M1)) (hz : szL as ≤ mxl y) :
    Met l (mnm y) (cdw y :: big) (rmA d (nn M1 - nn M) (us M1 - us M)) (PcA base b L xs D ac KY M as) (QcA base b L xs D ac M1 v) (nn M1 - nn M) (us M1 - us M) (fun q => base ≤ q) := by
  obtain ⟨g1, -⟩ := ymeta_at hy h9
  cases hh : fnd hhl y with
  | none =>
    have hc : cdw y = Cond.code (mnm y) (mby y) (mxl y) (mrt y) := by unfold cdw; rw [hh]
    refine Met.ofW (cc := mby y) (maxL := mxl y) (ret := mrt y) (ws' := big) g1 (by rw [hc]) ?_
    intro p e s m args below meth c s₁ B hml hP
    refine body_of hy h9 hsim hrun hz B hml ?_ hP
    obtain ⟨meth9, c9, h1, h2, -, -, -, -, h7, -⟩ := Cond.code_spec B.named (by rw [← hc]; exact atoms_spec (ws := cdw y :: big) B.pre _ List.mem_cons_self)
    cases Option.some.inj (h1.symm.trans B.method)
    cases Option.some.inj (h2.symm.trans (Stand.of_body B).code)
    unfold tabOf
    rw [hh, Array.isEmpty_iff.mp h7]
  | some h =>
    have hc : cdw y = Cond.codeWith (mnm y) (mby y) (mxl y) (mrt y) h := by unfold cdw; rw [hh]
    refine met_ofWH (cc := mby y) (maxL := mxl y) (ret := mrt y) (hh := h) (ws' := big) g1 (by rw [hc]) ?_
    intro p e s m args below meth c s₁ B hml hP
    refine body_of hy h9 hsim hrun hz B hml ?_ hP
    rw [vx_table (x := mnm y) (y := mnm y) B (by rw [← hc]; exact atoms_spec (ws := cdw y :: big) B.pre _ List.mem_cons_self)]
    unfold tabOf
    rw [hh]
end MET

