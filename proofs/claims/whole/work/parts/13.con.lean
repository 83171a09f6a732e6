/-! ===== contracts ===== -/
def rmA (d mc ms : Nat) : Room := { frames := d + 10, cells := mc, slots := ms, locals := 100 * d + 1000 }
def PcA (base b L : Nat) (xs : Nat → Int32) (D : va_G) (ac : Nat → ClassId) (KY : State → Heap → Prop) (M : AM) (as : List Value) : Array Value → State → Prop := fun a U => a = (as.map (rl base b)).toArray ∧ WdH base b L xs D ac M U.heap ∧ KXs D ac U ∧ KY U U.heap
def QcA (base b L : Nat) (xs : Nat → Int32) (D : va_G) (ac : Nat → ClassId) (M : AM) (v : Option Value) : Array Value → State → Outcome → State → Prop := fun _ st o t => o = .returned (v.map (rl base b)) ∧ WdH base b L xs D ac M t.heap ∧ ∀ q, q < base → t.heap[q]? = st.heap[q]?
def XcA (base b L : Nat) (xs : Nat → Int32) (D : va_G) (ac : Nat → ClassId) (M : AM) : String → State → State → Prop := fun E st t => E = "java/util/NoSuchElementException" ∧ WdH base b L xs D ac M t.heap ∧ ∀ q, q < base → t.heap[q]? = st.heap[q]?
def KYok (base : Nat) (KY : State → Heap → Prop) : Prop := (∀ (u U : State) (H : Heap), u.WarmedH U.vm → KY u H → KY U H) ∧ (∀ (U : State) (H H1 : Heap), (∀ q, q < base → H1[q]? = H[q]?) → KY U H → KY U H1)
theorem KXs.moved {D : va_G} {ac : Nat → ClassId} {u U : State} (h : u.WarmedH U.vm) (k : KXs D ac u) : KXs D ac U := by
  obtain ⟨k1, k2, k3, k4, k5⟩ := k
  refine ⟨va_K.moved h.alike k1, fun w hw => ?_, va_AO.moved h.alike k3, va_AO.moved h.alike k4, va_AO.moved h.alike k5⟩
  have h0 := k2 w hw
  unfold nwds at hw
  simp only [List.mem_cons, List.not_mem_nil, or_false] at hw
  rcases hw with rfl | rfl | rfl | rfl | rfl | rfl | rfl | rfl <;> exact va_Nw.warmM h h0
theorem PcA_blind {base b L : Nat} {xs : Nat → Int32} {D : va_G} {ac : Nat → ClassId} {KY : State → Heap → Prop} (hKY : KYok base KY) (M : AM) (as : List Value) : FrameBlind (PcA base b L xs D ac KY M as) := by
  intro a U g mk h
  obtain ⟨h1, h2, h3, h4⟩ := h
  exact ⟨h1, h2, h3.moved (State.WarmedH.refl U), hKY.1 U _ _ (State.WarmedH.refl U) h4⟩
/-- what every callee's record says -/
def ymeta (y : Nat) : Bool := Nat.ble 1920 y || (plainName (mnm y).cls && decide ((mnm y).cls ≠ "java/lang/invoke/MethodHandle") && decide ((mnm y).cls ≠ "java/lang/invoke/VarHandle") && decide ((parseMethodDescriptor (mnm y).desc).map (fun d => d.parameters.length) = some (nar y - cond (isi y) 1 0)) && decide ((mnm y).cls = rcl (mcl y)) && Nat.ble (mxl y) 20 && Nat.ble (mcl y + 1) 16 &&
  (cond (inS y) (decide ((mnm y).name = "<init>") && (match mrt y with
    | none => true
    | _ => false) && isi y) true) && (cond (isi y) (Nat.ble 1 (nar y) && Nat.ble (mcl y + 1) 13) true) && (match fnd hhl y with
    | some _ => !(isi y)
    | none => true))
set_option maxRecDepth 100000 in
theorem yls_ok : yls.all ymeta = true := by decide +kernel
/-- a nest's call is of a static method, or makes -/
def lkok2 (q : Nat × LE) : Bool := match q with
  | (_, 1, y, _, n) => Nat.beq n 0 || !(isi y) || inS y
  | _ => true
set_option maxRecDepth 100000 in
theorem lks_ok2 : lks.all (fun l => l.all lkok2) = true := by decide +kernel
theorem lk_ok2 {own idx : Nat} {le : LE} (h : lk own idx = some le) : lkok2 (idx, le) = true := by
  unfold lk at h
  cases hn : nth lks own with
  | none => rw [hn] at h; cases h
  | some l0 =>
    rw [hn] at h
    exact List.all_eq_true.mp (List.all_eq_true.mp lks_ok2 _ (nth_mem hn)) _ (fnd_mem h)
/-- a nest's link is among the nest's words -/
def lkok3 (own : Nat) (q : Nat × LE) : Bool := match q with
  | (i, 1, y, _, n) => cond (Nat.beq n 1) (decide (Cond.methodLinkNest (rcl own) i (mnm y) RX11 ∈ nwds)) true
  | _ => true
set_option maxRecDepth 100000 in
theorem lks_ok3_0 : lk_0.all (lkok3 0) = true := by decide +kernel
set_option maxRecDepth 100000 in
theorem lks_ok3_1 : lk_1.all (lkok3 1) = true := by decide +kernel
set_option maxRecDepth 100000 in
theorem lks_ok3_2 : lk_2.all (lkok3 2) = true := by decide +kernel
set_option maxRecDepth 100000 in
theorem lks_ok3_3 : lk_3.all (lkok3 3) = true := by decide +kernel
set_option maxRecDepth 100000 in
theorem lks_ok3_4 : lk_4.all (lkok3 4) = true := by decide +kernel
set_option maxRecDepth 100000 in
theorem lks_ok3_5 : lk_5.all (lkok3 5) = true := by decide +kernel
set_option maxRecDepth 100000 in
theorem lks_ok3_6 : lk_6.all (lkok3 6) = true := by decide +kernel
set_option maxRecDepth 100000 in
theorem lks_ok3_7 : lk_7.all (lkok3 7) = true := by decide +kernel
set_option maxRecDepth 100000 in
theorem lks_ok3_8 : lk_8.all (lkok3 8) = true := by decide +kernel
set_option maxRecDepth 100000 in
theorem lks_ok3_9 : lk_9.all (lkok3 9) = true := by decide +kernel
set_option maxRecDepth 100000 in
theorem lks_ok3_10 : lk_10.all (lkok3 10) = true := by decide +kernel
set_option maxRecDepth 100000 in
theorem lks_ok3_11 : lk_11.all (lkok3 11) = true := by decide +kernel
set_option maxRecDepth 100000 in
theorem lks_ok3_12 : lk_12.all (lkok3 12) = true := by decide +kernel
set_option maxRecDepth 100000 in
theorem lks_ok3_13 : lk_13.all (lkok3 13) = true := by decide +kernel
set_option maxRecDepth 100000 in
theorem lks_ok3_14 : lk_14.all (lkok3 14) = true := by decide +kernel
set_option maxRecDepth 100000 in
theorem lks_ok3_15 : lk_15.all (lkok3 15) = true := by decide +kernel
theorem lk_ok3 {own idx : Nat} {le : LE} (h : lk own idx = some le) : lkok3 own (idx, le) = true := by
  unfold lk at h
  cases hn : nth lks own with
  | none => rw [hn] at h; cases h
  | some l0 =>
    rw [hn] at h
    have hm := fnd_mem h
    have hlt : own < 16 := by
      rcases Nat.lt_or_ge own 16 with h1 | h1
      · exact h1
      · obtain ⟨k, rfl⟩ : ∃ k, own = k + 16 := ⟨own - 16, by omega⟩
        cases hn
    rcases (show own = 0 ∨ own = 1 ∨ own = 2 ∨ own = 3 ∨ own = 4 ∨ own = 5 ∨ own = 6 ∨ own = 7 ∨ own = 8 ∨ own = 9 ∨ own = 10 ∨ own = 11 ∨ own = 12 ∨ own = 13 ∨ own = 14 ∨ own = 15 by omega) with e | e | e | e | e | e | e | e | e | e | e | e | e | e | e | e <;> subst e <;> cases hn
    · exact List.all_eq_true.mp lks_ok3_0 _ hm
    · exact List.all_eq_true.mp lks_ok3_1 _ hm
    · exact List.all_eq_true.mp lks_ok3_2 _ hm
    · exact List.all_eq_true.mp lks_ok3_3 _ hm
    · exact List.all_eq_true.mp lks_ok3_4 _ hm
    · exact List.all_eq_true.mp lks_ok3_5 _ hm
    · exact List.all_eq_true.mp lks_ok3_6 _ hm
    · exact List.all_eq_true.mp lks_ok3_7 _ hm
    · exact List.all_eq_true.mp lks_ok3_8 _ hm
    · exact List.all_eq_true.mp lks_ok3_9 _ hm
    · exact List.all_eq_true.mp lks_ok3_10 _ hm
    · exact List.all_eq_true.mp lks_ok3_11 _ hm
    · exact List.all_eq_true.mp lks_ok3_12 _ hm
    · exact List.all_eq_true.mp lks_ok3_13 _ hm
    · exact List.all_eq_true.mp lks_ok3_14 _ hm
    · exact List.all_eq_true.mp lks_ok3_15 _ hm
theorem big_goodIn (y : Nat) (hy : y ∈ yls) : GoodIn big (cdw y :: big) := by
  intro w hw
  have hb : ∀ w ∈ big, w ∈ big ∧ ((w.onTables && w.keeps) = true ∨ ∃ ty, w = .arrayClass ty) := fun w h => ⟨h, good_of_word (big_good w h)⟩
  rcases List.mem_cons.mp hw with rfl | h
  · exact hb _ (big_mem_m hy _ (by unfold mwd; exact List.mem_cons_self))
  · exact hb w h
section AB
variable {p : Program} {l : Launch} {e : Env} {R : Room} {s : State} {m : MethodId} {args : Array Value} {below : List Frame} {meth : Method} {c : Code} {H : Heap} {locs : List Loc} {cells slots : Nat} {Q : State → Prop}
variable {cc : ByteArray} {pc : Nat} {ls : Array Slot} {base b L : Nat} {xs : Nat → Int32} {D : va_G} {ac : Nat → ClassId} {rest st0 : List Value} {a : Array Value} {mc ms : Nat} {free : Addr → Prop}
theorem ab_after {M2 : AM} {v : Option Value} {st' : List Value} (hr : va_Run p l e R s m args below meth c H locs cells slots mc ms (F0 m pc ls st0) (st'.map (rl base b)) (QcA base b L xs D ac M2 v a) free) (hfr : ∀ q, free q → base ≤ q) (hO : ∀ q, q < base → H[q]? = s.heap[q]?) (hlo : ∀ q ∈ locs, base ≤ q.base)
    (kk : ∀ (H1 : Heap) (locs1 : List Loc), WdH base b L xs D ac M2 H1 → (∀ q, q < base → H1[q]? = s.heap[q]?) → (∀ q ∈ locs1, base ≤ q.base) → W p l e R s m args below meth c H1 locs1 (cells + mc) (slots + ms) Q (F0 m (pc + 3) ls ((v.toList ++ st').map (rl base b)))) : W p l e R s m args below meth c H locs cells slots Q (F0 m pc ls st0) := by
  intro T hT X
  obtain ⟨v', st₀, t, T', Ls, h0, X', hL, e1, e2, ⟨hv, hW, hF⟩, st⟩ := hr T hT X
  cases hv
  obtain ⟨t2, a1, b1⟩ := kk T'.heap (locs ++ Ls) (by rw [e1]; exact hW) (fun q hq => by rw [e1, hF q hq, h0]; exact hO q hq) (fun q hq => by
    rcases List.mem_append.mp hq with h | h
    · exact hlo q h
    · exact hfr _ (hL q h)) T' rfl X'
  refine ⟨t2, st t2 ?_, b1⟩
  have e9 : (v.map (rl base b)).toList ++ st'.map (rl base b) = (v.toList ++ st').map (rl base b) := by cases v <;> simp
  show Steps p.tables e below (T'.setTop { (F0 m pc ls st0) with pc := (F0 m pc ls st0).pc + 3, stack := (v.map (rl base b)).toList ++ st'.map (rl base b) }) t2
  rw [e9]
  exact a1
/-- behind a call that may have thrown -/
theorem ab_afterX {M2 : AM} {st' : List Value} (hr : vx_Run p l e R s m args below meth c H locs cells slots mc ms (F0 m pc ls st0) (st'.map (rl base b)) ((fun _ _ _ _ => False : Array Value → State → Outcome → State → Prop) a) (XcA base b L xs D ac M2) free) (hfr : ∀ q, free q → base ≤ q) (hO : ∀ q, q < base → H[q]? = s.heap[q]?) (hlo : ∀ q ∈ locs, base ≤ q.base)
    (kx : ∀ (H1 : Heap) (locs1 : List Loc) (ce : Cell) (q9 : Addr), WdH base b L xs D ac M2 H1 → (∀ q, q < base → H1[q]? = s.heap[q]?) → (∀ q ∈ locs1, base ≤ q.base) → H1[q9]? = some ce → ce.vm = .none → s.vm.findClass "java/util/NoSuchElementException" = some ce.cls → vx_W p l e R s m args below meth c H1 locs1 (cells + mc) (slots + ms) Q (F0 m pc ls (st'.map (rl base b))) q9) : W p l e R s m args below meth c H locs cells slots Q (F0 m pc ls st0) := by
  intro T hT X
  rcases hr T hT X with ⟨v, st₀, t, T', Ls, h0, X', hL, e1, e2, hf, st⟩ | ⟨q, st₀, t, T', Ls, E, ce, h0, X', hL, e1, e2, ⟨hE, hW, hF⟩, hce, hcv, hcl, st⟩
  · exact hf.elim
  · subst hE
    obtain ⟨t2, a1, b1⟩ := kx T'.heap (locs ++ Ls) ce q (by rw [e1]; exact hW) (fun q hq => by rw [e1, hF q hq, h0]; exact hO q hq) (fun q hq => by
      rcases List.mem_append.mp hq with h | h
      · exact hlo q h
      · exact hfr _ (hL q h)) (by rw [e1]; exact hce) hcv hcl T' rfl X'
    exact ⟨t2, st.trans a1, b1⟩
/-- the end of a method that returns -/
theorem ret_end {Qc : Array Value → State → Outcome → State → Prop} {y own : Nat} {i : Instr} {st : List Value} {M M1 : AM} {ck : Option Prop} {v : Option Value} (hx : p.tables.exec = Jvm.exec) (hb : c.code = cc) (hd : dec cc pc i = true) (h : isem3 y own i pc st M = some (.inr (.inr (ck, some v, M1)))) (hck : ckp ck) (hr : meth.sig.returnType = mrt y)
    (hq : ∀ t : State, t.heap = H → s.WarmedH t.vm → Qc args s (.returned (v.map (rl base b))) t) (hf : ∀ q ∈ locs, free q.base) (hlocks : meth.locks = false) :
    W p l e R s m args below meth c H locs cells slots (MQ below Qc args s cells slots free) (F0 m pc ls (st.map (rl base b))) := by
  have no2 : ∀ q, up2 (isem2 own (inS y) i pc st M) = some (.inr q) → False := by
    intro q h9
    unfold up2 at h9
    split at h9 <;> cases h9
  have no3 : ∀ idx ok q, cal3 own idx pc st M ok = some (.inr (.inr q)) → False := by
    intro idx ok q h9
    unfold cal3 at h9
    split at h9
    · rename_i c y' q hv
      cases hk : ok y' <;> rw [hk] at h9 <;> cases h9
    · cases h9
  unfold isem3 at h
  split at h
  · exact (no3 _ _ _ h).elim
  · split at h
    · rename_i y' _ _ _
      cases hz : Nat.ble 1920 y' with
      | true => rw [hz] at h; exact (no2 _ h).elim
      | false => rw [hz] at h; exact (no3 _ _ _ h).elim
    · exact (no2 _ h).elim
  · split at h
    · exact (no3 _ _ _ h).elim
    · exact (no2 _ h).elim
  · split at h
    · cases ht : (thr y pc && st.isEmpty) <;> rw [ht] at h <;> cases h
    · exact (no2 _ h).elim
  · split at h
    · rename_i x
      cases h
      cases hm : mrt y with
      | none => rw [hm] at hck; exact hck.elim
      | some t =>
        rw [hm] at hck hr
        cases t <;> first
          | exact hck.elim
          | exact W.iret hx hb hr hq hf (dec_ok hd rfl) hlocks
          | exact W.zret hx hb hr (by rcases (show x = 0 ∨ x = 1 from hck) with rfl | rfl <;> rfl) hq hf (dec_ok hd rfl) hlocks
    · cases h
  · split at h
    · rename_i x
      cases h
      cases hm : mrt y with
      | none => rw [hm] at hck; exact hck.elim
      | some t =>
        rw [hm] at hck hr
        cases t <;> first
          | exact hck.elim
          | exact W.lret hx hb hr hq hf (dec_ok hd rfl) hlocks
    · cases h
  · split at h
    · rename_i x
      cases h
      have hv9 : rl base b (.ref x) = .null ∨ ∃ a, rl base b (.ref x) = .ref a := by
        show va_rf (rfo base b x) = .null ∨ ∃ a, va_rf (rfo base b x) = .ref a
        cases rfo base b x with
        | none => exact Or.inl rfl
        | some a => exact Or.inr ⟨a, rfl⟩
      cases hm : mrt y with
      | none => rw [hm] at hck; exact hck.elim
      | some t =>
        rw [hm] at hck hr
        cases t <;> first
          | exact hck.elim
          | exact W.aret hx hb hr (Or.inl ⟨_, rfl⟩) hv9 hq hf (dec_ok hd rfl) hlocks
          | exact W.aret hx hb hr (Or.inr ⟨_, rfl⟩) hv9 hq hf (dec_ok hd rfl) hlocks
    · cases h
  · split at h
    · cases h
      cases hm : mrt y with
      | none => rw [hm] at hr; exact W.vret hx hb hr hq hf (dec_ok hd rfl) hlocks
      | some t => rw [hm] at hck; exact hck.elim
    · cases h
  · exact (no2 _ h).elim
end AB

