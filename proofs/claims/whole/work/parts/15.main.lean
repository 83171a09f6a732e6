set_option maxRecDepth 100000 in
theorem yls_hi : yls.all (fun y => !(Nat.ble 1920 y && isi y)) = true := by decide +kernel
def lkoH (q : Nat × LE) : Bool := match q with
  | (_, 1, y, _, n) => (match fnd hhl y with
    | some _ => Nat.beq n 0
    | none => true)
  | _ => true
set_option maxRecDepth 100000 in
theorem lks_okH : lks.all (fun l => l.all lkoH) = true := by decide +kernel
theorem lk_hhl {own idx y z n9 : Nat} {hh : List (Nat × Nat × Nat × Nat)} (h : lk own idx = some (1, y, z, n9)) (hy : fnd hhl y = some hh) : n9 = 0 := by
  have h1 : lkoH (idx, 1, y, z, n9) = true := by
    unfold lk at h
    cases hn : nth lks own with
    | none => rw [hn] at h; cases h
    | some l0 =>
      rw [hn] at h
      exact List.all_eq_true.mp (List.all_eq_true.mp lks_okH _ (nth_mem hn)) _ (fnd_mem h)
  unfold lkoH at h1
  simp only [hy] at h1
  exact Nat.eq_of_beq_eq_true h1
section MAIN
variable {l : Launch} {base b L : Nat} {xs : Nat → Int32} {D : va_G} {ac : Nat → ClassId} {KY : State → Heap → Prop}
/-- the contract of a callee by what it answers: from the machine, or a method that stands for itself -/
def PrimOk (l : Launch) (base b L : Nat) (xs : Nat → Int32) (D : va_G) (ac : Nat → ClassId) (KY : State → Heap → Prop) : Prop := ∀ (d y : Nat) (as : List Value) (M : AM) (v : Value), prm y as = some v →
  Met l (mnm y) (cdw y :: big) (rmA d 0 0) (PcA base b L xs D ac KY M as) (QcA base b L xs D ac M (some v)) 0 0 (fun q => base ≤ q)
/-- what is owed where a method throws -/
def ThrOk (l : Launch) (base b L : Nat) (xs : Nat → Int32) (D : va_G) (ac : Nat → ClassId) (KY : State → Heap → Prop) : Prop :=
  ∀ (y pc : Nat) (st : List Value) (M : AM), thr y pc = true ∧ st = [] →
  ∀ (p : Program) (e : Env) (R : Room) (s : State) (m : MethodId) (args : Array Value) (below : List Frame) (meth : Method) (c : Code) (H : Heap) (locs : List Loc) (cells slots : Nat) (ls : Array Slot),
    CallFix p m c (mby y) (mxl y) s args big (rcl (mcl y)) → KXs D ac s → KY s s.heap → c.exceptionTable.toList = [] → meth.locks = false → ls.size = mxl y →
    WdH base b L xs D ac M H → (∀ q, q < base → H[q]? = s.heap[q]?) → (∀ q ∈ locs, base ≤ q.base) → 10 ≤ R.frames → 1000 ≤ R.locals → cells + 1 ≤ R.cells → slots + 6 ≤ R.slots →
    W p l e R s m args below meth c H locs cells slots (vx_MQ below (fun _ _ _ _ => False) (XcA base b L xs D ac (nw M 30 0 6)) args s (cells + 1) (slots + 6) (fun q => base ≤ q)) (F0 m pc ls (st.map (rl base b)))
theorem cee_met {n d y : Nat} {as : List Value} {M M1 : AM} {v : Option Value} (hP : PrimOk l base b L xs D ac KY) (hy : y ∈ yls) (h9 : ¬ 1920 ≤ y) (hsim : SimP l base b L xs D ac KY n) (hrun : cee (run n d) y as M = some (some v, M1)) (hz : szL as ≤ mxl y) :
    Met l (mnm y) (cdw y :: big) (rmA d (nn M1 - nn M) (us M1 - us M)) (PcA base b L xs D ac KY M as) (QcA base b L xs D ac M1 v) (nn M1 - nn M) (us M1 - us M) (fun q => base ≤ q) := by
  unfold cee at hrun
  cases hp : prm y as with
  | some w =>
    simp only [hp] at hrun
    cases hrun
    rw [Nat.sub_self, Nat.sub_self]
    exact hP d y as M w hp
  | none =>
    simp only [hp] at hrun
    exact met_of hy h9 hsim hrun hz
theorem cee_grow {n d y : Nat} {as : List Value} {M : AM} {z : Re} (h : cee (run n d) y as M = some z) : nn M ≤ nn z.2 ∧ us M ≤ us z.2 := by
  unfold cee at h
  cases hp : prm y as with
  | some v => simp only [hp] at h; cases h; exact ⟨Nat.le_refl _, Nat.le_refl _⟩
  | none => simp only [hp] at h; exact run_grow _ _ _ _ _ h
variable {p : Program} {e : Env} {R : Room} {s : State} {m : MethodId} {args : Array Value} {below : List Frame} {meth : Method} {c : Code} {H : Heap} {locs : List Loc} {cells slots : Nat} {Q : State → Prop} {ls : Array Slot}
set_option maxRecDepth 100000 in
/-- a call that returns -/
theorem sim_call {y pc : Nat} {i : Instr} {st : List Value} {M M2 : AM} {ck : Option Prop} {y' : Nat} {as : List Value} {pc' : Nat} {st' : List Value} {v : Option Value} {d' : Nat} (hKY : KYok base KY)
    (hd : dec (mby y) pc i = true) (h3 : isem3 y (mcl y) i pc st M = some (.inr (.inl (ck, y', as, pc', st', M)))) (hck : ckp ck)
    (hM : y' ∈ yls → ¬ 1920 ≤ y' → Met l (mnm y') (cdw y' :: big) (rmA d' (nn M2 - nn M) (us M2 - us M)) (PcA base b L xs D ac KY M as) (QcA base b L xs D ac M2 v) (nn M2 - nn M) (us M2 - us M) (fun q => base ≤ q))
    (S : CallFix p m c (mby y) (mxl y) s args big (rcl (mcl y))) (K : KXs D ac s) (hY : KY s s.heap) (hls : ls.size = mxl y) (hW : WdH base b L xs D ac M H) (hO : ∀ q, q < base → H[q]? = s.heap[q]?) (hlo : ∀ q ∈ locs, base ≤ q.base)
    (hR1 : d' + 11 ≤ R.frames) (hR2 : 100 * d' + 1100 ≤ R.locals) (hcl : cells + (nn M2 - nn M) ≤ R.cells) (hsl : slots + (us M2 - us M) ≤ R.slots)
    (k : ∀ (H' : Heap) (locs' : List Loc), WdH base b L xs D ac M2 H' → (∀ q, q < base → H'[q]? = s.heap[q]?) → (∀ q ∈ locs', base ≤ q.base) → W p l e R s m args below meth c H' locs' (cells + (nn M2 - nn M)) (slots + (us M2 - us M)) Q (F0 m pc' ls ((v.toList ++ st').map (rl base b)))) :
    W p l e R s m args below meth c H locs cells slots Q (F0 m pc ls (st.map (rl base b))) := by
  obtain ⟨idx, hv, hkind⟩ := call3 h3
  obtain ⟨z, n9, hl, rfl, -, hst, hlen, hsum, hinst, hstat⟩ := ivk_some hv
  have hx := S.1
  have hb := S.2.1
  have hown := S.2.2.2.1
  have hts := S.2.2.2.2
  have g2 := lk_ok hl
  simp only [lkok, Bool.and_eq_true, Bool.or_eq_true] at g2
  have hy : y' ∈ yls := by simpa using g2.1
  have h9 : ¬ 1920 ≤ y' := by
    rcases hkind with ⟨-, hi, -⟩ | ⟨-, -, h⟩ | ⟨-, -, hi⟩
    · intro q
      have h5 := List.all_eq_true.mp yls_hi y' hy
      rw [Nat.ble_eq.mpr q, hi] at h5
      cases h5
    · exact h
    · intro q
      have h5 := List.all_eq_true.mp yls_hi y' hy
      rw [Nat.ble_eq.mpr q, hi] at h5
      cases h5
  have hM := hM hy h9
  obtain ⟨m1, ⟨m2, m2', m3⟩, m4, m5, m6, m7, m8, m9⟩ := ymeta_at hy h9
  have hpl : ∀ sig, parseMethodDescriptor (mnm y').desc = some sig → nar y' - cond (isi y') 1 0 = sig.parameters.length := fun sig h => by
    rw [h] at m3
    exact (Option.some.inj m3).symm
  have hwsall : ∀ w ∈ cdw y' :: big, ∀ (a' : Array Value) (U : State), s.WarmedH U.vm → w.before a' U = true := pay_in hts (big_goodIn y' hy)
  have hcdw : (cdw y').before args s = true := hts _ (big_mem_m hy _ (by unfold mwd; exact List.mem_cons_self))
  have hini : (Cond.initialized (mnm y').cls).before args s = true := by
    rw [m4]
    refine hts _ (big_mem_m hy _ ?_)
    unfold mwd
    refine List.mem_cons_of_mem _ ?_
    cases isi y' with
    | true =>
      cases inS y' with
      | true => exact List.mem_cons_of_mem _ List.mem_cons_self
      | false => exact List.mem_cons_of_mem _ (List.mem_cons_of_mem _ List.mem_cons_self)
    | false => exact List.mem_cons_of_mem _ List.mem_cons_self
  have hfit : (rmA d' (nn M2 - nn M) (us M2 - us M)).frames + 1 ≤ R.frames ∧ 8 + (mxl y' + 11) + (rmA d' (nn M2 - nn M) (us M2 - us M)).locals ≤ R.locals := by
    refine ⟨?_, ?_⟩
    · show d' + 10 + 1 ≤ _; omega
    · show 8 + (mxl y' + 11) + (100 * d' + 1000) ≤ _
      exact Nat.le_trans (by omega) hR2
  have hPre : ∀ U : State, U.heap = H → s.WarmedH U.vm → PcA base b L xs D ac KY M as (as.map (rl base b)).toArray U := fun U hU hWm => ⟨rfl, by rw [hU]; exact hW, K.moved hWm, by rw [hU]; exact hKY.1 s U _ hWm (hKY.2 s _ _ hO hY)⟩
  have hstk : st.map (rl base b) = (as.map (rl base b)).reverse ++ st'.map (rl base b) := by rw [hst, List.map_append, List.map_reverse]
  have hWs : 2 * (F0 m pc ls (st.map (rl base b))).monitorRoom + ((st'.map (rl base b)).map fun v => v.category).sum ≤ 8 := lv_room (by rw [cat_sum]; exact hsum)
  have nocode : isi y' = true → cdw y' = Cond.code (mnm y') (mby y') (mxl y') (mrt y') := fun hi => by
    unfold cdw
    cases hh : fnd hhl y' with
    | none => rfl
    | some h => rw [m9 h hh] at hi; cases hi
  have hfr : ∀ q : Nat, (fun q => base ≤ q) q → base ≤ q := fun _ h => h
  have hnest : n9 = 1 → va_Nw (.methodLinkNest (rcl (mcl y)) idx (mnm y') RX11) s := fun h1 => by
    have h5 := lk_ok3 hl
    rw [h1] at h5
    exact K.2.1 _ (of_decide_eq_true h5)
  have hlink : n9 = 0 → (Cond.methodLink (rcl (mcl y)) idx (mnm y')).before args s = true := fun h0 => by
    subst h0
    exact hts _ (big_mem_l hl _ List.mem_cons_self)
  have hn01 : n9 = 0 ∨ n9 = 1 := by
    rcases g2.2 with h1 | h1
    · exact Or.inl (Nat.eq_of_beq_eq_true h1)
    · exact Or.inr (Nat.eq_of_beq_eq_true h1)
  have S' : CallFix p m c (mby y) ls.size s args big (rcl (mcl y)) := by rw [hls]; exact S
  have hcw : ∀ h : isi y' = true, Cond.code (mnm y') (mby y') (mxl y') (mrt y') ∈ cdw y' :: big ∧ (Cond.code (mnm y') (mby y') (mxl y') (mrt y')).before args s = true := fun h => by
    rw [← nocode h]; exact ⟨List.mem_cons_self, hcdw⟩
  rcases hkind with ⟨rfl, hi, hin⟩ | ⟨rfl, hi, -⟩ | ⟨rfl, hin, hi⟩
  · -- virtual
    obtain ⟨a, r, rfl, hcke⟩ := hinst hi
    rw [hcke] at hck
    obtain ⟨q, rfl, hq, hat⟩ := hW.obj (c := mcl y') hck (m8 hi).2
    obtain ⟨r0, h1, cell, f1, f2, f3, -⟩ := hat
    have h0 : n9 = 0 := by
      have h5 := lk_ok2 hl
      unfold lkok2 at h5
      simp only [hi, hin, Bool.not_true, Bool.or_false] at h5
      exact Nat.eq_of_beq_eq_true h5
    have hinsm : (Cond.instanceMethod (mnm y')).before args s = true := hts _ (big_mem_m hy _ (by unfold mwd; rw [hi]; exact List.mem_cons_of_mem _ List.mem_cons_self))
    have hsel9 : (Cond.selects (rcl (mcl y')) (mnm y') (mnm y')).before args s = true := hts _ (big_mem_m hy _ (by unfold mwd; rw [hi, hin]; exact List.mem_cons_of_mem _ (List.mem_cons_of_mem _ List.mem_cons_self)))
    have hn : (r.map (rl base b)).length = nar y' - 1 := by
      have : r.length + 1 = nar y' := hlen
      rw [List.length_map]; omega
    have hr := va_runV (l := l) (below := below) (e := e) (meth := meth) (locs := locs) (cells := cells) (slots := slots) (C := rcl (mcl y')) (b := base + q) (As := r.map (rl base b)) (rest := st'.map (rl base b)) (g := F0 m pc ls (st.map (rl base b))) S' hM
      ⟨⟨rfl, rfl, hfit.1, hfit.2, hwsall, (hcw hi).1, (hcw hi).2, hini, ⟨m2, m2'⟩, fun sig h => by have h6 := hpl sig h; rw [hi] at h6; exact h6, hlink h0⟩, hinsm, hsel9⟩
      ⟨PcA_blind hKY M _, ⟨cell, f1, by rw [f3]; rfl, by rw [f2]; exact (K.1.1 (mcl y') _ (vw_at _ (m8 hi).2)).2.1⟩, fun U hU hWm => hPre U hU hWm⟩ rfl hn rfl (by
        rw [show (F0 m pc ls (st.map (rl base b))).stack = st.map (rl base b) from rfl, hstk, List.map_cons, List.reverse_cons, List.append_assoc]; rfl) hWs (dec_ok hd rfl) ⟨hcl, hsl⟩
    exact ab_after hr hfr hO hlo k
  · -- static
    have hst9 : (Cond.static (mnm y')).before args s = true := hts _ (big_mem_m hy _ (by unfold mwd; rw [hi]; exact List.mem_cons_of_mem _ List.mem_cons_self))
    have hn : (as.map (rl base b)).length = nar y' := by rw [List.length_map]; exact hlen
    have hpl9 : ∀ sig, parseMethodDescriptor (mnm y').desc = some sig → nar y' = sig.parameters.length := fun sig h => by have h6 := hpl sig h; rw [hi] at h6; exact h6
    cases hh : fnd hhl y' with
    | none =>
      have hc : cdw y' = Cond.code (mnm y') (mby y') (mxl y') (mrt y') := by unfold cdw; rw [hh]
      have hcw : Cond.code (mnm y') (mby y') (mxl y') (mrt y') ∈ cdw y' :: big ∧ (Cond.code (mnm y') (mby y') (mxl y') (mrt y')).before args s = true := by rw [← hc]; exact ⟨List.mem_cons_self, hcdw⟩
      rcases hn01 with h0 | h1
      · have hr := va_runS (l := l) (below := below) (e := e) (meth := meth) (locs := locs) (cells := cells) (slots := slots) (As := as.map (rl base b)) (rest := st'.map (rl base b)) (g := F0 m pc ls (st.map (rl base b))) S' hM
          ⟨⟨rfl, rfl, hfit.1, hfit.2, hwsall, hcw.1, hcw.2, hini, ⟨m2, m2'⟩, hpl9, hlink h0⟩, hst9⟩ ⟨PcA_blind hKY M _, hPre⟩ rfl hn rfl hstk hWs (dec_ok hd rfl) ⟨hcl, hsl⟩
        exact ab_after hr hfr hO hlo k
      · have hr := va_runSN (l := l) (below := below) (e := e) (meth := meth) (locs := locs) (cells := cells) (slots := slots) (As := as.map (rl base b)) (rest := st'.map (rl base b)) (g := F0 m pc ls (st.map (rl base b))) S' hM
          ⟨⟨⟨rfl, rfl, hfit.1, hfit.2, hwsall, hcw.1⟩, hcw.2, hini, ⟨m2, m2'⟩, hpl9, va_Nw.use rfl (hnest h1)⟩, hst9, trivial⟩ ⟨PcA_blind hKY M _, hPre⟩ rfl hn rfl hstk hWs (dec_ok hd rfl) ⟨hcl, hsl⟩
        exact ab_after hr hfr hO hlo k
    | some h =>
      have hc : cdw y' = Cond.codeWith (mnm y') (mby y') (mxl y') (mrt y') h := by unfold cdw; rw [hh]
      have hcw : Cond.codeWith (mnm y') (mby y') (mxl y') (mrt y') h ∈ cdw y' :: big ∧ (Cond.codeWith (mnm y') (mby y') (mxl y') (mrt y') h).before args s = true := by rw [← hc]; exact ⟨List.mem_cons_self, hcdw⟩
      have h0 : n9 = 0 := lk_hhl hl hh
      have hr := vx_runSW (l := l) (below := below) (e := e) (meth := meth) (locs := locs) (cells := cells) (slots := slots) (As := as.map (rl base b)) (rest := st'.map (rl base b)) (g := F0 m pc ls (st.map (rl base b))) S' hM
        ⟨⟨rfl, rfl, hfit.1, hfit.2, hwsall, hcw.1⟩, hcw.2, hini, ⟨m2, m2'⟩, hpl9, hlink h0, hst9⟩ ⟨PcA_blind hKY M _, hPre⟩ rfl hn rfl hstk hWs (dec_ok hd rfl) ⟨hcl, hsl⟩
      exact ab_after hr hfr hO hlo k
  · -- constructor
    obtain ⟨a, r, rfl, hcke⟩ := hinst hi
    rw [hcke] at hck
    obtain ⟨q, rfl, hq, hat⟩ := hW.obj (c := mcl y') hck (m8 hi).2
    have hinsm : (Cond.instanceMethod (mnm y')).before args s = true := hts _ (big_mem_m hy _ (by unfold mwd; rw [hi]; exact List.mem_cons_of_mem _ List.mem_cons_self))
    have hn : (r.map (rl base b)).length = nar y' - 1 := by
      have : r.length + 1 = nar y' := hlen
      rw [List.length_map]; omega
    have hcw := hcw hi
    rw [(m7 hin).2.1] at hcw
    have hpl9 : ∀ sig, parseMethodDescriptor (mnm y').desc = some sig → nar y' - 1 = sig.parameters.length := fun sig h => by have h6 := hpl sig h; rw [hi] at h6; exact h6
    have hstk9 : (F0 m pc ls (st.map (rl base b))).stack = (r.map (rl base b)).reverse ++ .ref (base + q) :: st'.map (rl base b) := by
      rw [show (F0 m pc ls (st.map (rl base b))).stack = st.map (rl base b) from rfl, hstk, List.map_cons, List.reverse_cons, List.append_assoc]; rfl
    rcases hn01 with h0 | h1
    · have hr := va_runI (l := l) (below := below) (e := e) (meth := meth) (locs := locs) (cells := cells) (slots := slots) (b := base + q) (As := r.map (rl base b)) (rest := st'.map (rl base b)) (g := F0 m pc ls (st.map (rl base b))) S' hM
        ⟨⟨rfl, rfl, hfit.1, hfit.2, hwsall, hcw.1, hcw.2, hini, ⟨m2, m2'⟩, hpl9, hlink h0⟩, (m7 hin).1, hinsm⟩ ⟨PcA_blind hKY M _, hPre⟩ rfl hn rfl hstk9 hWs (dec_ok hd rfl) ⟨hcl, hsl⟩
      exact ab_after hr hfr hO hlo k
    · have hr := va_runIN (l := l) (below := below) (e := e) (meth := meth) (locs := locs) (cells := cells) (slots := slots) (b := base + q) (As := r.map (rl base b)) (rest := st'.map (rl base b)) (g := F0 m pc ls (st.map (rl base b))) S' hM
        ⟨⟨⟨rfl, rfl, hfit.1, hfit.2, hwsall, hcw.1⟩, hcw.2, hini, ⟨m2, m2'⟩, hpl9, va_Nw.use rfl (hnest h1)⟩, (m7 hin).1, hinsm⟩ ⟨PcA_blind hKY M _, hPre⟩ rfl hn rfl hstk9 hWs (dec_ok hd rfl) ⟨hcl, hsl⟩
      exact ab_after hr hfr hO hlo k
end MAIN

