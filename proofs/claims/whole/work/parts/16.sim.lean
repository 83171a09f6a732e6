section MAINX
variable {l : Launch} {base b L : Nat} {xs : Nat → Int32} {D : va_G} {ac : Nat → ClassId} {KY : State → Heap → Prop}
theorem metX_of {n d y : Nat} {as : List Value} {M M1 : AM} (hy : y ∈ yls) (h9 : ¬ 1920 ≤ y) (hsim : SimP l base b L xs D ac KY n) (hT : ThrOk l base b L xs D ac KY) (hrun : run n d y (0, entL 0 as, [], M) = some (none, M1)) (hz : szL as ≤ mxl y) (hh : fnd hhl y = none) :
    vx_Met l (mnm y) (cdw y :: big) (rmA d (nn M1 - nn M) (us M1 - us M)) (PcA base b L xs D ac KY M as) (fun _ _ _ _ => False) (XcA base b L xs D ac M1) (nn M1 - nn M) (us M1 - us M) (fun q => base ≤ q) := by
  obtain ⟨g1, -, g3, -, -, g6, -, -⟩ := ymeta_at hy h9
  have hc : cdw y = Cond.code (mnm y) (mby y) (mxl y) (mrt y) := by unfold cdw; rw [hh]
  refine vx_ofW (cc := mby y) (maxL := mxl y) (ret := mrt y) (ws' := big) g1 (by rw [hc]) ?_
  intro p e s m args below meth c s₁ B hml htab hP
  obtain ⟨rfl, hW, hK, hY⟩ := hP
  have hown : s.vm.findClass (mnm y).cls = some m.cls := findClass_of_methodNamed B.named
  rw [g3] at hown
  have hts := atoms_spec (ws := cdw y :: big) B.pre
  have S : CallFix p m c (mby y) (mxl y) s (as.map (rl base b)).toArray big (rcl (mcl y)) := ⟨B.exec, B.bytes, hml, hown, fun w hw => hts w (List.mem_cons_of_mem _ hw)⟩
  have hlocks := B.notSynchronized
  have htab9 : c.exceptionTable.toList = [] := List.eq_nil_iff_forall_not_mem.mpr htab
  rw [lg_entry_eq]
  refine hsim d y 0 (entL 0 as) [] M M1 none hrun p e _ s m _ below meth c s.heap [] 0 0 _ _ S hK hY (fun hi => by rw [(name_of_methodNamed B.named B.method).1]; exact (g6 hi).1) (by unfold tabOf; rw [hh]; exact htab9) (LR_entry hz) hW (fun _ _ => rfl) (fun q h => by cases h) (Nat.le_refl _) (Nat.le_refl _) (by rw [Nat.zero_add]; exact Nat.le_refl _) (by rw [Nat.zero_add]; exact Nat.le_refl _) (fun _ _ _ _ _ _ _ _ _ h => by cases h) ?_
  intro H' locs' ls' pc' st' M2 _ ht hM1 hg1 hg2 hls' hW' hO' hlo'
  subst hM1
  have e1 : nn (nw M2 30 0 6) - nn M = 0 + (nn M2 - nn M) + 1 := by rw [nn_nw]; omega
  have e2 : us (nw M2 30 0 6) - us M = 0 + (us M2 - us M) + 6 := by rw [us_nw]; omega
  have hw := hT y pc' st' M2 ht p e (headSpec (cdw y :: big) (rmA d (nn (nw M2 30 0 6) - nn M) (us (nw M2 30 0 6) - us M))).room s m _ below meth c H' locs' (0 + (nn M2 - nn M)) (0 + (us M2 - us M)) ls' S hK hY htab9 hlocks hls' hW' hO' hlo' (by show 10 ≤ d + 10; omega) (by show 1000 ≤ 100 * d + 1000; omega) (by show _ ≤ nn (nw M2 30 0 6) - nn M; rw [e1]; exact Nat.le_refl _) (by show _ ≤ us (nw M2 30 0 6) - us M; rw [e2]; exact Nat.le_refl _)
  rw [← e1, ← e2] at hw
  exact hw
theorem han_ok {y pc : Nat} {q : Nat × Nat} (h : han y pc = some q) : ∃ (x : ExceptionTableEntry) (idx : Nat), tabOf y = [x] ∧ covers x pc = true ∧ x.catchType = 13 ∧ mcl y = 13 ∧ ins y pc = some (.invokevirtual idx) ∧ q.2 < mxl y ∧ ((ins y x.handlerPc = some (.astore q.2) ∧ q.1 = x.handlerPc + 2) ∨ ∃ k : Fin 4, ins y x.handlerPc = some (.astore_n k) ∧ q.2 = k ∧ q.1 = x.handlerPc + 1) := by
  unfold han at h
  cases hf : fnd hal y with
  | none => rw [hf] at h; cases h
  | some z =>
    rw [hf] at h
    have hm := fnd_mem hf
    obtain ⟨a1, a2, a3⟩ := z
    dsimp only at h
    cases hb : Nat.beq a1 pc with
    | false => rw [hb] at h; cases h
    | true =>
      rw [hb] at h
      cases h
      have e := Nat.eq_of_beq_eq_true hb
      subst e
      unfold hal at hm
      simp only [List.mem_cons, List.not_mem_nil, or_false, Prod.mk.injEq] at hm
      rcases hm with ⟨rfl, rfl, rfl, rfl⟩ | ⟨rfl, rfl, rfl, rfl⟩ | ⟨rfl, rfl, rfl, rfl⟩ | ⟨rfl, rfl, rfl, rfl⟩ | ⟨rfl, rfl, rfl, rfl⟩
      all_goals
        refine ⟨_, _, rfl, rfl, rfl, rfl, rfl, by decide +kernel, ?_⟩
        first
          | exact Or.inl ⟨rfl, rfl⟩
          | exact Or.inr ⟨3, rfl, rfl, rfl⟩
          | exact Or.inr ⟨2, rfl, rfl, rfl⟩
variable {p : Program} {e : Env} {R : Room} {s : State} {m : MethodId} {args : Array Value} {below : List Frame} {meth : Method} {c : Code} {H : Heap} {locs : List Loc} {cells slots : Nat} {Q : State → Prop} {ls : Array Slot}
set_option maxRecDepth 100000 in
/-- a call that throws, from a method that catches -/
theorem sim_callX {y pc : Nat} {i : Instr} {st : List Value} {M M2 : AM} {ck : Option Prop} {y' : Nat} {as : List Value} {pc' : Nat} {st' : List Value} {d' : Nat} {idx0 : Nat} (hi0 : i = .invokevirtual idx0) (hKY : KYok base KY)
    (hd : dec (mby y) pc i = true) (h3 : isem3 y (mcl y) i pc st M = some (.inr (.inl (ck, y', as, pc', st', M)))) (hck : ckp ck)
    (hM : y' ∈ yls → ¬ 1920 ≤ y' → fnd hhl y' = none → vx_Met l (mnm y') (cdw y' :: big) (rmA d' (nn M2 - nn M) (us M2 - us M)) (PcA base b L xs D ac KY M as) (fun _ _ _ _ => False) (XcA base b L xs D ac M2) (nn M2 - nn M) (us M2 - us M) (fun q => base ≤ q))
    (S : CallFix p m c (mby y) (mxl y) s args big (rcl (mcl y))) (K : KXs D ac s) (hY : KY s s.heap) (hls : ls.size = mxl y) (hW : WdH base b L xs D ac M H) (hO : ∀ q, q < base → H[q]? = s.heap[q]?) (hlo : ∀ q ∈ locs, base ≤ q.base)
    (hR1 : d' + 11 ≤ R.frames) (hR2 : 100 * d' + 1100 ≤ R.locals) (hcl : cells + (nn M2 - nn M) ≤ R.cells) (hsl : slots + (us M2 - us M) ≤ R.slots)
    (kx : ∀ (H1 : Heap) (locs1 : List Loc) (ce : Cell) (q9 : Addr), WdH base b L xs D ac M2 H1 → (∀ q, q < base → H1[q]? = s.heap[q]?) → (∀ q ∈ locs1, base ≤ q.base) → H1[q9]? = some ce → ce.vm = .none → s.vm.findClass "java/util/NoSuchElementException" = some ce.cls → vx_W p l e R s m args below meth c H1 locs1 (cells + (nn M2 - nn M)) (slots + (us M2 - us M)) Q (F0 m pc ls (st'.map (rl base b))) q9) :
    W p l e R s m args below meth c H locs cells slots Q (F0 m pc ls (st.map (rl base b))) := by
  subst hi0
  obtain ⟨idx, hv, hkind⟩ := call3 h3
  obtain ⟨z, n9, hl, rfl, -, hst, hlen, hsum, hinst, hstat⟩ := ivk_some hv
  have hx := S.1
  have hb := S.2.1
  have hown := S.2.2.2.1
  have hts := S.2.2.2.2
  have g2 := lk_ok hl
  simp only [lkok, Bool.and_eq_true, Bool.or_eq_true] at g2
  have hy : y' ∈ yls := by simpa using g2.1
  have h9 : ¬ 1920 ≤ y' := by
    rcases hkind with ⟨-, hi, -⟩ | ⟨-, -, h⟩ | ⟨-, -, hi⟩
    · intro q
      have h5 := List.all_eq_true.mp yls_hi y' hy
      rw [Nat.ble_eq.mpr q, hi] at h5
      cases h5
    · exact h
    · intro q
      have h5 := List.all_eq_true.mp yls_hi y' hy
      rw [Nat.ble_eq.mpr q, hi] at h5
      cases h5
  obtain ⟨m1, ⟨m2, m2', m3⟩, m4, m5, m6, m7, m8, m9⟩ := ymeta_at hy h9
  have hpl : ∀ sig, parseMethodDescriptor (mnm y').desc = some sig → nar y' - cond (isi y') 1 0 = sig.parameters.length := fun sig h => by
    rw [h] at m3
    exact (Option.some.inj m3).symm
  have hwsall : ∀ w ∈ cdw y' :: big, ∀ (a' : Array Value) (U : State), s.WarmedH U.vm → w.before a' U = true := pay_in hts (big_goodIn y' hy)
  have hcdw : (cdw y').before args s = true := hts _ (big_mem_m hy _ (by unfold mwd; exact List.mem_cons_self))
  have hini : (Cond.initialized (mnm y').cls).before args s = true := by
    rw [m4]
    refine hts _ (big_mem_m hy _ ?_)
    unfold mwd
    refine List.mem_cons_of_mem _ ?_
    cases isi y' with
    | true =>
      cases inS y' with
      | true => exact List.mem_cons_of_mem _ List.mem_cons_self
      | false => exact List.mem_cons_of_mem _ (List.mem_cons_of_mem _ List.mem_cons_self)
    | false => exact List.mem_cons_of_mem _ List.mem_cons_self
  have hfit : (rmA d' (nn M2 - nn M) (us M2 - us M)).frames + 1 ≤ R.frames ∧ 8 + (mxl y' + 11) + (rmA d' (nn M2 - nn M) (us M2 - us M)).locals ≤ R.locals := by
    refine ⟨?_, ?_⟩
    · show d' + 10 + 1 ≤ _; omega
    · show 8 + (mxl y' + 11) + (100 * d' + 1000) ≤ _
      exact Nat.le_trans (by omega) hR2
  have hPre : ∀ U : State, U.heap = H → s.WarmedH U.vm → PcA base b L xs D ac KY M as (as.map (rl base b)).toArray U := fun U hU hWm => ⟨rfl, by rw [hU]; exact hW, K.moved hWm, by rw [hU]; exact hKY.1 s U _ hWm (hKY.2 s _ _ hO hY)⟩
  have hstk : st.map (rl base b) = (as.map (rl base b)).reverse ++ st'.map (rl base b) := by rw [hst, List.map_append, List.map_reverse]
  have hWs : 2 * (F0 m pc ls (st.map (rl base b))).monitorRoom + ((st'.map (rl base b)).map fun v => v.category).sum ≤ 8 := lv_room (by rw [cat_sum]; exact hsum)
  have nocode : isi y' = true → cdw y' = Cond.code (mnm y') (mby y') (mxl y') (mrt y') := fun hi => by
    unfold cdw
    cases hh : fnd hhl y' with
    | none => rfl
    | some h => rw [m9 h hh] at hi; cases hi
  have hfr : ∀ q : Nat, (fun q => base ≤ q) q → base ≤ q := fun _ h => h
  have hnest : n9 = 1 → va_Nw (.methodLinkNest (rcl (mcl y)) idx (mnm y') RX11) s := fun h1 => by
    have h5 := lk_ok3 hl
    rw [h1] at h5
    exact K.2.1 _ (of_decide_eq_true h5)
  have hlink : n9 = 0 → (Cond.methodLink (rcl (mcl y)) idx (mnm y')).before args s = true := fun h0 => by
    subst h0
    exact hts _ (big_mem_l hl _ List.mem_cons_self)
  have hn01 : n9 = 0 ∨ n9 = 1 := by
    rcases g2.2 with h1 | h1
    · exact Or.inl (Nat.eq_of_beq_eq_true h1)
    · exact Or.inr (Nat.eq_of_beq_eq_true h1)
  have S' : CallFix p m c (mby y) ls.size s args big (rcl (mcl y)) := by rw [hls]; exact S
  have hcw : ∀ h : isi y' = true, Cond.code (mnm y') (mby y') (mxl y') (mrt y') ∈ cdw y' :: big ∧ (Cond.code (mnm y') (mby y') (mxl y') (mrt y')).before args s = true := fun h => by
    rw [← nocode h]; exact ⟨List.mem_cons_self, hcdw⟩
  rcases hkind with ⟨he, hi, hin⟩ | ⟨he, -⟩ | ⟨he, -⟩
  · cases he
    have hhn : fnd hhl y' = none := by
      cases hh : fnd hhl y' with
      | none => rfl
      | some h => rw [m9 h hh] at hi; cases hi
    have hM := hM hy h9 hhn
    obtain ⟨a, r, rfl, hcke⟩ := hinst hi
    rw [hcke] at hck
    obtain ⟨q, rfl, hq, hat⟩ := hW.obj (c := mcl y') hck (m8 hi).2
    obtain ⟨r0, h1, cell, f1, f2, f3, -⟩ := hat
    have h0 : n9 = 0 := by
      have h5 := lk_ok2 hl
      unfold lkok2 at h5
      simp only [hi, hin, Bool.not_true, Bool.or_false] at h5
      exact Nat.eq_of_beq_eq_true h5
    have hinsm : (Cond.instanceMethod (mnm y')).before args s = true := hts _ (big_mem_m hy _ (by unfold mwd; rw [hi]; exact List.mem_cons_of_mem _ List.mem_cons_self))
    have hsel9 : (Cond.selects (rcl (mcl y')) (mnm y') (mnm y')).before args s = true := hts _ (big_mem_m hy _ (by unfold mwd; rw [hi, hin]; exact List.mem_cons_of_mem _ (List.mem_cons_of_mem _ List.mem_cons_self)))
    have hn : (r.map (rl base b)).length = nar y' - 1 := by
      have : r.length + 1 = nar y' := hlen
      rw [List.length_map]; omega
    have hr := vx_runV (l := l) (below := below) (e := e) (meth := meth) (locs := locs) (cells := cells) (slots := slots) (C := rcl (mcl y')) (b := base + q) (As := r.map (rl base b)) (rest := st'.map (rl base b)) (g := F0 m pc ls (st.map (rl base b))) S' hM
      ⟨⟨rfl, rfl, hfit.1, hfit.2, hwsall, (hcw hi).1, (hcw hi).2, hini, ⟨m2, m2'⟩, fun sig h => by have h6 := hpl sig h; rw [hi] at h6; exact h6, hlink h0⟩, hinsm, hsel9⟩
      ⟨PcA_blind hKY M _, ⟨cell, f1, by rw [f3]; rfl, by rw [f2]; exact (K.1.1 (mcl y') _ (vw_at _ (m8 hi).2)).2.1⟩, fun U hU hWm => hPre U hU hWm⟩ rfl hn rfl (by
        rw [show (F0 m pc ls (st.map (rl base b))).stack = st.map (rl base b) from rfl, hstk, List.map_cons, List.reverse_cons, List.append_assoc]; rfl) hWs (dec_ok hd rfl) ⟨hcl, hsl⟩
    exact ab_afterX (a := #[]) hr hfr hO hlo kx
  · cases he
  · cases he

/-- what KY must give beside -/
def KYx (base b L : Nat) (xs : Nat → Int32) (KY : State → Heap → Prop) : Prop := ∀ (U : State) (H : Heap), KY U H → va_X b L xs U H ∧ b < base ∧ (∀ a : Array Value, (Cond.classLink (rcl 13) 13 "java/util/NoSuchElementException").before a U = true) ∧ (∀ a : Array Value, (Cond.castable "java/util/NoSuchElementException" "java/util/NoSuchElementException").before a U = true)
set_option maxRecDepth 100000 in
set_option maxHeartbeats 4000000 in
theorem sim_main (hKY : KYok base KY) (hKX : KYx base b L xs KY) (hP : PrimOk l base b L xs D ac KY) (hT : ThrOk l base b L xs D ac KY) : ∀ n, SimP l base b L xs D ac KY n
  | 0 => by
    intro d y pc lv st M M1 r h
    simp [run] at h
  | n + 1 => by
    intro d y pc lv st M M1 r h p e R s m args below meth c H locs cells slots Q ls S K hY hini htab hL hW hO hlo hR1 hR2 hcl hsl hret hthr
    have ih := sim_main hKY hKX hP hT n
    have hx := S.1
    have hb := S.2.1
    unfold run at h
    cases hi : ins y pc with
    | none => simp only [hi] at h; cases h
    | some i =>
      have hd := ins_ok hi
      simp only [hi] at h
      cases ho : isem y (mcl y) i pc lv st M with
      | none => simp only [ho] at h; cases h
      | some o =>
        simp only [ho] at h
        have hgo : ∀ {M' : AM} {p' : Nat} {lv' : Lo} {st' : List Value} {ls' : Array Slot} {H' : Heap} {locs' : List Loc}, run n d y (p', lv', st', M') = some (r, M1) → nn M ≤ nn M' → us M ≤ us M' → LR base b (mxl y) lv' ls' → WdH base b L xs D ac M' H' → (∀ q, q < base → H'[q]? = s.heap[q]?) → (∀ q ∈ locs', base ≤ q.base) →
            W p l e R s m args below meth c H' locs' (cells + (nn M' - nn M)) (slots + (us M' - us M)) Q (F0 m p' ls' (st'.map (rl base b))) := by
          intro M' p' lv' st' ls' H' locs' hr hg1 hg2 hL' hW' hO' hlo'
          obtain ⟨hg3, hg4⟩ := run_grow _ _ _ _ _ hr
          dsimp only at hg3 hg4
          have e1 : cells + (nn M' - nn M) + (nn M1 - nn M') = cells + (nn M1 - nn M) := by omega
          have e2 : slots + (us M' - us M) + (us M1 - us M') = slots + (us M1 - us M) := by omega
          refine ih d y p' lv' st' M' M1 r hr p e R s m args below meth c H' locs' _ _ Q ls' S K hY hini htab hL' hW' hO' hlo' hR1 hR2 (by omega) (by omega) ?_ ?_
          · intro v H2 locs2 ls2 pc2 i2 st2 M0 ck hv hi2 h3 hck hW2 hO2 hlo2
            rw [e1, e2]
            exact hret v H2 locs2 ls2 pc2 i2 st2 M0 ck hv hi2 h3 hck hW2 hO2 hlo2
          · intro H2 locs2 ls2 pc2 st2 M2 hv ht hM1 h1 h2 hls2 hW2 hO2 hlo2
            rw [show cells + (nn M' - nn M) + (nn M2 - nn M') = cells + (nn M2 - nn M) by omega, show slots + (us M' - us M) + (us M2 - us M') = slots + (us M2 - us M) by omega]
            exact hthr H2 locs2 ls2 pc2 st2 M2 hv ht hM1 (Nat.le_trans hg1 h1) (Nat.le_trans hg2 h2) hls2 hW2 hO2 hlo2
        have hgo0 : ∀ {p' : Nat} {lv' : Lo} {st' : List Value} {ls' : Array Slot}, run n d y (p', lv', st', M) = some (r, M1) → LR base b (mxl y) lv' ls' →
            W p l e R s m args below meth c H locs cells slots Q (F0 m p' ls' (st'.map (rl base b))) := by
          intro p' lv' st' ls' hr hL'
          have := hgo hr (Nat.le_refl _) (Nat.le_refl _) hL' hW hO hlo
          rw [Nat.sub_self, Nat.sub_self] at this
          exact this
        unfold isem at ho
        cases hl : locI i with
        | some q =>
          simp only [hl] at ho
          refine simL hx hb hd hl ho hL fun ls' lv' st' p' ho' hL' => ?_
          subst ho'
          dsimp only at h
          rw [if_pos (show ckp none from trivial)] at h
          exact hgo0 h hL'
        | none =>
          simp only [hl] at ho
          cases h3 : isem3 y (mcl y) i pc st M with
          | none => rw [h3] at ho; cases ho
          | some q =>
            rw [h3] at ho
            obtain ⟨k1, k2, k3⟩ := grow3 h3
            rcases q with ⟨ck, br, p', st', M'⟩ | ⟨ck, y', as, pc', st', M'⟩ | ⟨ck, v, M'⟩
            · cases ho
              dsimp only at h
              obtain ⟨h2, hg1, hg2⟩ := k1 _ _ _ _ _ rfl
              by_cases hck : ckp ck
              · rw [if_pos hck] at h
                obtain ⟨hg3, hg4⟩ := run_grow _ _ _ _ _ h
                dsimp only at hg3 hg4
                exact sim2 S K hd hini h2 hck hW hO hlo (fun _ => ⟨(hKX _ _ hY).1, (hKX _ _ hY).2.1⟩) (hL.1.trans S.2.2.1.symm) ⟨by omega, by omega⟩ (by omega) (by omega) (fun H' locs' hW' hO' hlo' => hgo h hg1 hg2 hL hW' hO' hlo')
              · rw [if_neg hck] at h; cases h
            · cases ho
              have hM' := k2 _ _ _ _ _ _ rfl
              subst hM'
              dsimp only at h
              by_cases hck : ckp ck ∧ szL as ≤ mxl y'
              · rw [if_pos hck] at h
                cases d with
                | zero => cases h
                | succ d' =>
                  dsimp only at h
                  cases hg : cee (run n d') y' as M' with
                  | none => rw [hg] at h; cases h
                  | some z =>
                    rw [hg] at h
                    obtain ⟨v, M2⟩ := z
                    obtain ⟨hg1, hg2⟩ := cee_grow hg
                    dsimp only at hg1 hg2
                    cases v with
                    | some v =>
                      have h' : run n (d' + 1) y (pc', lv, v.toList ++ st', M2) = some (r, M1) := h
                      obtain ⟨hg3, hg4⟩ := run_grow _ _ _ _ _ h'
                      dsimp only at hg3 hg4
                      exact sim_call hKY hd h3 hck.1 (fun hy h9 => cee_met hP hy h9 ih hg hck.2) S K hY hL.1 hW hO hlo (by omega) (by omega) (by omega) (by omega) (fun H' locs' hW' hO' hlo' => hgo h' hg1 hg2 hL hW' hO' hlo')
                    | none =>
                      unfold aft at h
                      dsimp only at h
                      cases hh : han y pc with
                      | none => simp only [hh] at h; cases h
                      | some q =>
                        simp only [hh] at h
                        obtain ⟨x, idx, t1, t2, t3, t4, t5, t6, t7⟩ := han_ok hh
                        have hi9 : i = .invokevirtual idx := Option.some.inj (hi.symm.trans t5)
                        obtain ⟨hg3, hg4⟩ := run_grow _ _ _ _ _ h
                        dsimp only at hg3 hg4
                        have hrun : run n d' y' (0, entL 0 as, [], M') = some (none, M2) := by
                          unfold cee at hg
                          cases hp : prm y' as with
                          | some w => simp only [hp] at hg; cases hg
                          | none => simp only [hp] at hg; exact hg
                        refine sim_callX hi9 hKY hd h3 hck.1 (fun hy h9 hhn => metX_of hy h9 ih hT hrun hck.2 hhn) S K hY hL.1 hW hO hlo (by omega) (by omega) (by omega) (by omega) fun H1 locs1 ce q9 hW1 hO1 hlo1 hce hcv hcl => ?_
                        have hown := S.2.2.2.1
                        rw [t4] at hown
                        refine vx_catch (own := rcl 13) (name := "java/util/NoSuchElementException") (E := "java/util/NoSuchElementException") hown [] x [] (by rw [htab, t1]; rfl) (fun z hz => by cases hz) t2 (by rw [t3]; decide) (by rw [t3]; exact (hKX _ _ hY).2.2.1 _) ((hKX _ _ hY).2.2.2 _) hce hcv hcl ?_
                        have fin : ∀ ls' : Array Slot, LR base b (mxl y) (rm1 q.2 lv) ls' → W p l e R s m args below meth c H1 locs1 (cells + (nn M2 - nn M')) (slots + (us M2 - us M')) Q (F0 m q.1 ls' []) := fun ls' hL' => hgo (st' := []) h hg1 hg2 hL' hW1 hO1 hlo1
                        have hdrop : ∀ ls' : Array Slot, lv_has ls' (mxl y) ((q.2, Value.ref q9) :: (lst base b (mxl y) lv).filter (fun z => !(z.1 == q.2) && !(z.1 + 1 == q.2 && z.2.category == 2))) → LR base b (mxl y) (rm1 q.2 lv) ls' := by
                          intro ls' h'
                          refine ⟨h'.1, h'.2.1, fun j w hj => ?_⟩
                          have h1 : LR base b (mxl y) ((q.2, .int 0) :: rm1 q.2 lv) (ls'.set! q.2 (.val (.int 0))) → True := fun _ => trivial
                          obtain ⟨g1, g2, g3⟩ := (fnd_rm1 q.2 j w lv).mp hj
                          have hlt : j < mxl y := by rw [← hL.1]; exact (Array.getElem?_eq_some_iff.mp (hL.2.2 _ _ g2)).1
                          refine h'.2.2 (j, rl base b w) (List.mem_cons_of_mem _ (List.mem_filter.mpr ⟨lst_mem hlt g2, ?_⟩))
                          show (!(j == q.2) && !(j + 1 == q.2 && (rl base b w).category == 2)) = true
                          rw [cat_is2]
                          have e1 : (j == q.2) = false := by simpa using g1
                          rw [e1]
                          cases hw : is2 w with
                          | false => simp
                          | true =>
                            have : ¬ j + 1 = q.2 := fun z => g3 ⟨z, hw⟩
                            simp [this]
                        rcases t7 with ⟨t8, t9⟩ | ⟨k, t8, t10, t9⟩
                        · rw [t9] at fin
                          exact lv_astore hx hb (dec_ok (ins_ok t8) rfl) hL.has t6 rfl (fun ls' h' => fin ls' (hdrop ls' h'))
                        · rw [t9] at fin
                          exact lv_astore_n hx hb (dec_ok (ins_ok t8) rfl) t10.symm hL.has t6 rfl (fun ls' h' => fin ls' (hdrop ls' h'))
              · rw [if_neg hck] at h; cases h
            · cases ho
              dsimp only at h
              by_cases hck : ckp ck
              · rw [if_pos hck] at h
                cases h
                rcases k3 _ _ _ rfl with ⟨rfl, hv⟩ | ⟨rfl, rfl, ht, rfl⟩
                · cases r with
                  | none => exact absurd rfl hv
                  | some v =>
                    have := hret v H locs ls pc i st M1 ck rfl hi h3 hck hW hO hlo
                    rw [Nat.sub_self, Nat.sub_self] at this
                    exact this
                · have := hthr H locs ls pc st M rfl ht rfl (Nat.le_refl _) (Nat.le_refl _) hL.1 hW hO hlo
                  rw [Nat.sub_self, Nat.sub_self] at this
                  exact this
              · rw [if_neg hck] at h; cases h
end MAINX

