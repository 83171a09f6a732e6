/-! THE CLAIM OUT OF ONE WALK OF THE LAW'S BODY. Your part is whole_start (and what it stands on); all else here is the same for every law, but numbers. -/
def R_law : String := "HallGlassLaw"
def lw_P (b : Addr) (xs : List Int32) (args : Array Value) (s : State) : Prop := args = #[.ref b] ∧ s.IntsAt b xs ∧ xs.length ≤ 3584 ∧ (Jvm.Cond.and given_1 narrow_1).before args s = true
def lw_Q (_ : Array Value) (s : State) (o : Outcome) (t : State) : Prop := o = .returned (some (.int 1)) ∧ Framed s o t [] 601024 7293034
def lw_Z (below : List Frame) (a : Array Value) (s : State) : State → Prop := fun t => ∃ o, t.status = .running ∧ Ended t below o ∧ lw_Q a s o t
/-- the law's own end, with 1 on the stack, nothing written that was there before, its room as the claim has it -/
theorem lw_ret {p : Program} {l : Launch} {e : Env} {s : State} {m : MethodId} {below : List Frame} {meth : Method} {c : Code} {b : Nat} (hx : p.tables.exec = Jvm.exec) (hb : c.code = code) (hr : meth.sig.returnType = ret) (hlocks : meth.locks = false) {pc : Nat} {H : Heap} {ls : Array Slot} (hdg : decode code pc = .ok (.ireturn, 1)) : W p l e room_1 s m #[Value.ref b] below meth c H [] 601024 7293034 (lw_Z below #[Value.ref b] s) (F0 m pc ls [.int 1]) := by
  intro T hT X
  obtain ⟨fs, hret, hrun, hended, hW, hframe⟩ := X.leave (v := some (.int 1)) (hlocks := hlocks) (fun h => by rw [hr] at h; cases h)
  have hmeth' : T.vm.method? m = some meth := X.method'
  refine ⟨T.setFrames fs, ?_, .returned (some (.int 1)), hrun, hended, rfl, ⟨_, rfl⟩, hW, hframe⟩
  jvm_step X.here [X.here.top, hx, hb, hdg, hmeth', hr, ret, narrow_b1]
  (try refine ⟨rfl, ?_⟩); (try refine ⟨rfl, ?_⟩)
  first | (intro acts; rw [hret _ acts rfl rfl rfl]) | rw [hret _ _ rfl rfl rfl]
  exact Steps.refl _
/-- what holds at the law's entry: the machine, the code, the tables' words (any of lw_tbl by 'hts w (by decide +kernel)'), the script of L ints xs at the cell b, what the Statement gives of the start (any of its parts by flat_of_before) -/
def lw_At (p : Program) (s : State) (m : MethodId) (meth : Method) (c : Code) (b L : Nat) (xs : Nat → Int32) : Prop :=
  p.tables.exec = Jvm.exec ∧ c.code = code ∧ meth.sig.returnType = ret ∧ c.maxLocals = 8 ∧ s.vm.findClass R_law = some m.cls ∧ (∀ w ∈ lw_tbl, w.before #[Value.ref b] s = true) ∧ va_X b L xs s s.heap ∧ b < s.heap.size ∧ meth.locks = false ∧ (Jvm.Cond.and given_1 narrow_1).before #[Value.ref b] s = true ∧ c.exceptionTable.toList = []
/-! ===== the start ===== -/
theorem inM_of {l : List Cond} (ps : List Nat) (h : l = ps.filterMap (fun i => lw_tbl[i]?)) : ∀ w ∈ l, w ∈ lw_tbl := by
  intro w hw
  rw [h] at hw
  obtain ⟨i, -, hi⟩ := List.mem_filterMap.mp hw
  exact List.mem_of_getElem? hi
set_option maxRecDepth 100000 in
theorem kws_in : ∀ w ∈ kws, w ∈ lw_tbl := inM_of [1285, 101, 1280, 1287, 98, 1307, 1316, 1318, 1321, 1323, 1308, 1309, 118, 119, 1310, 1315, 1319, 1339, 1297, 1340, 1299, 1341, 1301, 1311, 1313, 1303, 1335, 1336, 1338, 1303, 1326, 1327, 1328, 1329, 1289, 1329, 1330, 1331, 1332, 1291, 1332, 1333, 1334, 1335, 1293, 1325, 1286, 1287, 1294, 1295, 1296, 1298, 1300, 1302, 1306, 1305, 1304] (by decide +kernel)
set_option maxRecDepth 100000 in
theorem jws_in : ∀ w ∈ jws, w ∈ lw_tbl := inM_of [636, 637, 638, 639, 640, 641, 642, 643, 644, 645, 646, 647, 648, 650, 651, 652, 653, 654, 655, 656, 657, 658, 659, 660, 661, 662, 663, 664, 407, 408, 665, 404, 405, 666, 667, 668, 104, 105, 97, 2026, 2027] (by decide +kernel)
set_option maxRecDepth 100000 in
theorem nwds_in : ∀ w ∈ nwds, w ∈ lw_tbl := inM_of [430, 444, 149, 170, 224, 249, 268, 305] (by decide +kernel)
def ows : List Cond := [Cond.arrayOver (.object RX2), Cond.arrayOver (.object RX3), Cond.arrayOver (.object RX4), .arrayClass .int, .arrayClass .boolean, .arrayClass .byte, .arrayClass .long, .laysStatic js "COMPACT_STRINGS" "Z", .initialized js, .laysStatic Bundle.tN "UNASSIGNED_STACK" Bundle.steD, .laysStatic Bundle.tN "SUPPRESSED_SENTINEL" Bundle.listD, .initialized Bundle.tN, .stringRef RX3 20 "wpftykd"] ++ ktx.map (fun q => Cond.stringRef RX11 q.1 q.2)
set_option maxRecDepth 100000 in
theorem ows_in : ∀ w ∈ ows, w ∈ lw_tbl := inM_of [167, 206, 208, 145, 146, 764, 316, 649, 104, 1312, 1314, 98, 635, 1324, 1361, 1374, 1382, 1398] (by decide +kernel)
theorem arr_p {s : State} {A : Array Value} {ty : FieldType} (h : (Cond.arrayClass ty).before A s = true) : ∃ cA, ArrOfT s cA ty ∧ s.vm.findClass ("[" ++ ty.toString) = some cA := by
  obtain ⟨c, k, comp, h1, h2, h3⟩ := Cond.arrayClass_spec h
  exact ⟨c, fun N z => ⟨(fun k h => by cases h), k, h2, comp, h3⟩, h1⟩
theorem arr_o {s : State} {A : Array Value} {C : String} (h : (Cond.arrayOver (.object C)).before A s = true) : ∃ cA, ArrOfT s cA (.object C) ∧ va_RA s cA (.object C) := by
  obtain ⟨comp, c, k, h1, h2, h3, h4, h5⟩ := Cond.arrayOver_spec h
  exact ⟨c, fun N z => ⟨(fun k h => by cases h), k, h3, comp, h4⟩, k, comp, h3, h4, h1, h5⟩
set_option maxHeartbeats 4000000 in
set_option maxRecDepth 100000 in
theorem kx_start {s : State} {A : Array Value} (hts : ∀ w ∈ lw_tbl, w.before A s = true) : ∃ (D : va_G) (ac : Nat → ClassId), KXs D ac s := by
  have ho : ∀ w ∈ ows, w.before A s = true := fun w hw => hts w (ows_in w hw)
  have hc : ∀ c, c < 13 → ∃ q : ClassId × (Nat → Nat), u_Kn s (rcl c) (tcl c) (ncl c) q.1 q.2 := by
    intro c hc
    have hin : ∀ w ∈ cwd c, w ∈ lw_tbl := fun w hw => (in_cwds w (List.mem_flatMap.mpr ⟨c, List.mem_range.mpr hc, hw⟩)).1
    obtain ⟨cC, iS, h⟩ := u_known (C := rcl c) (T := tcl c) (N := ncl c) (n := ncl c) hts (fun w hw => hin w (by unfold cwd; exact List.mem_cons_of_mem _ (List.mem_cons_of_mem _ hw))) (hts _ (hin _ (by unfold cwd; exact List.mem_cons_self)))
    exact ⟨(cC, iS), h⟩
  have hc2 : ∀ c : Nat, ∃ q : ClassId × (Nat → Nat), c < 13 → u_Kn s (rcl c) (tcl c) (ncl c) q.1 q.2 := by
    intro c
    by_cases h : c < 13
    · obtain ⟨q, hq⟩ := hc c h; exact ⟨q, fun _ => hq⟩
    · exact ⟨(0, fun _ => 0), fun z => absurd z h⟩
  obtain ⟨F, hF⟩ := Classical.axiomOfChoice hc2
  obtain ⟨a20, p20, q20⟩ := arr_p (ho (.arrayClass .int) (by unfold ows; simp))
  obtain ⟨a21, p21, q21⟩ := arr_p (ho (.arrayClass .boolean) (by unfold ows; simp))
  obtain ⟨a22, p22, q22⟩ := arr_p (ho (.arrayClass .byte) (by unfold ows; simp))
  obtain ⟨a23, p23, q23⟩ := arr_p (ho (.arrayClass .long) (by unfold ows; simp))
  obtain ⟨a24, p24, q24⟩ := arr_o (ho (.arrayOver (.object RX2)) (by unfold ows; simp))
  obtain ⟨a25, p25, q25⟩ := arr_o (ho (.arrayOver (.object RX3)) (by unfold ows; simp))
  obtain ⟨a26, p26, q26⟩ := arr_o (ho (.arrayOver (.object RX4)) (by unfold ows; simp))
  refine ⟨(fun c => (F c).1, fun c => (F c).2), fun k => if k = 20 then a20 else if k = 21 then a21 else if k = 22 then a22 else if k = 23 then a23 else if k = 24 then a24 else if k = 25 then a25 else a26, ⟨?_, ?_⟩, ?_, ?_, ?_, ?_⟩
  · intro c q hq
    have hlt : c < 13 := by
      have := (List.getElem?_eq_some_iff.mp hq).1
      exact this
    have e := vw_at c hlt
    rw [e] at hq
    cases hq
    exact hF c hlt
  · intro k q hk
    have hlt : k < 7 := (List.getElem?_eq_some_iff.mp hk).1
    rcases (show k = 0 ∨ k = 1 ∨ k = 2 ∨ k = 3 ∨ k = 4 ∨ k = 5 ∨ k = 6 by omega) with rfl | rfl | rfl | rfl | rfl | rfl | rfl <;> cases hk
    · exact ⟨p20, q20⟩
    · exact ⟨p21, q21⟩
    · exact ⟨p22, q22⟩
    · exact ⟨p23, q23⟩
    · exact ⟨p24, q24⟩
    · exact ⟨p25, q25⟩
    · exact ⟨p26, q26⟩
  · intro w hw
    have h := hts w (nwds_in w hw)
    unfold nwds at hw
    simp only [List.mem_cons, List.not_mem_nil, or_false] at hw
    rcases hw with rfl | rfl | rfl | rfl | rfl | rfl | rfl | rfl <;> exact va_tabs rfl rfl h
  · exact va_AO.of (ho (.arrayOver (.object RX2)) (by unfold ows; simp))
  · exact va_AO.of (ho (.arrayOver (.object RX3)) (by unfold ows; simp))
  · exact va_AO.of (ho (.arrayOver (.object RX4)) (by unfold ows; simp))
set_option maxHeartbeats 4000000 in
set_option maxRecDepth 100000 in
theorem ks_start {s : State} {b : Nat} (hts : ∀ w ∈ lw_tbl, w.before #[Value.ref b] s = true) (hgv : (Jvm.Cond.and given_1 narrow_1).before #[Value.ref b] s = true) : ∃ a v, KSd s.heap.size a v s s.heap := by
  have ho : ∀ w ∈ ows, w.before #[Value.ref b] s = true := fun w hw => hts w (ows_in w hw)
  have hg := flat_of_before _ hgv
  have hA : ∀ q : Nat, q < s.heap.size → ¬ (fun q => s.heap.size ≤ q) q := fun q h => Nat.not_le.mpr h
  have z0 : ∀ {i : Nat}, i < 1 → i = 0 := fun h => by omega
  obtain ⟨adK, adV, hS, hE⟩ := vk_Sof (args := #[Value.ref b]) (s := s) (N := 1) (tm := fun _ => Term.string RX3 20) (len := [7]) (byt := [jby]) (A := fun q => s.heap.size ≤ q) (fun i hi => by cases z0 hi; decide)
    (fun i hi => hg _ (by decide +kernel)) (fun i hi => hg _ (by decide +kernel)) (fun i hi => hg _ (by decide +kernel)) (fun i hi => by cases z0 hi; exact hg _ (by decide +kernel))
    (fun i hi j hj => by
      cases z0 hi
      rcases (show j = 0 ∨ j = 1 ∨ j = 2 ∨ j = 3 ∨ j = 4 ∨ j = 5 ∨ j = 6 by have : j < 7 := hj; omega) with rfl | rfl | rfl | rfl | rfl | rfl | rfl <;> exact hg _ (by decide +kernel))
    (fun i j hi hj hne => absurd ((z0 hi).trans (z0 hj).symm) hne) hA
  refine ⟨adK 0, adV 0, fun w hw ar => word_at (State.WarmedH.refl s) (good_of_word (List.all_eq_true.mp jws_ok w hw)) (hts w (jws_in w hw)), vk_R.of (ho (.stringRef RX3 20 "wpftykd") (by unfold ows; simp)) (hE 0 (by decide)), ⟨fun i hi => by cases z0 hi; exact hS.1 0 (by decide), fun i j hi hj _ => (z0 hi).trans (z0 hj).symm⟩, ?_⟩
  exact va_Zof (ho (.laysStatic js "COMPACT_STRINGS" "Z") (by unfold ows; simp)) (ho (.initialized js) (by unfold ows; simp)) (va_eqi (hg _ (by decide +kernel))) hA
theorem ret_int {y own pc : Nat} {i : Instr} {st : List Value} {M M1 : AM} {ck : Option Prop} {x : Int32} (h : isem3 y own i pc st M = some (.inr (.inr (ck, some (some (.int x)), M1)))) : i = .ireturn ∧ st = [.int x] := by
  have no2 : ∀ q, up2 (isem2 own (inS y) i pc st M) = some (.inr q) → False := by
    intro q h9
    unfold up2 at h9
    split at h9 <;> cases h9
  have no3 : ∀ idx ok q, cal3 own idx pc st M ok = some (.inr (.inr q)) → False := by
    intro idx ok q h9
    unfold cal3 at h9
    split at h9
    · rename_i c y' q hv
      cases hk : ok y' <;> rw [hk] at h9 <;> cases h9
    · cases h9
  unfold isem3 at h
  split at h
  · exact (no3 _ _ _ h).elim
  · split at h
    · rename_i y' _ _ _
      cases hz : Nat.ble 1920 y' with
      | true => rw [hz] at h; exact (no2 _ h).elim
      | false => rw [hz] at h; exact (no3 _ _ _ h).elim
    · exact (no2 _ h).elim
  · split at h
    · exact (no3 _ _ _ h).elim
    · exact (no2 _ h).elim
  · split at h
    · cases ht : (thr y pc && st.isEmpty) <;> rw [ht] at h <;> cases h
    · exact (no2 _ h).elim
  · split at h
    · cases h; exact ⟨rfl, rfl⟩
    · cases h
  · split at h <;> cases h
  · split at h <;> cases h
  · split at h <;> cases h
  · exact (no2 _ h).elim
set_option maxHeartbeats 4000000 in
set_option maxRecDepth 100000 in
theorem whole_start {p : Program} {e : Env} {s : State} {m : MethodId} {below : List Frame} {meth : Method} {c : Code} (l : Launch) (hflags : l.flags = flags0) {b L : Nat} {xs : Nat → Int32} (hL : L ≤ 3584) (C0 : lw_At p s m meth c b L xs) : W p l e room_1 s m #[Value.ref b] below meth c s.heap [] 0 0 (lw_Z below #[Value.ref b] s) (entryFrame m ([Value.ref b] : List Value).toArray 8) := by
  obtain ⟨hx, hb, hr, hml, hown, hts, hX, hbl, hlocks, hgv, htab⟩ := C0
  have hst : l.stackTraces = false := by unfold Launch.stackTraces; rw [hflags]; decide +kernel
  obtain ⟨D, ac, hKX⟩ := kx_start hts
  obtain ⟨a, v, hKS⟩ := ks_start hts hgv
  have ho : ∀ w ∈ ows, w.before #[Value.ref b] s = true := fun w hw => hts w (ows_in w hw)
  have hg := flat_of_before _ hgv
  have hA : ∀ q : Nat, q < s.heap.size → ¬ (fun q => s.heap.size ≤ q) q := fun q h => Nat.not_le.mpr h
  have hf11 : s.vm.findClass RX11 = some (D.1 11) := (hKX.1.1 11 _ (vw_at 11 (by decide))).2.1
  have hKY : KYd s.heap.size b L xs (KSd s.heap.size a v) s s.heap := by
    refine ⟨hX, hbl, fun w hw ar => kw_moved (List.all_eq_true.mp kws_ok w hw) (State.WarmedH.refl s) (hts w (kws_in w hw)) ar, ?_, ?_, fun q hq => ?_, hKS⟩
    · exact vx_Zqof (ho (.laysStatic Bundle.tN "UNASSIGNED_STACK" Bundle.steD) (by unfold ows; simp)) (ho (.initialized Bundle.tN) (by unfold ows; simp)) (hg _ (by decide +kernel)) hA
    · exact vx_Zqof (ho (.laysStatic Bundle.tN "SUPPRESSED_SENTINEL" Bundle.listD) (by unfold ows; simp)) (ho (.initialized Bundle.tN) (by unfold ows; simp)) (hg _ (by decide +kernel)) hA
    · have h := ho (.stringRef RX11 q.1 q.2) (by unfold ows; exact List.mem_append_right _ (List.mem_map.mpr ⟨q, hq, rfl⟩))
      obtain ⟨-, -, -, sa, -, -, -, -, -, hev⟩ := Cond.stringRef_spec hf11 h
      exact ⟨sa, vk_R.of h hev⟩
  obtain ⟨n, M, hrun, hn1, hn2⟩ := law_run L (by omega) xs
  have hsim := sim_main (l := l) (D := D) (ac := ac) (KYd.ok (b := b) (L := L) (xs := xs) (KSd.ok s.heap.size a v)) KYd.x primok (throk hst) n
  have hW0 : WdH s.heap.size b L xs D ac (M0 L xs) s.heap := by
    refine ⟨rfl, fun r hr => absurd hr (Nat.not_lt_zero r), fun r hr => ?_, rfl, rfl, rfl⟩
    by_cases h1 : r = 1
    · subst h1; exact Or.inl ⟨rfl, rfl⟩
    · refine absurd ?_ hr
      show cond (Nat.ble r 1) (KD r) 0 = 0
      by_cases h0 : r = 0
      · subst h0; rfl
      · rw [ble_f (show 1 < r by omega)]; rfl
  have hS : CallFix p m c (mby 1669) (mxl 1669) s #[Value.ref b] big (rcl (mcl 1669)) := ⟨hx, hb, hml, hown, fun w hw => hts w (big_tbl w hw)⟩
  rw [lg_entry_eq]
  refine hsim 302 1669 0 [(0, .ref 1)] [] (M0 L xs) M (some (some (.int 1))) hrun p e room_1 s m #[Value.ref b] below meth c s.heap [] 0 0 (lw_Z below #[Value.ref b] s) _ hS hKX hKY (fun h => absurd h (by decide)) htab (LR_entry (base := s.heap.size) (b := b) (nL := 8) (as := [.ref 1]) (by decide)) hW0 (fun _ _ => rfl) (fun q h => nomatch h) (Nat.le_of_ble_eq_true rfl) (Nat.le_of_ble_eq_true rfl)
    (by show 0 + (nn M - 0) ≤ 601024; omega) (by show 0 + (us M - 0) ≤ 7293034; omega) ?_ (fun _ _ _ _ _ _ h => nomatch h)
  intro v1 H' locs' ls' pc' i st' Mx ck hv hi h3 hck hW' hO' hlo'
  cases hv
  obtain ⟨rfl, rfl⟩ := ret_int h3
  have hd : decode (mby 1669) pc' = .ok (.ireturn, 1) := dec_ok (ins_ok hi) rfl
  exact W.widen (k := 601024) (n := 7293034) (by show 0 + (nn M - 0) ≤ 601024; omega) (by show 0 + (us M - 0) ≤ 7293034; omega) (va_forget hlo' (lw_ret hx hb hr hlocks hd))
set_option maxHeartbeats 4000000 in
theorem lw_walk (l : Launch) (hflags : l.flags = flags0) (b : Addr) (xs : List Int32) : MetFree l x (headSpec (Jvm.Cond.code x code maxLocals ret :: tables_1) room_1) (lw_P b xs) (fun _ _ _ _ _ => True) lw_Q := by
  refine MetFree.of_bodyS (code := code) (maxLocals := maxLocals) (ret := ret) (by decide) ?_ ?_
  · intro args s m h hn
    obtain ⟨meth, c, h1, h2, h3, h4, h5, h6, -, -⟩ := Cond.code_spec hn (atoms_spec (ws := Jvm.Cond.code x code maxLocals ret :: tables_1) h _ List.mem_cons_self)
    exact ⟨meth, c, h1, h2, h3, h4, h5, h6⟩
  · intro p e s m args below meth c s₁ B hml0 hP _
    obtain ⟨rfl, hx, hbd, hgv⟩ := hP
    obtain ⟨scr, harrAt, hlist, hof, hsmall⟩ := hx
    obtain ⟨hcb, hkn, -, -⟩ := State.arrayAt?_spec harrAt
    have hown : s.vm.findClass R_law = some m.cls := findClass_of_methodNamed B.named
    have hts0 : ∀ c ∈ (Jvm.Cond.code x code maxLocals ret :: tables_1), c.before #[Value.ref b] s = true := atoms_spec (ws := Jvm.Cond.code x code maxLocals ret :: tables_1) B.pre
    have hts : ∀ w ∈ lw_tbl, w.before #[Value.ref b] s = true := k2_hts_sels lw_privs (fun w hw => hts0 w (List.mem_cons_of_mem _ hw)) lw_privs_ok
    have hml : c.maxLocals = 8 := B.maxLocals_eq (hts0 _ List.mem_cons_self)
    have X₀ : Stand p l e room_1 s m #[Value.ref b] below meth c s₁ [] 0 0 := Stand.of_body B
    have hh0 : s₁.heap = s.heap := by rw [B.state]; rfl
    have htab : c.exceptionTable.toList = [] := by
      obtain ⟨meth9, c9, h1, h2, -, -, -, -, h7, -⟩ := Cond.code_spec B.named (hts0 _ List.mem_cons_self)
      cases Option.some.inj (h1.symm.trans B.method)
      cases Option.some.inj (h2.symm.trans X₀.code)
      rw [Array.isEmpty_iff.mp h7]
    have hsz : scr.slots.size = xs.length := by rw [← Array.length_toList, hlist, List.length_map]
    have hval : ∀ j : Nat, j < xs.length → scr.slots[j]? = some (.int (xs.getD j 0)) := fun j hj => by
      rw [← Array.getElem?_toList, hlist]
      simp [hj]
    have hbl : b < s.heap.size := (Array.getElem?_eq_some_iff.mp hcb).1
    have hX : va_X b xs.length (fun j => xs.getD j 0) s s.heap := ⟨scr, hcb, hof, hkn, hsz, hval⟩
    have K : W p l e room_1 s m #[Value.ref b] below meth c s₁.heap [] 0 0 (lw_Z below #[Value.ref b] s) (entryFrame m ([Value.ref b] : List Value).toArray 8) := by
      rw [hh0]
      exact whole_start l hflags hbd ⟨B.exec, B.bytes, B.returns, hml, hown, hts, hX, hbl, B.notSynchronized, hgv, htab⟩
    obtain ⟨t, a1, o, b1, b2, b3⟩ := K s₁ rfl X₀
    exact ⟨t, o, a1, b1, b2, b3⟩
theorem lw_pre_spec {args : Array Value} {s : State} (h : (Jvm.Cond.and given_1 narrow_1).before args s = true) (hr : rest_1_c.before args s = true) : ∃ (b : Addr) (xs : List Int32), lw_P b xs args s := by
  have hs := flat_of_before _ h
  have hq := flat_of_before _ hr
  have hc : (Cond.count 1).before args s = true := hs _ (by decide +kernel)
  have harr : (Cond.arrayOf (.arg 0) .int).before args s = true := hs _ (by decide +kernel)
  have hle : (Cond.le (.length (.arg 0)) (.int 3584)).before args s = true := hs _ (by decide +kernel)
  have hlen : (Cond.isInt (.length (.arg 0))).before args s = true := hq _ (by decide +kernel)
  have hall : (Cond.all (.arg 0) (.isInt (.elem (.arg 0) (.index 0)))).before args s = true := hq _ (by decide +kernel)
  obtain ⟨b, xs, hb, hx⟩ := State.ints_of_pre rfl harr hlen hall
  have hsm : xs.length < 2 ^ 31 := hx.choose_spec.2.2.2
  have hev : (Term.length (.arg 0)).eval args s none [] s = some (.int xs.length.toInt32) := hx.length_eval hb
  have hv := Cond.le_ints hev (show (Term.int 3584).eval args s none [] s = some (.int 3584) from rfl)
  have hd : xs.length.toInt32 ≤ 3584 := by
    simpa [Cond.before, Cond.holds, hv] using hle
  have hN : xs.length ≤ 3584 := (Int32.ofNat_le_ofNat hsm (by decide)).mp (show Int32.ofNat xs.length ≤ Int32.ofNat 3584 from hd)
  exact ⟨b, xs, Cond.one_arg hc (show args[0]? = some (.ref b) from hb), hx, hN, h⟩
theorem lw_comes (l : Launch) (hflags : l.flags = flags0) : Comes l x (Jvm.Cond.code x code maxLocals ret :: tables_1) room_1 (fun tb e args s => Calls_1 tb e args s ∧ rest_1 tb e args s ∧ Pre_1 tb e args s)
    (fun _ _ args s o t => lw_Q args s o t) := by
  intro p e ha hc hk s m args below hf hfit hheap happ hpre
  obtain ⟨b, xs, hP⟩ := lw_pre_spec hpre.2.2 hpre.2.1
  obtain ⟨k, o, h1, h2, h3, hQ⟩ := lw_walk l hflags b xs p e ha hc hk s m args below hf ((Spec.applies_iff_loose hf).mp happ).1 hP trivial
  exact ⟨k, o, h1, h2, h3, hQ⟩
theorem lw_frame {s t : State} {o : Outcome} {args : Array Value} (h : Framed s o t [] 601024 7293034) :
    Framed s o t (fieldLocs frame_1_writes args s ++ arrayLocs frame_1_arrays args s ++ staticLocs frame_1_statics s) 601024 7293034 := h
theorem lw_limb (L : Cond) (hL : ∀ (args : Array Value) (s t : State), L.after args s (.returned (some (.int 1))) t = true) :
    ArmFor flags0 classFile x code maxLocals ret World_1 tables_1 room_1 Calls_1 rest_1 Pre_1
      (fun tb e a s o t => postC L tb e a s o t ∧ Framed s o t (fieldLocs frame_1_writes a s ++ arrayLocs frame_1_arrays a s ++ staticLocs frame_1_statics s) 601024 7293034) := by
  intro l hflags _ _ p e ha hc hk s m args below hf hfit hheap happ hpre
  obtain ⟨k, o, h1, h2, h3, rfl, hF⟩ := lw_comes l hflags p e ha hc hk s m args below hf hfit hheap happ hpre
  exact ⟨k, _, h1, h2, h3, hL args s _, lw_frame hF⟩
theorem i_vc : Claimed_1_1 ∧ Claimed_1_2 := ⟨lw_limb limb_1_1 (fun args s t => by simp [limb_1_1, Cond.after, Cond.holds, Cond.value]), lw_limb limb_1_2 (fun args s t => Cond.after_iff.mpr (by
  first | (rw [show limb_1_2 = Cond.eq .result (.int 1) from rfl, Cond.eq_ints (x := 1) (y := 1) rfl rfl]; simp; done) | (simp [limb_1_2, Cond.value, Term.eval]; done)))⟩
