/-! ===== the text's methods: by wip/whole/gen99c.py ===== -/
abbrev js : String := "java/lang/String"
abbrev jl : String := "java/lang/StringLatin1"
abbrev jA : MethodName := ⟨"java/lang/String", "indexOf", "(I)I"⟩
abbrev jB : MethodName := ⟨"java/lang/String", "indexOf", "(II)I"⟩
abbrev jC : MethodName := ⟨"java/lang/String", "isLatin1", "()Z"⟩
abbrev jD : MethodName := ⟨"java/lang/String", "length", "()I"⟩
abbrev jE : MethodName := ⟨"java/lang/String", "coder", "()B"⟩
abbrev jF : MethodName := ⟨"java/lang/StringLatin1", "indexOf", "([BIII)I"⟩
abbrev jG : MethodName := ⟨"java/lang/StringLatin1", "canEncode", "(I)Z"⟩
abbrev jH : MethodName := ⟨"java/lang/StringLatin1", "indexOfChar", "([BIII)I"⟩
abbrev cA : Cond := .code jA prog_23_method_79_code 2 (some .int)
abbrev cB : Cond := .code jB prog_23_method_80_code 3 (some .int)
abbrev cC : Cond := .code jC prog_23_method_154_code 1 (some .boolean)
abbrev cD : Cond := .code jD prog_23_method_54_code 1 (some .int)
abbrev cE : Cond := .code jE prog_23_method_152_code 1 (some .byte)
abbrev cF : Cond := .code jF prog_24_method_22_code 4 (some .int)
abbrev cG : Cond := .code jG prog_24_method_4_code 1 (some .boolean)
abbrev cH : Cond := .code jH prog_24_method_23_code 6 (some .int)
/-- the words that these methods need -/
def jws : List Cond := [.methodLink RX3 22 jA, .instanceMethod jA, .selects js jA jA, cA, .methodLink js 633 jB, .instanceMethod jB, .selects js jB jB, cB, .methodLink js 492 jC, .instanceMethod jC, .selects js jC jC, cC,
  .fieldLink js 38 js "COMPACT_STRINGS" "Z", .methodLink js 505 jD, .instanceMethod jD, .selects js jD jD, cD, .methodLink js 335 jE, .instanceMethod jE, .selects js jE jE, cE, .methodLink js 637 jF, .static jF, cF, .methodLink jl 88 jG, .static jG, cG,
  .methodLink jl 92 Lib.Math.max.name, .static Lib.Math.max.name, .code Lib.Math.max.name Lib.Math.max.code 2 (some .int), .methodLink jl 38 Lib.Math.min.name, .static Lib.Math.min.name, .code Lib.Math.min.name Lib.Math.min.code 2 (some .int), .methodLink jl 95 jH, .static jH, cH,
  .initialized js, .initialized jl, .initialized "java/lang/Math", .fieldLink js 15 js "coder" "B", .fieldLink js 9 js "value" "[B"]
set_option maxRecDepth 100000 in
theorem jws_ok : jws.all goodWord = true := by decide +kernel
/-- the letters -/
def jby : List Int32 := [119, 112, 102, 116, 121, 107, 100]
/-- the text a, its letters v, lie there as they were before the law -/
def KSd (base a v : Nat) (U : State) (H : Heap) : Prop := (∀ w ∈ jws, ∀ ar, w.before ar U = true) ∧ vk_R RX3 20 "wpftykd" a U ∧ vk_S 1 [7] [jby] (fun _ => a) (fun _ => v) (fun q => base ≤ q) U H ∧ va_Z js "COMPACT_STRINGS" "Z" (.int 1) (fun q => base ≤ q) U H
theorem KSd.ok (base a v : Nat) : KYok base (KSd base a v) := by
  constructor
  · rintro u U H hW ⟨h1, h2, h3, h4⟩
    exact ⟨fun w hw ar => word_at hW (good_of_word (List.all_eq_true.mp jws_ok w hw)) (h1 w hw #[]), vk_R.warm hW h2, vk_S.moved hW.alike h3, va_Z.moved hW.alike h4⟩
  · rintro U H H1 hq ⟨h1, h2, h3, h4⟩
    exact ⟨h1, h2, vk_S.kept h3 (fun q _ ha => hq q (Nat.not_le.mp ha)), va_Z.kept h4 (fun q _ ha => hq q (Nat.not_le.mp ha))⟩
/-- a call that leaves the heap alone -/
def Qp (f : Int32) : Array Value → State → Outcome → State → Prop := fun _ st o t => o = .returned (some (.int f)) ∧ t.heap = st.heap
def Pj (base a v : Nat) (as : List Value) : Array Value → State → Prop := fun ar U => ar = as.toArray ∧ KSd base a v U U.heap
theorem Pj_blind (base a v : Nat) (as : List Value) : FrameBlind (Pj base a v as) := by
  rintro ar U g mk ⟨h1, h2⟩
  exact ⟨h1, (KSd.ok base a v).1 U _ _ (State.WarmedH.refl U) h2⟩
section JDK
variable {p : Program} {l : Launch} {e : Env} {R : Room} {s : State} {m : MethodId} {args : Array Value} {below : List Frame} {meth : Method} {c : Code} {locs : List Loc} {cells slots : Nat} {Q : State → Prop}
variable {pc : Nat} {ls : Array Slot} {rest st0 : List Value} {base a v : Nat}
theorem callp {H : Heap} {f : Int32} {ar : Array Value} (hr : va_Run p l e R s m args below meth c H locs cells slots 0 0 (F0 m pc ls st0) rest (Qp f ar) (fun _ => False))
    (kk : W p l e R s m args below meth c H locs cells slots Q (F0 m (pc + 3) ls (.int f :: rest))) : W p l e R s m args below meth c H locs cells slots Q (F0 m pc ls st0) := by
  intro T hT X
  obtain ⟨v, st₀, t, T', L, h0, X', hL, e1, e2, ⟨hv, hh⟩, st⟩ := hr T hT X
  have hLn : L = [] := List.eq_nil_iff_forall_not_mem.mpr fun q hq => hL q hq
  subst hLn
  rw [List.append_nil] at X'
  cases hv
  obtain ⟨t2, a1, b1⟩ := kk T' (by rw [e1, hh, h0]) X'
  exact ⟨t2, st t2 a1, b1⟩
theorem pj_s {as : List Value} {cc : ByteArray} {nL n index maxL : Nat} {own : String} {y : MethodName} {bytes : ByteArray} {ret : Option FieldType} {rm : Room} {f : Int32}
    (hx : p.tables.exec = Jvm.exec) (hb : c.code = cc) (hml : c.maxLocals = nL) (hown : s.vm.findClass own = some m.cls) (hK : KSd base a v s s.heap)
    (hM : Met l y [Cond.code y bytes maxL ret] rm (Pj base a v as) (Qp f) 0 0 (fun _ => False)) (hG : GoodIn jws (va_wsS own index y [Cond.code y bytes maxL ret])) (hrc : rm.cells = 0) (hrs : rm.slots = 0)
    (hd : y.cls ≠ "java/lang/invoke/MethodHandle" ∧ y.cls ≠ "java/lang/invoke/VarHandle" ∧ (parseMethodDescriptor y.desc).map (fun d => d.parameters.length) = some n) (hR : rm.frames + 1 ≤ R.frames ∧ 8 + (maxL + 11) + rm.locals ≤ R.locals)
    (hn : as.length = n) (hsize : ls.size = nL) (hstack : st0 = as.reverse ++ rest) (hW : (rest.map fun v => v.category).sum ≤ 8) (hdg : decode cc pc = .ok (.invokestatic index, 3)) (hf : cells ≤ R.cells ∧ slots ≤ R.slots)
    (kk : W p l e R s m args below meth c s.heap locs cells slots Q (F0 m (pc + 3) ls (.int f :: rest))) : W p l e R s m args below meth c s.heap locs cells slots Q (F0 m pc ls st0) := by
  have hts : ∀ w ∈ jws, w.before args s = true := fun w hw => hK.1 w hw args
  refine callp (va_runS (As := as) (rest := rest) ⟨hx, hb, hml, hown, hts⟩ hM (va_cwS n hts hG rfl hrc hrs hd hR) ⟨Pj_blind base a v as, fun U hU hW => ⟨rfl, by rw [hU]; exact (KSd.ok base a v).1 s U _ hW hK⟩⟩ rfl hn hsize hstack (lv_room hW) hdg ⟨hf.1, hf.2⟩) kk
theorem pj_v {as : List Value} {cc : ByteArray} {nL n index maxL : Nat} {own : String} {y : MethodName} {bytes : ByteArray} {ret : Option FieldType} {rm : Room} {f : Int32}
    (hx : p.tables.exec = Jvm.exec) (hb : c.code = cc) (hml : c.maxLocals = nL) (hown : s.vm.findClass own = some m.cls) (hK : KSd base a v s s.heap)
    (hM : Met l y [Cond.code y bytes maxL ret] rm (Pj base a v (.ref a :: as)) (Qp f) 0 0 (fun _ => False)) (hG : GoodIn jws (wsV own index js y [Cond.code y bytes maxL ret])) (hrc : rm.cells = 0) (hrs : rm.slots = 0)
    (hd : y.cls = js ∧ y.cls ≠ "java/lang/invoke/MethodHandle" ∧ y.cls ≠ "java/lang/invoke/VarHandle" ∧ (parseMethodDescriptor y.desc).map (fun d => d.parameters.length) = some n) (hR : rm.frames + 1 ≤ R.frames ∧ 8 + (maxL + 11) + rm.locals ≤ R.locals)
    (hn : as.length = n) (hsize : ls.size = nL) (hstack : st0 = as.reverse ++ .ref a :: rest) (hW : (rest.map fun v => v.category).sum ≤ 8) (hdg : decode cc pc = .ok (.invokevirtual index, 3)) (hf : cells ≤ R.cells ∧ slots ≤ R.slots)
    (kk : W p l e R s m args below meth c s.heap locs cells slots Q (F0 m (pc + 3) ls (.int f :: rest))) : W p l e R s m args below meth c s.heap locs cells slots Q (F0 m pc ls st0) := by
  have hts : ∀ w ∈ jws, w.before args s = true := fun w hw => hK.1 w hw args
  have hS : va_S (fun q => base ≤ q) s.heap s.heap [] := va_S.rf
  refine callp (va_runV (As := as) (rest := rest) ⟨hx, hb, hml, hown, hts⟩ hM (cwV n hts hG rfl hrc hrs hd hR) ⟨Pj_blind base a v _, vk_recv (i := 0) hK.2.2.1 (by decide) hS, fun U hU hW => ⟨rfl, by rw [hU]; exact (KSd.ok base a v).1 s U _ hW hK⟩⟩ rfl hn hsize hstack (lv_room hW) hdg ⟨hf.1, hf.2⟩) kk
end JDK
set_option maxRecDepth 100000 in
set_option maxHeartbeats 4000000 in
theorem m_G (l : Launch) (base a v : Nat) (x : Int32) : Met l jG [cG] { frames := 0, cells := 0, slots := 0, locals := 0 } (Pj base a v [.int x]) (Qp (if x < 0 ∨ 255 < x then 0 else 1)) 0 0 (fun _ => False) := by
  refine Met.ofW (cc := prog_24_method_4_code) (maxL := 1) (ret := some .boolean) (by decide) rfl ?_
  intro p e s m args below meth c s₁ B hml hv
  obtain ⟨rfl, hK⟩ := hv
  have hx := B.exec
  have hb := B.bytes
  have hr := B.returns
  have hlocks := B.notSynchronized
  have hts : ∀ w ∈ jws, w.before [.int x].toArray s = true := fun w hw => hK.1 w hw _
  have hown : s.vm.findClass jl = some m.cls := findClass_of_methodNamed B.named
  have hS : va_S (fun q => base ≤ q) s.heap s.heap [] := va_S.rf
  obtain ⟨kO, kC, kV, kT⟩ := hK.2.2.1.1 0 (by decide)
  have hl := lv_entry ([.int x]) (n := 1) (Nat.le_of_ble_eq_true rfl)
  rw [lg_entry_eq]
  generalize (lg_sl ([.int x]) ++ List.replicate (1 - (lg_sl ([.int x])).length) Slot.unset).toArray = ls at hl ⊢
  have hl : lv_has ls 1 [(0, .int x)] := hl
  refine lv_iload_n hx hb dG_0 rfl (lv_at hl 0 rfl) ?_
  have bad : (x < 0 ∨ 255 < x) → W p l e (headSpec [cG] { frames := 0, cells := 0, slots := 0, locals := 0 }).room s m [Value.int x].toArray below meth c s.heap [] 0 0 (MQ below (Qp (if x < 0 ∨ 255 < x then 0 else 1)) [Value.int x].toArray s 0 0 (fun _ => False)) (F0 m 15 ls []) := by
    intro h
    refine lv_iconst (v := 0) hx hb dG_15 (by decide) ?_
    rw [if_pos h]
    exact W.zret hx hb hr rfl (fun t ht _ => ⟨rfl, ht⟩) (fun q hq => nomatch hq) dG_16 hlocks
  refine lv_if_lt (tgt := 15) hx hb dG_1 rfl (fun h => bad (Or.inl h)) (fun h => ?_)
  refine lv_iload_n hx hb dG_4 rfl (lv_at hl 0 rfl) ?_
  refine lv_sipush (v := 255) hx hb dG_5 (by decide) ?_
  refine lv_icmp_gt (tgt := 15) hx hb dG_8 rfl (fun h2 => bad (Or.inr h2)) (fun h2 => ?_)
  refine lv_iconst (v := 1) hx hb dG_11 (by decide) ?_
  refine lv_goto (tgt := 16) hx hb dG_12 rfl ?_
  rw [if_neg (fun z => z.elim h h2)]
  exact W.zret hx hb hr rfl (fun t ht _ => ⟨rfl, ht⟩) (fun q hq => nomatch hq) dG_16 hlocks
set_option maxRecDepth 100000 in
set_option maxHeartbeats 4000000 in
theorem m_E (l : Launch) (base a v : Nat) : Met l jE [cE] { frames := 0, cells := 0, slots := 0, locals := 0 } (Pj base a v [.ref a]) (Qp 0) 0 0 (fun _ => False) := by
  refine Met.ofW (cc := prog_23_method_152_code) (maxL := 1) (ret := some .byte) (by decide) rfl ?_
  intro p e s m args below meth c s₁ B hml hv
  obtain ⟨rfl, hK⟩ := hv
  have hx := B.exec
  have hb := B.bytes
  have hr := B.returns
  have hlocks := B.notSynchronized
  have hts : ∀ w ∈ jws, w.before [.ref a].toArray s = true := fun w hw => hK.1 w hw _
  have hown : s.vm.findClass js = some m.cls := findClass_of_methodNamed B.named
  have hS : va_S (fun q => base ≤ q) s.heap s.heap [] := va_S.rf
  obtain ⟨kO, kC, kV, kT⟩ := hK.2.2.1.1 0 (by decide)
  have hl := lv_entry ([.ref a]) (n := 1) (Nat.le_of_ble_eq_true rfl)
  rw [lg_entry_eq]
  generalize (lg_sl ([.ref a]) ++ List.replicate (1 - (lg_sl ([.ref a])).length) Slot.unset).toArray = ls at hl ⊢
  have hl : lv_has ls 1 [(0, .ref a)] := hl
  refine va_gets (v := .int 1) hx hb hK.2.2.2 hS hown (hts (.fieldLink js 38 js "COMPACT_STRINGS" "Z") (by decide +kernel)) (fun _ h => h) dE_0 ?_
  refine lv_if_eq (tgt := 13) hx hb dE_3 rfl (fun h => absurd h (by decide)) (fun _ => ?_)
  refine lv_aload_n hx hb dE_6 rfl (lv_at hl 0 rfl) ?_
  refine vk_getf (v := .int 0) hx hb kC hS hown (hts (.fieldLink js 15 js "coder" "B") (by decide +kernel)) (fun _ h => h) dE_7 ?_
  refine lv_goto (tgt := 14) hx hb dE_10 rfl ?_
  exact W.zret hx hb hr rfl (fun t ht _ => ⟨rfl, ht⟩) (fun q hq => nomatch hq) dE_14 hlocks
set_option maxRecDepth 100000 in
set_option maxHeartbeats 4000000 in
theorem m_C (l : Launch) (base a v : Nat) : Met l jC [cC] { frames := 0, cells := 0, slots := 0, locals := 0 } (Pj base a v [.ref a]) (Qp 1) 0 0 (fun _ => False) := by
  refine Met.ofW (cc := prog_23_method_154_code) (maxL := 1) (ret := some .boolean) (by decide) rfl ?_
  intro p e s m args below meth c s₁ B hml hv
  obtain ⟨rfl, hK⟩ := hv
  have hx := B.exec
  have hb := B.bytes
  have hr := B.returns
  have hlocks := B.notSynchronized
  have hts : ∀ w ∈ jws, w.before [.ref a].toArray s = true := fun w hw => hK.1 w hw _
  have hown : s.vm.findClass js = some m.cls := findClass_of_methodNamed B.named
  have hS : va_S (fun q => base ≤ q) s.heap s.heap [] := va_S.rf
  obtain ⟨kO, kC, kV, kT⟩ := hK.2.2.1.1 0 (by decide)
  have hl := lv_entry ([.ref a]) (n := 1) (Nat.le_of_ble_eq_true rfl)
  rw [lg_entry_eq]
  generalize (lg_sl ([.ref a]) ++ List.replicate (1 - (lg_sl ([.ref a])).length) Slot.unset).toArray = ls at hl ⊢
  have hl : lv_has ls 1 [(0, .ref a)] := hl
  refine va_gets (v := .int 1) hx hb hK.2.2.2 hS hown (hts (.fieldLink js 38 js "COMPACT_STRINGS" "Z") (by decide +kernel)) (fun _ h => h) dC_0 ?_
  refine lv_if_eq (tgt := 17) hx hb dC_3 rfl (fun h => absurd h (by decide)) (fun _ => ?_)
  refine lv_aload_n hx hb dC_6 rfl (lv_at hl 0 rfl) ?_
  refine vk_getf (v := .int 0) hx hb kC hS hown (hts (.fieldLink js 15 js "coder" "B") (by decide +kernel)) (fun _ h => h) dC_7 ?_
  refine lv_if_ne (tgt := 17) hx hb dC_10 rfl (fun h => absurd rfl h) (fun _ => ?_)
  refine lv_iconst (v := 1) hx hb dC_13 (by decide) ?_
  refine lv_goto (tgt := 18) hx hb dC_14 rfl ?_
  exact W.zret hx hb hr rfl (fun t ht _ => ⟨rfl, ht⟩) (fun q hq => nomatch hq) dC_18 hlocks
set_option maxRecDepth 100000 in
set_option maxHeartbeats 4000000 in
theorem m_D (l : Launch) (base a v : Nat) : Met l jD [cD] { frames := 1, cells := 0, slots := 0, locals := 20 } (Pj base a v [.ref a]) (Qp 7) 0 0 (fun _ => False) := by
  refine Met.ofW (cc := prog_23_method_54_code) (maxL := 1) (ret := some .int) (by decide) rfl ?_
  intro p e s m args below meth c s₁ B hml hv
  obtain ⟨rfl, hK⟩ := hv
  have hx := B.exec
  have hb := B.bytes
  have hr := B.returns
  have hlocks := B.notSynchronized
  have hts : ∀ w ∈ jws, w.before [.ref a].toArray s = true := fun w hw => hK.1 w hw _
  have hown : s.vm.findClass js = some m.cls := findClass_of_methodNamed B.named
  have hS : va_S (fun q => base ≤ q) s.heap s.heap [] := va_S.rf
  obtain ⟨kO, kC, kV, kT⟩ := hK.2.2.1.1 0 (by decide)
  have hl := lv_entry ([.ref a]) (n := 1) (Nat.le_of_ble_eq_true rfl)
  rw [lg_entry_eq]
  generalize (lg_sl ([.ref a]) ++ List.replicate (1 - (lg_sl ([.ref a])).length) Slot.unset).toArray = ls at hl ⊢
  have hl : lv_has ls 1 [(0, .ref a)] := hl
  refine lv_aload_n hx hb dD_0 rfl (lv_at hl 0 rfl) ?_
  refine vk_getf (v := .ref v) hx hb kV hS hown (hts (.fieldLink js 9 js "value" "[B") (by decide +kernel)) (fun _ h => h) dD_1 ?_
  refine va_tlen (v := 7) hx hb kT hS (by decide) dD_4 ?_
  refine lv_aload_n hx hb dD_5 rfl (lv_at hl 0 rfl) ?_
  refine pj_v (n := 0) (as := []) (rest := [.int 7]) hx hb hml hown hK (m_E l base a v) (goodIn_sub (by decide +kernel) (by decide +kernel)) rfl rfl (by decide +kernel) ⟨Nat.le_of_ble_eq_true rfl, Nat.le_of_ble_eq_true rfl⟩ rfl hl.1 rfl (Nat.le_of_ble_eq_true rfl) dD_6 ⟨Nat.le_refl _, Nat.le_refl _⟩ ?_
  refine lv_ishr hx hb dD_9 ?_
  exact W.iret hx hb hr (fun t ht _ => ⟨rfl, ht⟩) (fun q hq => nomatch hq) dD_10 hlocks
/-- the place of c among the letters from k on, or -1 -/
def jix (c : Int32) : Nat → Nat → Int32
  | 0, _ => -1
  | n + 1, k => if jby.getD k 0 = c then nI k else jix c n (k + 1)
set_option maxRecDepth 100000 in
set_option maxHeartbeats 4000000 in
theorem m_H (l : Launch) (base a v : Nat) (x : Int32) : Met l jH [cH] { frames := 0, cells := 0, slots := 0, locals := 0 } (Pj base a v [.ref v, .int x, .int 0, .int 7]) (Qp (jix x.toInt8.toInt32 7 0)) 0 0 (fun _ => False) := by
  refine Met.ofW (cc := prog_24_method_23_code) (maxL := 6) (ret := some .int) (by decide) rfl ?_
  intro p e s m args below meth c s₁ B hml hv
  obtain ⟨rfl, hK⟩ := hv
  have hx := B.exec
  have hb := B.bytes
  have hr := B.returns
  have hlocks := B.notSynchronized
  have hts : ∀ w ∈ jws, w.before [.ref v, .int x, .int 0, .int 7].toArray s = true := fun w hw => hK.1 w hw _
  have hown : s.vm.findClass jl = some m.cls := findClass_of_methodNamed B.named
  have hS : va_S (fun q => base ≤ q) s.heap s.heap [] := va_S.rf
  obtain ⟨kO, kC, kV, kT⟩ := hK.2.2.1.1 0 (by decide)
  have hl := lv_entry ([.ref v, .int x, .int 0, .int 7]) (n := 6) (Nat.le_of_ble_eq_true rfl)
  rw [lg_entry_eq]
  generalize (lg_sl ([.ref v, .int x, .int 0, .int 7]) ++ List.replicate (6 - (lg_sl ([.ref v, .int x, .int 0, .int 7])).length) Slot.unset).toArray = ls at hl ⊢
  have hl : lv_has ls 6 [(0, .ref v), (1, .int x), (2, .int 0), (3, .int 7)] := hl
  refine lv_iload_n hx hb dH_0 rfl (lv_at hl 1 rfl) ?_
  refine lv_i2b (v := x.toInt8.toInt32) hx hb dH_1 rfl ?_
  refine lv_istore (lv' := [(4, .int x.toInt8.toInt32), (0, .ref v), (1, .int x), (2, .int 0), (3, .int 7)]) hx hb dH_2 hl (by decide) rfl (fun ls hl => ?_)
  refine lv_iload_n hx hb dH_4 rfl (lv_at hl 3 rfl) ?_
  refine lv_istore (lv' := [(5, .int 0), (4, .int x.toInt8.toInt32), (0, .ref v), (1, .int x), (2, .int 0), (3, .int 7)]) hx hb dH_5 hl (by decide) rfl (fun ls hl => ?_)
  have loop : ∀ (n k : Nat) (ls : Array Slot), n + k = 7 → jix x.toInt8.toInt32 7 0 = jix x.toInt8.toInt32 n k → lv_has ls 6 [(5, .int (nI k)), (4, .int x.toInt8.toInt32), (0, .ref v), (1, .int x), (2, .int 0), (3, .int 7)] →
      W p l e (headSpec [cH] { frames := 0, cells := 0, slots := 0, locals := 0 }).room s m [Value.ref v, .int x, .int 0, .int 7].toArray below meth c s.heap [] 0 0 (MQ below (Qp (jix x.toInt8.toInt32 7 0)) [Value.ref v, .int x, .int 0, .int 7].toArray s 0 0 (fun _ => False)) (F0 m 7 ls []) := by
    intro n
    induction n with
    | zero =>
      intro k ls hk he hl
      have e7 : k = 7 := by omega
      subst e7
      refine lv_iload hx hb dH_7 (lv_at hl 0 rfl) ?_
      refine lv_iload_n hx hb dH_9 rfl (lv_at hl 5 rfl) ?_
      refine lv_icmp_ge (tgt := 31) hx hb dH_10 rfl (fun _ => ?_) (fun h => absurd (show (7 : Int32) ≤ nI 7 by decide) h)
      refine lv_iconst (v := -1) hx hb dH_31 (by decide) ?_
      rw [he]
      exact W.iret hx hb hr (fun t ht _ => ⟨rfl, ht⟩) (fun q hq => nomatch hq) dH_32 hlocks
    | succ n ih =>
      intro k ls hk he hl
      refine lv_iload hx hb dH_7 (lv_at hl 0 rfl) ?_
      refine lv_iload_n hx hb dH_9 rfl (lv_at hl 5 rfl) ?_
      refine lv_icmp_ge (tgt := 31) hx hb dH_10 rfl (fun h => absurd h (nI_ge (b := 7) (by omega) (by decide))) (fun _ => ?_)
      refine lv_aload_n hx hb dH_13 rfl (lv_at hl 2 rfl) ?_
      refine lv_iload hx hb dH_14 (lv_at hl 0 rfl) ?_
      refine va_tb (v := .int (jby.getD k 0)) hx hb kT hS (i := nI k) (vp_in_nI (show k < 7 by omega) (by decide)) (by rw [nI_clamp (by omega)]; rfl) dH_16 ?_
      refine lv_iload hx hb dH_17 (lv_at hl 1 rfl) ?_
      rw [show jix x.toInt8.toInt32 (n + 1) k = if jby.getD k 0 = x.toInt8.toInt32 then nI k else jix x.toInt8.toInt32 n (k + 1) from rfl] at he
      refine lv_icmp_ne (tgt := 25) hx hb dH_19 rfl (fun h => ?_) (fun h => ?_)
      · rw [if_neg h] at he
        refine lv_iinc (k := 0) (v := nI (k + 1)) (lv' := [(5, .int (nI (k + 1))), (4, .int x.toInt8.toInt32), (0, .ref v), (1, .int x), (2, .int 0), (3, .int 7)]) hx hb dH_25 hl rfl (nI_1 k) (by decide) rfl (fun ls hl => ?_)
        refine lv_goto (tgt := 7) hx hb dH_28 rfl ?_
        exact ih (k + 1) ls (by omega) he hl
      · rw [if_pos h] at he
        refine lv_iload hx hb dH_22 (lv_at hl 0 rfl) ?_
        rw [he]
        exact W.iret hx hb hr (fun t ht _ => ⟨rfl, ht⟩) (fun q hq => nomatch hq) dH_24 hlocks
  exact loop 7 0 ls rfl rfl hl
set_option maxRecDepth 100000 in
set_option maxHeartbeats 4000000 in
theorem m_F (l : Launch) (base a v : Nat) (x : Int32) : Met l jF [cF] { frames := 1, cells := 0, slots := 0, locals := 40 } (Pj base a v [.ref v, .int x, .int 0, .int 7]) (Qp (if x < 0 ∨ 255 < x then -1 else jix x.toInt8.toInt32 7 0)) 0 0 (fun _ => False) := by
  refine Met.ofW (cc := prog_24_method_22_code) (maxL := 4) (ret := some .int) (by decide) rfl ?_
  intro p e s m args below meth c s₁ B hml hv
  obtain ⟨rfl, hK⟩ := hv
  have hx := B.exec
  have hb := B.bytes
  have hr := B.returns
  have hlocks := B.notSynchronized
  have hts : ∀ w ∈ jws, w.before [.ref v, .int x, .int 0, .int 7].toArray s = true := fun w hw => hK.1 w hw _
  have hown : s.vm.findClass jl = some m.cls := findClass_of_methodNamed B.named
  have hS : va_S (fun q => base ≤ q) s.heap s.heap [] := va_S.rf
  obtain ⟨kO, kC, kV, kT⟩ := hK.2.2.1.1 0 (by decide)
  have hl := lv_entry ([.ref v, .int x, .int 0, .int 7]) (n := 4) (Nat.le_of_ble_eq_true rfl)
  rw [lg_entry_eq]
  generalize (lg_sl ([.ref v, .int x, .int 0, .int 7]) ++ List.replicate (4 - (lg_sl ([.ref v, .int x, .int 0, .int 7])).length) Slot.unset).toArray = ls at hl ⊢
  have hl : lv_has ls 4 [(0, .ref v), (1, .int x), (2, .int 0), (3, .int 7)] := hl
  refine lv_iload_n hx hb dF_0 rfl (lv_at hl 1 rfl) ?_
  refine pj_s (n := 1) (as := [.int x]) (rest := []) hx hb hml hown hK (m_G l base a v x) (goodIn_sub (by decide +kernel) (by decide +kernel)) rfl rfl (by decide +kernel) ⟨Nat.le_of_ble_eq_true rfl, Nat.le_of_ble_eq_true rfl⟩ rfl hl.1 rfl (Nat.le_of_ble_eq_true rfl) dF_1 ⟨Nat.le_refl _, Nat.le_refl _⟩ ?_
  by_cases hbad : x < 0 ∨ 255 < x
  · rw [if_pos hbad, if_pos hbad]
    refine lv_if_ne (tgt := 9) hx hb dF_4 rfl (fun h => absurd rfl h) (fun _ => ?_)
    refine lv_iconst (v := -1) hx hb dF_7 (by decide) ?_
    exact W.iret hx hb hr (fun t ht _ => ⟨rfl, ht⟩) (fun q hq => nomatch hq) dF_8 hlocks
  · rw [if_neg hbad, if_neg hbad]
    refine lv_if_ne (tgt := 9) hx hb dF_4 rfl (fun _ => ?_) (fun h => absurd h (by decide))
    refine lv_iload_n hx hb dF_9 rfl (lv_at hl 2 rfl) ?_
    refine lv_iconst (v := 0) hx hb dF_10 (by decide) ?_
    refine va_mmax hx hb (by rw [hml]; exact hl.1.symm) hown (hts (.methodLink jl 92 Lib.Math.max.name) (by decide +kernel)) (hts (.static Lib.Math.max.name) (by decide +kernel)) (hts (.initialized "java/lang/Math") (by decide +kernel)) (hts (.code Lib.Math.max.name Lib.Math.max.code 2 (some .int)) (by decide +kernel)) (Nat.le_of_ble_eq_true rfl) (Nat.le_of_ble_eq_true rfl) (Nat.le_refl _) (Nat.le_refl _) dF_11 ?_
    rw [show (if (0 : Int32) < 0 then (0 : Int32) else 0) = 0 from rfl]
    refine lv_istore_n (lv' := [(2, .int 0), (0, .ref v), (1, .int x), (3, .int 7)]) hx hb dF_14 rfl hl (by decide) rfl (fun ls hl => ?_)
    refine lv_iload_n hx hb dF_15 rfl (lv_at hl 3 rfl) ?_
    refine lv_aload_n hx hb dF_16 rfl (lv_at hl 1 rfl) ?_
    refine va_tlen (v := 7) hx hb kT hS (by decide) dF_17 ?_
    refine va_mmin hx hb (by rw [hml]; exact hl.1.symm) hown (hts (.methodLink jl 38 Lib.Math.min.name) (by decide +kernel)) (hts (.static Lib.Math.min.name) (by decide +kernel)) (hts (.initialized "java/lang/Math") (by decide +kernel)) (hts (.code Lib.Math.min.name Lib.Math.min.code 2 (some .int)) (by decide +kernel)) (Nat.le_of_ble_eq_true rfl) (Nat.le_of_ble_eq_true rfl) (Nat.le_refl _) (Nat.le_refl _) dF_18 ?_
    rw [show (if (7 : Int32) < 7 then (7 : Int32) else 7) = 7 from rfl]
    refine lv_istore_n (lv' := [(3, .int 7), (2, .int 0), (0, .ref v), (1, .int x)]) hx hb dF_21 rfl hl (by decide) rfl (fun ls hl => ?_)
    refine lv_iload_n hx hb dF_22 rfl (lv_at hl 1 rfl) ?_
    refine lv_iload_n hx hb dF_23 rfl (lv_at hl 0 rfl) ?_
    refine lv_icmp_lt (tgt := 29) hx hb dF_24 rfl (fun _ => ?_) (fun h => absurd (show (0 : Int32) < 7 by decide) h)
    refine lv_aload_n hx hb dF_29 rfl (lv_at hl 2 rfl) ?_
    refine lv_iload_n hx hb dF_30 rfl (lv_at hl 3 rfl) ?_
    refine lv_iload_n hx hb dF_31 rfl (lv_at hl 1 rfl) ?_
    refine lv_iload_n hx hb dF_32 rfl (lv_at hl 0 rfl) ?_
    refine pj_s (n := 4) (as := [.ref v, .int x, .int 0, .int 7]) (rest := []) hx hb hml hown hK (m_H l base a v x) (goodIn_sub (by decide +kernel) (by decide +kernel)) rfl rfl (by decide +kernel) ⟨Nat.le_of_ble_eq_true rfl, Nat.le_of_ble_eq_true rfl⟩ rfl hl.1 rfl (Nat.le_of_ble_eq_true rfl) dF_33 ⟨Nat.le_refl _, Nat.le_refl _⟩ ?_
    exact W.iret hx hb hr (fun t ht _ => ⟨rfl, ht⟩) (fun q hq => nomatch hq) dF_36 hlocks
set_option maxRecDepth 100000 in
set_option maxHeartbeats 4000000 in
theorem m_B (l : Launch) (base a v : Nat) (x : Int32) : Met l jB [cB] { frames := 2, cells := 0, slots := 0, locals := 80 } (Pj base a v [.ref a, .int x, .int 0]) (Qp (if x < 0 ∨ 255 < x then -1 else jix x.toInt8.toInt32 7 0)) 0 0 (fun _ => False) := by
  refine Met.ofW (cc := prog_23_method_80_code) (maxL := 3) (ret := some .int) (by decide) rfl ?_
  intro p e s m args below meth c s₁ B hml hv
  obtain ⟨rfl, hK⟩ := hv
  have hx := B.exec
  have hb := B.bytes
  have hr := B.returns
  have hlocks := B.notSynchronized
  have hts : ∀ w ∈ jws, w.before [.ref a, .int x, .int 0].toArray s = true := fun w hw => hK.1 w hw _
  have hown : s.vm.findClass js = some m.cls := findClass_of_methodNamed B.named
  have hS : va_S (fun q => base ≤ q) s.heap s.heap [] := va_S.rf
  obtain ⟨kO, kC, kV, kT⟩ := hK.2.2.1.1 0 (by decide)
  have hl := lv_entry ([.ref a, .int x, .int 0]) (n := 3) (Nat.le_of_ble_eq_true rfl)
  rw [lg_entry_eq]
  generalize (lg_sl ([.ref a, .int x, .int 0]) ++ List.replicate (3 - (lg_sl ([.ref a, .int x, .int 0])).length) Slot.unset).toArray = ls at hl ⊢
  have hl : lv_has ls 3 [(0, .ref a), (1, .int x), (2, .int 0)] := hl
  refine lv_aload_n hx hb dB_0 rfl (lv_at hl 0 rfl) ?_
  refine pj_v (n := 0) (as := []) (rest := []) hx hb hml hown hK (m_C l base a v) (goodIn_sub (by decide +kernel) (by decide +kernel)) rfl rfl (by decide +kernel) ⟨Nat.le_of_ble_eq_true rfl, Nat.le_of_ble_eq_true rfl⟩ rfl hl.1 rfl (Nat.le_of_ble_eq_true rfl) dB_1 ⟨Nat.le_refl _, Nat.le_refl _⟩ ?_
  refine lv_if_eq (tgt := 23) hx hb dB_4 rfl (fun h => absurd h (by decide)) (fun _ => ?_)
  refine lv_aload_n hx hb dB_7 rfl (lv_at hl 0 rfl) ?_
  refine vk_getf (v := .ref v) hx hb kV hS hown (hts (.fieldLink js 9 js "value" "[B") (by decide +kernel)) (fun _ h => h) dB_8 ?_
  refine lv_iload_n hx hb dB_11 rfl (lv_at hl 1 rfl) ?_
  refine lv_iload_n hx hb dB_12 rfl (lv_at hl 2 rfl) ?_
  refine lv_aload_n hx hb dB_13 rfl (lv_at hl 0 rfl) ?_
  refine pj_v (n := 0) (as := []) (rest := [.int 0, .int x, .ref v]) hx hb hml hown hK (m_D l base a v) (goodIn_sub (by decide +kernel) (by decide +kernel)) rfl rfl (by decide +kernel) ⟨Nat.le_of_ble_eq_true rfl, Nat.le_of_ble_eq_true rfl⟩ rfl hl.1 rfl (Nat.le_of_ble_eq_true rfl) dB_14 ⟨Nat.le_refl _, Nat.le_refl _⟩ ?_
  refine pj_s (n := 4) (as := [.ref v, .int x, .int 0, .int 7]) (rest := []) hx hb hml hown hK (m_F l base a v x) (goodIn_sub (by decide +kernel) (by decide +kernel)) rfl rfl (by decide +kernel) ⟨Nat.le_of_ble_eq_true rfl, Nat.le_of_ble_eq_true rfl⟩ rfl hl.1 rfl (Nat.le_of_ble_eq_true rfl) dB_17 ⟨Nat.le_refl _, Nat.le_refl _⟩ ?_
  refine lv_goto (tgt := 36) hx hb dB_20 rfl ?_
  exact W.iret hx hb hr (fun t ht _ => ⟨rfl, ht⟩) (fun q hq => nomatch hq) dB_36 hlocks
set_option maxRecDepth 100000 in
set_option maxHeartbeats 4000000 in
theorem m_A (l : Launch) (base a v : Nat) (x : Int32) : Met l jA [cA] { frames := 3, cells := 0, slots := 0, locals := 120 } (Pj base a v [.ref a, .int x]) (Qp (if x < 0 ∨ 255 < x then -1 else jix x.toInt8.toInt32 7 0)) 0 0 (fun _ => False) := by
  refine Met.ofW (cc := prog_23_method_79_code) (maxL := 2) (ret := some .int) (by decide) rfl ?_
  intro p e s m args below meth c s₁ B hml hv
  obtain ⟨rfl, hK⟩ := hv
  have hx := B.exec
  have hb := B.bytes
  have hr := B.returns
  have hlocks := B.notSynchronized
  have hts : ∀ w ∈ jws, w.before [.ref a, .int x].toArray s = true := fun w hw => hK.1 w hw _
  have hown : s.vm.findClass js = some m.cls := findClass_of_methodNamed B.named
  have hS : va_S (fun q => base ≤ q) s.heap s.heap [] := va_S.rf
  obtain ⟨kO, kC, kV, kT⟩ := hK.2.2.1.1 0 (by decide)
  have hl := lv_entry ([.ref a, .int x]) (n := 2) (Nat.le_of_ble_eq_true rfl)
  rw [lg_entry_eq]
  generalize (lg_sl ([.ref a, .int x]) ++ List.replicate (2 - (lg_sl ([.ref a, .int x])).length) Slot.unset).toArray = ls at hl ⊢
  have hl : lv_has ls 2 [(0, .ref a), (1, .int x)] := hl
  refine lv_aload_n hx hb dA_0 rfl (lv_at hl 0 rfl) ?_
  refine lv_iload_n hx hb dA_1 rfl (lv_at hl 1 rfl) ?_
  refine lv_iconst (v := 0) hx hb dA_2 (by decide) ?_
  refine pj_v (n := 2) (as := [.int x, .int 0]) (rest := []) hx hb hml hown hK (m_B l base a v x) (goodIn_sub (by decide +kernel) (by decide +kernel)) rfl rfl (by decide +kernel) ⟨Nat.le_of_ble_eq_true rfl, Nat.le_of_ble_eq_true rfl⟩ rfl hl.1 rfl (Nat.le_of_ble_eq_true rfl) dA_3 ⟨Nat.le_refl _, Nat.le_refl _⟩ ?_
  exact W.iret hx hb hr (fun t ht _ => ⟨rfl, ht⟩) (fun q hq => nomatch hq) dA_6 hlocks
