section SIM2
variable {p : Program} {l : Launch} {e : Env} {R : Room} {s : State} {m : MethodId} {args : Array Value} {below : List Frame} {meth : Method} {c : Code} {H : Heap} {locs : List Loc} {cells slots : Nat} {Q : State → Prop}
variable {cc : ByteArray} {pc : Nat} {ls : Array Slot} {base b L : Nat} {xs : Nat → Int32} {D : va_G} {ac : Nat → ClassId}
theorem swt_sel (x : Int32) (pc : Int) : ∀ (offs : List Int) (lo : Int) (l : List (Prop × Nat)) (t : Nat), swt x pc lo offs = some l →
    (∃ (j : Nat) (off : Int) (tgt : Nat), offs[j]? = some off ∧ x.toInt = lo + j ∧ pc + off = (tgt : Int) ∧ sel l t = tgt) ∨ ((∀ j : Nat, j < offs.length → x.toInt ≠ lo + j) ∧ sel l t = t)
  | [], lo, l, t, h => by cases h; exact Or.inr ⟨fun j hj => by simp at hj, rfl⟩
  | off :: r, lo, l, t, h => by
    unfold swt at h
    split at h
    · rename_i tg l0 e1 e2
      cases h
      by_cases hx : x.toInt = lo
      · exact Or.inl ⟨0, off, tg, rfl, by omega, e1, by unfold sel; rw [if_pos hx]⟩
      · rcases swt_sel x pc r (lo + 1) l0 t e2 with ⟨j, o2, t2, h1, h2, h3, h4⟩ | ⟨h1, h2⟩
        · exact Or.inl ⟨j + 1, o2, t2, h1, by rw [h2]; push_cast; omega, h3, by unfold sel; rw [if_neg hx]; exact h4⟩
        · refine Or.inr ⟨fun j hj => ?_, by unfold sel; rw [if_neg hx]; exact h2⟩
          cases j with
          | zero => intro q; exact hx (by omega)
          | succ j => intro q; exact h1 j (by simpa using hj) (by rw [q]; push_cast; omega)
    · cases h
theorem swl_sel (x : Int32) (pc d : Int) : ∀ (ps : List (Int × Int)) (l : List (Prop × Nat)) (t : Nat), pc + d = (t : Int) → swl x pc ps = some l → pc + Op.lookupswitch.offset ps d x.toInt = (sel l t : Int)
  | [], l, t, hd, h => by cases h; exact hd
  | (k, off) :: r, l, t, hd, h => by
    unfold swl at h
    split at h
    · rename_i tg l0 e1 e2
      cases h
      rw [Op.lookupswitch.offset_cons]
      unfold sel
      by_cases hx : x.toInt = k
      · rw [if_pos hx, if_pos hx.symm]; exact e1
      · rw [if_neg hx, if_neg (fun q => hx q.symm)]
        exact swl_sel x pc d r l0 t hd e2
    · cases h
set_option maxRecDepth 100000 in
theorem tyF_ok : ∀ c, c < 13 → ∀ j, j < ncl c → (match tyF c j with
    | .int => true
    | .boolean => true
    | .array _ => true
    | .object _ => true
    | _ => false) = true := by decide +kernel
theorem ab_copy (hx : p.tables.exec = Jvm.exec) (hb : c.code = cc) (hml : c.maxLocals = ls.size) {own : String} {index : Nat} (hown : s.vm.findClass own = some m.cls) (hlink : (Cond.methodLink own index arraycopyName).before args s = true) (hnat : (Cond.native arraycopyName).before args s = true) (hstat : (Cond.static arraycopyName).before args s = true) (hini : (Cond.initialized "java/lang/System").before args s = true)
    (K1 : va_K D vwCl (tys7 ac) s) {a0 a n0 n1 : Nat} {f g : Nat → Int32} (hc0 : H[a0]? = some (vp_cell (ac 20) (n0, .inl f))) (hc1 : H[a]? = some (vp_cell (ac 20) (n1, .inl g)))
    {sp dp n : Int32} (h1 : ¬ sp < 0) (h2 : ¬ dp < 0) (h3 : ¬ n < 0) (h4 : sp.toNatClampNeg + n.toNatClampNeg ≤ n0) (h5 : dp.toNatClampNeg + n.toNatClampNeg ≤ n1)
    (hframes : 1 ≤ R.frames) (hlocals : 400 ≤ R.locals) (hdg : decode cc pc = .ok (.invokestatic index, 3))
    (kk : ∀ (H1 : Heap) (locs1 : List Loc), H1[a]? = some (vp_cell (ac 20) (n1, .inl (va_cpy f g sp.toNatClampNeg dp.toNatClampNeg n.toNatClampNeg))) → H1.size = H.size → (∀ q : Nat, q ≠ a → H1[q]? = H[q]?) → (∀ z ∈ locs1, z ∈ locs ∨ z.base = a) → W p l e R s m args below meth c H1 locs1 cells slots Q (F0 m (pc + 3) ls [])) :
    W p l e R s m args below meth c H locs cells slots Q (F0 m pc ls [.int n, .int dp, .ref a, .int sp, .ref a0]) := by
  have nn9 : ∀ z : Int32, ¬ z < 0 → z.toInt = (z.toNatClampNeg : Int) := by
    intro z hz
    have hz0 : (0 : Int) ≤ z.toInt := by
      have := Int32.not_lt.mp hz
      simpa using Int32.le_iff_toInt_le.mp this
    show z.toInt = ((z.toInt.toNat : Nat) : Int)
    omega
  intro T hT X
  obtain ⟨-, k0, hk0, cm0, hkk0⟩ := (K1.2 0 _ rfl).1 n0 (fun j => .int (f j))
  obtain ⟨-, k1, hk1, cm1, hkk1⟩ := (K1.2 0 _ rfl).1 n1 (fun j => .int (g j))
  obtain ⟨vm', X', step⟩ := X.arraycopy hx hown hlink hnat hstat hini (src := a0) (dst := a) (cs := vp_cell (ac 20) (n0, .inl f)) (cd := vp_cell (ac 20) (n1, .inl g)) (srcPos := sp) (destPos := dp) (n := n) (by rw [hT]; exact hc0) (by rw [hT]; exact hc1)
    (fun _ h => by cases h) (fun _ h => by cases h) (fun h => by cases h) (fun h => by cases h) hk0 hk1 hkk0 hkk1 (by simp [show refKind FieldType.int = false from rfl]) h1 h2 h3
    (by rw [nn9 sp h1, nn9 n h3]; show ¬ _ > ((arrV (ac 20) n0 (fun j => .int (f j))).slots.size : Int); rw [arrV_size]; omega)
    (by rw [nn9 dp h2, nn9 n h3]; show ¬ _ > ((arrV (ac 20) n1 (fun j => .int (g j))).slots.size : Int); rw [arrV_size]; omega)
    (fun vm₁ _ i hi => by
      have e : (vp_cell (ac 20) (n0, .inl f)).slots.getD (sp.toNatClampNeg + i) .null = .int (f (sp.toNatClampNeg + i)) := by
        show (arrV (ac 20) n0 (fun j => .int (f j))).slots.getD _ _ = _
        rw [Array.getD_eq_getD_getElem?, arrV_read _ _ (by omega)]
        rfl
      refine ⟨?_, ?_⟩
      · rw [e]; rfl
      · rw [e]; exact trivial)
    (g := F0 m pc ls [.int n, .int dp, .ref a, .int sp, .ref a0]) rfl (by rw [hml]) (rest := []) rfl (by rw [hb]; exact hdg) hframes (by show 2 * 0 + _ + _ ≤ _; exact Nat.le_trans (by decide +kernel) hlocals)
  have e1 : copied (vp_cell (ac 20) (n0, .inl f)) (vp_cell (ac 20) (n1, .inl g)) sp dp n = vp_cell (ac 20) (n1, .inl (va_cpy f g sp.toNatClampNeg dp.toNatClampNeg n.toNatClampNeg)) := va_copied (fun z => .int z) (ac 20) (ac 20) f g h4
  rw [e1] at X' step
  have hl : a < H.size := (Array.getElem?_eq_some_iff.mp hc1).1
  have hheap : ((T.setVm vm').setCell a (vp_cell (ac 20) (n1, .inl (va_cpy f g sp.toNatClampNeg dp.toNatClampNeg n.toNatClampNeg)))).heap = H.setIfInBounds a (vp_cell (ac 20) (n1, .inl (va_cpy f g sp.toNatClampNeg dp.toNatClampNeg n.toNatClampNeg))) := by rw [← hT]; rfl
  obtain ⟨t, a1, b1⟩ := kk _ _ (show (H.setIfInBounds a _)[a]? = some _ by simp [Array.getElem?_setIfInBounds, hl]) (by simp) (fun q hq => by simp [Array.getElem?_setIfInBounds, Ne.symm hq]) (fun q hq => by
      rcases List.mem_append.mp hq with h | h
      · exact Or.inl h
      · obtain ⟨z, -, hz⟩ := List.mem_map.mp h
        rw [← hz]
        exact Or.inr rfl) _ hheap X'
  exact ⟨t, step t a1, b1⟩
def nwz (k : Nat) : (Nat → Int32) ⊕ (Nat → Int64) ⊕ (Nat → UInt32) ⊕ (Nat → UInt64) ⊕ (Nat → Option Nat) := if k = 23 then .inr (.inl (fun _ => 0)) else .inl (fun _ => 0)
theorem cat_rf (o : Option Nat) : (va_rf o).category = 1 := by cases o <;> rfl
theorem rl_map_int (x : Int32) (r : List Value) : (Value.int x :: r).map (rl base b) = .int x :: r.map (rl base b) := rfl
theorem cat_is2' (w : Value) : (rl base b w).category = cond (is2 w) 2 1 := by
  cases w with
  | ref r => exact cat_rf _
  | _ => rfl
theorem cat_sum (r : List Value) : ((r.map (rl base b)).map fun v => v.category).sum = (r.map fun v => cond (is2 v) 2 1).sum := by
  induction r with
  | nil => rfl
  | cons v r ih => simp only [List.map_cons, List.sum_cons, ih, cat_is2']
def lkoM (q : Nat × LE) : Bool := match q with
  | (_, 1, y, _, n) => !(Nat.beq y 1920 || Nat.beq y 1921 || Nat.beq y 1922) || Nat.beq n 0
  | _ => true
set_option maxRecDepth 100000 in
theorem lks_okM : lks.all (fun l => l.all lkoM) = true := by decide +kernel
theorem lk_math {own idx y z n9 : Nat} (h : lk own idx = some (1, y, z, n9)) (hy : (Nat.beq y 1920 || Nat.beq y 1921 || Nat.beq y 1922) = true) : n9 = 0 := by
  have h1 : lkoM (idx, 1, y, z, n9) = true := by
    unfold lk at h
    cases hn : nth lks own with
    | none => rw [hn] at h; cases h
    | some l0 =>
      rw [hn] at h
      exact List.all_eq_true.mp (List.all_eq_true.mp lks_okM _ (nth_mem hn)) _ (fnd_mem h)
  unfold lkoM at h1
  simp only [hy, Bool.not_true, Bool.false_or] at h1
  exact Nat.eq_of_beq_eq_true h1
set_option maxHeartbeats 4000000 in
theorem sim2 {own nL : Nat} (S : CallFix p m c cc nL s args big (rcl own)) (K : KXs D ac s) {i : Instr} (hd : dec cc pc i = true) {ini : Bool} (hini : ini = true → meth.name = "<init>") {st st' : List Value} {M M' : AM} {ck : Option Prop} {br : List (Prop × Nat)} {p' : Nat}
    (h : isem2 own ini i pc st M = some (ck, br, p', st', M')) (hck : ckp ck) (hW : WdH base b L xs D ac M H) (hO : ∀ q, q < base → H[q]? = s.heap[q]?) (hlo : ∀ q ∈ locs, base ≤ q.base)
    (hXs : own = 13 → va_X b L xs s s.heap ∧ b < base) (hls : ls.size = c.maxLocals) (hR : 1 ≤ R.frames ∧ 400 ≤ R.locals) (hcl : cells + (nn M' - nn M) ≤ R.cells) (hsl : slots + (us M' - us M) ≤ R.slots)
    (k : ∀ (H' : Heap) (locs' : List Loc), WdH base b L xs D ac M' H' → (∀ q, q < base → H'[q]? = s.heap[q]?) → (∀ q ∈ locs', base ≤ q.base) → W p l e R s m args below meth c H' locs' (cells + (nn M' - nn M)) (slots + (us M' - us M)) Q (F0 m (sel br p') ls (st'.map (rl base b)))) :
    W p l e R s m args below meth c H locs cells slots Q (F0 m pc ls (st.map (rl base b))) := by
  have hx := S.1
  have hb := S.2.1
  have hown := S.2.2.2.1
  have hts := S.2.2.2.2
  have kS : M' = M → W p l e R s m args below meth c H locs cells slots Q (F0 m (sel br p') ls (st'.map (rl base b))) := by
    intro e; subst e
    have k1 := k H locs hW hO hlo
    simp only [Nat.sub_self, Nat.add_zero] at k1
    exact k1
  have stO : ∀ {H' : Heap} {r : Nat}, (∀ q : Nat, q ≠ base + r → H'[q]? = H[q]?) → ∀ q, q < base → H'[q]? = s.heap[q]? := fun oq q hq => (oq q (by omega)).trans (hO q hq)
  unfold isem2 at h
  split at h
  · cases (o0_some h)
    exact lv_iconst hx hb (dec_ok hd rfl) rfl (kS rfl)
  · obtain ⟨n9, h1, h2, h3⟩ := dec_at hd
    cases (o0_some h)
    exact lv_bipush hx hb (dec_ok hd rfl) (of_decide_eq_true h3) (kS rfl)
  · obtain ⟨n9, h1, h2, h3⟩ := dec_at hd
    cases (o0_some h)
    exact lv_sipush hx hb (dec_ok hd rfl) (of_decide_eq_true h3) (kS rfl)
  · cases (o0_some h)
    exact lv_lconst hx hb (dec_ok hd rfl) rfl (kS rfl)
  · cases (o0_some h)
    exact lv_null hx hb (dec_ok hd rfl)  (kS rfl)
  · split at h
    · rename_i hl
      cases (o0_some h)
      exact lv_ldc hx hb hown (hts _ (big_mem_l hl _ (by simp [lwd]))) (dec_ok hd rfl) (kS rfl)
    · cases h
  · split at h
    · rename_i hl
      cases (o0_some h)
      exact lv_ldcw hx hb hown (hts _ (big_mem_l hl _ (by simp [lwd]))) (dec_ok hd rfl) (kS rfl)
    · cases h
  · obtain ⟨x, y, r, rfl, h⟩ := p2_some h
    cases (o0_some h)
    exact lv_iadd hx hb (dec_ok hd rfl) (kS rfl)
  · obtain ⟨x, y, r, rfl, h⟩ := p2_some h
    cases (o0_some h)
    exact lv_isub hx hb (dec_ok hd rfl) (kS rfl)
  · obtain ⟨x, y, r, rfl, h⟩ := p2_some h
    cases (o0_some h)
    exact lv_imul hx hb (dec_ok hd rfl) (kS rfl)
  · obtain ⟨x, y, r, rfl, h⟩ := p2_some h
    cases (o0_some h)
    exact lv_iand hx hb (dec_ok hd rfl) (kS rfl)
  · obtain ⟨x, y, r, rfl, h⟩ := p2_some h
    cases (o0_some h)
    exact lv_ior hx hb (dec_ok hd rfl) (kS rfl)
  · obtain ⟨x, y, r, rfl, h⟩ := p2_some h
    cases (oC_some h)
    exact lv_idiv hx hb (dec_ok hd rfl) hck (kS rfl)
  · obtain ⟨x, y, r, rfl, h⟩ := p2_some h
    cases (oC_some h)
    exact lv_irem hx hb (dec_ok hd rfl) hck (kS rfl)
  · obtain ⟨x, r, rfl, h⟩ := p1_some h
    cases (o0_some h)
    exact lv_ineg hx hb (dec_ok hd rfl)  (kS rfl)
  · obtain ⟨x, y, r, rfl, h⟩ := p2_some h
    cases (o0_some h)
    exact lv_ishl hx hb (dec_ok hd rfl) (kS rfl)
  · obtain ⟨x, y, r, rfl, h⟩ := p2_some h
    cases (o0_some h)
    exact lv_ishr hx hb (dec_ok hd rfl) (kS rfl)
  · obtain ⟨x, y, r, rfl, h⟩ := p2_some h
    cases (o0_some h)
    exact lv_iushr hx hb (dec_ok hd rfl) rfl (kS rfl)
  · obtain ⟨x, r, rfl, h⟩ := p1_some h
    cases (o0_some h)
    exact lv_i2l hx hb (dec_ok hd rfl) rfl (kS rfl)
  · obtain ⟨x, r, rfl, h⟩ := p1_some h
    cases (o0_some h)
    exact lv_i2b hx hb (dec_ok hd rfl) rfl (kS rfl)
  · obtain ⟨x, r, rfl, h⟩ := p1_some h
    cases (o0_some h)
    exact lv_i2s hx hb (dec_ok hd rfl) rfl (kS rfl)
  · obtain ⟨x, r, rfl, h⟩ := p1_some h
    cases (o0_some h)
    exact lv_i2c hx hb (dec_ok hd rfl) rfl (kS rfl)
  · obtain ⟨x, y, r, rfl, h⟩ := q2_some h
    cases (o0_some h)
    exact lv_ladd hx hb (dec_ok hd rfl) (kS rfl)
  · obtain ⟨x, y, r, rfl, h⟩ := q2_some h
    cases (o0_some h)
    exact lv_lmul hx hb (dec_ok hd rfl) (kS rfl)
  · obtain ⟨x, y, r, rfl, h⟩ := q2_some h
    cases (oC_some h)
    exact lv_ldiv hx hb (dec_ok hd rfl) hck (kS rfl)
  · obtain ⟨x, y, r, rfl, h⟩ := q2_some h
    cases (oC_some h)
    exact lv_lrem hx hb (dec_ok hd rfl) hck (kS rfl)
  · obtain ⟨x, y, r, rfl, h⟩ := q2_some h
    cases (o0_some h)
    exact W.lcmp hx hb (dec_ok hd rfl) (kS rfl)
  · split at h
    · cases (o0_some h)
      exact lv_dup hx hb (dec_ok hd rfl) rfl (kS rfl)
    · cases (o0_some h)
      exact lv_dup hx hb (dec_ok hd rfl) (cat_rf _) (kS rfl)
    · cases h
  · split at h
    · cases (o0_some h)
      exact lv_dup_x1 hx hb (dec_ok hd rfl) rfl (cat_rf _) (kS rfl)
    · cases h
  · obtain ⟨a, x, r, rfl, h⟩ := ri_some h
    cases (o0_some h)
    exact lv_dup2_11 hx hb (dec_ok hd rfl) rfl (cat_rf _) (kS rfl)
  · split at h
    · cases (o0_some h)
      exact lv_pop hx hb (dec_ok hd rfl) rfl (kS rfl)
    · cases (o0_some h)
      exact lv_pop hx hb (dec_ok hd rfl) (cat_rf _) (kS rfl)
    · cases h
  · obtain ⟨x, r, rfl, h⟩ := p1_some h
    split at h
    · obtain ⟨t, ht, e0⟩ := oB_some h
      cases e0
      have kk := kS rfl
      rw [sel_b] at kk
      exact lv_if_eq hx hb (dec_ok hd rfl) ht (fun hc => by rw [if_pos hc] at kk; exact kk) (fun hc => by rw [if_neg hc] at kk; exact kk)
    · obtain ⟨t, ht, e0⟩ := oB_some h
      cases e0
      have kk := kS rfl
      rw [sel_b] at kk
      exact lv_if_ne hx hb (dec_ok hd rfl) ht (fun hc => by rw [if_pos hc] at kk; exact kk) (fun hc => by rw [if_neg (fun z => z hc)] at kk; exact kk)
    · obtain ⟨t, ht, e0⟩ := oB_some h
      cases e0
      have kk := kS rfl
      rw [sel_b] at kk
      exact lv_if_lt hx hb (dec_ok hd rfl) ht (fun hc => by rw [if_pos hc] at kk; exact kk) (fun hc => by rw [if_neg hc] at kk; exact kk)
    · obtain ⟨t, ht, e0⟩ := oB_some h
      cases e0
      have kk := kS rfl
      rw [sel_b] at kk
      exact lv_if_ge hx hb (dec_ok hd rfl) ht (fun hc => by rw [if_pos hc] at kk; exact kk) (fun hc => by rw [if_neg hc] at kk; exact kk)
    · obtain ⟨t, ht, e0⟩ := oB_some h
      cases e0
      have kk := kS rfl
      rw [sel_b] at kk
      exact lv_if_gt hx hb (dec_ok hd rfl) ht (fun hc => by rw [if_pos hc] at kk; exact kk) (fun hc => by rw [if_neg hc] at kk; exact kk)
    · obtain ⟨t, ht, e0⟩ := oB_some h
      cases e0
      have kk := kS rfl
      rw [sel_b] at kk
      exact lv_if_le hx hb (dec_ok hd rfl) ht (fun hc => by rw [if_pos hc] at kk; exact kk) (fun hc => by rw [if_neg hc] at kk; exact kk)
  · obtain ⟨x, y, r, rfl, h⟩ := p2_some h
    split at h
    · obtain ⟨t, ht, e0⟩ := oB_some h
      cases e0
      have kk := kS rfl
      rw [sel_b] at kk
      exact lv_icmp_eq hx hb (dec_ok hd rfl) ht (fun hc => by rw [if_pos hc] at kk; exact kk) (fun hc => by rw [if_neg hc] at kk; exact kk)
    · obtain ⟨t, ht, e0⟩ := oB_some h
      cases e0
      have kk := kS rfl
      rw [sel_b] at kk
      exact lv_icmp_ne hx hb (dec_ok hd rfl) ht (fun hc => by rw [if_pos hc] at kk; exact kk) (fun hc => by rw [if_neg (fun z => z hc)] at kk; exact kk)
    · obtain ⟨t, ht, e0⟩ := oB_some h
      cases e0
      have kk := kS rfl
      rw [sel_b] at kk
      exact lv_icmp_lt hx hb (dec_ok hd rfl) ht (fun hc => by rw [if_pos hc] at kk; exact kk) (fun hc => by rw [if_neg hc] at kk; exact kk)
    · obtain ⟨t, ht, e0⟩ := oB_some h
      cases e0
      have kk := kS rfl
      rw [sel_b] at kk
      exact lv_icmp_ge hx hb (dec_ok hd rfl) ht (fun hc => by rw [if_pos hc] at kk; exact kk) (fun hc => by rw [if_neg hc] at kk; exact kk)
    · obtain ⟨t, ht, e0⟩ := oB_some h
      cases e0
      have kk := kS rfl
      rw [sel_b] at kk
      exact lv_icmp_gt hx hb (dec_ok hd rfl) ht (fun hc => by rw [if_pos hc] at kk; exact kk) (fun hc => by rw [if_neg hc] at kk; exact kk)
    · obtain ⟨t, ht, e0⟩ := oB_some h
      cases e0
      have kk := kS rfl
      rw [sel_b] at kk
      exact lv_icmp_le hx hb (dec_ok hd rfl) ht (fun hc => by rw [if_pos hc] at kk; exact kk) (fun hc => by rw [if_neg hc] at kk; exact kk)
  · obtain ⟨a, r, rfl, h⟩ := r1_some h
    obtain ⟨t, ht, e0⟩ := oB_some h
    cases e0
    have kk := kS rfl
    rw [sel_b] at kk
    match a, kk with
    | 0, kk => rw [if_pos rfl] at kk; exact lv_ifnullN hx hb (dec_ok hd rfl) ht kk
    | 1, kk => rw [if_neg (by decide)] at kk; exact lv_ifnull hx hb (dec_ok hd rfl) kk
    | a + 2, kk => rw [if_neg (by omega)] at kk; exact lv_ifnull hx hb (dec_ok hd rfl) kk
  · obtain ⟨a, r, rfl, h⟩ := r1_some h
    obtain ⟨t, ht, e0⟩ := oB_some h
    cases e0
    have kk := kS rfl
    rw [sel_b] at kk
    match a, kk with
    | 0, kk => rw [if_neg (fun z => z rfl)] at kk; exact lv_ifnonnullN hx hb (dec_ok hd rfl) kk
    | 1, kk => rw [if_pos (by decide)] at kk; exact lv_ifnonnull hx hb (dec_ok hd rfl) ht kk
    | a + 2, kk => rw [if_pos (by omega)] at kk; exact lv_ifnonnull hx hb (dec_ok hd rfl) ht kk
  · obtain ⟨t, ht, e0⟩ := oG_some h
    cases e0
    exact lv_goto hx hb (dec_ok hd rfl) ht (kS rfl)
  · obtain ⟨x, r, rfl, h9⟩ := p1_some h
    clear h
    split at h9
    · rename_i d lo hi offs _ _ t l0 e1 e2
      cases h9
      obtain ⟨n9, h1, -, h3⟩ := dec_at hd
      simp only [okI, Bool.and_eq_true, decide_eq_true_eq] at h3
      have kk := kS rfl
      rcases swt_sel x pc offs.toList lo br p' e2 with ⟨j, off, tg, g1, g2, g3, g4⟩ | ⟨g1, g2⟩
      · rw [g4] at kk
        have hj : j < offs.size := by
          have := (List.getElem?_eq_some_iff.mp g1).1
          simpa using this
        refine lv_tableIn (off := off) hx hb h1 (by omega) (by omega) ?_ g3 kk
        rw [show (x.toInt - lo).toNat = j by omega]
        rw [← Array.getElem?_toList]; exact g1
      · rw [g2] at kk
        refine lv_tableOut hx hb h1 ?_ e1 kk
        by_cases q : x.toInt < lo
        · exact Or.inl q
        · right
          apply Classical.byContradiction
          intro q2
          have hj : (x.toInt - lo).toNat < offs.toList.length := by simp; omega
          exact g1 _ hj (by omega)
    · cases h9
  · obtain ⟨x, r, rfl, h9⟩ := p1_some h
    clear h
    split at h9
    · rename_i d ps _ _ t l0 e1 e2
      cases h9
      obtain ⟨n9, h1, -, h3⟩ := dec_at hd
      exact lv_lookup hx hb h1 h3 rfl (swl_sel x pc d ps.toList br p' e1 e2) (kS rfl)
    · cases h9
  · rename_i t
    cases hz0 : Nat.beq (akd t) 0 with
    | true => rw [hz0] at h; cases h
    | false =>
      rw [hz0] at h
      simp only [cond_false] at h
      obtain ⟨n, r, rfl, h⟩ := p1_some h
      cases (oC_some h)
      obtain ⟨g1, g2⟩ : ¬ n < 0 ∧ n.toNatClampNeg ≤ 4096 := hck
      simp only [nn_nw, us_nw, Nat.add_sub_cancel_left] at hcl hsl k
      have hA := K.1.2
      have hz : H.size = base + nn M := hW.1
      have go : ∀ (ty : FieldType) (kk9 : Nat) (hty : newarray.typeOf t = ty) (hkd : akd t = kk9) (hw : Cond.arrayClass ty ∈ xwds) (hk1 : 20 ≤ kk9) (hk2 : kk9 ≤ 23) (hak : akT kk9 = ty) (hby : componentBytes ty ≤ 8) (hra : ∀ cA, va_RA s cA ty → s.vm.findClass ("[" ++ ty.toString) = some cA)
          (hcell : ∀ (cA : ClassId) (H' : Heap), H'[base + nn M]? = some (arrV cA n.toNatClampNeg (fun _ => defaultValue ty)) → va_at D vwCl (base + nn M, .inl (cA, n.toNatClampNeg, nwz kk9)) H'), W p l e R s m args below meth c H locs cells slots Q (F0 m pc ls (List.map (rl base b) (Value.int n :: r))) := by
        intro ty kk9 hty hkd hw hk1 hk2 hak hby hra hcell
        subst hty
        refine va_newaK hx hb (hts _ (big_mem_x _ hw)) rfl (dec_ok hd rfl) rfl g1 rfl (by have := Nat.mul_le_mul g2 hby; omega) hcl hsl hz fun H1 cA e1 z1 o1 hAr hNm => ?_
        have hAc : cA = ac kk9 := by
          have h7 := hA (kk9 - 20) _ (t7_at hk1 (by omega))
          rw [hak] at h7
          exact Option.some.inj (hNm.symm.trans (hra _ h7.2))
        subst hAc
        refine k H1 locs (hW.new (by omega) (by omega) (fun q hq => o1 q (by omega)) (fun _ => ?_)) (fun q hq => (o1 q (by omega)).trans (hO q hq)) hlo
        have he : ent base b ac (nw M (akd t) n.toNatClampNeg n.toNatClampNeg) (nn M + 2) = .inl (ac kk9, n.toNatClampNeg, nwz kk9) := by
          have hk0 : kd (nw M (akd t) n.toNatClampNeg n.toNatClampNeg) (nn M + 2) = kk9 := by rw [kd_nw, if_pos rfl, hkd]
          rcases (show kk9 = 20 ∨ kk9 = 21 ∨ kk9 = 22 ∨ kk9 = 23 by omega) with e9 | e9 | e9 | e9 <;> subst e9
          · rw [ent_20 hk0, ln_nw, if_pos rfl, gi_nw, if_pos rfl]; rfl
          · rw [ent_21 hk0, ln_nw, if_pos rfl, gi_nw, if_pos rfl]; rfl
          · rw [ent_22 hk0, ln_nw, if_pos rfl, gi_nw, if_pos rfl]; rfl
          · rw [ent_23 hk0, ln_nw, if_pos rfl, gl_nw, if_pos rfl]; rfl
        rw [he]
        exact hcell _ _ e1
      cases t
      · exact go .boolean 21 rfl rfl (by simp [xwds]) (by omega) (by omega) rfl (by decide) (fun _ h => h) (fun cA H' h => h)
      · cases hz0
      · cases hz0
      · cases hz0
      · exact go .byte 22 rfl rfl (by simp [xwds]) (by omega) (by omega) rfl (by decide) (fun _ h => h) (fun cA H' h => h)
      · cases hz0
      · exact go .int 20 rfl rfl (by simp [xwds]) (by omega) (by omega) rfl (by decide) (fun _ h => h) (fun cA H' h => h)
      · exact go .long 23 rfl rfl (by simp [xwds]) (by omega) (by omega) rfl (by decide) (fun _ h => h) (fun cA H' h => h)
  · split at h
    · rename_i k0 z1 z2 hl
      cases hz0 : (Nat.ble 2 k0 && Nat.ble k0 4) with
      | false => rw [hz0] at h; cases h
      | true =>
        rw [hz0] at h
        simp only [cond_true] at h
        simp only [Bool.and_eq_true, Nat.ble_eq] at hz0
        obtain ⟨n, r, rfl, h⟩ := p1_some h
        cases (oC_some h)
        obtain ⟨g1, g2⟩ : ¬ n < 0 ∧ n.toNatClampNeg ≤ 4096 := hck
        simp only [nn_nw, us_nw, Nat.add_sub_cancel_left] at hcl hsl k
        have hz : H.size = base + nn M := hW.1
        have hov : va_AO (rcl k0) s := by
          rcases (show k0 = 2 ∨ k0 = 3 ∨ k0 = 4 by omega) with e9 | e9 | e9 <;> subst e9
          · exact K.2.2.1
          · exact K.2.2.2.1
          · exact K.2.2.2.2
        have hT : akT (22 + k0) = .object (rcl k0) := by
          rcases (show k0 = 2 ∨ k0 = 3 ∨ k0 = 4 by omega) with e9 | e9 | e9 <;> subst e9 <;> rfl
        refine W.anew hx hb hown (hts _ (big_mem_l hl _ (by simp [lwd]))) (va_AO.use hov) rfl (dec_ok hd rfl) rfl g1 (by omega) hcl hsl fun cA kA comp f1 f2 f3 f4 => ?_
        have hAc : cA = ac (22 + k0) := by
          have h7 := K.1.2 (22 + k0 - 20) _ (t7_at (by omega) (by omega))
          rw [hT] at h7
          obtain ⟨kA9, comp9, j1, j2, j3, j4⟩ := h7.2
          exact Option.some.inj (f1.symm.trans j4)
        subst hAc
        have kk := k (H.push { cls := ac (22 + k0), slots := Array.replicate n.toNatClampNeg .null, vm := .none }) locs (hW.new (by omega) (by rw [Array.size_push]) (fun q hq => by rw [Array.getElem?_push, if_neg (Nat.ne_of_lt hq)]) (fun _ => ?_)) (fun q hq => by rw [Array.getElem?_push, if_neg (by omega)]; exact hO q hq) hlo
        · have e9 : Value.ref H.size = rl base b (.ref (nn M + 2)) := by rw [hz]; rfl
          show W p l e R s m args below meth c _ locs (cells + 1) (slots + n.toNatClampNeg) Q (F0 m (pc + 3) ls (Value.ref H.size :: List.map (rl base b) r))
          rw [e9]
          exact kk
        · have hk0 : kd (nw M (22 + k0) n.toNatClampNeg n.toNatClampNeg) (nn M + 2) = 22 + k0 := by rw [kd_nw, if_pos rfl]
          rw [ent_rf (by omega) (by omega), hk0, ln_nw, if_pos rfl, gr_nw, if_pos rfl]
          show (H.push _)[base + nn M]? = some (vp_cell _ _)
          rw [← hz, Array.getElem?_push_size, arrV_new]
          rfl
    · cases h
  · obtain ⟨a, r, rfl, h⟩ := r1_some h
    cases (oC_some h)
    obtain ⟨g1, g2⟩ : 20 ≤ kd M a ∧ kd M a ≤ 27 := ⟨hck.1, hck.2.1⟩
    by_cases g3 : kd M a = 27
    · have h1 : a = 1 := by
        rcases hW.2.2.1 a (by omega) with ⟨-, h9⟩ | ⟨h9, -⟩
        · exact h9
        · exact absurd g3 h9
      subst h1
      by_cases g4 : own = 13
      · obtain ⟨⟨scr, q1, q2, q3, q4, q5⟩, hbb⟩ := hXs g4
        refine W.alen hx hb (by rw [hO b hbb]; exact q1) q2 (by rw [q4, hW.2.2.2.2.1]) rfl rfl (dec_ok hd rfl) (kS rfl)
      · exact absurd ⟨g3, g4⟩ hck.2.2
    · obtain ⟨q, rfl, hq, hat⟩ := hW.name (a := a) (by omega) g3 (by omega)
      have go : ∀ y : (Nat → Int32) ⊕ (Nat → Int64) ⊕ (Nat → UInt32) ⊕ (Nat → UInt64) ⊕ (Nat → Option Nat), ent base b ac M (q + 2) = .inl (ac (kd M (q + 2)), ln M (q + 2), y) → W p l e R s m args below meth c H locs cells slots Q (F0 m pc ls (List.map (rl base b) (Value.ref (q + 2) :: r))) := by
        intro y hy
        rw [hy] at hat
        exact va_alen hx hb K.1 (one_P hat) 0 (kd M (q + 2) - 20) rfl (t7_at g1 (by omega)) rfl (dec_ok hd rfl) (kS rfl)
      rcases (show kd M (q + 2) = 20 ∨ kd M (q + 2) = 21 ∨ kd M (q + 2) = 22 ∨ kd M (q + 2) = 23 ∨ 24 ≤ kd M (q + 2) by omega) with e9 | e9 | e9 | e9 | e9
      · exact go _ (by rw [ent_20 e9, e9])
      · exact go _ (by rw [ent_21 e9, e9])
      · exact go _ (by rw [ent_22 e9, e9])
      · exact go _ (by rw [ent_23 e9, e9])
      · exact go _ (ent_rf e9 (by omega))
  · obtain ⟨a, j, r, rfl, h⟩ := ri_some h
    cases (oC_some h)
    obtain ⟨g1, g2⟩ : kd M a = iak own ∧ vp_in j (ln M a) := hck
    by_cases g3 : own = 13
    · have g4 : kd M a = 27 := by rw [g1, g3]; rfl
      have h1 : a = 1 := by
        rcases hW.2.2.1 a (by omega) with ⟨-, h9⟩ | ⟨h9, -⟩
        · exact h9
        · exact absurd g4 h9
      subst h1
      obtain ⟨⟨scr, q1, q2, q3, q4, q5⟩, hbb⟩ := hXs g3
      rw [hW.2.2.2.2.1] at g2
      have hlt : j.toNatClampNeg < L := Nat.not_le.mp fun q => g2 (Or.inr q)
      refine W.iald (v := .int (xs j.toNatClampNeg)) hx hb (by rw [hO b hbb]; exact q1) q2 q3 (by rw [q4]; exact g2) (q5 _ hlt) rfl rfl (dec_ok hd rfl) ?_
      have kk := kS rfl
      rw [hW.2.2.2.2.2] at kk
      exact kk
    · have g4 : kd M a = 20 := by
        rw [g1]; unfold iak
        cases hb9 : Nat.beq own 13 with
        | false => rfl
        | true => exact absurd (Nat.eq_of_beq_eq_true hb9) g3
      obtain ⟨q, rfl, hq, hat⟩ := hW.name (a := a) (by omega) (by omega) (by omega)
      rw [ent_20 g4] at hat
      exact va_iald hx hb K.1 (one_P hat) 0 0 rfl rfl g2 (dec_ok hd rfl) (kS rfl)
  · obtain ⟨a, j, r, rfl, h⟩ := ri_some h
    cases (oC_some h)
    obtain ⟨g1, g2⟩ : (kd M a = 21 ∨ kd M a = 22) ∧ vp_in j (ln M a) := hck
    obtain ⟨q, rfl, hq, hat⟩ := hW.name (a := a) (by omega) (by omega) (by omega)
    rcases g1 with g1 | g1
    · rw [ent_21 g1] at hat
      exact va_zald hx hb K.1 (one_P hat) 0 1 rfl rfl g2 (dec_ok hd rfl) (kS rfl)
    · rw [ent_22 g1] at hat
      exact va_bald hx hb K.1 (one_P hat) 0 2 rfl rfl g2 (dec_ok hd rfl) (kS rfl)
  · obtain ⟨a, j, r, rfl, h⟩ := ri_some h
    cases (oC_some h)
    obtain ⟨g1, g2⟩ : kd M a = 23 ∧ vp_in j (ln M a) := hck
    obtain ⟨q, rfl, hq, hat⟩ := hW.name (a := a) (by omega) (by omega) (by omega)
    rw [ent_23 g1] at hat
    exact va_lald hx hb K.1 (one_P hat) 0 3 rfl rfl g2 (dec_ok hd rfl) (kS rfl)
  · obtain ⟨a, j, r, rfl, h⟩ := ri_some h
    cases (oC_some h)
    obtain ⟨⟨g1, g3⟩, g2⟩ : (24 ≤ kd M a ∧ kd M a ≤ 26) ∧ vp_in j (ln M a) := hck
    obtain ⟨q, rfl, hq, hat⟩ := hW.name (a := a) (by omega) (by omega) (by omega)
    rw [ent_rf g1 g3] at hat
    obtain ⟨C9, hC9⟩ : ∃ C9, akT (kd M (q + 2)) = .object C9 := by
      rcases (show kd M (q + 2) = 24 ∨ kd M (q + 2) = 25 ∨ kd M (q + 2) = 26 by omega) with e9 | e9 | e9 <;> rw [e9] <;> exact ⟨_, rfl⟩
    exact va_aldq hx hb K.1 (one_P hat) 0 (kd M (q + 2) - 20) rfl (by rw [t7_at (by omega) g3, hC9]) g2 (dec_ok hd rfl) (kS rfl)
  · obtain ⟨a, j, x, r, rfl, h⟩ := rii_some h
    cases (oC_some h)
    obtain ⟨g1, g2⟩ : kd M a = 20 ∧ vp_in j (ln M a) := hck
    obtain ⟨q, rfl, hq, hat⟩ := hW.name (a := a) (by omega) (by omega) (by omega)
    rw [ent_20 g1] at hat
    simp only [si, nn_wi, us_wi, Nat.sub_self, Nat.add_zero] at k
    refine W.iast hx hb hat ((K.1.2 0 _ rfl).1 _ (fun j => .int (gi M (q + 2) j))) (fun q => by cases q) (by show ¬ (j < 0 ∨ (arrV _ _ _).slots.size ≤ _); rw [arrV_size]; exact g2) rfl rfl (dec_ok hd rfl) fun H1 e z oq => ?_
    refine k H1 _ (hW.put hq (fun _ => rfl) (fun _ => rfl) rfl (fun q9 h9 => ⟨by rw [gi_wi, if_neg h9], rfl, rfl⟩) z oq ?_) (stO oq) (loc_app hlo (by show base ≤ base + q; omega))
    rw [ent_20 (by rw [kd_wi]; exact g1), gi_wi, if_pos rfl]
    exact st_arr (gi M (q + 2)) e
  · obtain ⟨a, j, x, r, rfl, h⟩ := rii_some h
    cases (oC_some h)
    obtain ⟨g1, g2⟩ : (kd M a = 21 ∨ kd M a = 22) ∧ vp_in j (ln M a) := hck
    obtain ⟨q, rfl, hq, hat⟩ := hW.name (a := a) (by omega) (by omega) (by omega)
    simp only [si, nn_wi, us_wi, Nat.sub_self, Nat.add_zero] at k
    rcases g1 with g1 | g1
    · rw [ent_21 g1] at hat
      refine W.zast hx hb hat ((K.1.2 1 _ rfl).1 _ (fun j => .int (gi M (q + 2) j))) (fun q => by cases q) (by show ¬ (j < 0 ∨ (arrV _ _ _).slots.size ≤ _); rw [arrV_size]; exact g2) rfl rfl (dec_ok hd rfl) fun H1 e z oq => ?_
      refine k H1 _ (hW.put hq (fun _ => rfl) (fun _ => rfl) rfl (fun q9 h9 => ⟨by rw [gi_wi, if_neg h9], rfl, rfl⟩) z oq ?_) (stO oq) (loc_app hlo (by show base ≤ base + q; omega))
      rw [ent_21 (by rw [kd_wi]; exact g1), gi_wi, if_pos rfl]
      refine st_arr (gi M (q + 2)) ?_
      rw [e, show bnar (kd M (q + 2)) x = vp_nar .boolean x by unfold bnar; rw [if_neg (by omega)]]
      rfl
    · rw [ent_22 g1] at hat
      refine W.bast hx hb hat ((K.1.2 2 _ rfl).1 _ (fun j => .int (gi M (q + 2) j))) (fun q => by cases q) (by show ¬ (j < 0 ∨ (arrV _ _ _).slots.size ≤ _); rw [arrV_size]; exact g2) rfl rfl (dec_ok hd rfl) fun H1 e z oq => ?_
      refine k H1 _ (hW.put hq (fun _ => rfl) (fun _ => rfl) rfl (fun q9 h9 => ⟨by rw [gi_wi, if_neg h9], rfl, rfl⟩) z oq ?_) (stO oq) (loc_app hlo (by show base ≤ base + q; omega))
      rw [ent_22 (by rw [kd_wi]; exact g1), gi_wi, if_pos rfl]
      refine st_arr (gi M (q + 2)) ?_
      rw [e, show bnar (kd M (q + 2)) x = vp_nar .byte x by unfold bnar; rw [if_pos g1]]
      rfl
  · obtain ⟨a, j, x, r, rfl, h⟩ := ril_some h
    cases (oC_some h)
    obtain ⟨g1, g2⟩ : kd M a = 23 ∧ vp_in j (ln M a) := hck
    obtain ⟨q, rfl, hq, hat⟩ := hW.name (a := a) (by omega) (by omega) (by omega)
    rw [ent_23 g1] at hat
    simp only [sl, nn_wl, us_wl, Nat.sub_self, Nat.add_zero] at k
    refine W.last hx hb hat ((K.1.2 3 _ rfl).1 _ (fun j => .long (gl M (q + 2) j))) (fun q => by cases q) (by show ¬ (j < 0 ∨ (arrV _ _ _).slots.size ≤ _); rw [arrV_size]; exact g2) rfl rfl (dec_ok hd rfl) fun H1 e z oq => ?_
    refine k H1 _ (hW.put hq (fun _ => rfl) (fun _ => rfl) rfl (fun q9 h9 => ⟨rfl, by rw [gl_wl, if_neg h9], rfl⟩) z oq ?_) (stO oq) (loc_app hlo (by show base ≤ base + q; omega))
    rw [ent_23 (by rw [kd_wl]; exact g1), gl_wl, if_pos rfl]
    exact st_arl (gl M (q + 2)) e
  · obtain ⟨a, j, x, r, rfl, h⟩ := rir_some h
    cases (oC_some h)
    obtain ⟨⟨g1, g3⟩, g5, g2⟩ : (24 ≤ kd M a ∧ kd M a ≤ 26) ∧ kd M a = kd M x + 21 ∧ vp_in j (ln M a) := hck
    obtain ⟨q, rfl, hq, hat⟩ := hW.name (a := a) (by omega) (by omega) (by omega)
    rw [ent_rf g1 g3] at hat
    obtain ⟨c0, hc0⟩ : ∃ c0, kd M x = c0 + 1 := ⟨kd M x - 1, by omega⟩
    obtain ⟨v, rfl, hv, hatv⟩ := hW.obj hc0 (by omega)
    simp only [sr, nn_wr, us_wr, Nat.sub_self, Nat.add_zero] at k
    have hT : akT (kd M (q + 2)) = .object (rcl c0) := by
      rcases (show c0 = 2 ∨ c0 = 3 ∨ c0 = 4 by omega) with e9 | e9 | e9 <;> subst e9 <;> rw [g5, hc0] <;> rfl
    have ht := t7_at (ac := ac) (k := kd M (q + 2)) (by omega) g3
    rw [hT] at ht
    have hlt : j.toNatClampNeg < ln M (q + 2) := Nat.not_le.mp fun z => g2 (Or.inr z)
    have h0 : ¬ j < 0 := fun z => g2 (Or.inl z)
    obtain ⟨r', hr', cellV, f1, f2, f3, -⟩ := hatv
    have hcls := (K.1.1 c0 _ (vw_at c0 (by omega))).2
    obtain ⟨kA, comp, k1, k2, k3, -⟩ := (K.1.2 _ _ ht).2
    have hcomp : comp = D.1 c0 := Option.some.inj (k3.symm.trans hcls.1)
    subst hcomp
    obtain ⟨kC, hkC, -⟩ := hcls.2
    refine W.aast hx hb hat (fun q h => by cases h) (fun h => by cases h) k1 k2 rfl hkC ⟨h0, by show _ < (arrV _ _ _).slots.size; rw [arrV_size]; exact hlt⟩ f1 (fun q h => by rw [f3] at h; cases h) (by rw [f2]; exact hkC) (by rw [f2]; exact va_assign hcls) rfl rfl (dec_ok hd rfl) fun H1 e z oq => ?_
    refine k H1 _ (hW.put hq (fun _ => rfl) (fun _ => rfl) rfl (fun q9 h9 => ⟨rfl, rfl, by rw [gr_wr, if_neg h9]⟩) z oq ?_) (stO oq) (loc_app hlo (by show base ≤ base + q; omega))
    have hk9 : kd (wr M (q + 2) (u1 (gr M (q + 2)) j.toNatClampNeg (v + 2))) (q + 2) = kd M (q + 2) := by rw [kd_wr]
    rw [ent_rf (by rw [hk9]; exact g1) (by rw [hk9]; exact g3), hk9, gr_wr, if_pos rfl]
    exact st_arq (v := v + 2) (gr M (q + 2)) rfl e
  · split at h
    · rename_i c0 k0 z0 hl
      obtain ⟨a, r, rfl, h⟩ := r1_some h
      cases (oC_some h)
      have g1 : kd M a = c0 + 1 := hck
      have g2 := lk_ok hl
      simp only [lkok, Bool.and_eq_true, Nat.ble_eq, decide_eq_true_eq] at g2
      obtain ⟨q, rfl, hq, hat⟩ := hW.obj g1 (by omega)
      have hv : ((List.range (ncl c0)).map fun k => rl base b (gfv M (q + 2) k (tyF c0 k)))[k0]? = some (rl base b (gfv M (q + 2) k0 (tyF c0 k0))) := by
        rw [List.getElem?_map, List.getElem?_range (by omega)]; rfl
      exact va_get hx hb hts (big_mem_u (c := c0) (by omega)) hown K.1 (one_P hat) 0 rfl (vw_at c0 (by omega)) k0 (by omega) (hts _ (big_mem_l hl _ (by simp [lwd]))) (fun _ h => h) hv (dec_ok hd rfl) (kS rfl)
    · cases h
  · split at h
    · rename_i idx _ c0 k0 z0 hl
      have g2 := lk_ok hl
      simp only [lkok, Bool.and_eq_true, Nat.ble_eq, decide_eq_true_eq] at g2
      cases hf : (!(finF c0 k0) || (ini && Nat.beq own c0)) with
      | false => rw [hf] at h; cases h
      | true =>
        rw [hf] at h
        simp only [cond_true] at h
        have hfin : finF c0 k0 = true → meth.name = "<init>" ∧ own = c0 := by
          intro h9
          rw [h9] at hf
          simp only [Bool.not_true, Bool.false_or, Bool.and_eq_true] at hf
          exact ⟨hini hf.1, Nat.eq_of_beq_eq_true hf.2⟩
        have hword : (Cond.fieldLink (rcl own) idx (tcl c0 k0).1 (tcl c0 k0).2.1 (tcl c0 k0).2.2.1).before args s = true := hts (.fieldLink (rcl own) idx (tcl c0 k0).1 (tcl c0 k0).2.1 (tcl c0 k0).2.2.1) (big_mem_l hl _ (by simp [lwd]))
        have hR1 : ∀ (M9 : AM) (q : Nat) (hg : ∀ j, ¬ j = k0 → gfv M9 (q + 2) j (tyF c0 j) = gfv M (q + 2) j (tyF c0 j)), ∀ j, ¬ j = k0 → rl base b (gfv M9 (q + 2) j (tyF c0 j)) = rl base b (gfv M (q + 2) j (tyF c0 j)) := fun M9 q hg j hj => by rw [hg j hj]
        split at h
        · rename_i hty
          obtain ⟨a, x, r, rfl, h⟩ := ri_some h
          cases (oC_some h)
          have g1 : kd M a = c0 + 1 := hck
          obtain ⟨q, rfl, hq, hat⟩ := hW.obj g1 (by omega)
          simp only [si, nn_wi, us_wi, Nat.sub_self, Nat.add_zero] at k
          refine put_fld (r := q) S K (by omega) (by omega) hword g2.2 hfin (by rw [hty]; rfl) (by rw [hty]; rfl) hat (dec_ok hd rfl) fun H1 hV z oq zl hzl => ?_
          refine k H1 _ (hW.put hq (fun _ => rfl) (fun _ => rfl) rfl (fun q9 h9 => ⟨by rw [gi_wi, if_neg h9], rfl, rfl⟩) z oq ?_) (stO oq) (loc_app hlo (by rw [hzl]; omega))
          rw [ent_obj (c := c0) (by rw [kd_wi]; exact g1) (by omega)]
          refine hV _ (by rw [hty]; show Value.int _ = _; rw [gi_wi, if_pos rfl, u1_same]; rfl) (hR1 _ q fun j hj => ?_)
          cases tyF c0 j <;> simp [gfv, gi_wi, gr_wi, u1, hj]
        · rename_i hty
          obtain ⟨a, x, r, rfl, h⟩ := ri_some h
          cases (oC_some h)
          obtain ⟨g1, g3⟩ : kd M a = c0 + 1 ∧ (x = 0 ∨ x = 1) := hck
          obtain ⟨q, rfl, hq, hat⟩ := hW.obj g1 (by omega)
          simp only [si, nn_wi, us_wi, Nat.sub_self, Nat.add_zero] at k
          refine put_fld (r := q) S K (by omega) (by omega) hword g2.2 hfin (by rw [hty]; rcases g3 with rfl | rfl <;> rfl) (by rw [hty]; rcases g3 with rfl | rfl <;> rfl) hat (dec_ok hd rfl) fun H1 hV z oq zl hzl => ?_
          refine k H1 _ (hW.put hq (fun _ => rfl) (fun _ => rfl) rfl (fun q9 h9 => ⟨by rw [gi_wi, if_neg h9], rfl, rfl⟩) z oq ?_) (stO oq) (loc_app hlo (by rw [hzl]; omega))
          rw [ent_obj (c := c0) (by rw [kd_wi]; exact g1) (by omega)]
          refine hV _ (by rw [hty]; show Value.int _ = _; rw [gi_wi, if_pos rfl, u1_same]; rfl) (hR1 _ q fun j hj => ?_)
          cases tyF c0 j <;> simp [gfv, gi_wi, gr_wi, u1, hj]
        · rename_i hty
          split at h
          · rename_i v a r
            cases (oC_some h)
            have g1 : kd M a = c0 + 1 := hck
            obtain ⟨q, rfl, hq, hat⟩ := hW.obj g1 (by omega)
            simp only [sr, nn_wr, us_wr, Nat.sub_self, Nat.add_zero] at k
            refine put_fld (r := q) S K (by omega) (by omega) hword g2.2 hfin (by rw [hty]; show narrow _ (va_rf (rfo base b v)) = va_rf (rfo base b v); cases rfo base b v <;> rfl) (by rw [hty]; show fits _ (va_rf (rfo base b v)) = _; cases rfo base b v <;> rfl) hat (dec_ok hd rfl) fun H1 hV z oq zl hzl => ?_
            refine k H1 _ (hW.put hq (fun _ => rfl) (fun _ => rfl) rfl (fun q9 h9 => ⟨rfl, rfl, by rw [gr_wr, if_neg h9]⟩) z oq ?_) (stO oq) (loc_app hlo (by rw [hzl]; omega))
            rw [ent_obj (c := c0) (by rw [kd_wr]; exact g1) (by omega)]
            refine hV _ (by rw [hty]; show rl base b (.ref _) = _; rw [gr_wr, if_pos rfl, u1_same]) (hR1 _ q fun j hj => ?_)
            cases tyF c0 j <;> simp [gfv, gi_wr, gr_wr, u1, hj]
          · cases h
        · rename_i hty
          split at h
          · rename_i v a r
            cases (oC_some h)
            have g1 : kd M a = c0 + 1 := hck
            obtain ⟨q, rfl, hq, hat⟩ := hW.obj g1 (by omega)
            simp only [sr, nn_wr, us_wr, Nat.sub_self, Nat.add_zero] at k
            refine put_fld (r := q) S K (by omega) (by omega) hword g2.2 hfin (by rw [hty]; show narrow _ (va_rf (rfo base b v)) = va_rf (rfo base b v); cases rfo base b v <;> rfl) (by rw [hty]; show fits _ (va_rf (rfo base b v)) = _; cases rfo base b v <;> rfl) hat (dec_ok hd rfl) fun H1 hV z oq zl hzl => ?_
            refine k H1 _ (hW.put hq (fun _ => rfl) (fun _ => rfl) rfl (fun q9 h9 => ⟨rfl, rfl, by rw [gr_wr, if_neg h9]⟩) z oq ?_) (stO oq) (loc_app hlo (by rw [hzl]; omega))
            rw [ent_obj (c := c0) (by rw [kd_wr]; exact g1) (by omega)]
            refine hV _ (by rw [hty]; show rl base b (.ref _) = _; rw [gr_wr, if_pos rfl, u1_same]) (hR1 _ q fun j hj => ?_)
            cases tyF c0 j <;> simp [gfv, gi_wr, gr_wr, u1, hj]
          · cases h
        · cases h
    · cases h
  · split at h
    · rename_i c0 _ _ hl
      have g2 := lk_ok hl
      simp only [lkok, Nat.ble_eq] at g2
      cases (o0_some h)
      simp only [nn_nw, us_nw, Nat.add_sub_cancel_left] at hcl hsl k
      have hz : H.size = base + nn M := hW.1
      have hKn := K.1.1 c0 _ (vw_at c0 (by omega))
      refine W.newcK hx hb hown (hts _ (big_mem_l hl _ (by simp [lwd]))) (hts (.instantiable (rcl c0) (ncl c0)) (big_mem_c (c := c0) (by omega) _ (by unfold cwd; exact List.mem_cons_self))) (hts (.initialized (rcl c0)) (big_mem_c (c := c0) (by omega) _ (by unfold cwd; exact List.mem_cons_of_mem _ List.mem_cons_self))) rfl (dec_ok hd rfl) hcl hsl hKn.2.1 hz fun H1 kC hkC e1 z1 o1 => ?_
      refine k H1 locs (hW.new (by omega) (by omega) (fun q hq => o1 q (by omega)) (fun _ => ?_)) (fun q hq => (o1 q (by omega)).trans (hO q hq)) hlo
      rw [ent_obj (c := c0) (by rw [kd_nw, if_pos rfl]) (by omega)]
      refine ⟨_, vw_at c0 (by omega), (u_born (tyF c0) hts (big_mem_u (c := c0) (by omega)) hKn hkC e1 (ty_at c0 (by omega)).1).to fun j hj => ?_⟩
      unfold vp_V
      rw [List.getD_eq_getElem?_getD, List.getElem?_map, List.getElem?_range hj]
      have h9 := tyF_ok c0 (by omega) j hj
      simp only [Option.map_some, Option.getD_some]
      revert h9
      cases tyF c0 j <;> intro h9 <;> first
        | (cases h9; done)
        | (show _ = rl base b (.int (gi (nw M (c0 + 1) 0 (ncl c0)) (nn M + 2) j)); rw [gi_nw, if_pos rfl]; rfl)
        | (show _ = rl base b (.ref (gr (nw M (c0 + 1) 0 (ncl c0)) (nn M + 2) j)); rw [gr_nw, if_pos rfl]; rfl)
    · cases h
  · split at h
    · rename_i hl
      split at h
      · rename_i n dp b9 sp a9
        cases (oC_some h)
        obtain ⟨⟨g1, g2⟩, ⟨g3, g4, g5⟩, g6, g7⟩ : (kd M a9 = 20 ∧ kd M b9 = 20) ∧ (¬ sp < 0 ∧ ¬ dp < 0 ∧ ¬ n < 0) ∧ sp.toNatClampNeg + n.toNatClampNeg ≤ ln M a9 ∧ dp.toNatClampNeg + n.toNatClampNeg ≤ ln M b9 := hck
        obtain ⟨q1, rfl, hq1, hat1⟩ := hW.name (a := a9) (by omega) (by omega) (by omega)
        obtain ⟨q2, rfl, hq2, hat2⟩ := hW.name (a := b9) (by omega) (by omega) (by omega)
        rw [ent_20 g1] at hat1
        rw [ent_20 g2] at hat2
        simp only [nn_wi, us_wi, Nat.sub_self, Nat.add_zero] at k
        refine ab_copy hx hb hls.symm hown (hts _ (big_mem_l hl _ (by simp [lwd]))) (hts _ (big_mem_x _ (by simp [xwds]))) (hts _ (big_mem_x _ (by simp [xwds]))) (hts _ (big_mem_x _ (by simp [xwds]))) K.1 (a0 := base + q1) (a := base + q2) hat1 hat2 g3 g4 g5 g6 g7 hR.1 hR.2 (dec_ok hd rfl) fun H1 locs1 e1 z1 o1 l1 => ?_
        refine k H1 locs1 (hW.put hq2 (fun _ => rfl) (fun _ => rfl) rfl (fun q9 h9 => ⟨by rw [gi_wi, if_neg h9], rfl, rfl⟩) z1 o1 ?_) (stO o1) (fun z hz => ?_)
        · rw [ent_20 (by rw [kd_wi]; exact g2), gi_wi, if_pos rfl]
          exact e1
        · rcases l1 z hz with h9 | h9
          · exact hlo z h9
          · rw [h9]; omega
      · cases h
    · rename_i idx _ y z n9 hl
      have hyl : y ∈ yls ∧ (n9 = 0 ∨ n9 = 1) := by
        have g2 := lk_ok hl
        simp only [lkok, Bool.and_eq_true, Bool.or_eq_true] at g2
        refine ⟨by simpa using g2.1, ?_⟩
        rcases g2.2 with h1 | h1
        · exact Or.inl (Nat.eq_of_beq_eq_true h1)
        · exact Or.inr (Nat.eq_of_beq_eq_true h1)
      have hn9 : (Nat.beq y 1920 || Nat.beq y 1921 || Nat.beq y 1922) = true → n9 = 0 := fun h1 => lk_math hl h1
      have hlink : ∀ w, n9 = 0 → w = Cond.methodLink (rcl own) idx (mnm y) → w.before args s = true := fun w h0 hw => hts w (big_mem_l hl w (by rw [hw, h0]; exact List.mem_cons_self))
      have hsum : ∀ r : List Value, Nat.ble ((r.map fun v => cond (is2 v) 2 1).sum) 8 = true → ((r.map (rl base b)).map fun v => v.category).sum + 13 ≤ R.locals := fun r hr => by
        have h1 := Nat.ble_eq.mp hr
        rw [cat_sum]; omega
      cases h1 : Nat.beq y 1920 with
      | true =>
        rw [h1] at h
        simp only [cond_true] at h
        have e1 := Nat.eq_of_beq_eq_true h1
        subst e1
        obtain ⟨x, r, rfl, h9⟩ := p1_some h
        clear h
        cases hs : Nat.ble ((r.map fun v => cond (is2 v) 2 1).sum) 8 with
        | false => rw [hs] at h9; cases h9
        | true =>
          rw [hs] at h9
          cases (o0_some h9)
          exact va_mabs hx hb hls.symm hown (hlink _ (hn9 rfl) rfl) (hts _ (big_mem_m hyl.1 _ (by decide +kernel))) (hts _ (big_mem_m hyl.1 _ (by decide +kernel))) (hts _ (big_mem_m hyl.1 _ (by decide +kernel))) hR.1 (hsum r hs) (by simpa using hcl) (by simpa using hsl) (dec_ok hd rfl) (kS rfl)
      | false =>
        rw [h1] at h
        simp only [cond_false] at h
        cases h2 : Nat.beq y 1921 with
        | true =>
          rw [h2] at h
          simp only [cond_true] at h
          have e1 := Nat.eq_of_beq_eq_true h2
          subst e1
          obtain ⟨x, z, r, rfl, h9⟩ := p2_some h
          clear h
          cases hs : Nat.ble ((r.map fun v => cond (is2 v) 2 1).sum) 8 with
          | false => rw [hs] at h9; cases h9
          | true =>
            rw [hs] at h9
            cases (o0_some h9)
            exact va_mmax hx hb hls.symm hown (hlink _ (hn9 rfl) rfl) (hts _ (big_mem_m hyl.1 _ (by decide +kernel))) (hts _ (big_mem_m hyl.1 _ (by decide +kernel))) (hts _ (big_mem_m hyl.1 _ (by decide +kernel))) hR.1 (hsum r hs) (by simpa using hcl) (by simpa using hsl) (dec_ok hd rfl) (kS rfl)
        | false =>
          rw [h2] at h
          simp only [cond_false] at h
          cases h3 : Nat.beq y 1922 with
          | true =>
            rw [h3] at h
            simp only [cond_true] at h
            have e1 := Nat.eq_of_beq_eq_true h3
            subst e1
            obtain ⟨x, z, r, rfl, h9⟩ := p2_some h
            clear h
            cases hs : Nat.ble ((r.map fun v => cond (is2 v) 2 1).sum) 8 with
            | false => rw [hs] at h9; cases h9
            | true =>
              rw [hs] at h9
              cases (o0_some h9)
              exact va_mmin hx hb hls.symm hown (hlink _ (hn9 rfl) rfl) (hts _ (big_mem_m hyl.1 _ (by decide +kernel))) (hts _ (big_mem_m hyl.1 _ (by decide +kernel))) (hts _ (big_mem_m hyl.1 _ (by decide +kernel))) hR.1 (hsum r hs) (by simpa using hcl) (by simpa using hsl) (dec_ok hd rfl) (kS rfl)
          | false => rw [h3] at h; cases h
    · cases h
  · split at h
    · rename_i hl
      split at h
      · rename_i a9
        cases (oC_some h)
        have g1 : ¬ a9 = 0 := hck
        have go : ∀ q : Nat, rl base b (.ref a9) = .ref q → W p l e R s m args below meth c H locs cells slots Q (F0 m pc ls (List.map (rl base b) [Value.ref a9])) := fun q hq => by
          rw [show List.map (rl base b) [Value.ref a9] = [Value.ref q] by rw [← hq]; rfl]
          exact W.objInit hx hb hown (hts _ (big_mem_l hl _ (by simp [lwd]))) (hts _ (big_mem_x _ (by simp [xwds]))) (hts _ (big_mem_x _ (by simp [xwds]))) rfl hls rfl (dec_ok hd rfl) hR.1 (by show 2 * 0 + 0 + 12 ≤ _; omega) (kS rfl)
        match a9, go with
        | 0, _ => exact absurd rfl g1
        | 1, go => exact go b rfl
        | q + 2, go => exact go (base + q) rfl
      · cases h
    · cases h
  · cases h
end SIM2
