/-! ===== the abstract memory and the heap ===== -/
def rfo (base b : Nat) : Nat → Option Nat
  | 0 => none
  | 1 => some b
  | r + 2 => some (base + r)
def rl (base b : Nat) : Value → Value
  | .ref r => va_rf (rfo base b r)
  | v => v
def akT : Nat → FieldType
  | 20 => .int
  | 21 => .boolean
  | 22 => .byte
  | 23 => .long
  | 24 => .object RX2
  | 25 => .object RX3
  | _ => .object RX4
def tys7 (ac : Nat → ClassId) : List (ClassId × FieldType) := [(ac 20, .int), (ac 21, .boolean), (ac 22, .byte), (ac 23, .long), (ac 24, .object RX2), (ac 25, .object RX3), (ac 26, .object RX4)]
/-- the cell of a name -/
def ent (base b : Nat) (ac : Nat → ClassId) (M : AM) (r : Nat) : va_E :=
  if kd M r = 20 then .inl (ac 20, ln M r, .inl (gi M r))
  else if kd M r = 21 then .inl (ac 21, ln M r, .inl (gi M r))
  else if kd M r = 22 then .inl (ac 22, ln M r, .inl (gi M r))
  else if kd M r = 23 then .inl (ac 23, ln M r, .inr (.inl (gl M r)))
  else if kd M r = 24 then .inl (ac 24, ln M r, .inr (.inr (.inr (.inr (fun j => rfo base b (gr M r j))))))
  else if kd M r = 25 then .inl (ac 25, ln M r, .inr (.inr (.inr (.inr (fun j => rfo base b (gr M r j))))))
  else if kd M r = 26 then .inl (ac 26, ln M r, .inr (.inr (.inr (.inr (fun j => rfo base b (gr M r j))))))
  else .inr (kd M r - 1, (List.range (ncl (kd M r - 1))).map fun k => rl base b (gfv M r k (tyF (kd M r - 1) k)))
def WdH (base b L : Nat) (xs : Nat → Int32) (D : va_G) (ac : Nat → ClassId) (M : AM) (H : Heap) : Prop :=
  H.size = base + nn M ∧ (∀ r, r < nn M → kd M (r + 2) ≠ 30 → va_at D vwCl (base + r, ent base b ac M (r + 2)) H) ∧
  (∀ r, kd M r ≠ 0 → (kd M r = 27 ∧ r = 1) ∨ (kd M r ≠ 27 ∧ 2 ≤ r ∧ r < nn M + 2)) ∧ kd M 1 = 27 ∧ ln M 1 = L ∧ gi M 1 = xs
theorem ent_obj {base b : Nat} {ac : Nat → ClassId} {M : AM} {r c : Nat} (h : kd M r = c + 1) (hc : c < 13) : ent base b ac M r = .inr (c, (List.range (ncl c)).map fun k => rl base b (gfv M r k (tyF c k))) := by
  unfold ent
  have e : kd M r - 1 = c := by omega
  rw [if_neg (by omega), if_neg (by omega), if_neg (by omega), if_neg (by omega), if_neg (by omega), if_neg (by omega), if_neg (by omega), e]
theorem u1_same {α : Type} (f : Nat → α) (a : Nat) (v : α) : u1 f a v a = v := by simp [u1]
theorem u1_ne {α : Type} (f : Nat → α) {a b : Nat} (v : α) (h : ¬ b = a) : u1 f a v b = f b := by simp [u1, h]
theorem kd_wi (M : AM) (a : Nat) (f : Nat → Int32) : kd (wi M a f) = kd M := rfl
theorem ln_wi (M : AM) (a : Nat) (f : Nat → Int32) : ln (wi M a f) = ln M := rfl
theorem gl_wi (M : AM) (a : Nat) (f : Nat → Int32) : gl (wi M a f) = gl M := rfl
theorem gr_wi (M : AM) (a : Nat) (f : Nat → Int32) : gr (wi M a f) = gr M := rfl
theorem nn_wi (M : AM) (a : Nat) (f : Nat → Int32) : nn (wi M a f) = nn M := rfl
theorem us_wi (M : AM) (a : Nat) (f : Nat → Int32) : us (wi M a f) = us M := rfl
theorem gi_wi (M : AM) (a : Nat) (f : Nat → Int32) (b : Nat) : gi (wi M a f) b = if b = a then f else gi M b := rfl
theorem kd_wl (M : AM) (a : Nat) (f : Nat → Int64) : kd (wl M a f) = kd M := rfl
theorem ln_wl (M : AM) (a : Nat) (f : Nat → Int64) : ln (wl M a f) = ln M := rfl
theorem gi_wl (M : AM) (a : Nat) (f : Nat → Int64) : gi (wl M a f) = gi M := rfl
theorem gr_wl (M : AM) (a : Nat) (f : Nat → Int64) : gr (wl M a f) = gr M := rfl
theorem nn_wl (M : AM) (a : Nat) (f : Nat → Int64) : nn (wl M a f) = nn M := rfl
theorem us_wl (M : AM) (a : Nat) (f : Nat → Int64) : us (wl M a f) = us M := rfl
theorem gl_wl (M : AM) (a : Nat) (f : Nat → Int64) (b : Nat) : gl (wl M a f) b = if b = a then f else gl M b := rfl
theorem kd_wr (M : AM) (a : Nat) (f : Nat → Nat) : kd (wr M a f) = kd M := rfl
theorem ln_wr (M : AM) (a : Nat) (f : Nat → Nat) : ln (wr M a f) = ln M := rfl
theorem gi_wr (M : AM) (a : Nat) (f : Nat → Nat) : gi (wr M a f) = gi M := rfl
theorem gl_wr (M : AM) (a : Nat) (f : Nat → Nat) : gl (wr M a f) = gl M := rfl
theorem nn_wr (M : AM) (a : Nat) (f : Nat → Nat) : nn (wr M a f) = nn M := rfl
theorem us_wr (M : AM) (a : Nat) (f : Nat → Nat) : us (wr M a f) = us M := rfl
theorem gr_wr (M : AM) (a : Nat) (f : Nat → Nat) (b : Nat) : gr (wr M a f) b = if b = a then f else gr M b := rfl
theorem kd_nw (M : AM) (k l n b : Nat) : kd (nw M k l n) b = if b = nn M + 2 then k else kd M b := rfl
theorem ln_nw (M : AM) (k l n b : Nat) : ln (nw M k l n) b = if b = nn M + 2 then l else ln M b := rfl
theorem gi_nw (M : AM) (k l n b : Nat) : gi (nw M k l n) b = if b = nn M + 2 then (fun _ => 0) else gi M b := rfl
theorem gl_nw (M : AM) (k l n b : Nat) : gl (nw M k l n) b = if b = nn M + 2 then (fun _ => 0) else gl M b := rfl
theorem gr_nw (M : AM) (k l n b : Nat) : gr (nw M k l n) b = if b = nn M + 2 then (fun _ => 0) else gr M b := rfl
theorem nn_nw (M : AM) (k l n : Nat) : nn (nw M k l n) = nn M + 1 := rfl
theorem us_nw (M : AM) (k l n : Nat) : us (nw M k l n) = us M + n := rfl
/-- a cell's entry depends on its name's rows alone -/
theorem ent_congr {base b : Nat} {ac : Nat → ClassId} {M M' : AM} {r : Nat} (h1 : kd M' r = kd M r) (h2 : ln M' r = ln M r) (h3 : gi M' r = gi M r) (h4 : gl M' r = gl M r) (h5 : gr M' r = gr M r) : ent base b ac M' r = ent base b ac M r := by
  have hg : ∀ k t, gfv M' r k t = gfv M r k t := fun k t => by cases t <;> simp [gfv, h3, h5]
  unfold ent
  simp only [h1, h2, h3, h4, h5, hg]
theorem WdH.name {base b L : Nat} {xs : Nat → Int32} {D : va_G} {ac : Nat → ClassId} {M : AM} {H : Heap} (h : WdH base b L xs D ac M H) {a : Nat} (h0 : kd M a ≠ 0) (h1 : kd M a ≠ 27) (h2 : kd M a ≠ 30) : ∃ r, a = r + 2 ∧ r < nn M ∧ va_at D vwCl (base + r, ent base b ac M a) H := by
  obtain ⟨-, ha, hk, -⟩ := h
  rcases hk a h0 with ⟨h3, -⟩ | ⟨-, h3, h4⟩
  · exact absurd h3 h1
  · refine ⟨a - 2, by omega, by omega, ?_⟩
    have e : a - 2 + 2 = a := by omega
    have := ha (a - 2) (by omega) (by rw [e]; exact h2)
    rwa [e] at this
/-- one cell's rows are changed, and its cell in the heap alone -/
theorem WdH.put {base b L : Nat} {xs : Nat → Int32} {D : va_G} {ac : Nat → ClassId} {M M' : AM} {H H' : Heap} (h : WdH base b L xs D ac M H) {r : Nat} (hr : r < nn M)
    (k0 : ∀ q, kd M' q = kd M q) (l0 : ∀ q, ln M' q = ln M q) (n0 : nn M' = nn M) (o : ∀ q, ¬ q = r + 2 → gi M' q = gi M q ∧ gl M' q = gl M q ∧ gr M' q = gr M q)
    (z : H'.size = H.size) (oq : ∀ q : Nat, q ≠ base + r → H'[q]? = H[q]?) (he : va_at D vwCl (base + r, ent base b ac M' (r + 2)) H') : WdH base b L xs D ac M' H' := by
  obtain ⟨a1, a2, a3, a4, a5, a6⟩ := h
  refine ⟨by rw [z, n0]; exact a1, fun q hq hk => ?_, fun q hq => ?_, by rw [k0]; exact a4, by rw [l0]; exact a5, ?_⟩
  · by_cases e : q = r
    · subst e; exact he
    · obtain ⟨g1, g2, g3⟩ := o (q + 2) (by omega)
      rw [ent_congr (k0 _) (l0 _) g1 g2 g3]
      rw [n0] at hq
      rw [k0] at hk
      exact (a2 q hq hk).kept (oq _ (by show base + q ≠ base + r; omega))
  · rw [k0] at hq ⊢
    rw [n0]
    exact a3 q hq
  · rw [(o 1 (by omega)).1]; exact a6
/-- a new cell -/
theorem WdH.new {base b L : Nat} {xs : Nat → Int32} {D : va_G} {ac : Nat → ClassId} {M : AM} {H H' : Heap} (h : WdH base b L xs D ac M H) {k l n : Nat} (hk : k ≠ 27) (z : H'.size = H.size + 1) (oq : ∀ q : Nat, q < H.size → H'[q]? = H[q]?)
    (he : k ≠ 30 → va_at D vwCl (base + nn M, ent base b ac (nw M k l n) (nn M + 2)) H') : WdH base b L xs D ac (nw M k l n) H' := by
  obtain ⟨a1, a2, a3, a4, a5, a6⟩ := h
  refine ⟨by rw [z, nn_nw, a1]; omega, fun q hq hq30 => ?_, fun q hq => ?_, ?_, ?_, ?_⟩
  · rw [nn_nw] at hq
    by_cases e : q = nn M
    · subst e
      rw [kd_nw, if_pos rfl] at hq30
      exact he hq30
    · have e2 : ¬ q + 2 = nn M + 2 := by omega
      rw [kd_nw, if_neg e2] at hq30
      have h2 := a2 q (by omega) hq30
      rw [ent_congr (M := M) (by rw [kd_nw, if_neg e2]) (by rw [ln_nw, if_neg e2]) (by rw [gi_nw, if_neg e2]) (by rw [gl_nw, if_neg e2]) (by rw [gr_nw, if_neg e2])]
      exact h2.kept (oq _ (by show base + q < H.size; omega))
  · rw [kd_nw] at hq ⊢
    rw [nn_nw]
    by_cases e : q = nn M + 2
    · rw [if_pos e]
      exact Or.inr ⟨hk, by omega, by omega⟩
    · rw [if_neg e] at hq ⊢
      rcases a3 q hq with h1 | ⟨h1, h2, h3⟩
      · exact Or.inl h1
      · exact Or.inr ⟨h1, h2, by omega⟩
  · rw [kd_nw, if_neg (by omega)]; exact a4
  · rw [ln_nw, if_neg (by omega)]; exact a5
  · rw [gi_nw, if_neg (by omega)]; exact a6
/-! ===== an instruction that leaves the locals alone: the heap's machine does as the abstract one ===== -/
theorem p1_some {α : Type} {st : List Value} {f : Int32 → List Value → Option α} {o : α} (h : p1 st f = some o) : ∃ x r, st = .int x :: r ∧ f x r = some o := by
  unfold p1 at h; split at h
  · exact ⟨_, _, rfl, h⟩
  · cases h
theorem p2_some {α : Type} {st : List Value} {f : Int32 → Int32 → List Value → Option α} {o : α} (h : p2 st f = some o) : ∃ x y r, st = .int y :: .int x :: r ∧ f x y r = some o := by
  unfold p2 at h; split at h
  · exact ⟨_, _, _, rfl, h⟩
  · cases h
theorem q1_some {α : Type} {st : List Value} {f : Int64 → List Value → Option α} {o : α} (h : q1 st f = some o) : ∃ x r, st = .long x :: r ∧ f x r = some o := by
  unfold q1 at h; split at h
  · exact ⟨_, _, rfl, h⟩
  · cases h
theorem q2_some {α : Type} {st : List Value} {f : Int64 → Int64 → List Value → Option α} {o : α} (h : q2 st f = some o) : ∃ x y r, st = .long y :: .long x :: r ∧ f x y r = some o := by
  unfold q2 at h; split at h
  · exact ⟨_, _, _, rfl, h⟩
  · cases h
theorem r1_some {α : Type} {st : List Value} {f : Nat → List Value → Option α} {o : α} (h : r1 st f = some o) : ∃ x r, st = .ref x :: r ∧ f x r = some o := by
  unfold r1 at h; split at h
  · exact ⟨_, _, rfl, h⟩
  · cases h
theorem ri_some {α : Type} {st : List Value} {f : Nat → Int32 → List Value → Option α} {o : α} (h : ri st f = some o) : ∃ a x r, st = .int x :: .ref a :: r ∧ f a x r = some o := by
  unfold ri at h; split at h
  · exact ⟨_, _, _, rfl, h⟩
  · cases h
theorem rii_some {α : Type} {st : List Value} {f : Nat → Int32 → Int32 → List Value → Option α} {o : α} (h : rii st f = some o) : ∃ a j x r, st = .int x :: .int j :: .ref a :: r ∧ f a j x r = some o := by
  unfold rii at h; split at h
  · exact ⟨_, _, _, _, rfl, h⟩
  · cases h
theorem ril_some {α : Type} {st : List Value} {f : Nat → Int32 → Int64 → List Value → Option α} {o : α} (h : ril st f = some o) : ∃ a j x r, st = .long x :: .int j :: .ref a :: r ∧ f a j x r = some o := by
  unfold ril at h; split at h
  · exact ⟨_, _, _, _, rfl, h⟩
  · cases h
theorem rir_some {α : Type} {st : List Value} {f : Nat → Int32 → Nat → List Value → Option α} {o : α} (h : rir st f = some o) : ∃ a j x r, st = .ref x :: .int j :: .ref a :: r ∧ f a j x r = some o := by
  unfold rir at h; split at h
  · exact ⟨_, _, _, _, rfl, h⟩
  · cases h
theorem oB_some {p : Prop} {pc off : Int} {nxt : Nat} {st : List Value} {M : AM} {q} (h : oB p pc off nxt st M = some q) : ∃ t : Nat, pc + off = (t : Int) ∧ q = (none, [(p, t)], nxt, st, M) := by
  unfold oB at h
  split at h
  · rename_i t e; cases h; exact ⟨t, e, rfl⟩
  · cases h
theorem oG_some {pc off : Int} {st : List Value} {M : AM} {q} (h : oG pc off st M = some q) : ∃ t : Nat, pc + off = (t : Int) ∧ q = (none, [], t, st, M) := by
  unfold oG at h
  split at h
  · rename_i t e; cases h; exact ⟨t, e, rfl⟩
  · cases h
theorem sel_b (p : Prop) (t n : Nat) : sel [(p, t)] n = @ite _ p (Classical.propDecidable p) t n := rfl
theorem vw_at (c : Nat) (hc : c < 13) : vwCl[c]? = some (rcl c, tcl c, ncl c) := by
  rcases (show c = 0 ∨ c = 1 ∨ c = 2 ∨ c = 3 ∨ c = 4 ∨ c = 5 ∨ c = 6 ∨ c = 7 ∨ c = 8 ∨ c = 9 ∨ c = 10 ∨ c = 11 ∨ c = 12 by omega) with rfl | rfl | rfl | rfl | rfl | rfl | rfl | rfl | rfl | rfl | rfl | rfl | rfl <;> rfl
theorem ty_at (c : Nat) (hc : c < 13) : (∀ k, k < ncl c → parseFieldDescriptor (tcl c k).2.2.1 = some (tyF c k)) ∧ (∀ a, a < ncl c → ∀ b, b < ncl c → a ≠ b → (tcl c a).2.1 ≠ (tcl c b).2.1) := by
  rcases (show c = 0 ∨ c = 1 ∨ c = 2 ∨ c = 3 ∨ c = 4 ∨ c = 5 ∨ c = 6 ∨ c = 7 ∨ c = 8 ∨ c = 9 ∨ c = 10 ∨ c = 11 ∨ c = 12 by omega) with rfl | rfl | rfl | rfl | rfl | rfl | rfl | rfl | rfl | rfl | rfl | rfl | rfl
  · exact ⟨tyX0_ok, nmX0⟩
  · exact ⟨tyX1_ok, nmX1⟩
  · exact ⟨tyX2_ok, nmX2⟩
  · exact ⟨tyX3_ok, nmX3⟩
  · exact ⟨tyX4_ok, nmX4⟩
  · exact ⟨tyX5_ok, nmX5⟩
  · exact ⟨tyX6_ok, nmX6⟩
  · exact ⟨tyX7_ok, nmX7⟩
  · exact ⟨tyX8_ok, nmX8⟩
  · exact ⟨tyX9_ok, nmX9⟩
  · exact ⟨tyX10_ok, nmX10⟩
  · exact ⟨tyX11_ok, nmX11⟩
  · exact ⟨tyX12_ok, nmX12⟩

theorem o0_some {pc : Nat} {st : List Value} {M : AM} {q} (h : o0 pc st M = some q) : q = (none, [], pc, st, M) := by unfold o0 at h; cases h; rfl
theorem oC_some {p : Prop} {pc : Nat} {st : List Value} {M : AM} {q} (h : oC p pc st M = some q) : q = (some p, [], pc, st, M) := by unfold oC at h; cases h; rfl
theorem dec_at {b : ByteArray} {pc : Nat} {i : Instr} (h : dec b pc i = true) : ∃ n, decode b pc = .ok (i, n) ∧ (isSw i = false → n = ile i) ∧ okI i = true := by
  unfold dec at h
  split at h
  · rename_i j n hd
    simp only [Bool.and_eq_true, decide_eq_true_eq, Bool.or_eq_true] at h
    obtain ⟨⟨rfl, h2⟩, h3⟩ := h
    refine ⟨n, hd, fun hs => ?_, h3⟩
    rcases h2 with h2 | h2
    · rw [hs] at h2; cases h2
    · exact Nat.eq_of_beq_eq_true h2
  · cases h
theorem dec_ok {b : ByteArray} {pc : Nat} {i : Instr} (h : dec b pc i = true) (hs : isSw i = false) : decode b pc = .ok (i, ile i) := by
  obtain ⟨n, h1, h2, -⟩ := dec_at h
  rw [h1, h2 hs]
theorem big_mem_l {own idx : Nat} {le : LE} (h : lk own idx = some le) : ∀ w ∈ lwd own (idx, le), w ∈ big := by
  intro w hw
  unfold lk at h
  cases hn : nth lks own with
  | none => rw [hn] at h; cases h
  | some l0 =>
    rw [hn] at h
    have hm := fnd_mem h
    have hl : ∀ c, own = c → nth lks c = some l0 := fun c e => by rw [← e]; exact hn
    have hlt : own < 16 := by
      rcases Nat.lt_or_ge own 16 with h1 | h1
      · exact h1
      · obtain ⟨k, rfl⟩ : ∃ k, own = k + 16 := ⟨own - 16, by omega⟩
        cases hn
    refine List.mem_append.mpr (Or.inl ?_)
    unfold lwds
    simp only [List.mem_append, List.mem_flatMap]
    rcases (show own = 0 ∨ own = 1 ∨ own = 2 ∨ own = 3 ∨ own = 4 ∨ own = 5 ∨ own = 6 ∨ own = 7 ∨ own = 8 ∨ own = 9 ∨ own = 10 ∨ own = 11 ∨ own = 12 ∨ own = 13 ∨ own = 14 ∨ own = 15 by omega) with e | e | e | e | e | e | e | e | e | e | e | e | e | e | e | e <;> subst e <;> cases hn
    · exact Or.inl ⟨_, hm, hw⟩
    · exact Or.inr (Or.inl ⟨_, hm, hw⟩)
    · exact Or.inr (Or.inr (Or.inl ⟨_, hm, hw⟩))
    · exact Or.inr (Or.inr (Or.inr (Or.inl ⟨_, hm, hw⟩)))
    · exact Or.inr (Or.inr (Or.inr (Or.inr (Or.inl ⟨_, hm, hw⟩))))
    · exact Or.inr (Or.inr (Or.inr (Or.inr (Or.inr (Or.inl ⟨_, hm, hw⟩)))))
    · exact Or.inr (Or.inr (Or.inr (Or.inr (Or.inr (Or.inr (Or.inl ⟨_, hm, hw⟩))))))
    · exact Or.inr (Or.inr (Or.inr (Or.inr (Or.inr (Or.inr (Or.inr (Or.inl ⟨_, hm, hw⟩)))))))
    · exact Or.inr (Or.inr (Or.inr (Or.inr (Or.inr (Or.inr (Or.inr (Or.inr (Or.inl ⟨_, hm, hw⟩))))))))
    · exact Or.inr (Or.inr (Or.inr (Or.inr (Or.inr (Or.inr (Or.inr (Or.inr (Or.inr (Or.inl ⟨_, hm, hw⟩)))))))))
    · exact Or.inr (Or.inr (Or.inr (Or.inr (Or.inr (Or.inr (Or.inr (Or.inr (Or.inr (Or.inr (Or.inl ⟨_, hm, hw⟩))))))))))
    · exact Or.inr (Or.inr (Or.inr (Or.inr (Or.inr (Or.inr (Or.inr (Or.inr (Or.inr (Or.inr (Or.inr (Or.inl ⟨_, hm, hw⟩)))))))))))
    · exact Or.inr (Or.inr (Or.inr (Or.inr (Or.inr (Or.inr (Or.inr (Or.inr (Or.inr (Or.inr (Or.inr (Or.inr (Or.inl ⟨_, hm, hw⟩))))))))))))
    · exact Or.inr (Or.inr (Or.inr (Or.inr (Or.inr (Or.inr (Or.inr (Or.inr (Or.inr (Or.inr (Or.inr (Or.inr (Or.inr (Or.inl ⟨_, hm, hw⟩)))))))))))))
    · exact Or.inr (Or.inr (Or.inr (Or.inr (Or.inr (Or.inr (Or.inr (Or.inr (Or.inr (Or.inr (Or.inr (Or.inr (Or.inr (Or.inr (Or.inl ⟨_, hm, hw⟩))))))))))))))
    · exact Or.inr (Or.inr (Or.inr (Or.inr (Or.inr (Or.inr (Or.inr (Or.inr (Or.inr (Or.inr (Or.inr (Or.inr (Or.inr (Or.inr (Or.inr (⟨_, hm, hw⟩)))))))))))))))
theorem big_mem_c {c : Nat} (hc : c < 13) : ∀ w ∈ cwd c, w ∈ big := fun w hw =>
  List.mem_append.mpr (Or.inr (List.mem_append.mpr (Or.inl (List.mem_flatMap.mpr ⟨c, List.mem_range.mpr hc, hw⟩))))
theorem big_mem_m {y : Nat} (hy : y ∈ yls) : ∀ w ∈ mwd y, w ∈ big := fun w hw =>
  List.mem_append.mpr (Or.inr (List.mem_append.mpr (Or.inr (List.mem_append.mpr (Or.inl (List.mem_flatMap.mpr ⟨y, hy, hw⟩))))))
theorem big_mem_x : ∀ w ∈ xwds, w ∈ big := fun w hw =>
  List.mem_append.mpr (Or.inr (List.mem_append.mpr (Or.inr (List.mem_append.mpr (Or.inr hw)))))
theorem big_mem_u {c : Nat} (hc : c < 13) : ∀ w ∈ u_ws (rcl c) (tcl c) (ncl c), w ∈ big := fun w hw => big_mem_c hc w (by unfold cwd; exact List.mem_cons_of_mem _ (List.mem_cons_of_mem _ hw))
/-- what every link says -/
def lkok (q : Nat × LE) : Bool := match q with
  | (_, 0, c, k, _) => Nat.ble (c + 1) 13 && Nat.ble (k + 1) (ncl c) && (match tyF c k with
    | .int => true
    | .boolean => true
    | .array _ => true
    | .object _ => true
    | _ => false) && decide ((tcl c k).1 = rcl c)
  | (_, 1, y, _, n) => yls.contains y && (Nat.beq n 0 || Nat.beq n 1)
  | (_, 2, c, _, _) => Nat.ble (c + 1) 13
  | _ => true
set_option maxRecDepth 100000 in
theorem lks_ok : lks.all (fun l => l.all lkok) = true := by decide +kernel
theorem lk_ok {own idx : Nat} {le : LE} (h : lk own idx = some le) : lkok (idx, le) = true := by
  unfold lk at h
  cases hn : nth lks own with
  | none => rw [hn] at h; cases h
  | some l0 =>
    rw [hn] at h
    exact List.all_eq_true.mp (List.all_eq_true.mp lks_ok _ (nth_mem hn)) _ (fnd_mem h)
def KXs (D : va_G) (ac : Nat → ClassId) (U : State) : Prop := va_K D vwCl (tys7 ac) U ∧ (∀ w ∈ nwds, va_Nw w U) ∧ va_AO RX2 U ∧ va_AO RX3 U ∧ va_AO RX4 U
/-- an object of the world -/
theorem WdH.obj {base b L : Nat} {xs : Nat → Int32} {D : va_G} {ac : Nat → ClassId} {M : AM} {H : Heap} (h : WdH base b L xs D ac M H) {a c : Nat} (hk : kd M a = c + 1) (hc : c < 13) : ∃ r, a = r + 2 ∧ r < nn M ∧ va_at D vwCl (base + r, .inr (c, (List.range (ncl c)).map fun k => rl base b (gfv M a k (tyF c k)))) H := by
  obtain ⟨r, h1, h2, h3⟩ := h.name (a := a) (by omega) (by omega) (by omega)
  rw [ent_obj hk hc] at h3
  exact ⟨r, h1, h2, h3⟩
theorem ent_20 {base b : Nat} {ac : Nat → ClassId} {M : AM} {r : Nat} (h : kd M r = 20) : ent base b ac M r = .inl (ac 20, ln M r, .inl (gi M r)) := by unfold ent; rw [if_pos h]
theorem ent_21 {base b : Nat} {ac : Nat → ClassId} {M : AM} {r : Nat} (h : kd M r = 21) : ent base b ac M r = .inl (ac 21, ln M r, .inl (gi M r)) := by unfold ent; rw [if_neg (by omega), if_pos h]
theorem ent_22 {base b : Nat} {ac : Nat → ClassId} {M : AM} {r : Nat} (h : kd M r = 22) : ent base b ac M r = .inl (ac 22, ln M r, .inl (gi M r)) := by unfold ent; rw [if_neg (by omega), if_neg (by omega), if_pos h]
theorem ent_23 {base b : Nat} {ac : Nat → ClassId} {M : AM} {r : Nat} (h : kd M r = 23) : ent base b ac M r = .inl (ac 23, ln M r, .inr (.inl (gl M r))) := by unfold ent; rw [if_neg (by omega), if_neg (by omega), if_neg (by omega), if_pos h]
theorem ent_rf {base b : Nat} {ac : Nat → ClassId} {M : AM} {r : Nat} (h1 : 24 ≤ kd M r) (h2 : kd M r ≤ 26) : ent base b ac M r = .inl (ac (kd M r), ln M r, .inr (.inr (.inr (.inr (fun j => rfo base b (gr M r j)))))) := by
  unfold ent
  rw [if_neg (by omega), if_neg (by omega), if_neg (by omega), if_neg (by omega)]
  rcases (show kd M r = 24 ∨ kd M r = 25 ∨ kd M r = 26 by omega) with h | h | h
  · rw [if_pos h, h]
  · rw [if_neg (by omega), if_pos h, h]
  · rw [if_neg (by omega), if_neg (by omega), if_pos h, h]
theorem one_P {D : va_G} {cl : List vw_C} {q : Nat × va_E} {H : Heap} (h : va_at D cl q H) : va_P D cl [q] H := by
  intro k z hz
  cases k with
  | zero => cases hz; exact h
  | succ k => cases hz
theorem t7_at {ac : Nat → ClassId} {k : Nat} (h1 : 20 ≤ k) (h2 : k ≤ 26) : (tys7 ac)[k - 20]? = some (ac k, akT k) := by
  rcases (show k = 20 ∨ k = 21 ∨ k = 22 ∨ k = 23 ∨ k = 24 ∨ k = 25 ∨ k = 26 by omega) with rfl | rfl | rfl | rfl | rfl | rfl | rfl <;> rfl
theorem map_range_set {n k : Nat} {f g : Nat → Value} (h : ∀ j, ¬ j = k → g j = f j) : ((List.range n).map f).set k (g k) = (List.range n).map g := by
  apply List.ext_getElem?
  intro j
  by_cases hj : j = k
  · subst hj
    by_cases hn : j < n
    · rw [List.getElem?_set_self (by simpa using hn)]
      simp [hn]
    · rw [List.getElem?_eq_none (by simp; omega), List.getElem?_eq_none (by simp; omega)]
  · rw [List.getElem?_set_ne (Ne.symm hj)]
    simp only [List.getElem?_map]
    cases hr : (List.range n)[j]? with
    | none => rfl
    | some z =>
      have : z = j := by
        have := List.getElem?_eq_some_iff.mp hr
        obtain ⟨_, h2⟩ := this
        simp at h2; exact h2.symm
      subst this
      simp [h _ hj]

