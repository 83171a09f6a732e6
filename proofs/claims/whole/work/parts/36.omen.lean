/-! ===== signs: what a code is worth ===== -/
def stI (x : Int32) : Int32 := if x.toInt = 33 then nI 5 else if x.toInt = 38 then nI 2 else if x.toInt = 43 then nI 4 else if x.toInt = 45 then nI 4 else if x.toInt = 60 then nI 3 else if x.toInt = 61 then nI 3 else if x.toInt = 62 then nI 3 else if x.toInt = 124 then nI 1 else if x.toInt = 126 then nI 5 else nI 0
noncomputable def jnI (x l r : Int32) : Int32 := if x.toInt = 33 then bi (l = 0) else if x.toInt = 38 then bi (¬ l = 0 ∧ ¬ r = 0) else if x.toInt = 43 then l + r else if x.toInt = 45 then l - r else if x.toInt = 60 then bi (l < r) else if x.toInt = 61 then bi (l = r) else if x.toInt = 62 then bi (r < l) else if x.toInt = 124 then bi (¬ l = 0 ∨ ¬ r = 0) else -l
set_option maxRecDepth 100000 in
theorem s_386 (d : Nat) (X : XS) (i : Nat → Nat → Int32) (j : Nat → Nat → Int64) (a0 : Int32) (K : Int32 → AM → Prop) (h : ((a0.toInt = 33 → K (nI 5) (mm X i j)) ∧ (¬ (a0.toInt = 33) → ((a0.toInt = 38 → K (nI 2) (mm X i j)) ∧ (¬ (a0.toInt = 38) → ((a0.toInt = 43 → K (nI 4) (mm X i j)) ∧ (¬ (a0.toInt = 43) → ((a0.toInt = 45 → K (nI 4) (mm X i j)) ∧ (¬ (a0.toInt = 45) → ((a0.toInt = 60 → K (nI 3) (mm X i j)) ∧ (¬ (a0.toInt = 60) → ((a0.toInt = 61 → K (nI 3) (mm X i j)) ∧ (¬ (a0.toInt = 61) → ((a0.toInt = 62 → K (nI 3) (mm X i j)) ∧ (¬ (a0.toInt = 62) → ((a0.toInt = 124 → K (nI 1) (mm X i j)) ∧ (¬ (a0.toInt = 124) → ((a0.toInt = 126 → K (nI 5) (mm X i j)) ∧ (¬ (a0.toInt = 126) → K (nI 0) (mm X i j)))))))))))))))))))) : WI d 386 [.int a0] (mm X i j) K := te_386 d a0 (mm X i j) (qI K) ⟨fun e1 => ⟨_, rfl, (h.1 e1)⟩, fun e1 => ⟨fun e2 => ⟨_, rfl, ((h.2 e1).1 e2)⟩, fun e2 => ⟨fun e3 => ⟨_, rfl, (((h.2 e1).2 e2).1 e3)⟩, fun e3 => ⟨fun e4 => ⟨_, rfl, ((((h.2 e1).2 e2).2 e3).1 e4)⟩, fun e4 => ⟨fun e5 => ⟨_, rfl, (((((h.2 e1).2 e2).2 e3).2 e4).1 e5)⟩, fun e5 => ⟨fun e6 => ⟨_, rfl, ((((((h.2 e1).2 e2).2 e3).2 e4).2 e5).1 e6)⟩, fun e6 => ⟨fun e7 => ⟨_, rfl, (((((((h.2 e1).2 e2).2 e3).2 e4).2 e5).2 e6).1 e7)⟩, fun e7 => ⟨fun e8 => ⟨_, rfl, ((((((((h.2 e1).2 e2).2 e3).2 e4).2 e5).2 e6).2 e7).1 e8)⟩, fun e8 => ⟨fun e9 => ⟨_, rfl, (((((((((h.2 e1).2 e2).2 e3).2 e4).2 e5).2 e6).2 e7).2 e8).1 e9)⟩, fun e9 => ⟨_, rfl, (((((((((h.2 e1).2 e2).2 e3).2 e4).2 e5).2 e6).2 e7).2 e8).2 e9)⟩⟩⟩⟩⟩⟩⟩⟩⟩⟩
set_option maxRecDepth 100000 in
theorem s_389 (d : Nat) (X : XS) (i : Nat → Nat → Int32) (j : Nat → Nat → Int64) (a0 : Int32) (a1 : Int32) (a2 : Int32) (K : Int32 → AM → Prop) (h : ((a0.toInt = 33 → ((¬ (a1 = 0) → K (nI 0) (mm X i j)) ∧ (a1 = 0 → K (nI 1) (mm X i j)))) ∧ (¬ (a0.toInt = 33) → ((a0.toInt = 38 → ((a1 = 0 → K (nI 0) (mm X i j)) ∧ (¬ (a1 = 0) → ((a2 = 0 → K (nI 0) (mm X i j)) ∧ (¬ (a2 = 0) → K (nI 1) (mm X i j)))))) ∧ (¬ (a0.toInt = 38) → ((a0.toInt = 43 → K (a1 + a2) (mm X i j)) ∧ (¬ (a0.toInt = 43) → ((a0.toInt = 45 → K (a1 - a2) (mm X i j)) ∧ (¬ (a0.toInt = 45) → ((a0.toInt = 60 → ((a2 ≤ a1 → K (nI 0) (mm X i j)) ∧ (¬ (a2 ≤ a1) → K (nI 1) (mm X i j)))) ∧ (¬ (a0.toInt = 60) → ((a0.toInt = 61 → ((¬ (a1 = a2) → K (nI 0) (mm X i j)) ∧ (a1 = a2 → K (nI 1) (mm X i j)))) ∧ (¬ (a0.toInt = 61) → ((a0.toInt = 62 → ((a1 ≤ a2 → K (nI 0) (mm X i j)) ∧ (¬ (a1 ≤ a2) → K (nI 1) (mm X i j)))) ∧ (¬ (a0.toInt = 62) → ((a0.toInt = 124 → ((¬ (a1 = 0) → K (nI 1) (mm X i j)) ∧ (a1 = 0 → ((a2 = 0 → K (nI 0) (mm X i j)) ∧ (¬ (a2 = 0) → K (nI 1) (mm X i j)))))) ∧ (¬ (a0.toInt = 124) → K (-a1) (mm X i j)))))))))))))))))) : WI d 389 [.int a0, .int a1, .int a2] (mm X i j) K := te_389 d a0 a1 a2 (mm X i j) (qI K) ⟨fun e1 => ⟨fun e2 => ⟨_, rfl, ((h.1 e1).1 (e2))⟩, fun e2 => ⟨_, rfl, ((h.1 e1).2 ((Classical.byContradiction e2)))⟩⟩, fun e1 => ⟨fun e3 => ⟨fun e4 => ⟨_, rfl, (((h.2 e1).1 e3).1 (e4))⟩, fun e4 => ⟨fun e5 => ⟨_, rfl, ((((h.2 e1).1 e3).2 (e4)).1 (e5))⟩, fun e5 => ⟨_, rfl, ((((h.2 e1).1 e3).2 (e4)).2 (e5))⟩⟩⟩, fun e3 => ⟨fun e6 => ⟨_, rfl, (((h.2 e1).2 e3).1 e6)⟩, fun e6 => ⟨fun e7 => ⟨_, rfl, ((((h.2 e1).2 e3).2 e6).1 e7)⟩, fun e7 => ⟨fun e8 => ⟨fun e9 => ⟨_, rfl, ((((((h.2 e1).2 e3).2 e6).2 e7).1 e8).1 (e9))⟩, fun e9 => ⟨_, rfl, ((((((h.2 e1).2 e3).2 e6).2 e7).1 e8).2 (e9))⟩⟩, fun e8 => ⟨fun e10 => ⟨fun e11 => ⟨_, rfl, (((((((h.2 e1).2 e3).2 e6).2 e7).2 e8).1 e10).1 (e11))⟩, fun e11 => ⟨_, rfl, (((((((h.2 e1).2 e3).2 e6).2 e7).2 e8).1 e10).2 ((Classical.byContradiction e11)))⟩⟩, fun e10 => ⟨fun e12 => ⟨fun e13 => ⟨_, rfl, ((((((((h.2 e1).2 e3).2 e6).2 e7).2 e8).2 e10).1 e12).1 (e13))⟩, fun e13 => ⟨_, rfl, ((((((((h.2 e1).2 e3).2 e6).2 e7).2 e8).2 e10).1 e12).2 (e13))⟩⟩, fun e12 => ⟨fun e14 => ⟨fun e15 => ⟨_, rfl, (((((((((h.2 e1).2 e3).2 e6).2 e7).2 e8).2 e10).2 e12).1 e14).1 (e15))⟩, fun e15 => ⟨fun e16 => ⟨_, rfl, ((((((((((h.2 e1).2 e3).2 e6).2 e7).2 e8).2 e10).2 e12).1 e14).2 ((Classical.byContradiction e15))).1 (e16))⟩, fun e16 => ⟨_, rfl, ((((((((((h.2 e1).2 e3).2 e6).2 e7).2 e8).2 e10).2 e12).1 e14).2 ((Classical.byContradiction e15))).2 (e16))⟩⟩⟩, fun e14 => ⟨_, rfl, ((((((((h.2 e1).2 e3).2 e6).2 e7).2 e8).2 e10).2 e12).2 e14)⟩⟩⟩⟩⟩⟩⟩⟩⟩
theorem p_386 (d : Nat) (X : XS) (i : Nat → Nat → Int32) (j : Nat → Nat → Int64) (a0 : Int32) (K : Int32 → AM → Prop) (h : K (stI a0) (mm X i j)) : WI d 386 [.int a0] (mm X i j) K := by
  unfold stI at h
  refine s_386 d X i j a0 K ?_
  refine br_c (fun z => ?_) (fun z => ?_)
  · rw [if_pos z] at h; exact h
  rw [if_neg z] at h; refine br_c (fun z => ?_) (fun z => ?_)
  · rw [if_pos z] at h; exact h
  rw [if_neg z] at h; refine br_c (fun z => ?_) (fun z => ?_)
  · rw [if_pos z] at h; exact h
  rw [if_neg z] at h; refine br_c (fun z => ?_) (fun z => ?_)
  · rw [if_pos z] at h; exact h
  rw [if_neg z] at h; refine br_c (fun z => ?_) (fun z => ?_)
  · rw [if_pos z] at h; exact h
  rw [if_neg z] at h; refine br_c (fun z => ?_) (fun z => ?_)
  · rw [if_pos z] at h; exact h
  rw [if_neg z] at h; refine br_c (fun z => ?_) (fun z => ?_)
  · rw [if_pos z] at h; exact h
  rw [if_neg z] at h; refine br_c (fun z => ?_) (fun z => ?_)
  · rw [if_pos z] at h; exact h
  rw [if_neg z] at h; refine br_c (fun z => ?_) (fun z => ?_)
  · rw [if_pos z] at h; exact h
  rw [if_neg z] at h; exact h
theorem b_c {P : Prop} {K : Int32 → Prop} (h : K (bi P)) : (P → K (nI 1)) ∧ (¬ P → K (nI 0)) := ⟨fun z => by rw [bi_t z] at h; exact h, fun z => by rw [bi_f z] at h; exact h⟩
theorem p_389 (d : Nat) (X : XS) (i : Nat → Nat → Int32) (j : Nat → Nat → Int64) (a0 a1 a2 : Int32) (K : Int32 → AM → Prop) (h : K (jnI a0 a1 a2) (mm X i j)) : WI d 389 [.int a0, .int a1, .int a2] (mm X i j) K := by
  unfold jnI at h
  refine s_389 d X i j a0 a1 a2 K ?_
  refine br_c (fun z => ?_) (fun z => ?_)
  · rw [if_pos z] at h
    obtain ⟨h1, h2⟩ := b_c (K := fun x => K x (mm X i j)) h
    exact ⟨h2, h1⟩
  rw [if_neg z] at h; refine br_c (fun z => ?_) (fun z => ?_)
  · rw [if_pos z] at h
    obtain ⟨h1, h2⟩ := b_c (K := fun x => K x (mm X i j)) h
    exact br_c (fun y => h2 fun w => w.1 y) (fun y => br_c (fun y2 => h2 fun w => w.2 y2) (fun y2 => h1 ⟨y, y2⟩))
  rw [if_neg z] at h; refine br_c (fun z => ?_) (fun z => ?_)
  · rw [if_pos z] at h; exact h
  rw [if_neg z] at h; refine br_c (fun z => ?_) (fun z => ?_)
  · rw [if_pos z] at h; exact h
  rw [if_neg z] at h; refine br_c (fun z => ?_) (fun z => ?_)
  · rw [if_pos z] at h
    obtain ⟨h1, h2⟩ := b_c (K := fun x => K x (mm X i j)) h
    exact br_c (fun y => h2 fun w => absurd y (Int32.not_le.mpr w)) (fun y => h1 (Int32.not_le.mp y))
  rw [if_neg z] at h; refine br_c (fun z => ?_) (fun z => ?_)
  · rw [if_pos z] at h
    obtain ⟨h1, h2⟩ := b_c (K := fun x => K x (mm X i j)) h
    exact ⟨h2, h1⟩
  rw [if_neg z] at h; refine br_c (fun z => ?_) (fun z => ?_)
  · rw [if_pos z] at h
    obtain ⟨h1, h2⟩ := b_c (K := fun x => K x (mm X i j)) h
    exact br_c (fun y => h2 fun w => absurd y (Int32.not_le.mpr w)) (fun y => h1 (Int32.not_le.mp y))
  rw [if_neg z] at h; refine br_c (fun z => ?_) (fun z => ?_)
  · rw [if_pos z] at h
    obtain ⟨h1, h2⟩ := b_c (K := fun x => K x (mm X i j)) h
    exact bq_c (fun y => h1 (Or.inl y)) (fun y => br_c (fun y2 => h2 fun w => w.elim (fun w => w y) (fun w => w y2)) (fun y2 => h1 (Or.inr y2)))
  rw [if_neg z] at h; exact h
/-- a step of a code: th what a thing is worth -/
noncomputable def stp (th : Int32 → Int32) (c : Int32) (st : List Int32) : Option (List Int32) :=
  if stI (c - nI 1000) = 0 then some (th c :: st)
  else if nI 4 < stI (c - nI 1000) then (match st with
    | x :: r => some (jnI (c - nI 1000) x (nI 0) :: r)
    | [] => none)
  else (match st with
    | y :: x :: r => some (jnI (c - nI 1000) x y :: r)
    | _ => none)
noncomputable def evn (th : Int32 → Int32) (cd : Nat → Int32) : Nat → Option (List Int32)
  | 0 => some []
  | n + 1 => match evn th cd n with
    | some st => stp th (cd n) st
    | none => none
def top1 (o : Option (List Int32)) : Int32 := match o with
  | some (v :: _) => v
  | _ => 0
theorem evn_none {th : Int32 → Int32} {cd : Nat → Int32} {e : Nat} (h : evn th cd e = none) : ∀ n, e ≤ n → evn th cd n = none := by
  intro n hn
  induction n with
  | zero => have : e = 0 := by omega
            subst this; exact h
  | succ n ih =>
    by_cases he : e = n + 1
    · subst he; exact h
    · rw [evn, ih (by omega)]
def Stk (f : Nat → Int32) : List Int32 → Prop
  | [] => True
  | x :: r => f r.length = x ∧ Stk f r
theorem Stk.up {f g : Nat → Int32} : ∀ {st : List Int32}, Stk f st → (∀ q, q < st.length → g q = f q) → Stk g st
  | [], _, _ => trivial
  | x :: r, h, e => ⟨(e _ (by simp)).trans h.1, h.2.up fun q hq => e q (by simp; omega)⟩
theorem stp_len {th : Int32 → Int32} {c : Int32} {st st' : List Int32} (h : stp th c st = some st') : st'.length ≤ st.length + 1 := by
  unfold stp at h
  split at h
  · cases h; simp
  · split at h
    · split at h
      · cases h; simp
      · cases h
    · split at h
      · cases h; simp
      · cases h
set_option maxRecDepth 100000 in
theorem s_387 (d : Nat) (X : XS) (i : Nat → Nat → Int32) (j : Nat → Nat → Int64) (a0 : Nat) (h0 : OO X a0) (a1 : Nat) (h1 : DO X a1) (a2 : Int32) (K : Int32 → AM → Prop) (h : WP (d + 2) 387 (5, [(0, .ref a0), (1, .ref a1), (2, .int a2), (3, .int (nI 0)), (4, .int (nI 0))], [], (mm X i j)) (qI K)) : WI (d + 2) 387 [.ref a0, .ref a1, .int a2] (mm X i j) K := te_387 (d + 1) a0 a1 a2 (mm X i j) (qI K) h
set_option maxRecDepth 100000 in
theorem s_387_5 (d : Nat) (X : XS) (i : Nat → Nat → Int32) (j : Nat → Nat → Int64) (v0 : Nat) (h0 : OO X v0) (v1 : Nat) (h1 : DO X v1) (v2 : Int32) (v3 : Int32) (v4 : Int32) (Q : Option (Option Value) → AM → Prop) (h : (((Int32.ofNat (xl X (xr X v0 1))) ≤ v4 → ((v3 ≤ 0 → Q (some (some (.int (nI 0)))) (mm X i j)) ∧ (¬ (v3 ≤ 0) → (vp_in (v3 - (nI 1)) (xl X (xr X v0 2))) ∧ Q (some (some (.int (i (xr X v0 2) ((v3 - (nI 1)).toNatClampNeg))))) (mm X i j)))) ∧ (¬ ((Int32.ofNat (xl X (xr X v0 1))) ≤ v4) → (vp_in v4 (xl X (xr X v0 1))) ∧ ((¬ ((stI ((i (xr X v0 1) ((v4).toNatClampNeg)) - (nI 1000))) = 0) → (((stI ((i (xr X v0 1) ((v4).toNatClampNeg)) - (nI 1000))) ≤ (nI 4) → (((v3 - (nI 2)) < 0 → Q (some (some (.int (nI 0)))) (mm X i j)) ∧ (¬ ((v3 - (nI 2)) < 0) → (((v3 - (nI 2)) < (Int32.ofNat (xl X (xr X v0 2))) → (((Int32.ofNat (xl X (xr X v0 2))) ≤ ((v3 - (nI 2)) + (nI 1)) → (vp_in (v3 - (nI 2)) (xl X (xr X v0 2))) ∧ WP (d + 2) 387 (5, [(0, .ref v0), (1, .ref v1), (2, .int v2), (3, .int ((v3 - (nI 2)) + (nI 1))), (4, .int (v4 + (nI 1)))], [], (mm X (s2 i (xr X v0 2) ((v3 - (nI 2)).toNatClampNeg) (jnI ((i (xr X v0 1) ((v4).toNatClampNeg)) - (nI 1000)) (i (xr X v0 2) ((v3 - (nI 2)).toNatClampNeg)) (nI 0))) j)) Q) ∧ (¬ ((Int32.ofNat (xl X (xr X v0 2))) ≤ ((v3 - (nI 2)) + (nI 1))) → (vp_in ((v3 - (nI 2)) + (nI 1)) (xl X (xr X v0 2))) ∧ (vp_in (v3 - (nI 2)) (xl X (xr X v0 2))) ∧ WP (d + 2) 387 (5, [(0, .ref v0), (1, .ref v1), (2, .int v2), (3, .int ((v3 - (nI 2)) + (nI 1))), (4, .int (v4 + (nI 1)))], [], (mm X (s2 i (xr X v0 2) ((v3 - (nI 2)).toNatClampNeg) (jnI ((i (xr X v0 1) ((v4).toNatClampNeg)) - (nI 1000)) (i (xr X v0 2) ((v3 - (nI 2)).toNatClampNeg)) (i (xr X v0 2) (((v3 - (nI 2)) + (nI 1)).toNatClampNeg)))) j)) Q))) ∧ (¬ ((v3 - (nI 2)) < (Int32.ofNat (xl X (xr X v0 2)))) → Q (some (some (.int (nI 0)))) (mm X i j)))))) ∧ (¬ ((stI ((i (xr X v0 1) ((v4).toNatClampNeg)) - (nI 1000))) ≤ (nI 4)) → (((v3 - (nI 1)) < 0 → Q (some (some (.int (nI 0)))) (mm X i j)) ∧ (¬ ((v3 - (nI 1)) < 0) → (((v3 - (nI 1)) < (Int32.ofNat (xl X (xr X v0 2))) → (vp_in (v3 - (nI 1)) (xl X (xr X v0 2))) ∧ WP (d + 2) 387 (5, [(0, .ref v0), (1, .ref v1), (2, .int v2), (3, .int ((v3 - (nI 1)) + (nI 1))), (4, .int (v4 + (nI 1)))], [], (mm X (s2 i (xr X v0 2) ((v3 - (nI 1)).toNatClampNeg) (jnI ((i (xr X v0 1) ((v4).toNatClampNeg)) - (nI 1000)) (i (xr X v0 2) ((v3 - (nI 1)).toNatClampNeg)) (nI 0))) j)) Q) ∧ (¬ ((v3 - (nI 1)) < (Int32.ofNat (xl X (xr X v0 2)))) → Q (some (some (.int (nI 0)))) (mm X i j)))))))) ∧ ((stI ((i (xr X v0 1) ((v4).toNatClampNeg)) - (nI 1000))) = 0 → (((v3 - (nI 0)) < 0 → Q (some (some (.int (nI 0)))) (mm X i j)) ∧ (¬ ((v3 - (nI 0)) < 0) → (((v3 - (nI 0)) < (Int32.ofNat (xl X (xr X v0 2))) → (∃ (x19 : Int32), EvI (d + 1) 388 [.ref v0, .int (i (xr X v0 1) ((v4).toNatClampNeg)), .ref v1, .int v2] (mm X i j) x19 (mm X i j) ∧ (vp_in (v3 - (nI 0)) (xl X (xr X v0 2))) ∧ WP (d + 2) 387 (5, [(0, .ref v0), (1, .ref v1), (2, .int v2), (3, .int ((v3 - (nI 0)) + (nI 1))), (4, .int (v4 + (nI 1)))], [], (mm X (s2 i (xr X v0 2) ((v3 - (nI 0)).toNatClampNeg) x19) j)) Q)) ∧ (¬ ((v3 - (nI 0)) < (Int32.ofNat (xl X (xr X v0 2)))) → Q (some (some (.int (nI 0)))) (mm X i j)))))))))) : WP (d + 2) 387 (5, [(0, .ref v0), (1, .ref v1), (2, .int v2), (3, .int v3), (4, .int v4)], [], mm X i j) Q := tc_387_5 (d + 1) v0 v1 v2 v3 v4 (mm X i j) Q ⟨h0.1, ⟨(al_k h0.2.2.1), ⟨fun e1 => ⟨fun e2 => ((h.1 (e1)).1 (e2)), fun e2 => ⟨h0.1, ⟨⟨h0.2.2.2, ((h.1 (e1)).2 (e2)).1⟩, ((h.1 (e1)).2 (e2)).2⟩⟩⟩, fun e1 => ⟨h0.1, ⟨⟨h0.2.2.1, (h.2 (e1)).1⟩, (p_386 (d + 1) X i j ((i (xr X v0 1) ((v4).toNatClampNeg)) - (nI 1000)) _ ⟨fun e3 => ⟨fun e4 => (tc_387_57 (d + 1) v0 v1 v2 v3 v4 ((i (xr X v0 1) ((v4).toNatClampNeg)) - (nI 1000)) (nI 2) (mm X i j) _ ⟨fun e5 => ((((h.2 (e1)).2.1 (e3)).1 (e4)).1 (e5)), fun e5 => ⟨h0.1, ⟨(al_k h0.2.2.2), ⟨fun e6 => ⟨fun e7 => absurd e7 (by decide), fun _ => ⟨h0.1, ⟨(al_k h0.2.2.2), ⟨fun e8 => (tc_387_108 (d + 1) v0 v1 v2 (v3 - (nI 2)) v4 ((i (xr X v0 1) ((v4).toNatClampNeg)) - (nI 1000)) (nI 2) (nI 0) (mm X i j) _ ⟨h0.1, ⟨fun _ => ⟨h0.1, ⟨⟨h0.2.2.2, ((((((h.2 (e1)).2.1 (e3)).1 (e4)).2 (e5)).1 (e6)).1 (e8)).1⟩, (p_389 (d + 1) X i j ((i (xr X v0 1) ((v4).toNatClampNeg)) - (nI 1000)) (i (xr X v0 2) ((v3 - (nI 2)).toNatClampNeg)) (nI 0) _ ⟨⟨h0.2.2.2, ((((((h.2 (e1)).2.1 (e3)).1 (e4)).2 (e5)).1 (e6)).1 (e8)).1⟩, (tc_387_148 (d + 1) v0 v1 v2 (v3 - (nI 2)) v4 (mm X (s2 i (xr X v0 2) ((v3 - (nI 2)).toNatClampNeg) (jnI ((i (xr X v0 1) ((v4).toNatClampNeg)) - (nI 1000)) (i (xr X v0 2) ((v3 - (nI 2)).toNatClampNeg)) (nI 0))) j) _ ((((((h.2 (e1)).2.1 (e3)).1 (e4)).2 (e5)).1 (e6)).1 (e8)).2)⟩)⟩⟩, fun e9 => absurd (by decide) e9⟩⟩), fun e8 => ⟨h0.1, ⟨⟨h0.2.2.2, ((((((h.2 (e1)).2.1 (e3)).1 (e4)).2 (e5)).1 (e6)).2 (e8)).1⟩, (tc_387_108 (d + 1) v0 v1 v2 (v3 - (nI 2)) v4 ((i (xr X v0 1) ((v4).toNatClampNeg)) - (nI 1000)) (nI 2) (i (xr X v0 2) (((v3 - (nI 2)) + (nI 1)).toNatClampNeg)) (mm X i j) _ ⟨h0.1, ⟨fun _ => ⟨h0.1, ⟨⟨h0.2.2.2, ((((((h.2 (e1)).2.1 (e3)).1 (e4)).2 (e5)).1 (e6)).2 (e8)).2.1⟩, (p_389 (d + 1) X i j ((i (xr X v0 1) ((v4).toNatClampNeg)) - (nI 1000)) (i (xr X v0 2) ((v3 - (nI 2)).toNatClampNeg)) (i (xr X v0 2) (((v3 - (nI 2)) + (nI 1)).toNatClampNeg)) _ ⟨⟨h0.2.2.2, ((((((h.2 (e1)).2.1 (e3)).1 (e4)).2 (e5)).1 (e6)).2 (e8)).2.1⟩, (tc_387_148 (d + 1) v0 v1 v2 (v3 - (nI 2)) v4 (mm X (s2 i (xr X v0 2) ((v3 - (nI 2)).toNatClampNeg) (jnI ((i (xr X v0 1) ((v4).toNatClampNeg)) - (nI 1000)) (i (xr X v0 2) ((v3 - (nI 2)).toNatClampNeg)) (i (xr X v0 2) (((v3 - (nI 2)) + (nI 1)).toNatClampNeg)))) j) _ ((((((h.2 (e1)).2.1 (e3)).1 (e4)).2 (e5)).1 (e6)).2 (e8)).2.2)⟩)⟩⟩, fun e10 => absurd (by decide) e10⟩⟩)⟩⟩⟩⟩⟩⟩, fun e6 => (((((h.2 (e1)).2.1 (e3)).1 (e4)).2 (e5)).2 (e6))⟩⟩⟩⟩), fun e4 => (tc_387_57 (d + 1) v0 v1 v2 v3 v4 ((i (xr X v0 1) ((v4).toNatClampNeg)) - (nI 1000)) (nI 1) (mm X i j) _ ⟨fun e11 => ((((h.2 (e1)).2.1 (e3)).2 (e4)).1 (e11)), fun e11 => ⟨h0.1, ⟨(al_k h0.2.2.2), ⟨fun e12 => ⟨fun _ => (tc_387_108 (d + 1) v0 v1 v2 (v3 - (nI 1)) v4 ((i (xr X v0 1) ((v4).toNatClampNeg)) - (nI 1000)) (nI 1) (nI 0) (mm X i j) _ ⟨h0.1, ⟨fun _ => ⟨h0.1, ⟨⟨h0.2.2.2, (((((h.2 (e1)).2.1 (e3)).2 (e4)).2 (e11)).1 (e12)).1⟩, (p_389 (d + 1) X i j ((i (xr X v0 1) ((v4).toNatClampNeg)) - (nI 1000)) (i (xr X v0 2) ((v3 - (nI 1)).toNatClampNeg)) (nI 0) _ ⟨⟨h0.2.2.2, (((((h.2 (e1)).2.1 (e3)).2 (e4)).2 (e11)).1 (e12)).1⟩, (tc_387_148 (d + 1) v0 v1 v2 (v3 - (nI 1)) v4 (mm X (s2 i (xr X v0 2) ((v3 - (nI 1)).toNatClampNeg) (jnI ((i (xr X v0 1) ((v4).toNatClampNeg)) - (nI 1000)) (i (xr X v0 2) ((v3 - (nI 1)).toNatClampNeg)) (nI 0))) j) _ (((((h.2 (e1)).2.1 (e3)).2 (e4)).2 (e11)).1 (e12)).2)⟩)⟩⟩, fun e14 => absurd (by decide) e14⟩⟩), fun e13 => absurd (by decide) e13⟩, fun e12 => (((((h.2 (e1)).2.1 (e3)).2 (e4)).2 (e11)).2 (e12))⟩⟩⟩⟩)⟩, fun e3 => (tc_387_57 (d + 1) v0 v1 v2 v3 v4 ((i (xr X v0 1) ((v4).toNatClampNeg)) - (nI 1000)) (nI 0) (mm X i j) _ ⟨fun e15 => (((h.2 (e1)).2.2 ((Classical.byContradiction e3))).1 (e15)), fun e15 => ⟨h0.1, ⟨(al_k h0.2.2.2), ⟨fun e16 => ⟨fun _ => (tc_387_108 (d + 1) v0 v1 v2 (v3 - (nI 0)) v4 ((i (xr X v0 1) ((v4).toNatClampNeg)) - (nI 1000)) (nI 0) (nI 0) (mm X i j) _ ⟨h0.1, ⟨fun e18 => absurd e18 (by decide), fun _ => ⟨h0.1, ⟨⟨h0.2.2.1, (h.2 (e1)).1⟩, ⟨h0.1, (Exists.elim ((((h.2 (e1)).2.2 ((Classical.byContradiction e3))).2 (e15)).1 (e16)) fun x19 h20 => EvI.use h20.1 ⟨⟨h0.2.2.2, h20.2.1⟩, (tc_387_148 (d + 1) v0 v1 v2 (v3 - (nI 0)) v4 (mm X (s2 i (xr X v0 2) ((v3 - (nI 0)).toNatClampNeg) x19) j) _ h20.2.2)⟩)⟩⟩⟩⟩⟩), fun e17 => absurd (by decide) e17⟩, fun e16 => ((((h.2 (e1)).2.2 ((Classical.byContradiction e3))).2 (e15)).2 (e16))⟩⟩⟩⟩)⟩)⟩⟩⟩⟩⟩
theorem c_387 (d : Nat) (X : XS) (i : Nat → Nat → Int32) (j : Nat → Nat → Int64) (s : Nat) (hs : OO X s) (o : Nat) (ho : DO X o) {cl t : Nat} (hc : cl ≤ 40) (l1 : xl X (xr X s 1) = cl) (l2 : xl X (xr X s 2) = cl) (n12 : xr X s 1 ≠ xr X s 2) {th : Int32 → Int32}
    (hth : ∀ i1 : Nat → Nat → Int32, (∀ b, b ≠ xr X s 2 → i1 b = i b) → ∀ c, EvI (d + 1) 388 [.ref s, .int c, .ref o, .int (nI t)] (mm X i1 j) (th c) (mm X i1 j)) :
    ∃ i', EvI (d + 2) 387 [.ref s, .ref o, .int (nI t)] (mm X i j) (top1 (evn th (i (xr X s 1)) cl)) (mm X i' j) ∧ (∀ b, b ≠ xr X s 2 → i' b = i b) := by
  have main : WI (d + 2) 387 [.ref s, .ref o, .int (nI t)] (mm X i j) (fun x M2 => ∃ i', x = top1 (evn th (i (xr X s 1)) cl) ∧ M2 = mm X i' j ∧ (∀ b, b ≠ xr X s 2 → i' b = i b)) := by
    refine s_387 d X i j s hs o ho _ _ ?_
    refine lup cl (fun e (q : List Int32 × (Nat → Nat → Int32)) => q.1.length ≤ e ∧ evn th (i (xr X s 1)) e = some q.1 ∧ Stk (q.2 (xr X s 2)) q.1 ∧ (∀ b, b ≠ xr X s 2 → q.2 b = i b))
      (fun e q => (5, [(0, .ref s), (1, .ref o), (2, .int (nI t)), (3, .int (nI q.1.length)), (4, .int (nI e))], [], mm X q.2 j)) ?_ ?_ 0 ([], i) (Nat.zero_le _) ⟨Nat.le_refl _, rfl, trivial, fun _ _ => rfl⟩
    · rintro ⟨st, i1⟩ ⟨hl, he, hS, hf⟩
      dsimp only at hl he hS hf ⊢
      refine s_387_5 d X i1 j s hs o ho _ _ _ _ (br_t (by rw [l1]; exact Int32.le_refl _) ?_)
      cases st with
      | nil => exact br_t (Int32.le_refl _) (qI_of ⟨i1, by rw [he]; rfl, rfl, hf⟩)
      | cons x r =>
        simp only [List.length_cons] at hl ⊢
        refine br_f (nI_nle (by omega) (by omega)) ?_
        rw [show nI (r.length + 1) - nI 1 = nI r.length from pk_sub (by omega), tc_nI (by omega), l2]
        exact ⟨vp_in_nI (by omega) (by omega), qI_of ⟨i1, by rw [he, hS.1]; rfl, rfl, hf⟩⟩
    · rintro e ⟨st, i1⟩ hel ⟨hl, he, hS, hf⟩ go
      dsimp only at hl he hS hf ⊢
      have ec : i1 (xr X s 1) = i (xr X s 1) := hf _ n12
      refine s_387_5 d X i1 j s hs o ho _ _ _ _ (br_f (by rw [l1]; exact nI_ge hel (by omega)) ⟨by rw [l1]; exact vp_in_nI hel (by omega), ?_⟩)
      rw [tc_nI (by omega), ec]
      have fail : ∀ x, x = nI 0 → stp th (i (xr X s 1) e) st = none → qI (fun x M2 => ∃ i', x = top1 (evn th (i (xr X s 1)) cl) ∧ M2 = mm X i' j ∧ (∀ b, b ≠ xr X s 2 → i' b = i b)) (some (some (.int x))) (mm X i1 j) := by
        intro x hx hn
        have : evn th (i (xr X s 1)) (e + 1) = none := by rw [evn, he]; exact hn
        exact qI_of ⟨i1, by rw [evn_none this cl (by omega), hx]; rfl, rfl, hf⟩
      have next : ∀ (v : Int32) (r : List Int32), r.length ≤ e → stp th (i (xr X s 1) e) st = some (v :: r) → Stk (i1 (xr X s 2)) r → WP (d + 2) 387 (5, [(0, .ref s), (1, .ref o), (2, .int (nI t)), (3, .int (nI r.length + nI 1)), (4, .int (nI e + nI 1))], [], mm X (s2 i1 (xr X s 2) r.length v) j) (qI (fun x M2 => ∃ i', x = top1 (evn th (i (xr X s 1)) cl) ∧ M2 = mm X i' j ∧ (∀ b, b ≠ xr X s 2 → i' b = i b))) := by
        intro v r hr hst hSr
        rw [nI_add, nI_add]
        refine go (v :: r, s2 i1 (xr X s 2) r.length v) ⟨by simp; omega, by rw [evn, he]; exact hst, ⟨s2_self _ _ _ _, hSr.up fun q hq => s2_ne2 (by omega)⟩, fun b hb => by dsimp only; rw [s2_ne hb]; exact hf b hb⟩
      refine bq_c (fun z1 => br_c (fun z2 => ?_) (fun z2 => ?_)) (fun z1 => ?_)
      · have hst : ∀ st0, st0 = st → stp th (i (xr X s 1) e) st0 = (match st0 with
          | y :: x :: r => some (jnI (i (xr X s 1) e - nI 1000) x y :: r)
          | _ => none) := fun st0 _ => by unfold stp; rw [if_neg z1, if_neg (Int32.not_lt.mpr z2)]
        have hst := hst st rfl
        match st, hl, hS, hst, fail, next with
        | [], hl, hS, hst, fail, next => exact br_t (pk_sneg (by decide) (by decide)) (fail _ rfl hst)
        | [y], hl, hS, hst, fail, next => exact br_t (pk_sneg (by decide) (by simp)) (fail _ rfl hst)
        | y :: x :: r, hl, hS, hst, fail, next =>
          simp only [List.length_cons] at hl ⊢
          rw [show nI (r.length + 1 + 1) - nI 2 = nI r.length from pk_sub (by omega), nI_add, tc_nI (by omega), tc_nI (by omega), l2]
          have h1 := hS.1
          have h2 := hS.2.1
          simp only [List.length_cons] at h1
          refine br_f (nI_pos (by omega)) (br_t (nI_lt (by omega) (by omega)) (br_f (nI_ge (by omega) (by omega)) ⟨vp_in_nI (by omega) (by omega), vp_in_nI (by omega) (by omega), ?_⟩))
          rw [h1, h2, ← nI_add]
          exact next _ r (by omega) hst hS.2.2
      · have hst : ∀ st0, st0 = st → stp th (i (xr X s 1) e) st0 = (match st0 with
          | x :: r => some (jnI (i (xr X s 1) e - nI 1000) x (nI 0) :: r)
          | [] => none) := fun st0 _ => by unfold stp; rw [if_neg z1, if_pos (Int32.not_le.mp z2)]
        have hst := hst st rfl
        match st, hl, hS, hst, fail, next with
        | [], hl, hS, hst, fail, next => exact br_t (pk_sneg (by decide) (by decide)) (fail _ rfl hst)
        | x :: r, hl, hS, hst, fail, next =>
          simp only [List.length_cons] at hl ⊢
          rw [show nI (r.length + 1) - nI 1 = nI r.length from pk_sub (by omega), tc_nI (by omega), l2]
          refine br_f (nI_pos (by omega)) (br_t (nI_lt (by omega) (by omega)) ⟨vp_in_nI (by omega) (by omega), ?_⟩)
          rw [hS.1]
          exact next _ r (by omega) hst hS.2
      · rw [show nI st.length - nI 0 = nI st.length from pk_sub (by omega), tc_nI (by omega), l2]
        refine br_f (nI_pos (by omega)) (br_t (nI_lt (by omega) (by omega)) ⟨_, hth i1 hf _, vp_in_nI (by omega) (by omega), ?_⟩)
        refine next _ st (by omega) ?_ hS
        unfold stp; rw [if_pos z1]
  obtain ⟨n1, ⟨r, M2⟩, h1, x, h2, i', h3, h4, h5⟩ := main
  dsimp only at h2 h4
  subst h2; subst h4; subst h3
  exact ⟨i', ⟨n1, _, h1, _, rfl, rfl, rfl⟩, h5⟩
