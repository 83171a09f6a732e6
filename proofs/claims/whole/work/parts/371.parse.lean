/-! ===== the reference's reading of a text, against the scanner's: pure rows ===== -/
/-- what a code, as a list, leaves on the stack -/
noncomputable def evL (th : Int32 → Int32) (l : List Nat) : Option (List Int32) := l.foldl (fun o c => match o with | some st => stp th (nI c) st | none => none) (some [])
theorem evL_s (th : Int32 → Int32) (l : List Nat) (c : Nat) {st : List Int32} (h : evL th l = some st) : evL th (l ++ [c]) = stp th (nI c) st := by
  unfold evL at h ⊢
  rw [List.foldl_append, h]; rfl
theorem evL_evn {th : Int32 → Int32} {cd : Nat → Int32} {l : List Nat} : ∀ {n : Nat}, n ≤ l.length → (∀ q, q < n → cd q = nI (l.getD q 0)) → evn th cd n = evL th (l.take n)
  | 0, _, _ => rfl
  | n + 1, h, e => by
    have ih := evL_evn (th := th) (cd := cd) (l := l) (n := n) (by omega) fun q hq => e q (by omega)
    have et : l.take (n + 1) = l.take n ++ [l.getD n 0] := by
      rw [List.take_succ, List.getD_eq_getElem?_getD, List.getElem?_eq_getElem (show n < l.length by omega)]; rfl
    rw [evn, ih, et]
    cases hc : evL th (l.take n) with
    | some st => rw [evL_s th _ _ hc, e n (by omega)]
    | none =>
      unfold evL at hc ⊢
      rw [List.foldl_append, hc]; rfl
def up1 (l : List Nat) : List Nat := l.map (1000 + ·)
theorem up1_a (l : List Nat) (x : Nat) : up1 (l ++ [x]) = up1 l ++ [1000 + x] := by unfold up1; rw [List.map_append]; rfl
def hdW : List Nat → Nat
  | [] => 0
  | x :: _ => stN x
theorem popW_stop {s : Nat} {cd wt : List Nat} (h : hdW wt < s) : popW s cd wt = (cd, wt) := by
  cases wt with
  | nil => rfl
  | cons x r => unfold popW; rw [if_neg (by simpa [hdW] using h)]
theorem popW_pre {s : Nat} {wt : List Nat} (h : hdW wt < s) : ∀ {pre cd : List Nat}, (∀ y, y ∈ pre → s ≤ stN y) → popW s cd (pre ++ wt) = (cd ++ up1 pre, wt)
  | [], cd, _ => by rw [List.nil_append, popW_stop h]; unfold up1; rw [List.map_nil, List.append_nil]
  | y :: pre, cd, hp => by
    rw [List.cons_append]
    unfold popW
    rw [if_pos (hp y (by simp)), popW_pre h (pre := pre) (fun z hz => hp z (by simp [hz]))]
    unfold up1
    rw [List.append_assoc]; rfl
/-- signs of text as signed bytes -/
def sb (b : Nat) : Int32 := (nI b).toInt8.toInt32
theorem sb_eq : ∀ b, b < 256 → ∀ c, c < 128 → (sb b = nI c ↔ b = c) := by
  intro b hb c hc
  have h1 : ∀ b, b < 256 → (b < 128 → sb b = nI b) ∧ (128 ≤ b → sb b < 0) := by decide +kernel
  by_cases q : b < 128
  · rw [(h1 b hb).1 q, nI_eq (by omega) (by omega)]
  · have := (h1 b hb).2 (by omega)
    constructor
    · intro e; rw [e] at this; exact absurd this (nI_pos (by omega))
    · intro e; omega
theorem sb_dig : ∀ b, b < 256 → ((nI 48 ≤ sb b ∧ sb b ≤ nI 57) ↔ isDg b = true) := by decide +kernel
theorem sb_dv : ∀ b, b < 256 → isDg b = true → sb b = nI b ∧ 48 ≤ b ∧ b ≤ 57 := by decide +kernel
theorem m1_c : ∀ c, c < 128 → ¬ kI (-1) = nI c := by decide
theorem m1_d : ¬ (nI 48 ≤ kI (-1) ∧ kI (-1) ≤ nI 57) := by decide
/-- how a sign binds, as ints and as numbers -/
theorem stI_N : ∀ b, b < 256 → stI (nI (1000 + b) - nI 1000) = nI (stN b) := by decide +kernel
theorem isLt_0 : ∀ b, b < 256 → isLt b = true → stN b = 0 := by decide +kernel
theorem stI_num (v : Nat) (h : v < 1000) : stI (nI v - nI 1000) = 0 := by
  have e : (nI v - nI 1000).toInt = (v : Int) - 1000 := pk_sub_toInt (by omega) (by decide)
  unfold stI
  rw [e]
  simp only [if_neg (show ¬ ((v : Int) - 1000 = 33) by omega), if_neg (show ¬ ((v : Int) - 1000 = 38) by omega), if_neg (show ¬ ((v : Int) - 1000 = 43) by omega), if_neg (show ¬ ((v : Int) - 1000 = 45) by omega), if_neg (show ¬ ((v : Int) - 1000 = 60) by omega), if_neg (show ¬ ((v : Int) - 1000 = 61) by omega), if_neg (show ¬ ((v : Int) - 1000 = 62) by omega), if_neg (show ¬ ((v : Int) - 1000 = 124) by omega), if_neg (show ¬ ((v : Int) - 1000 = 126) by omega)]
  rfl
theorem stp_num {th : Int32 → Int32} (hN : ∀ v, v < 1000 → th (nI v) = nI v) {v : Nat} (h : v < 1000) (st : List Int32) : stp th (nI v) st = some (nI v :: st) := by
  unfold stp; rw [if_pos (stI_num v h), hN v h]
theorem stp_let {th : Int32 → Int32} {b : Nat} (hb : b < 256) (h : isLt b = true) (st : List Int32) : stp th (nI (1000 + b)) st = some (th (nI (1000 + b)) :: st) := by
  unfold stp; rw [if_pos (by rw [stI_N b hb, isLt_0 b hb h]; rfl)]
theorem c1000 (b : Nat) : nI (1000 + b) - nI 1000 = nI b := by rw [pk_sub (by omega), Nat.add_sub_cancel_left]
theorem stp_un {th : Int32 → Int32} {b : Nat} (hb : b < 256) (h : stN b = 5) (x : Int32) (st : List Int32) : stp th (nI (1000 + b)) (x :: st) = some (jnI (nI b) x (nI 0) :: st) := by
  unfold stp; rw [if_neg (by rw [stI_N b hb, h]; decide), if_pos (by rw [stI_N b hb, h]; decide), c1000]
theorem stp_bi {th : Int32 → Int32} {b : Nat} (hb : b < 256) (h : 1 ≤ stN b ∧ stN b ≤ 4) (y x : Int32) (st : List Int32) : stp th (nI (1000 + b)) (y :: x :: st) = some (jnI (nI b) x y :: st) := by
  unfold stp
  rw [if_neg (by rw [stI_N b hb]; exact nI_ne0 (by omega) (by omega)), if_neg (by rw [stI_N b hb]; exact nI_nlt h.2 (by decide)), c1000]
/-- a link is taken: what binds as strongly is written -/
theorem tk_link {cd pre wt : List Nat} {m : Nat → Bool} {br dg b : Nat} (hb : b = 43 ∨ b = 45 ∨ b = 60 ∨ b = 61 ∨ b = 62 ∨ b = 38 ∨ b = 124) (hc : stN b = 3 → m br = false) (hp : ∀ y, y ∈ pre → stN b ≤ stN y) (hw : hdW wt < stN b) :
    tk (cd, pre ++ wt, m, br, dg, false) b = some (cd ++ up1 pre, b :: wt, (fun q => if q = br ∧ stN b ≤ 3 then decide (stN b = 3) else m q), br, dg, true) := by
  have h1 : isDg b = false ∧ ¬ b = 41 ∧ ¬ stN b = 0 ∧ ¬ 4 < stN b := by rcases hb with rfl | rfl | rfl | rfl | rfl | rfl | rfl <;> decide
  have h2 : ¬ (stN b = 0 ∨ 4 < stN b ∨ (stN b = 3 ∧ m br = true)) := by
    rintro (h | h | ⟨h, h'⟩)
    · exact h1.2.2.1 h
    · exact h1.2.2.2 h
    · rw [hc h] at h'; cases h'
  unfold tk
  simp only [h1.1, Bool.false_eq_true, if_false, if_neg h1.2.1, if_neg h2, popW_pre hw hp]
/-- nothing is taken -/
theorem tk_none {cd wt : List Nat} {m : Nat → Bool} {br dg b : Nat} (hd : isDg b = true → dg = 0 ∨ 3 ≤ dg) (h41 : b = 41 → br = 0) (h1 : b ≠ 43 ∧ b ≠ 45 ∧ b ≠ 38 ∧ b ≠ 124) (h3 : (b = 60 ∨ b = 61 ∨ b = 62) → m br = true) : tk (cd, wt, m, br, dg, false) b = none := by
  unfold tk
  by_cases q : isDg b = true
  · simp only [q, if_true]
    rw [if_pos (by rcases hd q with h | h; exact Or.inl h; exact Or.inr (Or.inl h))]
  · simp only [q, Bool.false_eq_true, if_false]
    by_cases q2 : b = 41
    · rw [if_pos q2, if_pos (h41 q2)]
    · rw [if_neg q2, if_pos]
      by_cases e3 : b = 60 ∨ b = 61 ∨ b = 62
      · refine Or.inr (Or.inr ⟨?_, h3 e3⟩)
        rcases e3 with rfl | rfl | rfl <;> rfl
      · unfold stN
        by_cases e5 : b = 33
        · subst e5; exact Or.inr (Or.inl (by decide))
        by_cases e6 : b = 126
        · subst e6; exact Or.inr (Or.inl (by decide))
        left
        rw [if_neg e5, if_neg h1.2.2.1, if_neg h1.1, if_neg h1.2.1, if_neg (fun e => e3 (Or.inl e)), if_neg (fun e => e3 (Or.inr (Or.inl e))), if_neg (fun e => e3 (Or.inr (Or.inr e))), if_neg h1.2.2.2, if_neg e6]
theorem scn_s {t : Nat → Nat} {p : Nat} {s s' : Sc} (h : scn t p = some s) (h2 : tk s (t p) = some s') : scn t (p + 1) = some s' := by
  rw [scn, h]; exact h2
