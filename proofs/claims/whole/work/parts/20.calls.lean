theorem WC_of {d y : Nat} {as : List Value} {M : AM} {Q : Option (Option Value) → AM → Prop} (h : prm y as = none) (k : WP d y (0, entL 0 as, [], M) Q) : WC d y as M Q := by
  obtain ⟨n, r, h1, h2⟩ := k
  refine ⟨n, r, ?_, h2⟩
  unfold cee
  rw [h]
  exact h1
/-- calls by what they answer -/
def WV (d y : Nat) (as : List Value) (M : AM) (K : AM → Prop) : Prop := WC d y as M fun r M2 => r = some none ∧ K M2
def WI (d y : Nat) (as : List Value) (M : AM) (K : Int32 → AM → Prop) : Prop := WC d y as M fun r M2 => ∃ x : Int32, r = some (some (.int x)) ∧ K x M2
def WL (d y : Nat) (as : List Value) (M : AM) (K : Int64 → AM → Prop) : Prop := WC d y as M fun r M2 => ∃ x : Int64, r = some (some (.long x)) ∧ K x M2
def WR (d y : Nat) (as : List Value) (M : AM) (K : Nat → AM → Prop) : Prop := WC d y as M fun r M2 => ∃ x : Nat, r = some (some (.ref x)) ∧ K x M2
def WX (d y : Nat) (as : List Value) (M : AM) (K : Int32 → AM → Prop) (X : AM → Prop) : Prop := WC d y as M fun r M2 => (∃ x : Int32, r = some (some (.int x)) ∧ K x M2) ∨ (r = none ∧ X M2)
def WY (d y : Nat) (as : List Value) (M : AM) (K : Int64 → AM → Prop) (X : AM → Prop) : Prop := WC d y as M fun r M2 => (∃ x : Int64, r = some (some (.long x)) ∧ K x M2) ∨ (r = none ∧ X M2)
