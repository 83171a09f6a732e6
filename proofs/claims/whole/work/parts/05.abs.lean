/-! ===== an abstract machine: memory as functions, the class's bytecode run over it ===== -/
/-- kind of a cell, length of an array, ints, longs, references (0: null), how many cells, how many slots -/
abbrev AM : Type := (Nat → Nat) × (Nat → Nat) × (Nat → Nat → Int32) × (Nat → Nat → Int64) × (Nat → Nat → Nat) × Nat × Nat
def u1 {α : Type} (f : Nat → α) (a : Nat) (v : α) : Nat → α := fun b => if b = a then v else f b
def kd (M : AM) : Nat → Nat := M.1
def ln (M : AM) : Nat → Nat := M.2.1
def gi (M : AM) : Nat → Nat → Int32 := M.2.2.1
def gl (M : AM) : Nat → Nat → Int64 := M.2.2.2.1
def gr (M : AM) : Nat → Nat → Nat := M.2.2.2.2.1
def nn (M : AM) : Nat := M.2.2.2.2.2.1
def us (M : AM) : Nat := M.2.2.2.2.2.2
def mk7 (k l : Nat → Nat) (i : Nat → Nat → Int32) (j : Nat → Nat → Int64) (r : Nat → Nat → Nat) (n u : Nat) : AM := (k, l, i, j, r, n, u)
def wi (M : AM) (a : Nat) (f : Nat → Int32) : AM := mk7 (kd M) (ln M) (u1 (gi M) a f) (gl M) (gr M) (nn M) (us M)
def wl (M : AM) (a : Nat) (f : Nat → Int64) : AM := mk7 (kd M) (ln M) (gi M) (u1 (gl M) a f) (gr M) (nn M) (us M)
def wr (M : AM) (a : Nat) (f : Nat → Nat) : AM := mk7 (kd M) (ln M) (gi M) (gl M) (u1 (gr M) a f) (nn M) (us M)
def si (M : AM) (a k : Nat) (v : Int32) : AM := wi M a (u1 (gi M a) k v)
def sl (M : AM) (a k : Nat) (v : Int64) : AM := wl M a (u1 (gl M a) k v)
def sr (M : AM) (a k : Nat) (v : Nat) : AM := wr M a (u1 (gr M a) k v)
/-- a new cell: its name is nn M + 2 (0: null, 1: the script) -/
def nw (M : AM) (k l n : Nat) : AM := mk7 (u1 (kd M) (nn M + 2) k) (u1 (ln M) (nn M + 2) l) (u1 (gi M) (nn M + 2) (fun _ => 0)) (u1 (gl M) (nn M + 2) (fun _ => 0)) (u1 (gr M) (nn M + 2) (fun _ => 0)) (nn M + 1) (us M + n)
abbrev Lo : Type := List (Nat × Value)
def kI (n : Int) : Int32 := Int32.ofInt n
def is2 : Value → Bool
  | .long _ => true
  | .double _ => true
  | _ => false
def kill (k : Nat) : Lo → Lo
  | [] => []
  | q :: r => cond (Nat.beq q.1 k) (kill k r) (q :: kill k r)
def prv (i : Nat) (l : Lo) : Lo := match i with
  | 0 => l
  | j + 1 => match fnd l j with
    | some v => cond (is2 v) (kill j l) l
    | none => l
def rm1 (i : Nat) (l : Lo) : Lo := kill i (prv i l)
def rm2 (i : Nat) (l : Lo) : Lo := kill (i + 1) (kill i (prv i l))
def pick : List Nat → Lo → Lo
  | [], _ => []
  | i :: r, lv => match fnd lv i with
    | some v => (i, v) :: pick r lv
    | none => pick r lv
/-- where a method stands: place, locals, stack, memory -/
abbrev Cf : Type := Nat × Lo × List Value × AM
abbrev Out : Type := Option ((Option Prop × List (Prop × Nat) × Cf) ⊕ (Option Prop × Nat × List Value × Cf) ⊕ (Option Prop × Option (Option Value) × AM))
abbrev St2 : Type := List Value × AM
/-- what an instruction that leaves the locals alone does: a check, branches, the place behind, stack and memory -/
abbrev Ou2 : Type := Option (Option Prop × List (Prop × Nat) × Nat × St2)
def o0 (pc : Nat) (st : List Value) (M : AM) : Ou2 := some (none, [], pc, st, M)
def oC (p : Prop) (pc : Nat) (st : List Value) (M : AM) : Ou2 := some (some p, [], pc, st, M)
def oB (p : Prop) (pc off : Int) (nxt : Nat) (st : List Value) (M : AM) : Ou2 := match pc + off with
  | .ofNat t => some (none, [(p, t)], nxt, st, M)
  | .negSucc _ => none
def oG (pc off : Int) (st : List Value) (M : AM) : Ou2 := match pc + off with
  | .ofNat t => some (none, [], t, st, M)
  | .negSucc _ => none
def p1 {α : Type} (st : List Value) (f : Int32 → List Value → Option α) : Option α := match st with
  | .int x :: r => f x r
  | _ => none
def p2 {α : Type} (st : List Value) (f : Int32 → Int32 → List Value → Option α) : Option α := match st with
  | .int y :: .int x :: r => f x y r
  | _ => none
def q1 {α : Type} (st : List Value) (f : Int64 → List Value → Option α) : Option α := match st with
  | .long x :: r => f x r
  | _ => none
def q2 {α : Type} (st : List Value) (f : Int64 → Int64 → List Value → Option α) : Option α := match st with
  | .long y :: .long x :: r => f x y r
  | _ => none
def r1 {α : Type} (st : List Value) (f : Nat → List Value → Option α) : Option α := match st with
  | .ref x :: r => f x r
  | _ => none
def ri {α : Type} (st : List Value) (f : Nat → Int32 → List Value → Option α) : Option α := match st with
  | .int x :: .ref a :: r => f a x r
  | _ => none
def rii {α : Type} (st : List Value) (f : Nat → Int32 → Int32 → List Value → Option α) : Option α := match st with
  | .int x :: .int j :: .ref a :: r => f a j x r
  | _ => none
def ril {α : Type} (st : List Value) (f : Nat → Int32 → Int64 → List Value → Option α) : Option α := match st with
  | .long x :: .int j :: .ref a :: r => f a j x r
  | _ => none
def rir {α : Type} (st : List Value) (f : Nat → Int32 → Nat → List Value → Option α) : Option α := match st with
  | .ref x :: .int j :: .ref a :: r => f a j x r
  | _ => none
def swt (x : Int32) (pc : Int) : Int → List Int → Option (List (Prop × Nat))
  | _, [] => some []
  | k, off :: r => match pc + off, swt x pc (k + 1) r with
    | .ofNat t, some l => some ((x.toInt = k, t) :: l)
    | _, _ => none
def swl (x : Int32) (pc : Int) : List (Int × Int) → Option (List (Prop × Nat))
  | [] => some []
  | (k, off) :: r => match pc + off, swl x pc r with
    | .ofNat t, some l => some ((x.toInt = k, t) :: l)
    | _, _ => none
def gfv (M : AM) (r k : Nat) : FieldType → Value
  | .int => .int (gi M r k)
  | .boolean => .int (gi M r k)
  | .array _ => .ref (gr M r k)
  | .object _ => .ref (gr M r k)
  | _ => .retAddr 0
def iak (own : Nat) : Nat := cond (Nat.beq own 13) 27 20
def bnar (k : Nat) (x : Int32) : Int32 := if k = 22 then vp_nar .byte x else vp_nar .boolean x
def akd : ArrayType → Nat
  | .int => 20
  | .boolean => 21
  | .byte => 22
  | .long => 23
  | _ => 0
def ivk (own : Nat) (idx pc : Nat) (st : List Value) (M : AM) : Option (Option Prop × Nat × List Value × Nat × St2) := match lk own idx with
  | some (1, y, _, _) => cond (Nat.ble (nar y) st.length && Nat.ble (((st.drop (nar y)).map fun v => cond (is2 v) 2 1).sum) 8)
    (cond (isi y)
      (match (st.take (nar y)).reverse with
        | .ref a :: r => some (some (kd M a = mcl y + 1), y, .ref a :: r, pc + 3, st.drop (nar y), M)
        | _ => none)
      (some (none, y, (st.take (nar y)).reverse, pc + 3, st.drop (nar y), M)))
    none
  | _ => none
/-- an instruction that leaves the locals alone -/
def isem2 (own : Nat) (ini : Bool) (i : Instr) (pc : Nat) (st : List Value) (M : AM) : Ou2 := match i with
  | .iconst n => o0 (pc + 1) (.int (kI n) :: st) M
  | .bipush n => o0 (pc + 2) (.int (kI n) :: st) M
  | .sipush n => o0 (pc + 3) (.int (kI n) :: st) M
  | .lconst n => o0 (pc + 1) (.long (Int64.ofNat n) :: st) M
  | .aconst_null => o0 (pc + 1) (.ref 0 :: st) M
  | .ldc idx => match lk own idx with
    | some (3, a, _, _) => o0 (pc + 2) (.int (Int32.ofNat a) :: st) M
    | _ => none
  | .ldc_w idx => match lk own idx with
    | some (3, a, _, _) => o0 (pc + 3) (.int (Int32.ofNat a) :: st) M
    | _ => none
  | .iadd => p2 st fun x y r => o0 (pc + 1) (.int (x + y) :: r) M
  | .isub => p2 st fun x y r => o0 (pc + 1) (.int (x - y) :: r) M
  | .imul => p2 st fun x y r => o0 (pc + 1) (.int (x * y) :: r) M
  | .iand => p2 st fun x y r => o0 (pc + 1) (.int (x &&& y) :: r) M
  | .ior => p2 st fun x y r => o0 (pc + 1) (.int (x ||| y) :: r) M
  | .idiv => p2 st fun x y r => oC (¬ y = 0) (pc + 1) (.int (x / y) :: r) M
  | .irem => p2 st fun x y r => oC (¬ y = 0) (pc + 1) (.int (x - x / y * y) :: r) M
  | .ineg => p1 st fun x r => o0 (pc + 1) (.int (-x) :: r) M
  | .ishl => p2 st fun x y r => o0 (pc + 1) (.int (x <<< (y &&& 31)) :: r) M
  | .ishr => p2 st fun x y r => o0 (pc + 1) (.int (x >>> (y &&& 31)) :: r) M
  | .iushr => p2 st fun x y r => o0 (pc + 1) (.int ((x.toUInt32 >>> (y.toUInt32 &&& Int32.toUInt32 31)).toInt32) :: r) M
  | .i2l => p1 st fun x r => o0 (pc + 1) (.long x.toInt64 :: r) M
  | .i2b => p1 st fun x r => o0 (pc + 1) (.int x.toInt8.toInt32 :: r) M
  | .i2s => p1 st fun x r => o0 (pc + 1) (.int x.toInt16.toInt32 :: r) M
  | .i2c => p1 st fun x r => o0 (pc + 1) (.int (x.toUInt32 % 65536).toInt32 :: r) M
  | .ladd => q2 st fun x y r => o0 (pc + 1) (.long (x + y) :: r) M
  | .lmul => q2 st fun x y r => o0 (pc + 1) (.long (x * y) :: r) M
  | .ldiv => q2 st fun x y r => oC (¬ y = 0) (pc + 1) (.long (x / y) :: r) M
  | .lrem => q2 st fun x y r => oC (¬ y = 0) (pc + 1) (.long (x - x / y * y) :: r) M
  | .lcmp => q2 st fun x y r => o0 (pc + 1) (.int (lg_cmp x y) :: r) M
  | .dup => match st with
    | .int x :: r => o0 (pc + 1) (.int x :: .int x :: r) M
    | .ref x :: r => o0 (pc + 1) (.ref x :: .ref x :: r) M
    | _ => none
  | .dup_x1 => match st with
    | .int x :: .ref y :: r => o0 (pc + 1) (.int x :: .ref y :: .int x :: r) M
    | _ => none
  | .dup2 => ri st fun a x r => o0 (pc + 1) (.int x :: .ref a :: .int x :: .ref a :: r) M
  | .pop => match st with
    | .int _ :: r => o0 (pc + 1) r M
    | .ref _ :: r => o0 (pc + 1) r M
    | _ => none
  | .ifCond c off => p1 st fun x r => match c with
    | .eq => oB (x = 0) pc off (pc + 3) r M
    | .ne => oB (¬ x = 0) pc off (pc + 3) r M
    | .lt => oB (x < 0) pc off (pc + 3) r M
    | .ge => oB (0 ≤ x) pc off (pc + 3) r M
    | .gt => oB (0 < x) pc off (pc + 3) r M
    | .le => oB (x ≤ 0) pc off (pc + 3) r M
  | .if_icmp c off => p2 st fun x y r => match c with
    | .eq => oB (x = y) pc off (pc + 3) r M
    | .ne => oB (¬ x = y) pc off (pc + 3) r M
    | .lt => oB (x < y) pc off (pc + 3) r M
    | .ge => oB (y ≤ x) pc off (pc + 3) r M
    | .gt => oB (y < x) pc off (pc + 3) r M
    | .le => oB (x ≤ y) pc off (pc + 3) r M
  | .ifnull off => r1 st fun a r => oB (a = 0) pc off (pc + 3) r M
  | .ifnonnull off => r1 st fun a r => oB (¬ a = 0) pc off (pc + 3) r M
  | .goto off => oG pc off st M
  | .tableswitch d lo _ offs => p1 st fun x r => match (pc : Int) + d, swt x pc lo offs.toList with
    | .ofNat t, some l => some (none, l, t, r, M)
    | _, _ => none
  | .lookupswitch d ps => p1 st fun x r => match (pc : Int) + d, swl x pc ps.toList with
    | .ofNat t, some l => some (none, l, t, r, M)
    | _, _ => none
  | .newarray t => cond (Nat.beq (akd t) 0) none (p1 st fun n r => oC (¬ n < 0 ∧ n.toNatClampNeg ≤ 4096) (pc + 2) (.ref (nn M + 2) :: r) (nw M (akd t) n.toNatClampNeg n.toNatClampNeg))
  | .anewarray idx => match lk own idx with
    | some (2, k, _, _) => cond (Nat.ble 2 k && Nat.ble k 4) (p1 st fun n r => oC (¬ n < 0 ∧ n.toNatClampNeg ≤ 4096) (pc + 3) (.ref (nn M + 2) :: r) (nw M (22 + k) n.toNatClampNeg n.toNatClampNeg)) none
    | _ => none
  | .arraylength => r1 st fun a r => oC (20 ≤ kd M a ∧ kd M a ≤ 27 ∧ ¬ (kd M a = 27 ∧ ¬ own = 13)) (pc + 1) (.int (Int32.ofNat (ln M a)) :: r) M
  | .iaload => ri st fun a j r => oC (kd M a = iak own ∧ vp_in j (ln M a)) (pc + 1) (.int (gi M a j.toNatClampNeg) :: r) M
  | .baload => ri st fun a j r => oC ((kd M a = 21 ∨ kd M a = 22) ∧ vp_in j (ln M a)) (pc + 1) (.int (gi M a j.toNatClampNeg) :: r) M
  | .laload => ri st fun a j r => oC (kd M a = 23 ∧ vp_in j (ln M a)) (pc + 1) (.long (gl M a j.toNatClampNeg) :: r) M
  | .aaload => ri st fun a j r => oC ((24 ≤ kd M a ∧ kd M a ≤ 26) ∧ vp_in j (ln M a)) (pc + 1) (.ref (gr M a j.toNatClampNeg) :: r) M
  | .iastore => rii st fun a j x r => oC (kd M a = 20 ∧ vp_in j (ln M a)) (pc + 1) r (si M a j.toNatClampNeg x)
  | .bastore => rii st fun a j x r => oC ((kd M a = 21 ∨ kd M a = 22) ∧ vp_in j (ln M a)) (pc + 1) r (si M a j.toNatClampNeg (bnar (kd M a) x))
  | .lastore => ril st fun a j x r => oC (kd M a = 23 ∧ vp_in j (ln M a)) (pc + 1) r (sl M a j.toNatClampNeg x)
  | .aastore => rir st fun a j x r => oC ((24 ≤ kd M a ∧ kd M a ≤ 26) ∧ kd M a = kd M x + 21 ∧ vp_in j (ln M a)) (pc + 1) r (sr M a j.toNatClampNeg x)
  | .getfield idx => match lk own idx with
    | some (0, c, k, _) => r1 st fun a r => oC (kd M a = c + 1) (pc + 3) (gfv M a k (tyF c k) :: r) M
    | _ => none
  | .putfield idx => match lk own idx with
    | some (0, c, k, _) => cond (!(finF c k) || (ini && Nat.beq own c))
      (match tyF c k with
        | .int => ri st fun a x r => oC (kd M a = c + 1) (pc + 3) r (si M a k x)
        | .boolean => ri st fun a x r => oC (kd M a = c + 1 ∧ (x = 0 ∨ x = 1)) (pc + 3) r (si M a k x)
        | .array _ => match st with
          | .ref v :: .ref a :: r => oC (kd M a = c + 1) (pc + 3) r (sr M a k v)
          | _ => none
        | .object _ => match st with
          | .ref v :: .ref a :: r => oC (kd M a = c + 1) (pc + 3) r (sr M a k v)
          | _ => none
        | _ => none)
      none
    | _ => none
  | .new idx => match lk own idx with
    | some (2, c, _, _) => o0 (pc + 3) (.ref (nn M + 2) :: st) (nw M (c + 1) 0 (ncl c))
    | _ => none
  | .invokestatic idx => match lk own idx with
    | some (6, _, _, _) => match st with
      | [.int n, .int dp, .ref b, .int sp, .ref a] => oC ((kd M a = 20 ∧ kd M b = 20) ∧ (¬ sp < 0 ∧ ¬ dp < 0 ∧ ¬ n < 0) ∧ sp.toNatClampNeg + n.toNatClampNeg ≤ ln M a ∧ dp.toNatClampNeg + n.toNatClampNeg ≤ ln M b) (pc + 3) [] (wi M b (va_cpy (gi M a) (gi M b) sp.toNatClampNeg dp.toNatClampNeg n.toNatClampNeg))
      | _ => none
    | some (1, y, _, _) => cond (Nat.beq y 1920)
      (p1 st fun x r => cond (Nat.ble ((r.map fun v => cond (is2 v) 2 1).sum) 8) (o0 (pc + 3) (.int (if 0 ≤ x then x else 0 - x) :: r) M) none)
      (cond (Nat.beq y 1921)
        (p2 st fun x z r => cond (Nat.ble ((r.map fun v => cond (is2 v) 2 1).sum) 8) (o0 (pc + 3) (.int (if x < z then z else x) :: r) M) none)
        (cond (Nat.beq y 1922)
          (p2 st fun x z r => cond (Nat.ble ((r.map fun v => cond (is2 v) 2 1).sum) 8) (o0 (pc + 3) (.int (if z < x then z else x) :: r) M) none)
          none))
    | _ => none
  | .invokespecial idx => match lk own idx with
    | some (4, _, _, _) => match st with
      | [.ref a] => oC (¬ a = 0) (pc + 3) [] M
      | _ => none
    | _ => none
  | _ => none
def ldL (lv : Lo) (i pc : Nat) (st : List Value) (M : AM) (ok : Value → Bool) : Out := match fnd lv i with
  | some v => cond (ok v) (some (.inl (none, [], pc, lv, v :: st, M))) none
  | none => none
def isI : Value → Bool
  | .int _ => true
  | _ => false
def isJ : Value → Bool
  | .long _ => true
  | _ => false
def isR : Value → Bool
  | .ref _ => true
  | _ => false
def stL (mx : Nat) (lv : Lo) (i pc : Nat) (st : List Value) (M : AM) (ok : Value → Bool) : Out := match st with
  | v :: r => cond (ok v && Nat.ble (i + 1) mx) (some (.inl (none, [], pc, (i, v) :: rm1 i lv, r, M))) none
  | [] => none
def stJ (mx : Nat) (lv : Lo) (i pc : Nat) (st : List Value) (M : AM) : Out := match st with
  | .long x :: r => cond (Nat.ble (i + 2) mx) (some (.inl (none, [], pc, (i, .long x) :: rm2 i lv, r, M))) none
  | _ => none
/-- the instructions that read or write locals: which, its local, its length, a number -/
def locI : Instr → Option (Nat × Nat × Nat × Int)
  | .iload k => some (0, k, 2, 0)
  | .iload_n k => some (0, k, 1, 0)
  | .lload k => some (1, k, 2, 0)
  | .lload_n k => some (1, k, 1, 0)
  | .aload k => some (2, k, 2, 0)
  | .aload_n k => some (2, k, 1, 0)
  | .istore k => some (3, k, 2, 0)
  | .istore_n k => some (3, k, 1, 0)
  | .astore k => some (4, k, 2, 0)
  | .astore_n k => some (4, k, 1, 0)
  | .lstore k => some (5, k, 2, 0)
  | .lstore_n k => some (5, k, 1, 0)
  | .iinc k n => some (6, k, 3, n)
  | _ => none
def locX (mx : Nat) (q : Nat × Nat × Nat × Int) (pc : Nat) (lv : Lo) (st : List Value) (M : AM) : Out := match q with
  | (0, k, n, _) => ldL lv k (pc + n) st M isI
  | (1, k, n, _) => ldL lv k (pc + n) st M isJ
  | (2, k, n, _) => ldL lv k (pc + n) st M isR
  | (3, k, n, _) => stL mx lv k (pc + n) st M isI
  | (4, k, n, _) => stL mx lv k (pc + n) st M isR
  | (5, k, n, _) => stJ mx lv k (pc + n) st M
  | (_, k, n, x) => match fnd lv k with
    | some (.int v) => cond (Nat.ble (k + 1) mx) (some (.inl (none, [], pc + n, (k, .int (v + kI x)) :: rm1 k lv, st, M))) none
    | _ => none
abbrev Ou3 : Type := Option ((Option Prop × List (Prop × Nat) × Nat × St2) ⊕ (Option Prop × Nat × List Value × Nat × St2) ⊕ (Option Prop × Option (Option Value) × AM))
def up2 (o : Ou2) : Ou3 := match o with
  | some q => some (.inl q)
  | none => none
def up3 (lv : Lo) (o : Ou3) : Out := match o with
  | some (.inl (c, b, p, st, M)) => some (.inl (c, b, p, lv, st, M))
  | some (.inr (.inl (c, y, as, p, st, M))) => some (.inr (.inl (c, y, as, p, lv, st, M)))
  | some (.inr (.inr q)) => some (.inr (.inr q))
  | none => none
def cal3 (own idx pc : Nat) (st : List Value) (M : AM) (ok : Nat → Bool) : Ou3 := match ivk own idx pc st M with
  | some (c, y', q) => cond (ok y') (some (.inr (.inl (c, y', q)))) none
  | none => none
/-- link 5 is the class of what is thrown -/
def isem3 (y own : Nat) (i : Instr) (pc : Nat) (st : List Value) (M : AM) : Ou3 := match i with
  | .invokevirtual idx => cal3 own idx pc st M fun y' => isi y' && !(inS y')
  | .invokestatic idx => match lk own idx with
    | some (1, y', _, _) => cond (Nat.ble 1920 y') (up2 (isem2 own (inS y) i pc st M)) (cal3 own idx pc st M fun y' => !(isi y') && !(Nat.ble 1920 y'))
    | _ => up2 (isem2 own (inS y) i pc st M)
  | .invokespecial idx => match lk own idx with
    | some (1, _, _, _) => cal3 own idx pc st M fun y' => inS y' && isi y'
    | _ => up2 (isem2 own (inS y) i pc st M)
  | .new idx => match lk own idx with
    | some (5, _, _, _) => cond (thr y pc && st.isEmpty) (some (.inr (.inr (none, none, nw M 30 0 6)))) none
    | _ => up2 (isem2 own (inS y) i pc st M)
  | .ireturn => match st with
    | [.int x] => some (.inr (.inr (match mrt y with
        | some .boolean => some (x = 0 ∨ x = 1)
        | some .int => none
        | _ => some False, some (some (.int x)), M)))
    | _ => none
  | .lreturn => match st with
    | [.long x] => some (.inr (.inr (match mrt y with
        | some .long => none
        | _ => some False, some (some (.long x)), M)))
    | _ => none
  | .areturn => match st with
    | [.ref x] => some (.inr (.inr (match mrt y with
        | some (.object _) => none
        | some (.array _) => none
        | _ => some False, some (some (.ref x)), M)))
    | _ => none
  | .return_ => match st with
    | [] => some (.inr (.inr (match mrt y with
        | none => none
        | _ => some False, some none, M)))
    | _ => none
  | i => up2 (isem2 own (inS y) i pc st M)
def isem (y own : Nat) (i : Instr) (pc : Nat) (lv : Lo) (st : List Value) (M : AM) : Out := match locI i with
  | some q => locX (mxl y) q pc lv st M
  | none => up3 lv (isem3 y own i pc st M)
def entL : Nat → List Value → Lo
  | _, [] => []
  | i, v :: r => (i, v) :: entL (cond (is2 v) (i + 2) (i + 1)) r
def szL : List Value → Nat
  | [] => 0
  | v :: r => cond (is2 v) 2 1 + szL r
def ckp : Option Prop → Prop
  | none => True
  | some p => p
noncomputable def sel : List (Prop × Nat) → Nat → Nat
  | [], d => d
  | (c, p) :: r, d => @ite _ c (Classical.propDecidable c) p (sel r d)
abbrev Re : Type := Option (Option Value) × AM
noncomputable def cee (rn : Nat → Cf → Option Re) (y' : Nat) (as : List Value) (M : AM) : Option Re := match prm y' as with
  | some v => some (some (some v), M)
  | none => rn y' (0, entL 0 as, [], M)
noncomputable def aft (rn : Cf → Option Re) (y pc pc' : Nat) (lv : Lo) (st : List Value) (g : Option Re) : Option Re := match g with
  | some (some v, M) => rn (pc', lv, v.toList ++ st, M)
  | some (none, M) => match han y pc with
    | some (h, k) => rn (h, rm1 k lv, [], M)
    | none => none
  | none => none
/-- the machine: n steps at most, calls d deep at most -/
noncomputable def run : Nat → Nat → Nat → Cf → Option Re
  | 0, _, _, _ => none
  | n + 1, d, y, (pc, lv, st, M) => match ins y pc with
    | none => none
    | some i => match isem y (mcl y) i pc lv st M with
      | none => none
      | some (.inl (c, b, p, lv', st', M')) => @ite _ (ckp c) (Classical.propDecidable _) (run n d y (sel b p, lv', st', M')) none
      | some (.inr (.inl (c, y', as, pc', lv', st', M'))) => @ite _ (ckp c ∧ szL as ≤ mxl y') (Classical.propDecidable _) (match d with
        | 0 => none
        | d' + 1 => aft (run n (d' + 1) y) y pc pc' lv' st' (cee (run n d') y' as M')) none
      | some (.inr (.inr (c, v, M'))) => @ite _ (ckp c) (Classical.propDecidable _) (some (v, M')) none
