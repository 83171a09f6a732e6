/-! ===== memory of fixed names: what the two constructors made, and the law's own array, have the names 2 to 77 ===== -/
def KD (a : Nat) : Nat := (cond (Nat.ble a 39) (cond (Nat.ble a 20) (cond (Nat.ble a 10) (cond (Nat.ble a 5) (cond (Nat.ble a 3) (cond (Nat.ble a 2) (cond (Nat.ble a 1) (cond (Nat.beq a 1) 27 0) (cond (Nat.beq a 2) 12 0)) (cond (Nat.beq a 3) 1 0)) (cond (Nat.ble a 4) (cond (Nat.beq a 4) 20 0) (cond (Nat.beq a 5) 20 0))) (cond (Nat.ble a 8) (cond (Nat.ble a 7) (cond (Nat.ble a 6) (cond (Nat.beq a 6) 21 0) (cond (Nat.beq a 7) 20 0)) (cond (Nat.beq a 8) 20 0)) (cond (Nat.ble a 9) (cond (Nat.beq a 9) 2 0) (cond (Nat.beq a 10) 20 0)))) (cond (Nat.ble a 15) (cond (Nat.ble a 13) (cond (Nat.ble a 12) (cond (Nat.ble a 11) (cond (Nat.beq a 11) 20 0) (cond (Nat.beq a 12) 20 0)) (cond (Nat.beq a 13) 2 0)) (cond (Nat.ble a 14) (cond (Nat.beq a 14) 20 0) (cond (Nat.beq a 15) 20 0))) (cond (Nat.ble a 18) (cond (Nat.ble a 17) (cond (Nat.ble a 16) (cond (Nat.beq a 16) 20 0) (cond (Nat.beq a 17) 24 0)) (cond (Nat.beq a 18) 9 0)) (cond (Nat.ble a 19) (cond (Nat.beq a 19) 20 0) (cond (Nat.beq a 20) 20 0))))) (cond (Nat.ble a 30) (cond (Nat.ble a 25) (cond (Nat.ble a 23) (cond (Nat.ble a 22) (cond (Nat.ble a 21) (cond (Nat.beq a 21) 20 0) (cond (Nat.beq a 22) 21 0)) (cond (Nat.beq a 23) 25 0)) (cond (Nat.ble a 24) (cond (Nat.beq a 24) 26 0) (cond (Nat.beq a 25) 10 0))) (cond (Nat.ble a 28) (cond (Nat.ble a 27) (cond (Nat.ble a 26) (cond (Nat.beq a 26) 20 0) (cond (Nat.beq a 27) 10 0)) (cond (Nat.beq a 28) 20 0)) (cond (Nat.ble a 29) (cond (Nat.beq a 29) 20 0) (cond (Nat.beq a 30) 20 0)))) (cond (Nat.ble a 35) (cond (Nat.ble a 33) (cond (Nat.ble a 32) (cond (Nat.ble a 31) (cond (Nat.beq a 31) 7 0) (cond (Nat.beq a 32) 20 0)) (cond (Nat.beq a 33) 21 0)) (cond (Nat.ble a 34) (cond (Nat.beq a 34) 20 0) (cond (Nat.beq a 35) 20 0))) (cond (Nat.ble a 37) (cond (Nat.ble a 36) (cond (Nat.beq a 36) 8 0) (cond (Nat.beq a 37) 11 0)) (cond (Nat.ble a 38) (cond (Nat.beq a 38) 20 0) (cond (Nat.beq a 39) 21 0)))))) (cond (Nat.ble a 58) (cond (Nat.ble a 49) (cond (Nat.ble a 44) (cond (Nat.ble a 42) (cond (Nat.ble a 41) (cond (Nat.ble a 40) (cond (Nat.beq a 40) 6 0) (cond (Nat.beq a 41) 23 0)) (cond (Nat.beq a 42) 13 0)) (cond (Nat.ble a 43) (cond (Nat.beq a 43) 20 0) (cond (Nat.beq a 44) 20 0))) (cond (Nat.ble a 47) (cond (Nat.ble a 46) (cond (Nat.ble a 45) (cond (Nat.beq a 45) 20 0) (cond (Nat.beq a 46) 20 0)) (cond (Nat.beq a 47) 20 0)) (cond (Nat.ble a 48) (cond (Nat.beq a 48) 20 0) (cond (Nat.beq a 49) 20 0)))) (cond (Nat.ble a 54) (cond (Nat.ble a 52) (cond (Nat.ble a 51) (cond (Nat.ble a 50) (cond (Nat.beq a 50) 20 0) (cond (Nat.beq a 51) 21 0)) (cond (Nat.beq a 52) 20 0)) (cond (Nat.ble a 53) (cond (Nat.beq a 53) 20 0) (cond (Nat.beq a 54) 22 0))) (cond (Nat.ble a 56) (cond (Nat.ble a 55) (cond (Nat.beq a 55) 20 0) (cond (Nat.beq a 56) 20 0)) (cond (Nat.ble a 57) (cond (Nat.beq a 57) 20 0) (cond (Nat.beq a 58) 20 0))))) (cond (Nat.ble a 68) (cond (Nat.ble a 63) (cond (Nat.ble a 61) (cond (Nat.ble a 60) (cond (Nat.ble a 59) (cond (Nat.beq a 59) 20 0) (cond (Nat.beq a 60) 20 0)) (cond (Nat.beq a 61) 20 0)) (cond (Nat.ble a 62) (cond (Nat.beq a 62) 20 0) (cond (Nat.beq a 63) 20 0))) (cond (Nat.ble a 66) (cond (Nat.ble a 65) (cond (Nat.ble a 64) (cond (Nat.beq a 64) 20 0) (cond (Nat.beq a 65) 20 0)) (cond (Nat.beq a 66) 21 0)) (cond (Nat.ble a 67) (cond (Nat.beq a 67) 20 0) (cond (Nat.beq a 68) 20 0)))) (cond (Nat.ble a 73) (cond (Nat.ble a 71) (cond (Nat.ble a 70) (cond (Nat.ble a 69) (cond (Nat.beq a 69) 22 0) (cond (Nat.beq a 70) 23 0)) (cond (Nat.beq a 71) 20 0)) (cond (Nat.ble a 72) (cond (Nat.beq a 72) 20 0) (cond (Nat.beq a 73) 21 0))) (cond (Nat.ble a 75) (cond (Nat.ble a 74) (cond (Nat.beq a 74) 20 0) (cond (Nat.beq a 75) 20 0)) (cond (Nat.ble a 76) (cond (Nat.beq a 76) 20 0) (cond (Nat.beq a 77) 23 0)))))))
def LN (a : Nat) : Nat := (cond (Nat.ble a 45) (cond (Nat.ble a 22) (cond (Nat.ble a 12) (cond (Nat.ble a 7) (cond (Nat.ble a 5) (cond (Nat.ble a 4) (cond (Nat.beq a 4) 16 0) (cond (Nat.beq a 5) 4 0)) (cond (Nat.ble a 6) (cond (Nat.beq a 6) 3 0) (cond (Nat.beq a 7) 3 0))) (cond (Nat.ble a 10) (cond (Nat.ble a 8) (cond (Nat.beq a 8) 3 0) (cond (Nat.beq a 10) 240 0)) (cond (Nat.ble a 11) (cond (Nat.beq a 11) 240 0) (cond (Nat.beq a 12) 240 0)))) (cond (Nat.ble a 17) (cond (Nat.ble a 15) (cond (Nat.ble a 14) (cond (Nat.beq a 14) 240 0) (cond (Nat.beq a 15) 240 0)) (cond (Nat.ble a 16) (cond (Nat.beq a 16) 240 0) (cond (Nat.beq a 17) 4 0))) (cond (Nat.ble a 20) (cond (Nat.ble a 19) (cond (Nat.beq a 19) 60 0) (cond (Nat.beq a 20) 40 0)) (cond (Nat.ble a 21) (cond (Nat.beq a 21) 40 0) (cond (Nat.beq a 22) 6 0))))) (cond (Nat.ble a 33) (cond (Nat.ble a 28) (cond (Nat.ble a 24) (cond (Nat.ble a 23) (cond (Nat.beq a 23) 10 0) (cond (Nat.beq a 24) 6 0)) (cond (Nat.ble a 26) (cond (Nat.beq a 26) 240 0) (cond (Nat.beq a 28) 240 0))) (cond (Nat.ble a 30) (cond (Nat.ble a 29) (cond (Nat.beq a 29) 20 0) (cond (Nat.beq a 30) 20 0)) (cond (Nat.ble a 32) (cond (Nat.beq a 32) 240 0) (cond (Nat.beq a 33) 240 0)))) (cond (Nat.ble a 39) (cond (Nat.ble a 35) (cond (Nat.ble a 34) (cond (Nat.beq a 34) 1024 0) (cond (Nat.beq a 35) 1024 0)) (cond (Nat.ble a 38) (cond (Nat.beq a 38) 240 0) (cond (Nat.beq a 39) 240 0))) (cond (Nat.ble a 43) (cond (Nat.ble a 41) (cond (Nat.beq a 41) 20 0) (cond (Nat.beq a 43) 240 0)) (cond (Nat.ble a 44) (cond (Nat.beq a 44) 240 0) (cond (Nat.beq a 45) 240 0)))))) (cond (Nat.ble a 61) (cond (Nat.ble a 53) (cond (Nat.ble a 49) (cond (Nat.ble a 47) (cond (Nat.ble a 46) (cond (Nat.beq a 46) 16 0) (cond (Nat.beq a 47) 4 0)) (cond (Nat.ble a 48) (cond (Nat.beq a 48) 4 0) (cond (Nat.beq a 49) 4 0))) (cond (Nat.ble a 51) (cond (Nat.ble a 50) (cond (Nat.beq a 50) 4 0) (cond (Nat.beq a 51) 4 0)) (cond (Nat.ble a 52) (cond (Nat.beq a 52) 32 0) (cond (Nat.beq a 53) 4 0)))) (cond (Nat.ble a 57) (cond (Nat.ble a 55) (cond (Nat.ble a 54) (cond (Nat.beq a 54) 400 0) (cond (Nat.beq a 55) 10 0)) (cond (Nat.ble a 56) (cond (Nat.beq a 56) 10 0) (cond (Nat.beq a 57) 6 0))) (cond (Nat.ble a 59) (cond (Nat.ble a 58) (cond (Nat.beq a 58) 6 0) (cond (Nat.beq a 59) 6 0)) (cond (Nat.ble a 60) (cond (Nat.beq a 60) 6 0) (cond (Nat.beq a 61) 6 0))))) (cond (Nat.ble a 69) (cond (Nat.ble a 65) (cond (Nat.ble a 63) (cond (Nat.ble a 62) (cond (Nat.beq a 62) 240 0) (cond (Nat.beq a 63) 240 0)) (cond (Nat.ble a 64) (cond (Nat.beq a 64) 20 0) (cond (Nat.beq a 65) 20 0))) (cond (Nat.ble a 67) (cond (Nat.ble a 66) (cond (Nat.beq a 66) 3 0) (cond (Nat.beq a 67) 3 0)) (cond (Nat.ble a 68) (cond (Nat.beq a 68) 3 0) (cond (Nat.beq a 69) 60 0)))) (cond (Nat.ble a 73) (cond (Nat.ble a 71) (cond (Nat.ble a 70) (cond (Nat.beq a 70) 32 0) (cond (Nat.beq a 71) 960 0)) (cond (Nat.ble a 72) (cond (Nat.beq a 72) 240 0) (cond (Nat.beq a 73) 240 0))) (cond (Nat.ble a 75) (cond (Nat.ble a 74) (cond (Nat.beq a 74) 4 0) (cond (Nat.beq a 75) 4 0)) (cond (Nat.ble a 76) (cond (Nat.beq a 76) 180 0) (cond (Nat.beq a 77) 1 0)))))))
def GR (a k : Nat) : Nat := (cond (Nat.ble a 25) (cond (Nat.ble a 9) (cond (Nat.ble a 3) (cond (Nat.ble a 2) (cond (Nat.beq a 2) (cond (Nat.ble k 10) (cond (Nat.ble k 3) (cond (Nat.ble k 1) (cond (Nat.ble k 0) (cond (Nat.beq k 0) 3 0) (cond (Nat.beq k 1) 9 0)) (cond (Nat.ble k 2) (cond (Nat.beq k 2) 13 0) (cond (Nat.beq k 3) 17 0))) (cond (Nat.ble k 6) (cond (Nat.ble k 5) (cond (Nat.beq k 5) 18 0) (cond (Nat.beq k 6) 23 0)) (cond (Nat.ble k 8) (cond (Nat.beq k 8) 24 0) (cond (Nat.beq k 10) 25 0)))) (cond (Nat.ble k 15) (cond (Nat.ble k 12) (cond (Nat.ble k 11) (cond (Nat.beq k 11) 27 0) (cond (Nat.beq k 12) 29 0)) (cond (Nat.ble k 13) (cond (Nat.beq k 13) 30 0) (cond (Nat.beq k 15) 31 0))) (cond (Nat.ble k 17) (cond (Nat.ble k 16) (cond (Nat.beq k 16) 36 0) (cond (Nat.beq k 17) 37 0)) (cond (Nat.beq k 18) 40 0)))) 0) (cond (Nat.beq a 3) (cond (Nat.ble k 3) (cond (Nat.ble k 1) (cond (Nat.ble k 0) (cond (Nat.beq k 0) 4 0) (cond (Nat.beq k 1) 5 0)) (cond (Nat.beq k 3) 6 0)) (cond (Nat.ble k 4) (cond (Nat.beq k 4) 7 0) (cond (Nat.beq k 5) 8 0))) 0)) (cond (Nat.beq a 9) (cond (Nat.ble k 1) (cond (Nat.ble k 0) (cond (Nat.beq k 0) 10 0) (cond (Nat.beq k 1) 11 0)) (cond (Nat.beq k 2) 12 0)) 0)) (cond (Nat.ble a 18) (cond (Nat.ble a 13) (cond (Nat.beq a 13) (cond (Nat.ble k 1) (cond (Nat.ble k 0) (cond (Nat.beq k 0) 14 0) (cond (Nat.beq k 1) 15 0)) (cond (Nat.beq k 2) 16 0)) 0) (cond (Nat.beq a 18) (cond (Nat.ble k 2) (cond (Nat.ble k 0) (cond (Nat.beq k 0) 19 0) (cond (Nat.beq k 2) 20 0)) (cond (Nat.ble k 4) (cond (Nat.beq k 4) 21 0) (cond (Nat.beq k 6) 22 0))) 0)) (cond (Nat.beq a 25) (cond (Nat.beq k 0) 26 0) 0))) (cond (Nat.ble a 37) (cond (Nat.ble a 31) (cond (Nat.ble a 27) (cond (Nat.beq a 27) (cond (Nat.beq k 0) 28 0) 0) (cond (Nat.beq a 31) (cond (Nat.ble k 1) (cond (Nat.ble k 0) (cond (Nat.beq k 0) 32 0) (cond (Nat.beq k 1) 33 0)) (cond (Nat.ble k 3) (cond (Nat.beq k 3) 34 0) (cond (Nat.beq k 4) 35 0))) 0)) (cond (Nat.beq a 37) (cond (Nat.ble k 0) (cond (Nat.beq k 0) 38 0) (cond (Nat.beq k 1) 39 0)) 0)) (cond (Nat.ble a 40) (cond (Nat.beq a 40) (cond (Nat.beq k 0) 41 0) 0) (cond (Nat.beq a 42) (cond (Nat.ble k 21) (cond (Nat.ble k 11) (cond (Nat.ble k 5) (cond (Nat.ble k 3) (cond (Nat.ble k 2) (cond (Nat.ble k 1) (cond (Nat.beq k 1) 43 0) (cond (Nat.beq k 2) 44 0)) (cond (Nat.beq k 3) 45 0)) (cond (Nat.ble k 4) (cond (Nat.beq k 4) 46 0) (cond (Nat.beq k 5) 47 0))) (cond (Nat.ble k 9) (cond (Nat.ble k 8) (cond (Nat.beq k 8) 48 0) (cond (Nat.beq k 9) 49 0)) (cond (Nat.ble k 10) (cond (Nat.beq k 10) 50 0) (cond (Nat.beq k 11) 51 0)))) (cond (Nat.ble k 16) (cond (Nat.ble k 13) (cond (Nat.ble k 12) (cond (Nat.beq k 12) 52 0) (cond (Nat.beq k 13) 53 0)) (cond (Nat.ble k 15) (cond (Nat.beq k 15) 54 0) (cond (Nat.beq k 16) 55 0))) (cond (Nat.ble k 19) (cond (Nat.ble k 17) (cond (Nat.beq k 17) 56 0) (cond (Nat.beq k 19) 57 0)) (cond (Nat.ble k 20) (cond (Nat.beq k 20) 58 0) (cond (Nat.beq k 21) 59 0))))) (cond (Nat.ble k 31) (cond (Nat.ble k 27) (cond (Nat.ble k 24) (cond (Nat.ble k 23) (cond (Nat.ble k 22) (cond (Nat.beq k 22) 60 0) (cond (Nat.beq k 23) 61 0)) (cond (Nat.beq k 24) 62 0)) (cond (Nat.ble k 25) (cond (Nat.beq k 25) 63 0) (cond (Nat.beq k 27) 64 0))) (cond (Nat.ble k 29) (cond (Nat.ble k 28) (cond (Nat.beq k 28) 65 0) (cond (Nat.beq k 29) 66 0)) (cond (Nat.ble k 30) (cond (Nat.beq k 30) 67 0) (cond (Nat.beq k 31) 68 0)))) (cond (Nat.ble k 44) (cond (Nat.ble k 34) (cond (Nat.ble k 32) (cond (Nat.beq k 32) 69 0) (cond (Nat.beq k 34) 70 0)) (cond (Nat.ble k 37) (cond (Nat.beq k 37) 71 0) (cond (Nat.beq k 44) 72 0))) (cond (Nat.ble k 47) (cond (Nat.ble k 45) (cond (Nat.beq k 45) 73 0) (cond (Nat.beq k 47) 74 0)) (cond (Nat.ble k 52) (cond (Nat.beq k 52) 75 0) (cond (Nat.beq k 53) 76 0)))))) 0))))
/-- what no call changes: kinds, lengths, references, how many cells and slots, and tags (a ghost) -/
abbrev XS : Type := (Nat → Nat) × (Nat → Nat) × (Nat → Nat → Nat) × Nat × Nat × (Nat → Nat)
def xk (X : XS) (a : Nat) : Nat := cond (Nat.ble a 77) (KD a) (X.1 a)
def xl (X : XS) (a : Nat) : Nat := cond (Nat.ble a 77 && !Nat.beq a 1) (LN a) (X.2.1 a)
/-- the arrays of references are 17, 23 and 24 -/
def xr (X : XS) (a k : Nat) : Nat := cond (Nat.ble a 77) (cond (Nat.beq a 17 || (Nat.beq a 23 || Nat.beq a 24)) (X.2.2.1 a k) (GR a k)) (X.2.2.1 a k)
def xn (X : XS) : Nat := X.2.2.2.1
def xu (X : XS) : Nat := X.2.2.2.2.1
/-- tags: 10 to 49 is what may change in a call that changes no state; 40 to 49 of these have fixed names -/
def TF (a : Nat) : Nat := (cond (Nat.ble a 35) (cond (Nat.ble a 21) (cond (Nat.ble a 15) (cond (Nat.ble a 14) (cond (Nat.ble a 13) (cond (Nat.beq a 13) 41 0) (cond (Nat.beq a 14) 42 0)) (cond (Nat.beq a 15) 43 0)) (cond (Nat.ble a 20) (cond (Nat.ble a 16) (cond (Nat.beq a 16) 44 0) (cond (Nat.beq a 20) 49 0)) (cond (Nat.beq a 21) 49 0))) (cond (Nat.ble a 32) (cond (Nat.ble a 31) (cond (Nat.ble a 22) (cond (Nat.beq a 22) 49 0) (cond (Nat.beq a 31) 45 0)) (cond (Nat.beq a 32) 45 0)) (cond (Nat.ble a 34) (cond (Nat.ble a 33) (cond (Nat.beq a 33) 45 0) (cond (Nat.beq a 34) 45 0)) (cond (Nat.beq a 35) 45 0)))) (cond (Nat.ble a 71) (cond (Nat.ble a 38) (cond (Nat.ble a 37) (cond (Nat.ble a 36) (cond (Nat.beq a 36) 46 0) (cond (Nat.beq a 37) 47 0)) (cond (Nat.beq a 38) 47 0)) (cond (Nat.ble a 40) (cond (Nat.ble a 39) (cond (Nat.beq a 39) 47 0) (cond (Nat.beq a 40) 48 0)) (cond (Nat.beq a 71) 40 0))) (cond (Nat.ble a 74) (cond (Nat.ble a 73) (cond (Nat.ble a 72) (cond (Nat.beq a 72) 40 0) (cond (Nat.beq a 73) 40 0)) (cond (Nat.beq a 74) 40 0)) (cond (Nat.ble a 75) (cond (Nat.beq a 75) 40 0) (cond (Nat.beq a 76) 49 0)))))
def xt (X : XS) (a : Nat) : Nat := cond (Nat.ble a 77) (TF a) (X.2.2.2.2.2 a)
def mm (X : XS) (i : Nat → Nat → Int32) (j : Nat → Nat → Int64) : AM := mk7 (xk X) (xl X) i j (xr X) (xn X) (xu X)
def s2 {α : Type} (i : Nat → Nat → α) (a k : Nat) (v : α) : Nat → Nat → α := u1 i a (u1 (i a) k v)
theorem s2_self {α : Type} (i : Nat → Nat → α) (a k : Nat) (v : α) : s2 i a k v a k = v := by simp [s2, u1]
theorem s2_ne {α : Type} {i : Nat → Nat → α} {a k : Nat} {v : α} {b : Nat} (h : b ≠ a) : s2 i a k v b = i b := by simp [s2, u1, h]
theorem s2_ne2 {α : Type} {i : Nat → Nat → α} {a k : Nat} {v : α} {b j : Nat} (h : j ≠ k) : s2 i a k v b j = i b j := by
  by_cases hb : b = a
  · subst hb; simp [s2, u1, h]
  · simp [s2, u1, hb]
theorem s2_ap {α : Type} (i : Nat → Nat → α) (a k : Nat) (v : α) (b j : Nat) : s2 i a k v b j = if b = a ∧ j = k then v else i b j := by
  by_cases hb : b = a
  · subst hb
    by_cases hj : j = k
    · simp [s2, u1, hj]
    · simp [s2, u1, hj]
  · simp [s2, u1, hb]
theorem s2_same {α : Type} (i : Nat → Nat → α) (a k : Nat) (v : α) (j : Nat) : s2 i a k v a j = if j = k then v else i a j := by
  simp [s2_ap]
/-! ===== numbers ===== -/
noncomputable def bi (c : Prop) : Int32 := @ite _ c (Classical.propDecidable c) 1 0
theorem bi_t {c : Prop} (h : c) : bi c = 1 := by simp [bi, h]
theorem bi_f {c : Prop} (h : ¬ c) : bi c = 0 := by simp [bi, h]
theorem bi_z {c : Prop} (h : bi c = 0) : ¬ c := fun hc => absurd ((bi_t hc).symm.trans h) (by decide)
theorem bi_n {c : Prop} (h : ¬ bi c = 0) : c := Classical.byContradiction fun hc => h (bi_f hc)
theorem bi_nn {c : Prop} (h : ¬ ¬ bi c = 0) : ¬ c := bi_z (Classical.byContradiction h)
theorem bi_01 (c : Prop) : bi c = 0 ∨ bi c = 1 := by
  by_cases h : c
  · exact Or.inr (bi_t h)
  · exact Or.inl (bi_f h)
theorem bi_cg {a b : Prop} (h : a ↔ b) : bi a = bi b := by rw [propext h]
theorem bi_eq0 {c : Prop} : bi c = 0 ↔ ¬ c := ⟨bi_z, bi_f⟩
theorem bi_eq1 {c : Prop} : bi c = 1 ↔ c := ⟨fun h => Classical.byContradiction fun hc => absurd ((bi_f hc).symm.trans h) (by decide), bi_t⟩
theorem k0_01 : kI 0 = 0 ∨ kI 0 = 1 := Or.inl rfl
theorem k1_01 : kI 1 = 0 ∨ kI 1 = 1 := Or.inr rfl
theorem kI_nat (n : Nat) : kI (n : Int) = nI n := Int32.ofInt_eq_ofNat
theorem bq_t {c A B : Prop} (h : ¬ c) (a : A) : (¬ c → A) ∧ (c → B) := ⟨fun _ => a, fun z => absurd z h⟩
theorem bq_f {c A B : Prop} (h : c) (b : B) : (¬ c → A) ∧ (c → B) := ⟨fun z => absurd h z, fun _ => b⟩
theorem bq_c {c A B : Prop} (a : ¬ c → A) (b : c → B) : (¬ c → A) ∧ (c → B) := ⟨a, b⟩
def rmI (x y : Int32) : Int32 := x - x / y * y
def rmL (x y : Int64) : Int64 := x - x / y * y
def shlI (x y : Int32) : Int32 := x <<< (y &&& 31)
def shrI (x y : Int32) : Int32 := x >>> (y &&& 31)
def ushI (x y : Int32) : Int32 := (x.toUInt32 >>> (y.toUInt32 &&& Int32.toUInt32 31)).toInt32
def abI (x : Int32) : Int32 := if 0 ≤ x then x else 0 - x
def mxI (x z : Int32) : Int32 := if x < z then z else x
def mnI (x z : Int32) : Int32 := if z < x then z else x
theorem vpk (c N : Nat) (h : (Nat.blt c N && Nat.ble N 65536) = true) : vp_in (kI c) N := by
  rw [Bool.and_eq_true] at h
  have h1 : c < N := Nat.le_of_ble_eq_true h.1
  have h2 : N ≤ 65536 := by simpa using h.2
  rw [kI_nat]
  exact vp_in_nI h1 (by omega)
theorem vin_of {x : Int32} {l n : Nat} (e : l = n) (h : vp_in x n) : vp_in x l := e ▸ h
theorem al_k {M : AM} {a own : Nat} (h : kd M a = 20) : 20 ≤ kd M a ∧ kd M a ≤ 27 ∧ ¬ (kd M a = 27 ∧ ¬ own = 13) := by
  rw [h]; exact ⟨by decide, by decide, fun z => absurd z.1 (by decide)⟩
theorem al_n {M : AM} {a own k : Nat} (h : kd M a = k) (hk : (Nat.ble 20 k && Nat.ble k 26) = true) : 20 ≤ kd M a ∧ kd M a ≤ 27 ∧ ¬ (kd M a = 27 ∧ ¬ own = 13) := by
  rw [Bool.and_eq_true] at hk
  have h1 := Nat.le_of_ble_eq_true hk.1
  have h2 := Nat.le_of_ble_eq_true hk.2
  rw [h]; exact ⟨h1, by omega, fun z => absurd z.1 (by omega)⟩
theorem ar_n {M : AM} {a k : Nat} (h : kd M a = k) (hk : (Nat.ble 24 k && Nat.ble k 26) = true) : 24 ≤ kd M a ∧ kd M a ≤ 26 := by
  rw [Bool.and_eq_true] at hk
  rw [h]; exact ⟨Nat.le_of_ble_eq_true hk.1, Nat.le_of_ble_eq_true hk.2⟩
theorem lg_t {x y : Int64} : lg_cmp x y = if x > y then 1 else if x = y then 0 else -1 := rfl
theorem lg_cases (x y : Int64) : (x > y ∧ lg_cmp x y = 1) ∨ (x = y ∧ lg_cmp x y = 0) ∨ (x < y ∧ lg_cmp x y = -1) := by
  have e := @lg_t x y
  by_cases h : x > y
  · rw [if_pos h] at e; exact Or.inl ⟨h, e⟩
  · rw [if_neg h] at e
    by_cases h2 : x = y
    · rw [if_pos h2] at e; exact Or.inr (Or.inl ⟨h2, e⟩)
    · rw [if_neg h2] at e
      refine Or.inr (Or.inr ⟨?_, e⟩)
      rw [gt_iff_lt, Int64.lt_iff_toInt_lt] at h
      rw [Int64.lt_iff_toInt_lt]
      rw [← Int64.toInt_inj] at h2
      omega
theorem lc_lt {x y : Int64} : lg_cmp x y < 0 ↔ x < y := by
  rcases lg_cases x y with ⟨h, e⟩ | ⟨h, e⟩ | ⟨h, e⟩ <;> rw [e]
  · refine ⟨fun z => absurd z (by decide), fun z => ?_⟩
    rw [gt_iff_lt, Int64.lt_iff_toInt_lt] at h
    rw [Int64.lt_iff_toInt_lt] at z; omega
  · subst h; exact ⟨fun z => absurd z (by decide), fun z => by rw [Int64.lt_iff_toInt_lt] at z; omega⟩
  · exact ⟨fun _ => h, fun _ => by decide⟩
theorem lc_gt {x y : Int64} : 0 < lg_cmp x y ↔ y < x := by
  rcases lg_cases x y with ⟨h, e⟩ | ⟨h, e⟩ | ⟨h, e⟩ <;> rw [e]
  · exact ⟨fun _ => h, fun _ => by decide⟩
  · subst h; exact ⟨fun z => absurd z (by decide), fun z => by rw [Int64.lt_iff_toInt_lt] at z; omega⟩
  · refine ⟨fun z => absurd z (by decide), fun z => ?_⟩
    rw [Int64.lt_iff_toInt_lt] at h z; omega
theorem lc_eq {x y : Int64} : lg_cmp x y = 0 ↔ x = y := by
  rcases lg_cases x y with ⟨h, e⟩ | ⟨h, e⟩ | ⟨h, e⟩ <;> rw [e]
  · refine ⟨fun z => absurd z (by decide), fun z => ?_⟩
    subst z; rw [gt_iff_lt, Int64.lt_iff_toInt_lt] at h; omega
  · exact ⟨fun _ => h, fun _ => rfl⟩
  · refine ⟨fun z => absurd z (by decide), fun z => ?_⟩
    subst z; rw [Int64.lt_iff_toInt_lt] at h; omega
theorem lc_ne {x y : Int64} : ¬ lg_cmp x y = 0 ↔ ¬ x = y := not_congr lc_eq
theorem lc_ge {x y : Int64} : 0 ≤ lg_cmp x y ↔ y ≤ x := by
  have h := @lc_lt x y
  rw [Int32.lt_iff_toInt_lt, Int64.lt_iff_toInt_lt] at h
  rw [Int32.le_iff_toInt_le, Int64.le_iff_toInt_le]
  omega
theorem lc_le {x y : Int64} : lg_cmp x y ≤ 0 ↔ x ≤ y := by
  have h := @lc_gt x y
  rw [Int32.lt_iff_toInt_lt, Int64.lt_iff_toInt_lt] at h
  rw [Int32.le_iff_toInt_le, Int64.le_iff_toInt_le]
  omega
theorem nz_k {X : XS} {a k : Nat} (h : xk X a = k + 1) : ¬ a = 0 := fun z => by
  subst z
  exact absurd h (by intro h; cases h)
/-! ===== shapes of what has no fixed name ===== -/
def DO (X : XS) (o : Nat) : Prop := xk X o = 2 ∧ (xk X (xr X o 0) = 20 ∧ xl X (xr X o 0) = 240) ∧ (xk X (xr X o 1) = 20 ∧ xl X (xr X o 1) = 240) ∧ (xk X (xr X o 2) = 20 ∧ xl X (xr X o 2) = 240)
theorem DO9 (X : XS) : DO X 9 := ⟨rfl, ⟨rfl, rfl⟩, ⟨rfl, rfl⟩, rfl, rfl⟩
theorem DO13 (X : XS) : DO X 13 := ⟨rfl, ⟨rfl, rfl⟩, ⟨rfl, rfl⟩, rfl, rfl⟩
def GO (X : XS) (g : Nat) : Prop := xk X g = 3 ∧ (xk X (xr X g 4) = 20 ∧ xl X (xr X g 4) = 8) ∧ (xk X (xr X g 6) = 20 ∧ xl X (xr X g 6) = 240) ∧ (xk X (xr X g 7) = 20 ∧ xl X (xr X g 7) = 240)
def OO (X : XS) (o : Nat) : Prop := xk X o = 4 ∧ GO X (xr X o 0) ∧ xk X (xr X o 1) = 20 ∧ xk X (xr X o 2) = 20
def PO (X : XS) (p : Nat) : Prop := xk X p = 5
/-! ===== ends of calls ===== -/
def qV (K : AM → Prop) : Option (Option Value) → AM → Prop := fun r M2 => r = some none ∧ K M2
def qI (K : Int32 → AM → Prop) : Option (Option Value) → AM → Prop := fun r M2 => ∃ x : Int32, r = some (some (.int x)) ∧ K x M2
def qL (K : Int64 → AM → Prop) : Option (Option Value) → AM → Prop := fun r M2 => ∃ x : Int64, r = some (some (.long x)) ∧ K x M2
def qR (K : Nat → AM → Prop) : Option (Option Value) → AM → Prop := fun r M2 => ∃ x : Nat, r = some (some (.ref x)) ∧ K x M2
def qX (K : Int32 → AM → Prop) (E : AM → Prop) : Option (Option Value) → AM → Prop := fun r M2 => (∃ x : Int32, r = some (some (.int x)) ∧ K x M2) ∨ (r = none ∧ E M2)
def qY (K : Int64 → AM → Prop) (E : AM → Prop) : Option (Option Value) → AM → Prop := fun r M2 => (∃ x : Int64, r = some (some (.long x)) ∧ K x M2) ∨ (r = none ∧ E M2)
theorem qI_of {K : Int32 → AM → Prop} {x : Int32} {M : AM} (h : K x M) : qI K (some (some (.int x))) M := ⟨x, rfl, h⟩
theorem qL_of {K : Int64 → AM → Prop} {x : Int64} {M : AM} (h : K x M) : qL K (some (some (.long x))) M := ⟨x, rfl, h⟩
theorem qR_of {K : Nat → AM → Prop} {x : Nat} {M : AM} (h : K x M) : qR K (some (some (.ref x))) M := ⟨x, rfl, h⟩
theorem qV_of {K : AM → Prop} {M : AM} (h : K M) : qV K (some none) M := ⟨rfl, h⟩
/-! ===== a call that ends so: its answer and memory ===== -/
def EvV (d y : Nat) (as : List Value) (M M' : AM) : Prop := WV d y as M fun M2 => M2 = M'
def EvI (d y : Nat) (as : List Value) (M : AM) (x : Int32) (M' : AM) : Prop := WI d y as M fun x' M2 => x' = x ∧ M2 = M'
def EvL (d y : Nat) (as : List Value) (M : AM) (x : Int64) (M' : AM) : Prop := WL d y as M fun x' M2 => x' = x ∧ M2 = M'
def EvR (d y : Nat) (as : List Value) (M : AM) (x : Nat) (M' : AM) : Prop := WR d y as M fun x' M2 => x' = x ∧ M2 = M'
theorem EvV.use {d y : Nat} {as : List Value} {M M' : AM} {K : AM → Prop} (h : EvV d y as M M') (k : K M') : WV d y as M K := by
  obtain ⟨n, ⟨v, M2⟩, h1, h2, h3⟩ := h
  dsimp only at h2 h3
  subst h2; subst h3
  exact ⟨n, _, h1, rfl, k⟩
theorem EvI.use {d y : Nat} {as : List Value} {M M' : AM} {x : Int32} {K : Int32 → AM → Prop} (h : EvI d y as M x M') (k : K x M') : WI d y as M K := by
  obtain ⟨n, ⟨v, M2⟩, h1, x', h2, h3, h4⟩ := h
  dsimp only at h2 h3 h4
  subst h2; subst h3; subst h4
  exact ⟨n, _, h1, _, rfl, k⟩
theorem EvL.use {d y : Nat} {as : List Value} {M M' : AM} {x : Int64} {K : Int64 → AM → Prop} (h : EvL d y as M x M') (k : K x M') : WL d y as M K := by
  obtain ⟨n, ⟨v, M2⟩, h1, x', h2, h3, h4⟩ := h
  dsimp only at h2 h3 h4
  subst h2; subst h3; subst h4
  exact ⟨n, _, h1, _, rfl, k⟩
theorem EvR.use {d y : Nat} {as : List Value} {M M' : AM} {x : Nat} {K : Nat → AM → Prop} (h : EvR d y as M x M') (k : K x M') : WR d y as M K := by
  obtain ⟨n, ⟨v, M2⟩, h1, x', h2, h3, h4⟩ := h
  dsimp only at h2 h3 h4
  subst h2; subst h3; subst h4
  exact ⟨n, _, h1, _, rfl, k⟩
/-! ===== loops ===== -/
theorem lup {σ : Type} {d y : Nat} {Q : Option (Option Value) → AM → Prop} (n : Nat) (J : Nat → σ → Prop) (cf : Nat → σ → Cf)
    (fin : ∀ s, J n s → WP d y (cf n s) Q)
    (st : ∀ t s, t < n → J t s → (∀ s', J (t + 1) s' → WP d y (cf (t + 1) s') Q) → WP d y (cf t s) Q) : ∀ t s, t ≤ n → J t s → WP d y (cf t s) Q := by
  have key : ∀ m t s, t + m = n → J t s → WP d y (cf t s) Q := by
    intro m
    induction m with
    | zero => intro t s h hJ; have e : t = n := by omega
              subst e; exact fin s hJ
    | succ m ih => intro t s h hJ; exact st t s (by omega) hJ fun s' hs => ih (t + 1) s' (by omega) hs
  intro t s ht hJ
  exact key (n - t) t s (by omega) hJ
theorem lwh {σ : Type} {d y : Nat} {Q : Option (Option Value) → AM → Prop} (J : σ → Prop) (μ : σ → Nat) (cf : σ → Cf)
    (st : ∀ s, J s → (∀ s', J s' → μ s' < μ s → WP d y (cf s') Q) → WP d y (cf s) Q) : ∀ s, J s → WP d y (cf s) Q := by
  have key : ∀ m s, μ s ≤ m → J s → WP d y (cf s) Q := by
    intro m
    induction m with
    | zero => intro s h hJ; exact st s hJ fun s' _ hl => absurd hl (by omega)
    | succ m ih => intro s h hJ; exact st s hJ fun s' hs hl => ih s' (by omega) hs
  intro s hJ
  exact key (μ s) s (Nat.le_refl _) hJ
/-! ===== sums and counts ===== -/
def sm (f : Nat → Int32) : Nat → Int32
  | 0 => 0
  | n + 1 => sm f n + f n
noncomputable def ct (p : Nat → Prop) : Nat → Nat
  | 0 => 0
  | n + 1 => ct p n + @ite _ (p n) (Classical.propDecidable _) 1 0
theorem ct_t {p : Nat → Prop} {n : Nat} (h : p n) : ct p (n + 1) = ct p n + 1 := by simp [ct, h]
theorem ct_f {p : Nat → Prop} {n : Nat} (h : ¬ p n) : ct p (n + 1) = ct p n := by simp [ct, h]
theorem ct_le (p : Nat → Prop) : ∀ n, ct p n ≤ n
  | 0 => Nat.le_refl _
  | n + 1 => by
    have h := ct_le p n
    by_cases hp : p n
    · rw [ct_t hp]; omega
    · rw [ct_f hp]; omega
theorem ct_bi (p : Nat → Prop) (n : Nat) : nI (ct p n) + bi (p n) = nI (ct p (n + 1)) := by
  by_cases h : p n
  · rw [ct_t h, bi_t h, nI_1]
  · rw [ct_f h, bi_f h]; simp
theorem ct_cong {p q : Nat → Prop} : ∀ {n : Nat}, (∀ k, k < n → (p k ↔ q k)) → ct p n = ct q n
  | 0, _ => rfl
  | n + 1, h => by
    have e := ct_cong (n := n) fun k hk => h k (by omega)
    by_cases hp : p n
    · rw [ct_t hp, ct_t ((h n (by omega)).mp hp), e]
    · rw [ct_f hp, ct_f (fun z => hp ((h n (by omega)).mpr z)), e]
theorem sm_cong {f g : Nat → Int32} : ∀ {n : Nat}, (∀ k, k < n → f k = g k) → sm f n = sm g n
  | 0, _ => rfl
  | n + 1, h => by rw [sm, sm, sm_cong (n := n) fun k hk => h k (by omega), h n (by omega)]
