/-! the reference's readers -/
/-- a reader is not there, or was shut -/
abbrev clo (T : mT) (i : Nat) : Prop := T 8 i = 0 ∨ T 12 i ≠ 0
def opT (T : mT) (i r f e : Nat) : mT := u2 (u2 (u2 (u2 (u2 T 8 i (T 2 r + 1)) 9 i f) 11 i f) 10 i e) 12 i 0
def sk_open (T : mT) (D : mD) (i r f n : Nat) : mR := (0, nI (min (f + n) (T 1 (T 2 r)) - f), opT T i r f (min (f + n) (T 1 (T 2 r))), D)
def sp_open (T : mT) (D : mD) (i row f n : Int32) : mR := if oN i 3 ∨ oN row 4 ∨ oP (rI T row) f (nI 0) then no T D 1 else if oN n 1001 then no T D 2 else sk_open T D i.toNatClampNeg row.toNatClampNeg f.toNatClampNeg n.toNatClampNeg
def sp_openAll (T : mT) (D : mD) (i row : Int32) : mR := if oN i 3 ∨ oN row 4 then no T D 1 else (0, nI (rI T row), opT T i.toNatClampNeg row.toNatClampNeg 0 (rI T row), D)
def sp_shut (T : mT) (D : mD) (i : Int32) : mR := if oN i 3 then no T D 1 else if T 8 i.toNatClampNeg = 0 then no T D 2 else (0, nI (if T 12 i.toNatClampNeg ≠ 0 then 0 else T 10 i.toNatClampNeg - T 9 i.toNatClampNeg), u2 T 12 i.toNatClampNeg 1, D)
def sp_read (T : mT) (D : mD) (i : Int32) : mR := if oN i 3 then no T D 1 else if clo T i.toNatClampNeg then no T D 2 else if T 9 i.toNatClampNeg = T 10 i.toNatClampNeg then (0, -1, T, D) else (0, D 0 (256 * (T 8 i.toNatClampNeg - 1) + T 9 i.toNatClampNeg), u2 T 9 i.toNatClampNeg (T 9 i.toNatClampNeg + 1), D)
def rpF (T : mT) (D : mD) (i : Nat) : Nat → Int32 := fun k => D 0 (256 * (T 8 i - 1) + T 9 i + k)
def sk_readPart (T : mT) (D : mD) (i r f n : Nat) : mR := (0, if min n (T 10 i - T 9 i) = 0 then -1 else nI (min n (T 10 i - T 9 i)), u2 T 9 i (T 9 i + min n (T 10 i - T 9 i)), cpF D 0 (256 * T 2 r + f) (rpF T D i) (min n (T 10 i - T 9 i)))
def sp_readPart (T : mT) (D : mD) (i row f n : Int32) : mR := if oN i 3 ∨ oN row 4 ∨ oP (rI T row) f n then no T D 1 else if n.toNatClampNeg = 0 then no T D 2 else if clo T i.toNatClampNeg then no T D 3 else if T 8 i.toNatClampNeg = T 2 row.toNatClampNeg + 1 then no T D 4 else sk_readPart T D i.toNatClampNeg row.toNatClampNeg f.toNatClampNeg n.toNatClampNeg
/-- a call of the reference that answers a long, as a number -/
abbrev mRl : Type := Nat × Nat × mT × mD
def nol (T : mT) (D : mD) (c : Nat) : mRl := (c, 0, T, D)
def skN (m : Int64) (left : Nat) : Nat := if m < 0 then 0 else min m.toInt.toNat left
def sp_skip (T : mT) (D : mD) (i : Int32) (m : Int64) : mRl := if oN i 3 then nol T D 1 else if clo T i.toNatClampNeg then nol T D 2 else (0, skN m (T 10 i.toNatClampNeg - T 9 i.toNatClampNeg), u2 T 9 i.toNatClampNeg (T 9 i.toNatClampNeg + skN m (T 10 i.toNatClampNeg - T 9 i.toNatClampNeg)), D)
def sp_mark (T : mT) (D : mD) (i lim : Int32) : mR := if oN i 3 then no T D 1 else if lim < 0 then no T D 2 else if clo T i.toNatClampNeg then no T D 3 else (0, nI (T 10 i.toNatClampNeg - T 9 i.toNatClampNeg), u2 T 11 i.toNatClampNeg (T 9 i.toNatClampNeg), D)
def sp_back (T : mT) (D : mD) (i : Int32) : mR := if oN i 3 then no T D 1 else if clo T i.toNatClampNeg then no T D 2 else (0, nI (T 10 i.toNatClampNeg - T 11 i.toNatClampNeg), u2 T 9 i.toNatClampNeg (T 11 i.toNatClampNeg), D)
theorem m1_lt0 : ((-1 : Int32)) < 0 := by decide
theorem m1_ne (z : Nat) (h : z < 2 ^ 31) : ¬ nI z = -1 := fun e => absurd (congrArg Int32.toInt e) (by rw [nI_toInt h]; show ¬ (z : Int) = -1; omega)
