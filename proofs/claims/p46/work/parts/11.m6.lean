/-! the reference's figures -/
theorem n32_of {r : UInt32} (h : Jvm.FP.Core.fIsNaN r = false) : vf_n32 r := by
  have h1 := Jvm.FP.Core.isNaN_bits32 r
  have h2 : ¬ 2139095040 < r.toNat % 2 ^ 31 := fun z => by rw [h1.mpr z] at h; cases h
  show r &&& 0x7fffffff ≤ 0x7f800000
  rw [UInt32.le_iff_toNat_le, UInt32.toNat_and]
  show r.toNat &&& (2 ^ 31 - 1) ≤ 2139095040
  rw [Nat.and_two_pow_sub_one_eq_mod]
  omega
theorem n64_of {r : UInt64} (h : Jvm.FP.Core.dIsNaN r = false) : vf_n64 r := by
  have h1 := Jvm.FP.Core.isNaN_bits r
  have h2 : ¬ 9218868437227405312 < r.toNat % 2 ^ 63 := fun z => by rw [h1.mpr z] at h; cases h
  show r &&& 0x7fffffffffffffff ≤ 0x7ff0000000000000
  rw [UInt64.le_iff_toNat_le, UInt64.toNat_and]
  show r.toNat &&& (2 ^ 63 - 1) ≤ 9218868437227405312
  rw [Nat.and_two_pow_sub_one_eq_mod]
  omega
theorem fdiv_n32 (a b : Int32) (h : b.toInt ≠ 0) : Jvm.FP.Core.fIsNaN (FP.fdiv (FP.i2f a) (FP.i2f b)) = false := by
  refine Jvm.FP.Core.fdiv_out ?_ (Jvm.FP.Core.i2f_fin b) ?_
  · obtain ⟨s, c, q, e⟩ := Jvm.FP.Core.i2f_fin a
    cases h9 : Jvm.FP.Core.fIsNaN (FP.i2f a) with
    | false => rfl
    | true => rw [(Jvm.FP.Core.fIsNaN_iff _).mp h9] at e; cases e
  · intro z
    have h1 : (Jvm.FP.Core.i2f b).toNat % 2 ^ 31 = 0 := (Jvm.FP.Core.zero_bits232 _).mp z
    have h2 := (Jvm.FP.Core.i2f_big h).1
    omega
theorem ddiv_n64 (a : Int32) : Jvm.FP.Core.dIsNaN (FP.ddiv (FP.i2d a) 4618441417868443648) = false := by
  have h6 : (4618441417868443648 : UInt64) = FP.i2d 6 := by decide +kernel
  rw [h6]
  refine Jvm.FP.Core.ddiv_out ?_ (Jvm.FP.Core.i2d_fin 6) ?_
  · obtain ⟨s, c, q, e⟩ := Jvm.FP.Core.i2d_fin a
    cases h9 : Jvm.FP.Core.dIsNaN (FP.i2d a) with
    | false => rfl
    | true => rw [(Jvm.FP.Core.dIsNaN_iff _).mp h9] at e; cases e
  · intro z
    have h1 : (Jvm.FP.Core.i2d 6).toNat % 2 ^ 63 = 0 := (Jvm.FP.Core.zero_bits2 _).mp z
    have h2 := (Jvm.FP.Core.i2d_big (v := 6) (by decide)).1
    omega
abbrev mRf : Type := Nat × UInt32 × mT × mD
def nof (T : mT) (D : mD) (c : Nat) : mRf := (c, FP.fconst0, T, D)
def shV (T : mT) (j : Nat) : UInt32 := FP.fdiv (FP.i2f (nI (T 18 j))) (FP.i2f (nI (T 17 j)))
def sp_share (T : mT) (D : mD) (j : Int32) : mRf := if oN j 2 then nof T D 1 else if T 13 j.toNatClampNeg = 0 then nof T D 2 else if T 17 j.toNatClampNeg = 0 then nof T D 3 else (0, shV T j.toNatClampNeg, T, D)
def smN (T : mT) : Nat → Nat | 0 => 0 | k + 1 => smN T k + T 7 k
def meV (T : mT) : UInt64 := FP.ddiv (FP.i2d (nI (smN T 6))) 4618441417868443648
def ckL (b : Int64) (f : Nat → Int32) : Nat → Int64 | 0 => b | k + 1 => 31 * ckL b f k + (f k).toInt64
def ckR (b : Int64) (f : Nat → Int32) (n : Nat) : Int64 := ckL (31 * b + lN n) f n
def ck1 (T : mT) (D : mD) : Nat → Int64 | 0 => 7 | r + 1 => ckR (ck1 T D r) (fun k => D 0 (256 * T 2 r + k)) (T 1 (T 2 r))
def ck2 (T : mT) (D : mD) : Nat → Int64 | 0 => ck1 T D 4 | r + 1 => ckR (ck2 T D r) (fun k => D 3 (64 * T 5 r + k)) (T 4 (T 5 r))
def ck3 (T : mT) (D : mD) : Nat → Int64 | 0 => ck2 T D 4 | w + 1 => ckR (ck3 T D w) (fun k => D 6 (256 * w + k)) (T 7 w)
def lfI (T : mT) (j : Nat) : Int32 := if T 13 j = 0 then -1 else nI (lfN T j)
def ck4 (T : mT) (D : mD) : Nat → Int64 | 0 => ck3 T D 6 | j + 1 => 31 * ck4 T D j + (lfI T j).toInt64
theorem gtT_st {T : mT} {j : Nat} (S : stI T j) (h : T 16 j < T 13 j) (hp : 0 < lfN T j) : stI (gtT T j) j := by
  have e := gnT_S (T := T) (j := j) (n := 0)
  rw [gnT_0] at e
  rw [e]
  exact gnT_st S h (by omega)
theorem gtT_b4 {T : mT} {j : Nat} (B : b4I T) : b4I (gtT T j) := by
  have e := gnT_S (T := T) (j := j) (n := 0)
  rw [gnT_0] at e
  rw [e]
  exact gnT_b4 B
