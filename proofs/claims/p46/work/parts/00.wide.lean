/-! a name of the whole library, in the first part: so a new machine's first round is read over the whole of it at once -/
theorem wide_0 {x : UInt64} (h : Jvm.FP.Core.dIsNaN x = false) : Jvm.FP.Core.dcmp x x = some .eq := Jvm.FP.Core.dcmp_refl h
