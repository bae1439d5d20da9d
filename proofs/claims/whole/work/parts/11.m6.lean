/-! the reference's figures -/
theorem n32_of {r : UInt32} (h : Jvm.FP.Core.fIsNaN r = false) : vf_n32 r := by
  have h1 := Jvm.FP.Core.isNaN_bits32 r
  have h2 : ¬ 2139095040 < r.toNat % 2 ^ 31 := fun z => by rw [h1.mpr z] at h; cases h
  show r &&& 0x7fffffff ≤ 0x7f800000
  rw [UInt32.le_iff_toNat_le, UInt32.toNat_and]
  show r.toNat &&& (2 ^ 31 - 1) ≤ 2139095040
  rw [Nat.and_two_pow_sub_one_eq_mod]
  omega
theorem n64_of {r : UInt64} (h : Jvm.FP.Core.dIsNaN r = false) : vf_n64 r := by
  have h1 := Jvm.FP.Core.isNaN_bits r
  have h2 : ¬ 9218868437227405312 < r.toNat % 2 ^ 63 := fun z => by rw [h1.mpr z] at h; cases h
  show r &&& 0x7fffffffffffffff ≤ 0x7ff0000000000000
  rw [UInt64.le_iff_toNat_le, UInt64.toNat_and]
  show r.toNat &&& (2 ^ 63 - 1) ≤ 9218868437227405312
  rw [Nat.and_two_pow_sub_one_eq_mod]
  omega
theorem fdiv_n32 (a b : Int32) (h : b.toInt ≠ 0) : Jvm.FP.Core.fIsNaN (FP.fdiv (FP.i2f a) (FP.i2f b)) = false := by
  refine Jvm.FP.Core.fdiv_out ?_ (Jvm.FP.Core.i2f_fin b) ?_
  · obtain ⟨s, c, q, e⟩ := Jvm.FP.Core.i2f_fin a
    cases h9 : Jvm.FP.Core.fIsNaN (FP.i2f a) with
    | false => rfl
    | true => rw [(Jvm.FP.Core.fIsNaN_iff _).mp h9] at e; cases e
  · intro z
    have h1 : (Jvm.FP.Core.i2f b).toNat % 2 ^ 31 = 0 := (Jvm.FP.Core.zero_bits232 _).mp z
    have h2 := (Jvm.FP.Core.i2f_big h).1
    omega
theorem ddiv_n64 (a : Int32) : Jvm.FP.Core.dIsNaN (FP.ddiv (FP.i2d a) 4618441417868443648) = false := by
  have h6 : (4618441417868443648 : UInt64) = FP.i2d 6 := by decide +kernel
  rw [h6]
  refine Jvm.FP.Core.ddiv_out ?_ (Jvm.FP.Core.i2d_fin 6) ?_
  · obtain ⟨s, c, q, e⟩ := Jvm.FP.Core.i2d_fin a
    cases h9 : Jvm.FP.Core.dIsNaN (FP.i2d a) with
    | false => rfl
    | true => rw [(Jvm.FP.Core.dIsNaN_iff _).mp h9] at e; cases e
  · intro z
    have h1 : (Jvm.FP.Core.i2d 6).toNat % 2 ^ 63 = 0 := (Jvm.FP.Core.zero_bits2 _).mp z
    have h2 := (Jvm.FP.Core.i2d_big (v := 6) (by decide)).1
    omega
abbrev mRf : Type := Nat × UInt32 × mT × mD
def nof (T : mT) (D : mD) (c : Nat) : mRf := (c, FP.fconst0, T, D)
abbrev mOf (l : Launch) (y : MethodName) (ws : List Cond) (rm : Room) (G : va_G) (cI cZ : ClassId) (q : Nat → Nat) (as : List Value) (T : mT) (D : mD) (th : Int32) (r : mRf) : Prop := mMf l y ws rm G cI cZ q as T D th r.2.1 r.2.2.1 r.2.2.2 (nI r.1)
def shV (T : mT) (j : Nat) : UInt32 := FP.fdiv (FP.i2f (nI (T 18 j))) (FP.i2f (nI (T 17 j)))
def sp_share (T : mT) (D : mD) (j : Int32) : mRf := if oN j 2 then nof T D 1 else if T 13 j.toNatClampNeg = 0 then nof T D 2 else if T 17 j.toNatClampNeg = 0 then nof T D 3 else (0, shV T j.toNatClampNeg, T, D)
def smN (T : mT) : Nat → Nat | 0 => 0 | k + 1 => smN T k + T 7 k
def meV (T : mT) : UInt64 := FP.ddiv (FP.i2d (nI (smN T 6))) 4618441417868443648
def ckL (b : Int64) (f : Nat → Int32) : Nat → Int64 | 0 => b | k + 1 => 31 * ckL b f k + (f k).toInt64
def ckR (b : Int64) (f : Nat → Int32) (n : Nat) : Int64 := ckL (31 * b + lN n) f n
def ck1 (T : mT) (D : mD) : Nat → Int64 | 0 => 7 | r + 1 => ckR (ck1 T D r) (fun k => D 0 (256 * T 2 r + k)) (T 1 (T 2 r))
def ck2 (T : mT) (D : mD) : Nat → Int64 | 0 => ck1 T D 4 | r + 1 => ckR (ck2 T D r) (fun k => D 3 (64 * T 5 r + k)) (T 4 (T 5 r))
def ck3 (T : mT) (D : mD) : Nat → Int64 | 0 => ck2 T D 4 | w + 1 => ckR (ck3 T D w) (fun k => D 6 (256 * w + k)) (T 7 w)
def lfI (T : mT) (j : Nat) : Int32 := if T 13 j = 0 then -1 else nI (lfN T j)
def ck4 (T : mT) (D : mD) : Nat → Int64 | 0 => ck3 T D 6 | j + 1 => 31 * ck4 T D j + (lfI T j).toInt64

set_option maxHeartbeats 4000000 in
set_option maxRecDepth 100000 in
theorem mt_thrown (l : Launch) {G : va_G} {cI cZ : ClassId} {q : Nat → Nat} (hq : mJ q) (T : mT) (D : mD) (th : Int32) : mMi l yX7_thrown wsX7_thrown ({ frames := 0, cells := 0, slots := 0, locals := 0 } : Room) G cI cZ q [] (T) (D) (th) (th) (T) (D) (th) := by
  refine mstarti (cc := cX7_thrown) (maxL := 1) (ret := (some .int)) (by decide) rfl rfl ⟨_, rfl⟩ (Nat.le_of_ble_eq_true rfl) (fun p e s m args below meth c Q hE X hW ls hl => ?_)
  have hl : lv_has ls 1 [(0, .ref (q 0))] := hl
  have hin : ∀ w ∈ wsX70, w ∈ wsX7_thrown := fun w h => List.mem_cons_of_mem _ (List.mem_append_right _ (h))
  refine lv_aload_n X.1 X.2.1 dX7_thrown_0 rfl (lv_at hl 0 rfl) ?_
  refine mget 20 (by decide) rfl X hin hW (X.2.2.2.2 (.fieldLink RX7 71 "StrandbookModel" "thrown" "I") (List.mem_cons_of_mem _ (List.mem_append_left _ (List.mem_of_getElem? (i := 0) rfl)))) dX7_thrown_1 ?_
  exact hE _ _ _ _ _ (rfl) (fun ty hty => by cases hty; exact rfl) hW dX7_thrown_4

set_option maxHeartbeats 4000000 in
set_option maxRecDepth 100000 in
theorem mt_pass_1 (l : Launch) {G : va_G} {cI cZ : ClassId} {q : Nat → Nat} (hq : mJ q) (T : mT) (D : mD) (th : Int32) {j : Int32} {lm : Int64} (h : oN j 2) : mMl l yX7_pass wsX7_pass ({ frames := 2, cells := 0, slots := 0, locals := 43 } : Room) G cI cZ q [.int (j), .long (lm)] (T) (D) (th) (lN 0) (T) (D) (nI 1) := by
  refine mstartl (cc := cX7_pass) (maxL := 6) (ret := (some .long)) (by decide) rfl rfl rfl (Nat.le_of_ble_eq_true rfl) (fun p e s m args below meth c Q hE X hW ls hl => ?_)
  have hl : lv_has ls 6 [(0, .ref (q 0)), (1, .int (j)), (2, .long (lm))] := hl
  have hin : ∀ w ∈ wsX70, w ∈ wsX7_pass := fun w h => List.mem_cons_of_mem _ (List.mem_append_left _ (List.mem_append_right _ (h)))
  refine lv_aload_n X.1 X.2.1 dX7_pass_0 rfl (lv_at hl 0 rfl) ?_
  refine lv_aload_n X.1 X.2.1 dX7_pass_1 rfl (lv_at hl 0 rfl) ?_
  refine lv_iload_n X.1 X.2.1 dX7_pass_2 rfl (lv_at hl 1 rfl) ?_
  refine mcalli hq X hW (mt_isStream_bad l hq (T) (D) (th) (x := j) (h)) (cwV 1 X.2.2.2.2 gX7_pass_X7_isStream rfl rfl rfl (by decide +kernel) ⟨Nat.le_of_ble_eq_true rfl, Nat.le_of_ble_eq_true rfl⟩) rfl rfl hl.1 (Nat.le_of_ble_eq_true rfl) dX7_pass_3 ⟨Nat.zero_le _, Nat.zero_le _⟩ (fun H locs hW => ?_)
  refine n_if_ne_f (tgt := 13) X.1 X.2.1 dX7_pass_6 (by decide) (by decide) (by omega) ?_
  refine lv_iconst (v := nI 1) X.1 X.2.1 dX7_pass_9 (by decide) ?_
  refine lv_goto (tgt := 45) X.1 X.2.1 dX7_pass_10 (by decide) ?_
  refine mcalli hq X hW (mt_isWrong_s l hq (T) (D) (th) (n := 1) (by decide) (by decide)) (cwV 1 X.2.2.2.2 gX7_pass_X7_isWrong rfl rfl rfl (by decide +kernel) ⟨Nat.le_of_ble_eq_true rfl, Nat.le_of_ble_eq_true rfl⟩) rfl rfl hl.1 (Nat.le_of_ble_eq_true rfl) dX7_pass_45 ⟨Nat.zero_le _, Nat.zero_le _⟩ (fun H locs hW => ?_)
  refine n_if_eq_f (tgt := 53) X.1 X.2.1 dX7_pass_48 (by decide) (by decide) (by omega) ?_
  refine lv_lconst (v := lN 0) X.1 X.2.1 dX7_pass_51 rfl ?_
  exact hE _ _ _ _ _ (rfl) hW dX7_pass_52

set_option maxHeartbeats 4000000 in
set_option maxRecDepth 100000 in
theorem mt_pass_2a (l : Launch) {G : va_G} {cI cZ : ClassId} {q : Nat → Nat} (hq : mJ q) (T : mT) (D : mD) (th : Int32) {j : Nat} {lm : Int64} (hj : j < 2) (h : lm < 0) : mMl l yX7_pass wsX7_pass ({ frames := 2, cells := 0, slots := 0, locals := 43 } : Room) G cI cZ q [.int (nI (j)), .long (lm)] (T) (D) (th) (lN 0) (T) (D) (nI 2) := by
  refine mstartl (cc := cX7_pass) (maxL := 6) (ret := (some .long)) (by decide) rfl rfl rfl (Nat.le_of_ble_eq_true rfl) (fun p e s m args below meth c Q hE X hW ls hl => ?_)
  have hl : lv_has ls 6 [(0, .ref (q 0)), (1, .int (nI (j))), (2, .long (lm))] := hl
  have hin : ∀ w ∈ wsX70, w ∈ wsX7_pass := fun w h => List.mem_cons_of_mem _ (List.mem_append_left _ (List.mem_append_right _ (h)))
  refine lv_aload_n X.1 X.2.1 dX7_pass_0 rfl (lv_at hl 0 rfl) ?_
  refine lv_aload_n X.1 X.2.1 dX7_pass_1 rfl (lv_at hl 0 rfl) ?_
  refine lv_iload_n X.1 X.2.1 dX7_pass_2 rfl (lv_at hl 1 rfl) ?_
  refine mcalli hq X hW (mt_isStream_ok l hq (T) (D) (th) (r := j) (by omega)) (cwV 1 X.2.2.2.2 gX7_pass_X7_isStream rfl rfl rfl (by decide +kernel) ⟨Nat.le_of_ble_eq_true rfl, Nat.le_of_ble_eq_true rfl⟩) rfl rfl hl.1 (Nat.le_of_ble_eq_true rfl) dX7_pass_3 ⟨Nat.zero_le _, Nat.zero_le _⟩ (fun H locs hW => ?_)
  refine n_if_ne_t (tgt := 13) X.1 X.2.1 dX7_pass_6 (by decide) (by decide) (by omega) ?_
  refine lv_lload_n X.1 X.2.1 dX7_pass_13 rfl (lv_at hl 2 rfl) ?_
  refine lv_lconst (v := lN 0) X.1 X.2.1 dX7_pass_14 rfl ?_
  refine W.lcmp X.1 X.2.1 dX7_pass_15 ?_
  refine x_if_lt_t (tgt := 27) X.1 X.2.1 dX7_pass_16 (by decide) ((lg_cmp_lt _ _).mpr h) ?_
  refine lv_iconst (v := nI 2) X.1 X.2.1 dX7_pass_27 (by decide) ?_
  refine lv_goto (tgt := 45) X.1 X.2.1 dX7_pass_28 (by decide) ?_
  refine mcalli hq X hW (mt_isWrong_s l hq (T) (D) (th) (n := 2) (by decide) (by decide)) (cwV 1 X.2.2.2.2 gX7_pass_X7_isWrong rfl rfl rfl (by decide +kernel) ⟨Nat.le_of_ble_eq_true rfl, Nat.le_of_ble_eq_true rfl⟩) rfl rfl hl.1 (Nat.le_of_ble_eq_true rfl) dX7_pass_45 ⟨Nat.zero_le _, Nat.zero_le _⟩ (fun H locs hW => ?_)
  refine n_if_eq_f (tgt := 53) X.1 X.2.1 dX7_pass_48 (by decide) (by decide) (by omega) ?_
  refine lv_lconst (v := lN 0) X.1 X.2.1 dX7_pass_51 rfl ?_
  exact hE _ _ _ _ _ (rfl) hW dX7_pass_52

set_option maxHeartbeats 4000000 in
set_option maxRecDepth 100000 in
theorem mt_pass_2b (l : Launch) {G : va_G} {cI cZ : ClassId} {q : Nat → Nat} (hq : mJ q) (T : mT) (D : mD) (th : Int32) {j n : Nat} (hj : j < 2) (hn : n < 2 ^ 63) (h : 1000 < n) : mMl l yX7_pass wsX7_pass ({ frames := 2, cells := 0, slots := 0, locals := 43 } : Room) G cI cZ q [.int (nI (j)), .long (lN n)] (T) (D) (th) (lN 0) (T) (D) (nI 2) := by
  refine mstartl (cc := cX7_pass) (maxL := 6) (ret := (some .long)) (by decide) rfl rfl rfl (Nat.le_of_ble_eq_true rfl) (fun p e s m args below meth c Q hE X hW ls hl => ?_)
  have hl : lv_has ls 6 [(0, .ref (q 0)), (1, .int (nI (j))), (2, .long (lN n))] := hl
  have hin : ∀ w ∈ wsX70, w ∈ wsX7_pass := fun w h => List.mem_cons_of_mem _ (List.mem_append_left _ (List.mem_append_right _ (h)))
  refine lv_aload_n X.1 X.2.1 dX7_pass_0 rfl (lv_at hl 0 rfl) ?_
  refine lv_aload_n X.1 X.2.1 dX7_pass_1 rfl (lv_at hl 0 rfl) ?_
  refine lv_iload_n X.1 X.2.1 dX7_pass_2 rfl (lv_at hl 1 rfl) ?_
  refine mcalli hq X hW (mt_isStream_ok l hq (T) (D) (th) (r := j) (by omega)) (cwV 1 X.2.2.2.2 gX7_pass_X7_isStream rfl rfl rfl (by decide +kernel) ⟨Nat.le_of_ble_eq_true rfl, Nat.le_of_ble_eq_true rfl⟩) rfl rfl hl.1 (Nat.le_of_ble_eq_true rfl) dX7_pass_3 ⟨Nat.zero_le _, Nat.zero_le _⟩ (fun H locs hW => ?_)
  refine n_if_ne_t (tgt := 13) X.1 X.2.1 dX7_pass_6 (by decide) (by decide) (by omega) ?_
  refine lv_lload_n X.1 X.2.1 dX7_pass_13 rfl (lv_at hl 2 rfl) ?_
  refine lv_lconst (v := lN 0) X.1 X.2.1 dX7_pass_14 rfl ?_
  refine W.lcmp X.1 X.2.1 dX7_pass_15 ?_
  refine x_if_lt_f (tgt := 27) X.1 X.2.1 dX7_pass_16 (by decide) (fun z => absurd ((lg_cmp_lt _ _).mp z) (fun y => absurd ((pk_lLT hn (by decide)).mp y) (Nat.not_lt_zero n))) ?_
  refine lv_lload_n X.1 X.2.1 dX7_pass_19 rfl (lv_at hl 2 rfl) ?_
  refine lv_ldc2 X.1 X.2.1 X.2.2.2.1 (X.2.2.2.2 (.constantLong RX7 171 (1000)) (List.mem_cons_of_mem _ (List.mem_append_left _ (List.mem_append_left _ (List.mem_append_left _ (List.mem_of_getElem? (i := 0) rfl)))))) dX7_pass_20 ?_
  refine W.lcmp X.1 X.2.1 dX7_pass_23 ?_
  refine x_if_le_f (tgt := 31) X.1 X.2.1 dX7_pass_24 (by decide) (fun z => absurd ((pk_lLE hn (by decide)).mp (show lN n ≤ lN 1000 from (lg_cmp_le _ _).mp z)) (by omega)) ?_
  refine lv_iconst (v := nI 2) X.1 X.2.1 dX7_pass_27 (by decide) ?_
  refine lv_goto (tgt := 45) X.1 X.2.1 dX7_pass_28 (by decide) ?_
  refine mcalli hq X hW (mt_isWrong_s l hq (T) (D) (th) (n := 2) (by decide) (by decide)) (cwV 1 X.2.2.2.2 gX7_pass_X7_isWrong rfl rfl rfl (by decide +kernel) ⟨Nat.le_of_ble_eq_true rfl, Nat.le_of_ble_eq_true rfl⟩) rfl rfl hl.1 (Nat.le_of_ble_eq_true rfl) dX7_pass_45 ⟨Nat.zero_le _, Nat.zero_le _⟩ (fun H locs hW => ?_)
  refine n_if_eq_f (tgt := 53) X.1 X.2.1 dX7_pass_48 (by decide) (by decide) (by omega) ?_
  refine lv_lconst (v := lN 0) X.1 X.2.1 dX7_pass_51 rfl ?_
  exact hE _ _ _ _ _ (rfl) hW dX7_pass_52

set_option maxHeartbeats 4000000 in
set_option maxRecDepth 100000 in
theorem mt_pass_3 (l : Launch) {G : va_G} {cI cZ : ClassId} {q : Nat → Nat} (hq : mJ q) (T : mT) (D : mD) (th : Int32) (I : mI T) {j n : Nat} (hj : j < 2) (hn : n < 2 ^ 63) (h : n ≤ 1000) (h0 : T 13 j = 0) : mMl l yX7_pass wsX7_pass ({ frames := 2, cells := 0, slots := 0, locals := 43 } : Room) G cI cZ q [.int (nI (j)), .long (lN n)] (T) (D) (th) (lN 0) (T) (D) (nI 3) := by
  refine mstartl (cc := cX7_pass) (maxL := 6) (ret := (some .long)) (by decide) rfl rfl rfl (Nat.le_of_ble_eq_true rfl) (fun p e s m args below meth c Q hE X hW ls hl => ?_)
  have hl : lv_has ls 6 [(0, .ref (q 0)), (1, .int (nI (j))), (2, .long (lN n))] := hl
  have hin : ∀ w ∈ wsX70, w ∈ wsX7_pass := fun w h => List.mem_cons_of_mem _ (List.mem_append_left _ (List.mem_append_right _ (h)))
  have S9 := (I.stI hj).le
  refine lv_aload_n X.1 X.2.1 dX7_pass_0 rfl (lv_at hl 0 rfl) ?_
  refine lv_aload_n X.1 X.2.1 dX7_pass_1 rfl (lv_at hl 0 rfl) ?_
  refine lv_iload_n X.1 X.2.1 dX7_pass_2 rfl (lv_at hl 1 rfl) ?_
  refine mcalli hq X hW (mt_isStream_ok l hq (T) (D) (th) (r := j) (by omega)) (cwV 1 X.2.2.2.2 gX7_pass_X7_isStream rfl rfl rfl (by decide +kernel) ⟨Nat.le_of_ble_eq_true rfl, Nat.le_of_ble_eq_true rfl⟩) rfl rfl hl.1 (Nat.le_of_ble_eq_true rfl) dX7_pass_3 ⟨Nat.zero_le _, Nat.zero_le _⟩ (fun H locs hW => ?_)
  refine n_if_ne_t (tgt := 13) X.1 X.2.1 dX7_pass_6 (by decide) (by decide) (by omega) ?_
  refine lv_lload_n X.1 X.2.1 dX7_pass_13 rfl (lv_at hl 2 rfl) ?_
  refine lv_lconst (v := lN 0) X.1 X.2.1 dX7_pass_14 rfl ?_
  refine W.lcmp X.1 X.2.1 dX7_pass_15 ?_
  refine x_if_lt_f (tgt := 27) X.1 X.2.1 dX7_pass_16 (by decide) (fun z => absurd ((lg_cmp_lt _ _).mp z) (fun y => absurd ((pk_lLT hn (by decide)).mp y) (Nat.not_lt_zero n))) ?_
  refine lv_lload_n X.1 X.2.1 dX7_pass_19 rfl (lv_at hl 2 rfl) ?_
  refine lv_ldc2 X.1 X.2.1 X.2.2.2.1 (X.2.2.2.2 (.constantLong RX7 171 (1000)) (List.mem_cons_of_mem _ (List.mem_append_left _ (List.mem_append_left _ (List.mem_append_left _ (List.mem_of_getElem? (i := 0) rfl)))))) dX7_pass_20 ?_
  refine W.lcmp X.1 X.2.1 dX7_pass_23 ?_
  refine x_if_le_t (tgt := 31) X.1 X.2.1 dX7_pass_24 (by decide) ((lg_cmp_le _ _).mpr (show lN n ≤ lN 1000 from (pk_lLE hn (by decide)).mpr h)) ?_
  refine lv_aload_n X.1 X.2.1 dX7_pass_31 rfl (lv_at hl 0 rfl) ?_
  refine mget 13 (by decide) rfl X hin hW (X.2.2.2.2 (.fieldLink RX7 50 "StrandbookModel" "parts" "[I") (List.mem_cons_of_mem _ (List.mem_append_left _ (List.mem_append_left _ (List.mem_append_left _ (List.mem_of_getElem? (i := 1) rfl)))))) dX7_pass_32 ?_
  refine lv_iload_n X.1 X.2.1 dX7_pass_35 rfl (lv_at hl 1 rfl) ?_
  refine mld13 X hW (by omega) dX7_pass_36 ?_
  refine n_if_ne_f (tgt := 44) X.1 X.2.1 dX7_pass_37 (by decide) (h0) (by omega) ?_
  refine lv_iconst (v := nI 3) X.1 X.2.1 dX7_pass_40 (by decide) ?_
  refine lv_goto (tgt := 45) X.1 X.2.1 dX7_pass_41 (by decide) ?_
  refine mcalli hq X hW (mt_isWrong_s l hq (T) (D) (th) (n := 3) (by decide) (by decide)) (cwV 1 X.2.2.2.2 gX7_pass_X7_isWrong rfl rfl rfl (by decide +kernel) ⟨Nat.le_of_ble_eq_true rfl, Nat.le_of_ble_eq_true rfl⟩) rfl rfl hl.1 (Nat.le_of_ble_eq_true rfl) dX7_pass_45 ⟨Nat.zero_le _, Nat.zero_le _⟩ (fun H locs hW => ?_)
  refine n_if_eq_f (tgt := 53) X.1 X.2.1 dX7_pass_48 (by decide) (by decide) (by omega) ?_
  refine lv_lconst (v := lN 0) X.1 X.2.1 dX7_pass_51 rfl ?_
  exact hE _ _ _ _ _ (rfl) hW dX7_pass_52

theorem gtT_st {T : mT} {j : Nat} (S : stI T j) (h : T 16 j < T 13 j) (hp : 0 < lfN T j) : stI (gtT T j) j := by
  have e := gnT_S (T := T) (j := j) (n := 0)
  rw [gnT_0] at e
  rw [e]
  exact gnT_st S h (by omega)
theorem gtT_b4 {T : mT} {j : Nat} (B : b4I T) : b4I (gtT T j) := by
  have e := gnT_S (T := T) (j := j) (n := 0)
  rw [gnT_0] at e
  rw [e]
  exact gnT_b4 B

set_option maxHeartbeats 4000000 in
set_option maxRecDepth 100000 in
theorem mt_pass_loop {l : Launch} {G : va_G} {cI cZ : ClassId} {q : Nat → Nat} (hq : mJ q) {D : mD} {th : Int32} {j M R9 : Nat} {TR : mT} (hj : j < 2) (hM : M ≤ 1000) {p : Program} {e : Env} {s : State} {m : MethodId} {args : Array Value} {below : List Frame} {meth : Method} {c : Code} {Q : State → Prop} (X : CallFix p m c cX7_pass 6 s args wsX7_pass RX7)
    (hE : ∀ (H : Heap) (locs : List Loc) (pc : Nat) (ls : Array Slot) (v : Int64), v = lN R9 → mH G cI cZ q TR D th s H locs → decode cX7_pass pc = .ok (.lreturn, 1) → W p l e ({ frames := 2, cells := 0, slots := 0, locals := 43 } : Room) s m args below meth c H locs 0 0 Q (F0 m pc ls [.long v])) :
    ∀ (n k : Nat) (T : mT), k + n = M → k + psN j n T = R9 → psT j n T = TR → stI T j → b4I T → ∀ (H : Heap) (locs : List Loc), mH G cI cZ q T D th s H locs → ∀ ls : Array Slot, lv_has ls 6 [(0, .ref (q 0)), (1, .int (nI j)), (2, .long (lN M)), (4, .long (lN k))] → W p l e ({ frames := 2, cells := 0, slots := 0, locals := 43 } : Room) s m args below meth c H locs 0 0 Q (F0 m 56 ls []) := by
  intro n
  induction n with
  | zero =>
    intro k T hk hR hT S B H locs hW ls hl
    obtain rfl : M = k := by omega
    refine lv_lload X.1 X.2.1 dX7_pass_56 (lv_at hl 3 rfl) ?_
    refine lv_lload_n X.1 X.2.1 dX7_pass_58 rfl (lv_at hl 2 rfl) ?_
    refine W.lcmp X.1 X.2.1 dX7_pass_59 ?_
    refine x_if_ge_t (tgt := 86) X.1 X.2.1 dX7_pass_60 (by decide) ((lg_cmp_ge _ _).mpr ((pk_lLE (by omega) (by omega)).mpr (by omega))) ?_
    refine lv_lload X.1 X.2.1 dX7_pass_86 (lv_at hl 3 rfl) ?_
    exact hE _ _ _ _ _ (by rw [← hR, psN, Nat.add_zero]) (hW.eq hT rfl rfl) dX7_pass_88
  | succ n ih =>
    intro k T hk hR hT S B H locs hW ls hl
    have S1 := S.le
    rcases Decidable.em (wnT T j 16 j < wnT T j 13 j) with hw | hw
    · rw [psN, if_pos hw] at hR
      rw [psT, if_pos hw] at hT
      have S0 := wnT_st S
      have B0 := wnT_b4 (j := j) B
      have P0 := wnT_pos S hw
      refine lv_lload X.1 X.2.1 dX7_pass_56 (lv_at hl 3 rfl) ?_
      refine lv_lload_n X.1 X.2.1 dX7_pass_58 rfl (lv_at hl 2 rfl) ?_
      refine W.lcmp X.1 X.2.1 dX7_pass_59 ?_
      refine x_if_ge_f (tgt := 86) X.1 X.2.1 dX7_pass_60 (by decide) (fun z => absurd ((pk_lLE (by omega) (by omega)).mp ((lg_cmp_ge _ _).mp z)) (by omega)) ?_
      refine lv_aload_n X.1 X.2.1 dX7_pass_63 rfl (lv_at hl 0 rfl) ?_
      refine lv_iload_n X.1 X.2.1 dX7_pass_64 rfl (lv_at hl 1 rfl) ?_
      refine mcalli hq X hW (mt_wants_1 l hq (T) (D) (th) (j := j) (S) (B) (by omega) (hw)) (cwV 1 X.2.2.2.2 gX7_pass_X7_wants rfl rfl rfl (by decide +kernel) ⟨Nat.le_of_ble_eq_true rfl, Nat.le_of_ble_eq_true rfl⟩) rfl rfl hl.1 (Nat.le_of_ble_eq_true rfl) dX7_pass_65 ⟨Nat.zero_le _, Nat.zero_le _⟩ (fun H locs hW => ?_)
      refine n_if_eq_f (tgt := 86) X.1 X.2.1 dX7_pass_68 (by decide) (by decide) (by omega) ?_
      refine lv_aload_n X.1 X.2.1 dX7_pass_71 rfl (lv_at hl 0 rfl) ?_
      refine lv_iload_n X.1 X.2.1 dX7_pass_72 rfl (lv_at hl 1 rfl) ?_
      refine mcalli hq X hW (mt_got l hq ((wnT T j)) (D) (th) (j := j) (S0) (B0) (by omega) (hw) (P0)) (cwV 1 X.2.2.2.2 gX7_pass_X7_got rfl rfl rfl (by decide +kernel) ⟨Nat.le_of_ble_eq_true rfl, Nat.le_of_ble_eq_true rfl⟩) rfl rfl hl.1 (Nat.le_of_ble_eq_true rfl) dX7_pass_73 ⟨Nat.zero_le _, Nat.zero_le _⟩ (fun H locs hW => ?_)
      refine lv_pop X.1 X.2.1 dX7_pass_76 rfl ?_
      refine lv_lload X.1 X.2.1 dX7_pass_77 (lv_at hl 3 rfl) ?_
      refine lv_lconst (v := lN 1) X.1 X.2.1 dX7_pass_79 rfl ?_
      refine lv_ladd X.1 X.2.1 dX7_pass_80 ?_
      refine n_cvl (y := lN (k + 1)) (lN_add _ _) ?_
      refine lv_lstore (lv' := [(4, .long (lN (k + 1))), (0, .ref (q 0)), (1, .int (nI (j))), (2, .long (lN M))]) X.1 X.2.1 dX7_pass_81 hl (by decide) rfl (fun ls hl => ?_)
      refine lv_goto (tgt := 56) X.1 X.2.1 dX7_pass_83 (by decide) ?_
      exact ih (k + 1) _ (by omega) (by omega) hT (gtT_st S0 hw P0) (gtT_b4 B0) _ _ hW ls (lv_sub hl [1, 2, 3, 0] rfl)
    · rw [psN, if_neg hw] at hR
      rw [psT, if_neg hw] at hT
      have S0 := wnT_st S
      refine lv_lload X.1 X.2.1 dX7_pass_56 (lv_at hl 3 rfl) ?_
      refine lv_lload_n X.1 X.2.1 dX7_pass_58 rfl (lv_at hl 2 rfl) ?_
      refine W.lcmp X.1 X.2.1 dX7_pass_59 ?_
      refine x_if_ge_f (tgt := 86) X.1 X.2.1 dX7_pass_60 (by decide) (fun z => absurd ((pk_lLE (by omega) (by omega)).mp ((lg_cmp_ge _ _).mp z)) (by omega)) ?_
      refine lv_aload_n X.1 X.2.1 dX7_pass_63 rfl (lv_at hl 0 rfl) ?_
      refine lv_iload_n X.1 X.2.1 dX7_pass_64 rfl (lv_at hl 1 rfl) ?_
      refine mcalli hq X hW (mt_wants_0 l hq (T) (D) (th) (j := j) (S) (B) (by omega) (hw)) (cwV 1 X.2.2.2.2 gX7_pass_X7_wants rfl rfl rfl (by decide +kernel) ⟨Nat.le_of_ble_eq_true rfl, Nat.le_of_ble_eq_true rfl⟩) rfl rfl hl.1 (Nat.le_of_ble_eq_true rfl) dX7_pass_65 ⟨Nat.zero_le _, Nat.zero_le _⟩ (fun H locs hW => ?_)
      refine n_if_eq_t (tgt := 86) X.1 X.2.1 dX7_pass_68 (by decide) (by decide) (by omega) ?_
      refine lv_lload X.1 X.2.1 dX7_pass_86 (lv_at hl 3 rfl) ?_
      exact hE _ _ _ _ _ (by rw [← hR, Nat.add_zero]) (hW.eq hT rfl rfl) dX7_pass_88


set_option maxHeartbeats 4000000 in
set_option maxRecDepth 100000 in
theorem mt_pass (l : Launch) {G : va_G} {cI cZ : ClassId} {q : Nat → Nat} (hq : mJ q) (T : mT) (D : mD) (th : Int32) (I : mI T) {j n : Nat} (hj : j < 2) (hn : n < 2 ^ 63) (h : n ≤ 1000) (h0 : T 13 j ≠ 0) : mMl l yX7_pass wsX7_pass ({ frames := 2, cells := 0, slots := 0, locals := 43 } : Room) G cI cZ q [.int (nI j), .long (lN n)] T D th (lN (psN j n T)) (psT j n T) D (nI 0) := by
  refine mstartl (cc := cX7_pass) (maxL := 6) (ret := (some .long)) (by decide) rfl rfl rfl (Nat.le_of_ble_eq_true rfl) (fun p e s m args below meth c Q hE X hW ls hl => ?_)
  have hl : lv_has ls 6 [(0, .ref (q 0)), (1, .int (nI j)), (2, .long (lN n))] := hl
  have hin : ∀ w ∈ wsX70, w ∈ wsX7_pass := fun w h => List.mem_cons_of_mem _ (List.mem_append_left _ (List.mem_append_right _ (h)))
  have S9 := (I.stI hj).le
  refine lv_aload_n X.1 X.2.1 dX7_pass_0 rfl (lv_at hl 0 rfl) ?_
  refine lv_aload_n X.1 X.2.1 dX7_pass_1 rfl (lv_at hl 0 rfl) ?_
  refine lv_iload_n X.1 X.2.1 dX7_pass_2 rfl (lv_at hl 1 rfl) ?_
  refine mcalli hq X hW (mt_isStream_ok l hq (T) (D) (th) (r := j) (by omega)) (cwV 1 X.2.2.2.2 gX7_pass_X7_isStream rfl rfl rfl (by decide +kernel) ⟨Nat.le_of_ble_eq_true rfl, Nat.le_of_ble_eq_true rfl⟩) rfl rfl hl.1 (Nat.le_of_ble_eq_true rfl) dX7_pass_3 ⟨Nat.zero_le _, Nat.zero_le _⟩ (fun H locs hW => ?_)
  refine n_if_ne_t (tgt := 13) X.1 X.2.1 dX7_pass_6 (by decide) (by decide) (by omega) ?_
  refine lv_lload_n X.1 X.2.1 dX7_pass_13 rfl (lv_at hl 2 rfl) ?_
  refine lv_lconst (v := lN 0) X.1 X.2.1 dX7_pass_14 rfl ?_
  refine W.lcmp X.1 X.2.1 dX7_pass_15 ?_
  refine x_if_lt_f (tgt := 27) X.1 X.2.1 dX7_pass_16 (by decide) (fun z => absurd ((lg_cmp_lt _ _).mp z) (fun y => absurd ((pk_lLT hn (by decide)).mp y) (Nat.not_lt_zero n))) ?_
  refine lv_lload_n X.1 X.2.1 dX7_pass_19 rfl (lv_at hl 2 rfl) ?_
  refine lv_ldc2 X.1 X.2.1 X.2.2.2.1 (X.2.2.2.2 (.constantLong RX7 171 (1000)) (List.mem_cons_of_mem _ (List.mem_append_left _ (List.mem_append_left _ (List.mem_append_left _ (List.mem_of_getElem? (i := 0) rfl)))))) dX7_pass_20 ?_
  refine W.lcmp X.1 X.2.1 dX7_pass_23 ?_
  refine x_if_le_t (tgt := 31) X.1 X.2.1 dX7_pass_24 (by decide) ((lg_cmp_le _ _).mpr (show lN n ≤ lN 1000 from (pk_lLE hn (by decide)).mpr h)) ?_
  refine lv_aload_n X.1 X.2.1 dX7_pass_31 rfl (lv_at hl 0 rfl) ?_
  refine mget 13 (by decide) rfl X hin hW (X.2.2.2.2 (.fieldLink RX7 50 "StrandbookModel" "parts" "[I") (List.mem_cons_of_mem _ (List.mem_append_left _ (List.mem_append_left _ (List.mem_append_left _ (List.mem_of_getElem? (i := 1) rfl)))))) dX7_pass_32 ?_
  refine lv_iload_n X.1 X.2.1 dX7_pass_35 rfl (lv_at hl 1 rfl) ?_
  refine mld13 X hW (by omega) dX7_pass_36 ?_
  refine n_if_ne_t (tgt := 44) X.1 X.2.1 dX7_pass_37 (by decide) (h0) (by omega) ?_
  refine lv_iconst (v := nI 0) X.1 X.2.1 dX7_pass_44 (by decide) ?_
  refine mcalli hq X hW (mt_isWrong_0 l hq (T) (D) (th)) (cwV 1 X.2.2.2.2 gX7_pass_X7_isWrong rfl rfl rfl (by decide +kernel) ⟨Nat.le_of_ble_eq_true rfl, Nat.le_of_ble_eq_true rfl⟩) rfl rfl hl.1 (Nat.le_of_ble_eq_true rfl) dX7_pass_45 ⟨Nat.zero_le _, Nat.zero_le _⟩ (fun H locs hW => ?_)
  refine n_if_eq_t (tgt := 53) X.1 X.2.1 dX7_pass_48 (by decide) (by decide) (by omega) ?_
  refine lv_lconst (v := lN 0) X.1 X.2.1 dX7_pass_53 rfl ?_
  refine lv_lstore (lv' := [(4, .long (lN 0)), (0, .ref (q 0)), (1, .int (nI (j))), (2, .long (lN n))]) X.1 X.2.1 dX7_pass_54 hl (by decide) rfl (fun ls hl => ?_)
  exact mt_pass_loop (M := n) (R9 := psN j n T) (TR := psT j n T) hq hj h X hE n 0 T (by omega) (by omega) rfl (I.stI hj) I.b4 _ _ hW ls (lv_sub hl [1, 2, 3, 0] rfl)

theorem mo_pass (l : Launch) {G : va_G} {cI cZ : ClassId} {q : Nat → Nat} (hq : mJ q) (T : mT) (D : mD) (th : Int32) (I : mI T) (J : mJD D) (j : Int32) (m : Int64) : mOl l yX7_pass wsX7_pass ({ frames := 2, cells := 0, slots := 0, locals := 43 } : Room) G cI cZ q [.int j, .long m] T D th (sp_pass T D j m) := by
  by_cases h1 : oN j 2
  · rw [show sp_pass T D j m = nol T D 1 from if_pos h1]; exact mt_pass_1 l hq T D th h1
  · obtain ⟨j, hj, rfl⟩ := oN_in (by decide) h1
    have hc : (nI j).toNatClampNeg = j := nI_clamp (by omega)
    by_cases h2 : m < 0
    · rw [show sp_pass T D (nI j) m = nol T D 2 from (if_neg h1).trans (if_pos (Or.inl h2))]; exact mt_pass_2a l hq T D th hj h2
    · obtain ⟨n, hn, rfl⟩ := pk_lOf h2
      have e3 : (1000 < lN n) ↔ 1000 < n := pk_lLT (a := 1000) (by decide) hn
      by_cases h3 : 1000 < n
      · rw [show sp_pass T D (nI j) (lN n) = nol T D 2 from (if_neg h1).trans (if_pos (Or.inr (e3.mpr h3)))]; exact mt_pass_2b l hq T D th hj hn h3
      · have h4 : ¬ (lN n < 0 ∨ 1000 < lN n) := fun z => z.elim h2 (fun z => h3 (e3.mp z))
        have e4 : (lN n).toInt.toNat = n := by rw [pk_lT hn]; rfl
        by_cases h5 : T 13 j = 0
        · rw [show sp_pass T D (nI j) (lN n) = nol T D 3 from (if_neg h1).trans ((if_neg h4).trans (if_pos (by rw [hc]; exact h5)))]; exact mt_pass_3 l hq T D th I hj hn (Nat.not_lt.mp h3) h5
        · rw [show sp_pass T D (nI j) (lN n) = (0, psN j n T, psT j n T, D) from (if_neg h1).trans ((if_neg h4).trans ((if_neg (by rw [hc]; exact h5)).trans (by rw [hc, e4])))]
          exact mt_pass l hq T D th I hj hn (Nat.not_lt.mp h3) h5

set_option maxHeartbeats 4000000 in
set_option maxRecDepth 100000 in
theorem mt_share_1 (l : Launch) {G : va_G} {cI cZ : ClassId} {q : Nat → Nat} (hq : mJ q) (T : mT) (D : mD) (th : Int32) {j : Int32} (h : oN j 2) : mMf l yX7_passedShare wsX7_passedShare ({ frames := 1, cells := 0, slots := 0, locals := 21 } : Room) G cI cZ q [.int (j)] (T) (D) (th) (FP.fconst0) (T) (D) (nI 1) := by
  refine mstartf (cc := cX7_passedShare) (maxL := 2) (ret := (some .float)) (by decide) rfl rfl rfl (Nat.le_of_ble_eq_true rfl) (fun p e s m args below meth c Q hE X hW ls hl => ?_)
  have hl : lv_has ls 2 [(0, .ref (q 0)), (1, .int (j))] := hl
  have hin : ∀ w ∈ wsX70, w ∈ wsX7_passedShare := fun w h => List.mem_cons_of_mem _ (List.mem_append_left _ (List.mem_append_right _ (h)))
  refine lv_aload_n X.1 X.2.1 dX7_passedShare_0 rfl (lv_at hl 0 rfl) ?_
  refine lv_aload_n X.1 X.2.1 dX7_passedShare_1 rfl (lv_at hl 0 rfl) ?_
  refine lv_iload_n X.1 X.2.1 dX7_passedShare_2 rfl (lv_at hl 1 rfl) ?_
  refine mcalli hq X hW (mt_isStream_bad l hq (T) (D) (th) (x := j) (h)) (cwV 1 X.2.2.2.2 gX7_passedShare_X7_isStream rfl rfl rfl (by decide +kernel) ⟨Nat.le_of_ble_eq_true rfl, Nat.le_of_ble_eq_true rfl⟩) rfl rfl hl.1 (Nat.le_of_ble_eq_true rfl) dX7_passedShare_3 ⟨Nat.zero_le _, Nat.zero_le _⟩ (fun H locs hW => ?_)
  refine n_if_ne_f (tgt := 13) X.1 X.2.1 dX7_passedShare_6 (by decide) (by decide) (by omega) ?_
  refine lv_iconst (v := nI 1) X.1 X.2.1 dX7_passedShare_9 (by decide) ?_
  refine lv_goto (tgt := 40) X.1 X.2.1 dX7_passedShare_10 (by decide) ?_
  refine mcalli hq X hW (mt_isWrong_s l hq (T) (D) (th) (n := 1) (by decide) (by decide)) (cwV 1 X.2.2.2.2 gX7_passedShare_X7_isWrong rfl rfl rfl (by decide +kernel) ⟨Nat.le_of_ble_eq_true rfl, Nat.le_of_ble_eq_true rfl⟩) rfl rfl hl.1 (Nat.le_of_ble_eq_true rfl) dX7_passedShare_40 ⟨Nat.zero_le _, Nat.zero_le _⟩ (fun H locs hW => ?_)
  refine n_if_eq_f (tgt := 48) X.1 X.2.1 dX7_passedShare_43 (by decide) (by decide) (by omega) ?_
  refine lv_fconst0 X.1 X.2.1 dX7_passedShare_46 ?_
  exact hE _ _ _ _ _ (rfl) hW dX7_passedShare_47

set_option maxHeartbeats 4000000 in
set_option maxRecDepth 100000 in
theorem mt_share_2 (l : Launch) {G : va_G} {cI cZ : ClassId} {q : Nat → Nat} (hq : mJ q) (T : mT) (D : mD) (th : Int32) {j : Nat} (hj : j < 2) (h : T 13 j = 0) : mMf l yX7_passedShare wsX7_passedShare ({ frames := 1, cells := 0, slots := 0, locals := 21 } : Room) G cI cZ q [.int (nI (j))] (T) (D) (th) (FP.fconst0) (T) (D) (nI 2) := by
  refine mstartf (cc := cX7_passedShare) (maxL := 2) (ret := (some .float)) (by decide) rfl rfl rfl (Nat.le_of_ble_eq_true rfl) (fun p e s m args below meth c Q hE X hW ls hl => ?_)
  have hl : lv_has ls 2 [(0, .ref (q 0)), (1, .int (nI (j)))] := hl
  have hin : ∀ w ∈ wsX70, w ∈ wsX7_passedShare := fun w h => List.mem_cons_of_mem _ (List.mem_append_left _ (List.mem_append_right _ (h)))
  refine lv_aload_n X.1 X.2.1 dX7_passedShare_0 rfl (lv_at hl 0 rfl) ?_
  refine lv_aload_n X.1 X.2.1 dX7_passedShare_1 rfl (lv_at hl 0 rfl) ?_
  refine lv_iload_n X.1 X.2.1 dX7_passedShare_2 rfl (lv_at hl 1 rfl) ?_
  refine mcalli hq X hW (mt_isStream_ok l hq (T) (D) (th) (r := j) (by omega)) (cwV 1 X.2.2.2.2 gX7_passedShare_X7_isStream rfl rfl rfl (by decide +kernel) ⟨Nat.le_of_ble_eq_true rfl, Nat.le_of_ble_eq_true rfl⟩) rfl rfl hl.1 (Nat.le_of_ble_eq_true rfl) dX7_passedShare_3 ⟨Nat.zero_le _, Nat.zero_le _⟩ (fun H locs hW => ?_)
  refine n_if_ne_t (tgt := 13) X.1 X.2.1 dX7_passedShare_6 (by decide) (by decide) (by omega) ?_
  refine lv_aload_n X.1 X.2.1 dX7_passedShare_13 rfl (lv_at hl 0 rfl) ?_
  refine mget 13 (by decide) rfl X hin hW (X.2.2.2.2 (.fieldLink RX7 50 "StrandbookModel" "parts" "[I") (List.mem_cons_of_mem _ (List.mem_append_left _ (List.mem_append_left _ (List.mem_of_getElem? (i := 0) rfl))))) dX7_passedShare_14 ?_
  refine lv_iload_n X.1 X.2.1 dX7_passedShare_17 rfl (lv_at hl 1 rfl) ?_
  refine mld13 X hW (by omega) dX7_passedShare_18 ?_
  refine n_if_ne_f (tgt := 26) X.1 X.2.1 dX7_passedShare_19 (by decide) (h) (by omega) ?_
  refine lv_iconst (v := nI 2) X.1 X.2.1 dX7_passedShare_22 (by decide) ?_
  refine lv_goto (tgt := 40) X.1 X.2.1 dX7_passedShare_23 (by decide) ?_
  refine mcalli hq X hW (mt_isWrong_s l hq (T) (D) (th) (n := 2) (by decide) (by decide)) (cwV 1 X.2.2.2.2 gX7_passedShare_X7_isWrong rfl rfl rfl (by decide +kernel) ⟨Nat.le_of_ble_eq_true rfl, Nat.le_of_ble_eq_true rfl⟩) rfl rfl hl.1 (Nat.le_of_ble_eq_true rfl) dX7_passedShare_40 ⟨Nat.zero_le _, Nat.zero_le _⟩ (fun H locs hW => ?_)
  refine n_if_eq_f (tgt := 48) X.1 X.2.1 dX7_passedShare_43 (by decide) (by decide) (by omega) ?_
  refine lv_fconst0 X.1 X.2.1 dX7_passedShare_46 ?_
  exact hE _ _ _ _ _ (rfl) hW dX7_passedShare_47

set_option maxHeartbeats 4000000 in
set_option maxRecDepth 100000 in
theorem mt_share_3 (l : Launch) {G : va_G} {cI cZ : ClassId} {q : Nat → Nat} (hq : mJ q) (T : mT) (D : mD) (th : Int32) (I : mI T) {j : Nat} (hj : j < 2) (h : T 13 j ≠ 0) (h2 : T 17 j = 0) : mMf l yX7_passedShare wsX7_passedShare ({ frames := 1, cells := 0, slots := 0, locals := 21 } : Room) G cI cZ q [.int (nI (j))] (T) (D) (th) (FP.fconst0) (T) (D) (nI 3) := by
  refine mstartf (cc := cX7_passedShare) (maxL := 2) (ret := (some .float)) (by decide) rfl rfl rfl (Nat.le_of_ble_eq_true rfl) (fun p e s m args below meth c Q hE X hW ls hl => ?_)
  have hl : lv_has ls 2 [(0, .ref (q 0)), (1, .int (nI (j)))] := hl
  have hin : ∀ w ∈ wsX70, w ∈ wsX7_passedShare := fun w h => List.mem_cons_of_mem _ (List.mem_append_left _ (List.mem_append_right _ (h)))
  have S9 := (I.stI hj).le
  have S8 := (I.st hj).2.2.1
  refine lv_aload_n X.1 X.2.1 dX7_passedShare_0 rfl (lv_at hl 0 rfl) ?_
  refine lv_aload_n X.1 X.2.1 dX7_passedShare_1 rfl (lv_at hl 0 rfl) ?_
  refine lv_iload_n X.1 X.2.1 dX7_passedShare_2 rfl (lv_at hl 1 rfl) ?_
  refine mcalli hq X hW (mt_isStream_ok l hq (T) (D) (th) (r := j) (by omega)) (cwV 1 X.2.2.2.2 gX7_passedShare_X7_isStream rfl rfl rfl (by decide +kernel) ⟨Nat.le_of_ble_eq_true rfl, Nat.le_of_ble_eq_true rfl⟩) rfl rfl hl.1 (Nat.le_of_ble_eq_true rfl) dX7_passedShare_3 ⟨Nat.zero_le _, Nat.zero_le _⟩ (fun H locs hW => ?_)
  refine n_if_ne_t (tgt := 13) X.1 X.2.1 dX7_passedShare_6 (by decide) (by decide) (by omega) ?_
  refine lv_aload_n X.1 X.2.1 dX7_passedShare_13 rfl (lv_at hl 0 rfl) ?_
  refine mget 13 (by decide) rfl X hin hW (X.2.2.2.2 (.fieldLink RX7 50 "StrandbookModel" "parts" "[I") (List.mem_cons_of_mem _ (List.mem_append_left _ (List.mem_append_left _ (List.mem_of_getElem? (i := 0) rfl))))) dX7_passedShare_14 ?_
  refine lv_iload_n X.1 X.2.1 dX7_passedShare_17 rfl (lv_at hl 1 rfl) ?_
  refine mld13 X hW (by omega) dX7_passedShare_18 ?_
  refine n_if_ne_t (tgt := 26) X.1 X.2.1 dX7_passedShare_19 (by decide) (h) (by omega) ?_
  refine lv_aload_n X.1 X.2.1 dX7_passedShare_26 rfl (lv_at hl 0 rfl) ?_
  refine mget 17 (by decide) rfl X hin hW (X.2.2.2.2 (.fieldLink RX7 62 "StrandbookModel" "totals" "[I") (List.mem_cons_of_mem _ (List.mem_append_left _ (List.mem_append_left _ (List.mem_of_getElem? (i := 1) rfl))))) dX7_passedShare_27 ?_
  refine lv_iload_n X.1 X.2.1 dX7_passedShare_30 rfl (lv_at hl 1 rfl) ?_
  refine mld17 X hW (by omega) dX7_passedShare_31 ?_
  refine n_if_ne_f (tgt := 39) X.1 X.2.1 dX7_passedShare_32 (by decide) (h2) (by omega) ?_
  refine lv_iconst (v := nI 3) X.1 X.2.1 dX7_passedShare_35 (by decide) ?_
  refine lv_goto (tgt := 40) X.1 X.2.1 dX7_passedShare_36 (by decide) ?_
  refine mcalli hq X hW (mt_isWrong_s l hq (T) (D) (th) (n := 3) (by decide) (by decide)) (cwV 1 X.2.2.2.2 gX7_passedShare_X7_isWrong rfl rfl rfl (by decide +kernel) ⟨Nat.le_of_ble_eq_true rfl, Nat.le_of_ble_eq_true rfl⟩) rfl rfl hl.1 (Nat.le_of_ble_eq_true rfl) dX7_passedShare_40 ⟨Nat.zero_le _, Nat.zero_le _⟩ (fun H locs hW => ?_)
  refine n_if_eq_f (tgt := 48) X.1 X.2.1 dX7_passedShare_43 (by decide) (by decide) (by omega) ?_
  refine lv_fconst0 X.1 X.2.1 dX7_passedShare_46 ?_
  exact hE _ _ _ _ _ (rfl) hW dX7_passedShare_47

set_option maxHeartbeats 4000000 in
set_option maxRecDepth 100000 in
theorem mt_share (l : Launch) {G : va_G} {cI cZ : ClassId} {q : Nat → Nat} (hq : mJ q) (T : mT) (D : mD) (th : Int32) (I : mI T) {j : Nat} (hj : j < 2) (h : T 13 j ≠ 0) (h2 : T 17 j ≠ 0) : mMf l yX7_passedShare wsX7_passedShare ({ frames := 1, cells := 0, slots := 0, locals := 21 } : Room) G cI cZ q [.int (nI (j))] (T) (D) (th) (shV T j) (T) (D) (nI 0) := by
  refine mstartf (cc := cX7_passedShare) (maxL := 2) (ret := (some .float)) (by decide) rfl rfl rfl (Nat.le_of_ble_eq_true rfl) (fun p e s m args below meth c Q hE X hW ls hl => ?_)
  have hl : lv_has ls 2 [(0, .ref (q 0)), (1, .int (nI (j)))] := hl
  have hin : ∀ w ∈ wsX70, w ∈ wsX7_passedShare := fun w h => List.mem_cons_of_mem _ (List.mem_append_left _ (List.mem_append_right _ (h)))
  have S9 := (I.stI hj).le
  have S8 := (I.st hj).2.2.1
  refine lv_aload_n X.1 X.2.1 dX7_passedShare_0 rfl (lv_at hl 0 rfl) ?_
  refine lv_aload_n X.1 X.2.1 dX7_passedShare_1 rfl (lv_at hl 0 rfl) ?_
  refine lv_iload_n X.1 X.2.1 dX7_passedShare_2 rfl (lv_at hl 1 rfl) ?_
  refine mcalli hq X hW (mt_isStream_ok l hq (T) (D) (th) (r := j) (by omega)) (cwV 1 X.2.2.2.2 gX7_passedShare_X7_isStream rfl rfl rfl (by decide +kernel) ⟨Nat.le_of_ble_eq_true rfl, Nat.le_of_ble_eq_true rfl⟩) rfl rfl hl.1 (Nat.le_of_ble_eq_true rfl) dX7_passedShare_3 ⟨Nat.zero_le _, Nat.zero_le _⟩ (fun H locs hW => ?_)
  refine n_if_ne_t (tgt := 13) X.1 X.2.1 dX7_passedShare_6 (by decide) (by decide) (by omega) ?_
  refine lv_aload_n X.1 X.2.1 dX7_passedShare_13 rfl (lv_at hl 0 rfl) ?_
  refine mget 13 (by decide) rfl X hin hW (X.2.2.2.2 (.fieldLink RX7 50 "StrandbookModel" "parts" "[I") (List.mem_cons_of_mem _ (List.mem_append_left _ (List.mem_append_left _ (List.mem_of_getElem? (i := 0) rfl))))) dX7_passedShare_14 ?_
  refine lv_iload_n X.1 X.2.1 dX7_passedShare_17 rfl (lv_at hl 1 rfl) ?_
  refine mld13 X hW (by omega) dX7_passedShare_18 ?_
  refine n_if_ne_t (tgt := 26) X.1 X.2.1 dX7_passedShare_19 (by decide) (h) (by omega) ?_
  refine lv_aload_n X.1 X.2.1 dX7_passedShare_26 rfl (lv_at hl 0 rfl) ?_
  refine mget 17 (by decide) rfl X hin hW (X.2.2.2.2 (.fieldLink RX7 62 "StrandbookModel" "totals" "[I") (List.mem_cons_of_mem _ (List.mem_append_left _ (List.mem_append_left _ (List.mem_of_getElem? (i := 1) rfl))))) dX7_passedShare_27 ?_
  refine lv_iload_n X.1 X.2.1 dX7_passedShare_30 rfl (lv_at hl 1 rfl) ?_
  refine mld17 X hW (by omega) dX7_passedShare_31 ?_
  refine n_if_ne_t (tgt := 39) X.1 X.2.1 dX7_passedShare_32 (by decide) (h2) (by omega) ?_
  refine lv_iconst (v := nI 0) X.1 X.2.1 dX7_passedShare_39 (by decide) ?_
  refine mcalli hq X hW (mt_isWrong_0 l hq (T) (D) (th)) (cwV 1 X.2.2.2.2 gX7_passedShare_X7_isWrong rfl rfl rfl (by decide +kernel) ⟨Nat.le_of_ble_eq_true rfl, Nat.le_of_ble_eq_true rfl⟩) rfl rfl hl.1 (Nat.le_of_ble_eq_true rfl) dX7_passedShare_40 ⟨Nat.zero_le _, Nat.zero_le _⟩ (fun H locs hW => ?_)
  refine n_if_eq_t (tgt := 48) X.1 X.2.1 dX7_passedShare_43 (by decide) (by decide) (by omega) ?_
  refine lv_aload_n X.1 X.2.1 dX7_passedShare_48 rfl (lv_at hl 0 rfl) ?_
  refine mget 18 (by decide) rfl X hin hW (X.2.2.2.2 (.fieldLink RX7 65 "StrandbookModel" "passes" "[I") (List.mem_cons_of_mem _ (List.mem_append_left _ (List.mem_append_left _ (List.mem_of_getElem? (i := 2) rfl))))) dX7_passedShare_49 ?_
  refine lv_iload_n X.1 X.2.1 dX7_passedShare_52 rfl (lv_at hl 1 rfl) ?_
  refine mld18 X hW (by omega) dX7_passedShare_53 ?_
  refine lv_i2f X.1 X.2.1 dX7_passedShare_54 ?_
  refine lv_aload_n X.1 X.2.1 dX7_passedShare_55 rfl (lv_at hl 0 rfl) ?_
  refine mget 17 (by decide) rfl X hin hW (X.2.2.2.2 (.fieldLink RX7 62 "StrandbookModel" "totals" "[I") (List.mem_cons_of_mem _ (List.mem_append_left _ (List.mem_append_left _ (List.mem_of_getElem? (i := 1) rfl))))) dX7_passedShare_56 ?_
  refine lv_iload_n X.1 X.2.1 dX7_passedShare_59 rfl (lv_at hl 1 rfl) ?_
  refine mld17 X hW (by omega) dX7_passedShare_60 ?_
  refine lv_i2f X.1 X.2.1 dX7_passedShare_61 ?_
  refine lv_fdiv X.1 X.2.1 dX7_passedShare_62 (n32_of (fdiv_n32 _ _ (by rw [nI_toInt (by omega)]; omega))) ?_
  exact hE _ _ _ _ _ (rfl) hW dX7_passedShare_63

theorem mo_passedShare (l : Launch) {G : va_G} {cI cZ : ClassId} {q : Nat → Nat} (hq : mJ q) (T : mT) (D : mD) (th : Int32) (I : mI T) (J : mJD D) (j : Int32) : mOf l yX7_passedShare wsX7_passedShare ({ frames := 1, cells := 0, slots := 0, locals := 21 } : Room) G cI cZ q [.int j] T D th (sp_share T D j) := by
  by_cases h1 : oN j 2
  · rw [show sp_share T D j = nof T D 1 from if_pos h1]; exact mt_share_1 l hq T D th h1
  · obtain ⟨j, hj, rfl⟩ := oN_in (by decide) h1
    have hc : (nI j).toNatClampNeg = j := nI_clamp (by omega)
    by_cases h2 : T 13 j = 0
    · rw [show sp_share T D (nI j) = nof T D 2 from (if_neg h1).trans (if_pos (by rw [hc]; exact h2))]; exact mt_share_2 l hq T D th hj h2
    · by_cases h3 : T 17 j = 0
      · rw [show sp_share T D (nI j) = nof T D 3 from (if_neg h1).trans ((if_neg (by rw [hc]; exact h2)).trans (if_pos (by rw [hc]; exact h3)))]; exact mt_share_3 l hq T D th I hj h2 h3
      · rw [show sp_share T D (nI j) = (0, shV T j, T, D) from (if_neg h1).trans ((if_neg (by rw [hc]; exact h2)).trans ((if_neg (by rw [hc]; exact h3)).trans (by rw [hc])))]; exact mt_share l hq T D th I hj h2 h3

set_option maxHeartbeats 4000000 in
set_option maxRecDepth 100000 in
theorem mt_meanSize (l : Launch) {G : va_G} {cI cZ : ClassId} {q : Nat → Nat} (hq : mJ q) (T : mT) (D : mD) (th : Int32) (I : mI T) : mMd l yX7_meanSize wsX7_meanSize ({ frames := 0, cells := 0, slots := 0, locals := 0 } : Room) G cI cZ q [] (T) (D) (th) (meV T) (T) (D) (nI 0) := by
  refine mstartd (cc := cX7_meanSize) (maxL := 3) (ret := (some .double)) (by decide) rfl rfl rfl (Nat.le_of_ble_eq_true rfl) (fun p e s m args below meth c Q hE X hW ls hl => ?_)
  have hl : lv_has ls 3 [(0, .ref (q 0))] := hl
  have hin : ∀ w ∈ wsX70, w ∈ wsX7_meanSize := fun w h => List.mem_cons_of_mem _ (List.mem_append_left _ (List.mem_append_right _ (h)))
  refine lv_aload_n X.1 X.2.1 dX7_meanSize_0 rfl (lv_at hl 0 rfl) ?_
  refine lv_iconst (v := nI 0) X.1 X.2.1 dX7_meanSize_1 (by decide) ?_
  refine mputth hq X hin hW (X.2.2.2.2 (.fieldLink RX7 71 "StrandbookModel" "thrown" "I") (List.mem_cons_of_mem _ (List.mem_append_left _ (List.mem_append_left _ (List.mem_of_getElem? (i := 0) rfl))))) dX7_meanSize_2 (fun H locs hW => ?_)
  refine lv_iconst (v := nI 0) X.1 X.2.1 dX7_meanSize_5 (by decide) ?_
  refine lv_istore_n (lv' := [(1, .int (nI (0))), (0, .ref (q 0))]) X.1 X.2.1 dX7_meanSize_6 rfl hl (by decide) rfl (fun ls hl => ?_)
  refine lv_iconst (v := nI 0) X.1 X.2.1 dX7_meanSize_7 (by decide) ?_
  refine lv_istore_n (lv' := [(2, .int (nI (0))), (1, .int (nI (0))), (0, .ref (q 0))]) X.1 X.2.1 dX7_meanSize_8 rfl hl (by decide) rfl (fun ls hl => ?_)
  have loop9 : ∀ (n9 k9 : Nat), k9 + n9 = 6 → ∀ (H : Heap) (locs : List Loc), mH G cI cZ q (T) (D) (nI (0)) s H locs → ∀ ls : Array Slot, lv_has ls 3 [(0, .ref (q 0)), (1, .int (nI (smN T k9))), (2, .int (nI (k9)))] → W p l e ({ frames := 0, cells := 0, slots := 0, locals := 0 } : Room) s m args below meth c H locs 0 0 Q (F0 m 9 ls []) := by
    intro n9
    induction n9 with
    | zero =>
      intro k9 hk9  H locs hW ls hl
      obtain rfl : 6 = k9 := by omega
      refine lv_iload_n X.1 X.2.1 dX7_meanSize_9 rfl (lv_at hl 2 rfl) ?_
      refine lv_bipush (v := nI 6) X.1 X.2.1 dX7_meanSize_10 (by decide) ?_
      refine n_icmp_ge_t (tgt := 30) X.1 X.2.1 dX7_meanSize_12 (by decide) (by omega) (by omega) (by omega) ?_
      refine lv_iload_n X.1 X.2.1 dX7_meanSize_30 rfl (lv_at hl 1 rfl) ?_
      refine lv_i2d X.1 X.2.1 dX7_meanSize_31 ?_
      refine lv_ldc2d X.1 X.2.1 X.2.2.2.1 (X.2.2.2.2 (.constantDouble RX7 173 (4618441417868443648)) (List.mem_cons_of_mem _ (List.mem_append_left _ (List.mem_append_left _ (List.mem_of_getElem? (i := 2) rfl))))) dX7_meanSize_32 ?_
      refine lv_ddiv X.1 X.2.1 dX7_meanSize_35 (n64_of (ddiv_n64 _)) ?_
      exact hE _ _ _ _ _ (rfl) hW dX7_meanSize_36
    | succ n9 ih9 =>
      intro k9 hk9  H locs hW ls hl
      refine lv_iload_n X.1 X.2.1 dX7_meanSize_9 rfl (lv_at hl 2 rfl) ?_
      refine lv_bipush (v := nI 6) X.1 X.2.1 dX7_meanSize_10 (by decide) ?_
      refine n_icmp_ge_f (tgt := 30) X.1 X.2.1 dX7_meanSize_12 (by decide) (by omega) (by omega) (by omega) ?_
      refine lv_iload_n X.1 X.2.1 dX7_meanSize_15 rfl (lv_at hl 1 rfl) ?_
      refine lv_aload_n X.1 X.2.1 dX7_meanSize_16 rfl (lv_at hl 0 rfl) ?_
      refine mget 7 (by decide) rfl X hin hW (X.2.2.2.2 (.fieldLink RX7 31 "StrandbookModel" "sizes" "[I") (List.mem_cons_of_mem _ (List.mem_append_left _ (List.mem_append_left _ (List.mem_of_getElem? (i := 1) rfl))))) dX7_meanSize_17 ?_
      refine lv_iload_n X.1 X.2.1 dX7_meanSize_20 rfl (lv_at hl 2 rfl) ?_
      refine mld7 X hW (by omega) dX7_meanSize_21 ?_
      refine n_iadd X.1 X.2.1 dX7_meanSize_22 ?_
      refine lv_istore_n (lv' := [(1, .int (nI ((smN T k9) + (T 7 (k9))))), (0, .ref (q 0)), (2, .int (nI (k9)))]) X.1 X.2.1 dX7_meanSize_23 rfl hl (by decide) rfl (fun ls hl => ?_)
      refine lv_iinc (v := nI (k9 + 1)) (lv' := [(2, .int (nI (k9 + 1))), (1, .int (nI ((smN T k9) + (T 7 (k9))))), (0, .ref (q 0))]) X.1 X.2.1 dX7_meanSize_24 hl (k := 2) rfl (nI_1 _) (by decide) rfl (fun ls hl => ?_)
      refine lv_goto (tgt := 9) X.1 X.2.1 dX7_meanSize_27 (by decide) ?_
      exact ih9 (k9 + 1) (by omega) _ _ (hW.eq (rfl) (rfl) rfl) ls (lv_sub hl [2, 1, 0] rfl)
  exact loop9 ((6) - (0)) (0) (by omega) _ _ (hW.eq (rfl) (rfl) rfl) ls (lv_sub hl [2, 1, 0] rfl)

set_option maxHeartbeats 4000000 in
set_option maxRecDepth 100000 in
theorem mt_checksum (l : Launch) {G : va_G} {cI cZ : ClassId} {q : Nat → Nat} (hq : mJ q) (T : mT) (D : mD) (th : Int32) (I : mI T) : mMl l yX7_checksum wsX7_checksum ({ frames := 1, cells := 0, slots := 0, locals := 22 } : Room) G cI cZ q [] (T) (D) (th) (ck4 T D 2) (T) (D) (nI 0) := by
  refine mstartl (cc := cX7_checksum) (maxL := 6) (ret := (some .long)) (by decide) rfl rfl rfl (Nat.le_of_ble_eq_true rfl) (fun p e s m args below meth c Q hE X hW ls hl => ?_)
  have hl : lv_has ls 6 [(0, .ref (q 0))] := hl
  have hin : ∀ w ∈ wsX70, w ∈ wsX7_checksum := fun w h => List.mem_cons_of_mem _ (List.mem_append_left _ (List.mem_append_right _ (h)))
  refine lv_aload_n X.1 X.2.1 dX7_checksum_0 rfl (lv_at hl 0 rfl) ?_
  refine lv_iconst (v := nI 0) X.1 X.2.1 dX7_checksum_1 (by decide) ?_
  refine mputth hq X hin hW (X.2.2.2.2 (.fieldLink RX7 71 "StrandbookModel" "thrown" "I") (List.mem_cons_of_mem _ (List.mem_append_left _ (List.mem_append_left _ (List.mem_of_getElem? (i := 0) rfl))))) dX7_checksum_2 (fun H locs hW => ?_)
  refine lv_ldc2 X.1 X.2.1 X.2.2.2.1 (X.2.2.2.2 (.constantLong RX7 175 (7)) (List.mem_cons_of_mem _ (List.mem_append_left _ (List.mem_append_left _ (List.mem_of_getElem? (i := 1) rfl))))) dX7_checksum_5 ?_
  refine lv_lstore_n (lv' := [(1, .long (7)), (0, .ref (q 0))]) X.1 X.2.1 dX7_checksum_8 rfl hl (by decide) rfl (fun ls hl => ?_)
  refine lv_iconst (v := nI 0) X.1 X.2.1 dX7_checksum_9 (by decide) ?_
  refine lv_istore_n (lv' := [(3, .int (nI (0))), (1, .long (7)), (0, .ref (q 0))]) X.1 X.2.1 dX7_checksum_10 rfl hl (by decide) rfl (fun ls hl => ?_)
  have loop11 : ∀ (n11 k11 : Nat), k11 + n11 = 4 → ∀ (H : Heap) (locs : List Loc), mH G cI cZ q (T) (D) (nI (0)) s H locs → ∀ ls : Array Slot, lv_has ls 6 [(0, .ref (q 0)), (1, .long (ck1 T D k11)), (3, .int (nI (k11)))] → W p l e ({ frames := 1, cells := 0, slots := 0, locals := 22 } : Room) s m args below meth c H locs 0 0 Q (F0 m 11 ls []) := by
    intro n11
    induction n11 with
    | zero =>
      intro k11 hk11  H locs hW ls hl
      obtain rfl : 4 = k11 := by omega
      refine lv_iload_n X.1 X.2.1 dX7_checksum_11 rfl (lv_at hl 2 rfl) ?_
      refine lv_iconst (v := nI 4) X.1 X.2.1 dX7_checksum_12 (by decide) ?_
      refine n_icmp_ge_t (tgt := 80) X.1 X.2.1 dX7_checksum_13 (by decide) (by omega) (by omega) (by omega) ?_
      refine lv_iconst (v := nI 0) X.1 X.2.1 dX7_checksum_80 (by decide) ?_
      refine lv_istore_n (lv' := [(3, .int (nI (0))), (0, .ref (q 0)), (1, .long (ck1 T D 4))]) X.1 X.2.1 dX7_checksum_81 rfl hl (by decide) rfl (fun ls hl => ?_)
      have loop82 : ∀ (n82 k82 : Nat), k82 + n82 = 4 → ∀ (H : Heap) (locs : List Loc), mH G cI cZ q (T) (D) (nI (0)) s H locs → ∀ ls : Array Slot, lv_has ls 6 [(0, .ref (q 0)), (1, .long (ck2 T D k82)), (3, .int (nI (k82)))] → W p l e ({ frames := 1, cells := 0, slots := 0, locals := 22 } : Room) s m args below meth c H locs 0 0 Q (F0 m 82 ls []) := by
        intro n82
        induction n82 with
        | zero =>
          intro k82 hk82  H locs hW ls hl
          obtain rfl : 4 = k82 := by omega
          refine lv_iload_n X.1 X.2.1 dX7_checksum_82 rfl (lv_at hl 2 rfl) ?_
          refine lv_iconst (v := nI 4) X.1 X.2.1 dX7_checksum_83 (by decide) ?_
          refine n_icmp_ge_t (tgt := 157) X.1 X.2.1 dX7_checksum_84 (by decide) (by omega) (by omega) (by omega) ?_
          refine lv_iconst (v := nI 0) X.1 X.2.1 dX7_checksum_157 (by decide) ?_
          refine lv_istore_n (lv' := [(3, .int (nI (0))), (0, .ref (q 0)), (1, .long (ck2 T D 4))]) X.1 X.2.1 dX7_checksum_158 rfl hl (by decide) rfl (fun ls hl => ?_)
          have loop159 : ∀ (n159 k159 : Nat), k159 + n159 = 6 → ∀ (H : Heap) (locs : List Loc), mH G cI cZ q (T) (D) (nI (0)) s H locs → ∀ ls : Array Slot, lv_has ls 6 [(0, .ref (q 0)), (1, .long (ck3 T D k159)), (3, .int (nI (k159)))] → W p l e ({ frames := 1, cells := 0, slots := 0, locals := 22 } : Room) s m args below meth c H locs 0 0 Q (F0 m 159 ls []) := by
            intro n159
            induction n159 with
            | zero =>
              intro k159 hk159  H locs hW ls hl
              obtain rfl : 6 = k159 := by omega
              refine lv_iload_n X.1 X.2.1 dX7_checksum_159 rfl (lv_at hl 2 rfl) ?_
              refine lv_bipush (v := nI 6) X.1 X.2.1 dX7_checksum_160 (by decide) ?_
              refine n_icmp_ge_t (tgt := 226) X.1 X.2.1 dX7_checksum_162 (by decide) (by omega) (by omega) (by omega) ?_
              refine lv_iconst (v := nI 0) X.1 X.2.1 dX7_checksum_226 (by decide) ?_
              refine lv_istore_n (lv' := [(3, .int (nI (0))), (0, .ref (q 0)), (1, .long (ck3 T D 6))]) X.1 X.2.1 dX7_checksum_227 rfl hl (by decide) rfl (fun ls hl => ?_)
              have loop228 : ∀ (n228 k228 : Nat), k228 + n228 = 2 → ∀ (H : Heap) (locs : List Loc), mH G cI cZ q (T) (D) (nI (0)) s H locs → ∀ ls : Array Slot, lv_has ls 6 [(0, .ref (q 0)), (1, .long (ck4 T D k228)), (3, .int (nI (k228)))] → W p l e ({ frames := 1, cells := 0, slots := 0, locals := 22 } : Room) s m args below meth c H locs 0 0 Q (F0 m 228 ls []) := by
                intro n228
                induction n228 with
                | zero =>
                  intro k228 hk228  H locs hW ls hl
                  obtain rfl : 2 = k228 := by omega
                  refine lv_iload_n X.1 X.2.1 dX7_checksum_228 rfl (lv_at hl 2 rfl) ?_
                  refine lv_iconst (v := nI 2) X.1 X.2.1 dX7_checksum_229 (by decide) ?_
                  refine n_icmp_ge_t (tgt := 265) X.1 X.2.1 dX7_checksum_230 (by decide) (by omega) (by omega) (by omega) ?_
                  refine lv_lload_n X.1 X.2.1 dX7_checksum_265 rfl (lv_at hl 1 rfl) ?_
                  exact hE _ _ _ _ _ (rfl) hW dX7_checksum_266
                | succ n228 ih228 =>
                  intro k228 hk228  H locs hW ls hl
                  have S9 := I.stI (show k228 < 2 by omega)
                  have S8 := S9.le
                  have S7 := lfN_le S9 I.b4
                  refine lv_iload_n X.1 X.2.1 dX7_checksum_228 rfl (lv_at hl 2 rfl) ?_
                  refine lv_iconst (v := nI 2) X.1 X.2.1 dX7_checksum_229 (by decide) ?_
                  refine n_icmp_ge_f (tgt := 265) X.1 X.2.1 dX7_checksum_230 (by decide) (by omega) (by omega) (by omega) ?_
                  refine lv_ldc2 X.1 X.2.1 X.2.2.2.1 (X.2.2.2.2 (.constantLong RX7 177 (31)) (List.mem_cons_of_mem _ (List.mem_append_left _ (List.mem_append_left _ (List.mem_of_getElem? (i := 2) rfl))))) dX7_checksum_233 ?_
                  refine lv_lload_n X.1 X.2.1 dX7_checksum_236 rfl (lv_at hl 1 rfl) ?_
                  refine lv_lmul X.1 X.2.1 dX7_checksum_237 ?_
                  refine lv_aload_n X.1 X.2.1 dX7_checksum_238 rfl (lv_at hl 0 rfl) ?_
                  refine mget 13 (by decide) rfl X hin hW (X.2.2.2.2 (.fieldLink RX7 50 "StrandbookModel" "parts" "[I") (List.mem_cons_of_mem _ (List.mem_append_left _ (List.mem_append_left _ (List.mem_of_getElem? (i := 10) rfl))))) dX7_checksum_239 ?_
                  refine lv_iload_n X.1 X.2.1 dX7_checksum_242 rfl (lv_at hl 2 rfl) ?_
                  refine mld13 X hW (by omega) dX7_checksum_243 ?_
                  rcases Decidable.em (T 13 k228 = 0) with hs | hs
                  · have hfa : ck4 T D (k228 + 1) = 31 * ck4 T D k228 + (-1 : Int32).toInt64 := by rw [ck4, lfI, if_pos hs]
                    refine n_if_ne_f (tgt := 251) X.1 X.2.1 dX7_checksum_244 (by decide) (hs) (by omega) ?_
                    refine lv_iconst (v := -1) X.1 X.2.1 dX7_checksum_247 (by decide) ?_
                    refine lv_goto (tgt := 256) X.1 X.2.1 dX7_checksum_248 (by decide) ?_
                    refine lv_i2l (v := (-1 : Int32).toInt64) X.1 X.2.1 dX7_checksum_256 rfl ?_
                    refine lv_ladd X.1 X.2.1 dX7_checksum_257 ?_
                    refine lv_lstore_n (lv' := [(1, .long (((31 * ck4 T D k228) + (-1 : Int32).toInt64))), (0, .ref (q 0)), (3, .int (nI (k228)))]) X.1 X.2.1 dX7_checksum_258 rfl hl (by decide) rfl (fun ls hl => ?_)
                    refine lv_iinc (v := nI (k228 + 1)) (lv' := [(3, .int (nI (k228 + 1))), (1, .long (((31 * ck4 T D k228) + (-1 : Int32).toInt64))), (0, .ref (q 0))]) X.1 X.2.1 dX7_checksum_259 hl (k := 2) rfl (nI_1 _) (by decide) rfl (fun ls hl => ?_)
                    refine lv_goto (tgt := 228) X.1 X.2.1 dX7_checksum_262 (by decide) ?_
                    exact ih228 (k228 + 1) (by omega) _ _ (hW.eq (rfl) (rfl) rfl) ls (by have h9 := lv_sub hl [2, 1, 0] rfl; rw [hfa]; exact h9)
                  · have hfa : ck4 T D (k228 + 1) = 31 * ck4 T D k228 + lN (lfN T k228) := by rw [ck4, lfI, if_neg hs, nI_l (by omega)]
                    refine n_if_ne_t (tgt := 251) X.1 X.2.1 dX7_checksum_244 (by decide) (hs) (by omega) ?_
                    refine lv_aload_n X.1 X.2.1 dX7_checksum_251 rfl (lv_at hl 0 rfl) ?_
                    refine lv_iload_n X.1 X.2.1 dX7_checksum_252 rfl (lv_at hl 2 rfl) ?_
                    refine mcalli hq X hW (mt_leftIn l hq (T) (D) (nI (0)) (j := k228) (S9) (I.b4) (by omega)) (cwV 1 X.2.2.2.2 gX7_checksum_X7_leftIn rfl rfl rfl (by decide +kernel) ⟨Nat.le_of_ble_eq_true rfl, Nat.le_of_ble_eq_true rfl⟩) rfl rfl hl.1 (Nat.le_of_ble_eq_true rfl) dX7_checksum_253 ⟨Nat.zero_le _, Nat.zero_le _⟩ (fun H locs hW => ?_)
                    refine lv_i2l (v := lN (lfN T k228)) X.1 X.2.1 dX7_checksum_256 (nI_l (by omega)) ?_
                    refine lv_ladd X.1 X.2.1 dX7_checksum_257 ?_
                    refine lv_lstore_n (lv' := [(1, .long (((31 * ck4 T D k228) + lN (lfN T k228)))), (0, .ref (q 0)), (3, .int (nI (k228)))]) X.1 X.2.1 dX7_checksum_258 rfl hl (by decide) rfl (fun ls hl => ?_)
                    refine lv_iinc (v := nI (k228 + 1)) (lv' := [(3, .int (nI (k228 + 1))), (1, .long (((31 * ck4 T D k228) + lN (lfN T k228)))), (0, .ref (q 0))]) X.1 X.2.1 dX7_checksum_259 hl (k := 2) rfl (nI_1 _) (by decide) rfl (fun ls hl => ?_)
                    refine lv_goto (tgt := 228) X.1 X.2.1 dX7_checksum_262 (by decide) ?_
                    exact ih228 (k228 + 1) (by omega) _ _ (hW.eq (rfl) (rfl) rfl) ls (by have h9 := lv_sub hl [2, 1, 0] rfl; rw [hfa]; exact h9)
              exact loop228 ((2) - (0)) (0) (by omega) _ _ (hW.eq (rfl) (rfl) rfl) ls (lv_sub hl [1, 2, 0] rfl)
            | succ n159 ih159 =>
              intro k159 hk159  H locs hW ls hl
              have I1 := I.wr (show k159 < 6 by omega)
              refine lv_iload_n X.1 X.2.1 dX7_checksum_159 rfl (lv_at hl 2 rfl) ?_
              refine lv_bipush (v := nI 6) X.1 X.2.1 dX7_checksum_160 (by decide) ?_
              refine n_icmp_ge_f (tgt := 226) X.1 X.2.1 dX7_checksum_162 (by decide) (by omega) (by omega) (by omega) ?_
              refine lv_ldc2 X.1 X.2.1 X.2.2.2.1 (X.2.2.2.2 (.constantLong RX7 177 (31)) (List.mem_cons_of_mem _ (List.mem_append_left _ (List.mem_append_left _ (List.mem_of_getElem? (i := 2) rfl))))) dX7_checksum_165 ?_
              refine lv_lload_n X.1 X.2.1 dX7_checksum_168 rfl (lv_at hl 1 rfl) ?_
              refine lv_lmul X.1 X.2.1 dX7_checksum_169 ?_
              refine lv_aload_n X.1 X.2.1 dX7_checksum_170 rfl (lv_at hl 0 rfl) ?_
              refine mget 7 (by decide) rfl X hin hW (X.2.2.2.2 (.fieldLink RX7 31 "StrandbookModel" "sizes" "[I") (List.mem_cons_of_mem _ (List.mem_append_left _ (List.mem_append_left _ (List.mem_of_getElem? (i := 8) rfl))))) dX7_checksum_171 ?_
              refine lv_iload_n X.1 X.2.1 dX7_checksum_174 rfl (lv_at hl 2 rfl) ?_
              refine mld7 X hW (by omega) dX7_checksum_175 ?_
              refine lv_i2l (v := lN (T 7 (k159))) X.1 X.2.1 dX7_checksum_176 (nI_l (by omega)) ?_
              refine lv_ladd X.1 X.2.1 dX7_checksum_177 ?_
              refine lv_lstore_n (lv' := [(1, .long (((31 * ck3 T D k159) + lN (T 7 (k159))))), (0, .ref (q 0)), (3, .int (nI (k159)))]) X.1 X.2.1 dX7_checksum_178 rfl hl (by decide) rfl (fun ls hl => ?_)
              refine lv_iconst (v := nI 0) X.1 X.2.1 dX7_checksum_179 (by decide) ?_
              refine lv_istore (lv' := [(4, .int (nI (0))), (1, .long (((31 * ck3 T D k159) + lN (T 7 (k159))))), (0, .ref (q 0)), (3, .int (nI (k159)))]) X.1 X.2.1 dX7_checksum_180 hl (by decide) rfl (fun ls hl => ?_)
              have loop182 : ∀ (n182 k182 : Nat), k182 + n182 = T 7 k159 → ∀ (H : Heap) (locs : List Loc), mH G cI cZ q (T) (D) (nI (0)) s H locs → ∀ ls : Array Slot, lv_has ls 6 [(0, .ref (q 0)), (1, .long (ckL (31 * ck3 T D k159 + lN (T 7 k159)) (fun k => D 6 (256 * k159 + k)) k182)), (3, .int (nI (k159))), (4, .int (nI (k182)))] → W p l e ({ frames := 1, cells := 0, slots := 0, locals := 22 } : Room) s m args below meth c H locs 0 0 Q (F0 m 182 ls []) := by
                intro n182
                induction n182 with
                | zero =>
                  intro k182 hk182  H locs hW ls hl
                  obtain rfl : T 7 k159 = k182 := by omega
                  refine lv_iload X.1 X.2.1 dX7_checksum_182 (lv_at hl 3 rfl) ?_
                  refine lv_aload_n X.1 X.2.1 dX7_checksum_184 rfl (lv_at hl 0 rfl) ?_
                  refine mget 7 (by decide) rfl X hin hW (X.2.2.2.2 (.fieldLink RX7 31 "StrandbookModel" "sizes" "[I") (List.mem_cons_of_mem _ (List.mem_append_left _ (List.mem_append_left _ (List.mem_of_getElem? (i := 8) rfl))))) dX7_checksum_185 ?_
                  refine lv_iload_n X.1 X.2.1 dX7_checksum_188 rfl (lv_at hl 2 rfl) ?_
                  refine mld7 X hW (by omega) dX7_checksum_189 ?_
                  refine n_icmp_ge_t (tgt := 220) X.1 X.2.1 dX7_checksum_190 (by decide) (by omega) (by omega) (by omega) ?_
                  refine lv_iinc (v := nI (k159 + 1)) (lv' := [(3, .int (nI (k159 + 1))), (0, .ref (q 0)), (1, .long (ckL (31 * ck3 T D k159 + lN (T 7 k159)) (fun k => D 6 (256 * k159 + k)) (T 7 k159))), (4, .int (nI (T 7 k159)))]) X.1 X.2.1 dX7_checksum_220 hl (k := 2) rfl (nI_1 _) (by decide) rfl (fun ls hl => ?_)
                  refine lv_goto (tgt := 159) X.1 X.2.1 dX7_checksum_223 (by decide) ?_
                  exact ih159 (k159 + 1) (by omega) _ _ (hW.eq (rfl) (rfl) rfl) ls (lv_sub hl [1, 2, 0] rfl)
                | succ n182 ih182 =>
                  intro k182 hk182  H locs hW ls hl
                  refine lv_iload X.1 X.2.1 dX7_checksum_182 (lv_at hl 3 rfl) ?_
                  refine lv_aload_n X.1 X.2.1 dX7_checksum_184 rfl (lv_at hl 0 rfl) ?_
                  refine mget 7 (by decide) rfl X hin hW (X.2.2.2.2 (.fieldLink RX7 31 "StrandbookModel" "sizes" "[I") (List.mem_cons_of_mem _ (List.mem_append_left _ (List.mem_append_left _ (List.mem_of_getElem? (i := 8) rfl))))) dX7_checksum_185 ?_
                  refine lv_iload_n X.1 X.2.1 dX7_checksum_188 rfl (lv_at hl 2 rfl) ?_
                  refine mld7 X hW (by omega) dX7_checksum_189 ?_
                  refine n_icmp_ge_f (tgt := 220) X.1 X.2.1 dX7_checksum_190 (by decide) (by omega) (by omega) (by omega) ?_
                  refine lv_ldc2 X.1 X.2.1 X.2.2.2.1 (X.2.2.2.2 (.constantLong RX7 177 (31)) (List.mem_cons_of_mem _ (List.mem_append_left _ (List.mem_append_left _ (List.mem_of_getElem? (i := 2) rfl))))) dX7_checksum_193 ?_
                  refine lv_lload_n X.1 X.2.1 dX7_checksum_196 rfl (lv_at hl 1 rfl) ?_
                  refine lv_lmul X.1 X.2.1 dX7_checksum_197 ?_
                  refine lv_aload_n X.1 X.2.1 dX7_checksum_198 rfl (lv_at hl 0 rfl) ?_
                  refine mget 6 (by decide) rfl X hin hW (X.2.2.2.2 (.fieldLink RX7 28 "StrandbookModel" "written" "[I") (List.mem_cons_of_mem _ (List.mem_append_left _ (List.mem_append_left _ (List.mem_of_getElem? (i := 9) rfl))))) dX7_checksum_199 ?_
                  refine lv_sipush (v := nI 256) X.1 X.2.1 dX7_checksum_202 (by decide) ?_
                  refine lv_iload_n X.1 X.2.1 dX7_checksum_205 rfl (lv_at hl 2 rfl) ?_
                  refine n_imul X.1 X.2.1 dX7_checksum_206 ?_
                  refine lv_iload X.1 X.2.1 dX7_checksum_207 (lv_at hl 3 rfl) ?_
                  refine n_iadd X.1 X.2.1 dX7_checksum_209 ?_
                  refine mld6 X hW (by omega) dX7_checksum_210 ?_
                  refine lv_i2l (v := (D 6 ((256 * k159) + k182)).toInt64) X.1 X.2.1 dX7_checksum_211 rfl ?_
                  refine lv_ladd X.1 X.2.1 dX7_checksum_212 ?_
                  refine lv_lstore_n (lv' := [(1, .long (((31 * ckL (31 * ck3 T D k159 + lN (T 7 k159)) (fun k => D 6 (256 * k159 + k)) k182) + (D 6 ((256 * k159) + k182)).toInt64))), (0, .ref (q 0)), (3, .int (nI (k159))), (4, .int (nI (k182)))]) X.1 X.2.1 dX7_checksum_213 rfl hl (by decide) rfl (fun ls hl => ?_)
                  refine lv_iinc (v := nI (k182 + 1)) (lv' := [(4, .int (nI (k182 + 1))), (1, .long (((31 * ckL (31 * ck3 T D k159 + lN (T 7 k159)) (fun k => D 6 (256 * k159 + k)) k182) + (D 6 ((256 * k159) + k182)).toInt64))), (0, .ref (q 0)), (3, .int (nI (k159)))]) X.1 X.2.1 dX7_checksum_214 hl (k := 3) rfl (nI_1 _) (by decide) rfl (fun ls hl => ?_)
                  refine lv_goto (tgt := 182) X.1 X.2.1 dX7_checksum_217 (by decide) ?_
                  exact ih182 (k182 + 1) (by omega) _ _ (hW.eq (rfl) (rfl) rfl) ls (lv_sub hl [2, 1, 3, 0] rfl)
              exact loop182 ((T 7 k159) - (0)) (0) (by omega) _ _ (hW.eq (rfl) (rfl) rfl) ls (lv_sub hl [2, 1, 3, 0] rfl)
          exact loop159 ((6) - (0)) (0) (by omega) _ _ (hW.eq (rfl) (rfl) rfl) ls (lv_sub hl [1, 2, 0] rfl)
        | succ n82 ih82 =>
          intro k82 hk82  H locs hW ls hl
          have I1 := I.br (show k82 < 4 by omega)
          have I2 := I.bl I1
          refine lv_iload_n X.1 X.2.1 dX7_checksum_82 rfl (lv_at hl 2 rfl) ?_
          refine lv_iconst (v := nI 4) X.1 X.2.1 dX7_checksum_83 (by decide) ?_
          refine n_icmp_ge_f (tgt := 157) X.1 X.2.1 dX7_checksum_84 (by decide) (by omega) (by omega) (by omega) ?_
          refine lv_aload_n X.1 X.2.1 dX7_checksum_87 rfl (lv_at hl 0 rfl) ?_
          refine mget 4 (by decide) rfl X hin hW (X.2.2.2.2 (.fieldLink RX7 22 "StrandbookModel" "byteLengths" "[I") (List.mem_cons_of_mem _ (List.mem_append_left _ (List.mem_append_left _ (List.mem_of_getElem? (i := 5) rfl))))) dX7_checksum_88 ?_
          refine lv_aload_n X.1 X.2.1 dX7_checksum_91 rfl (lv_at hl 0 rfl) ?_
          refine mget 5 (by decide) rfl X hin hW (X.2.2.2.2 (.fieldLink RX7 25 "StrandbookModel" "byteRooms" "[I") (List.mem_cons_of_mem _ (List.mem_append_left _ (List.mem_append_left _ (List.mem_of_getElem? (i := 6) rfl))))) dX7_checksum_92 ?_
          refine lv_iload_n X.1 X.2.1 dX7_checksum_95 rfl (lv_at hl 2 rfl) ?_
          refine mld5 X hW (by omega) dX7_checksum_96 ?_
          refine mld4 X hW (by omega) dX7_checksum_97 ?_
          refine lv_istore (lv' := [(4, .int (nI (T 4 (T 5 (k82))))), (0, .ref (q 0)), (1, .long (ck2 T D k82)), (3, .int (nI (k82)))]) X.1 X.2.1 dX7_checksum_98 hl (by decide) rfl (fun ls hl => ?_)
          refine lv_ldc2 X.1 X.2.1 X.2.2.2.1 (X.2.2.2.2 (.constantLong RX7 177 (31)) (List.mem_cons_of_mem _ (List.mem_append_left _ (List.mem_append_left _ (List.mem_of_getElem? (i := 2) rfl))))) dX7_checksum_100 ?_
          refine lv_lload_n X.1 X.2.1 dX7_checksum_103 rfl (lv_at hl 2 rfl) ?_
          refine lv_lmul X.1 X.2.1 dX7_checksum_104 ?_
          refine lv_iload X.1 X.2.1 dX7_checksum_105 (lv_at hl 0 rfl) ?_
          refine lv_i2l (v := lN (T 4 (T 5 (k82)))) X.1 X.2.1 dX7_checksum_107 (nI_l (by omega)) ?_
          refine lv_ladd X.1 X.2.1 dX7_checksum_108 ?_
          refine lv_lstore_n (lv' := [(1, .long (((31 * ck2 T D k82) + lN (T 4 (T 5 (k82)))))), (4, .int (nI (T 4 (T 5 (k82))))), (0, .ref (q 0)), (3, .int (nI (k82)))]) X.1 X.2.1 dX7_checksum_109 rfl hl (by decide) rfl (fun ls hl => ?_)
          refine lv_iconst (v := nI 0) X.1 X.2.1 dX7_checksum_110 (by decide) ?_
          refine lv_istore (lv' := [(5, .int (nI (0))), (1, .long (((31 * ck2 T D k82) + lN (T 4 (T 5 (k82)))))), (4, .int (nI (T 4 (T 5 (k82))))), (0, .ref (q 0)), (3, .int (nI (k82)))]) X.1 X.2.1 dX7_checksum_111 hl (by decide) rfl (fun ls hl => ?_)
          have loop113 : ∀ (n113 k113 : Nat), k113 + n113 = T 4 (T 5 k82) → ∀ (H : Heap) (locs : List Loc), mH G cI cZ q (T) (D) (nI (0)) s H locs → ∀ ls : Array Slot, lv_has ls 6 [(0, .ref (q 0)), (1, .long (ckL (31 * ck2 T D k82 + lN (T 4 (T 5 k82))) (fun k => D 3 (64 * T 5 k82 + k)) k113)), (3, .int (nI (k82))), (4, .int (nI (T 4 (T 5 (k82))))), (5, .int (nI (k113)))] → W p l e ({ frames := 1, cells := 0, slots := 0, locals := 22 } : Room) s m args below meth c H locs 0 0 Q (F0 m 113 ls []) := by
            intro n113
            induction n113 with
            | zero =>
              intro k113 hk113  H locs hW ls hl
              obtain rfl : T 4 (T 5 k82) = k113 := by omega
              refine lv_iload X.1 X.2.1 dX7_checksum_113 (lv_at hl 4 rfl) ?_
              refine lv_iload X.1 X.2.1 dX7_checksum_115 (lv_at hl 3 rfl) ?_
              refine n_icmp_ge_t (tgt := 151) X.1 X.2.1 dX7_checksum_117 (by decide) (by omega) (by omega) (by omega) ?_
              refine lv_iinc (v := nI (k82 + 1)) (lv' := [(3, .int (nI (k82 + 1))), (0, .ref (q 0)), (1, .long (ckL (31 * ck2 T D k82 + lN (T 4 (T 5 k82))) (fun k => D 3 (64 * T 5 k82 + k)) (T 4 (T 5 k82)))), (4, .int (nI (T 4 (T 5 (k82))))), (5, .int (nI (T 4 (T 5 k82))))]) X.1 X.2.1 dX7_checksum_151 hl (k := 2) rfl (nI_1 _) (by decide) rfl (fun ls hl => ?_)
              refine lv_goto (tgt := 82) X.1 X.2.1 dX7_checksum_154 (by decide) ?_
              exact ih82 (k82 + 1) (by omega) _ _ (hW.eq (rfl) (rfl) rfl) ls (lv_sub hl [1, 2, 0] rfl)
            | succ n113 ih113 =>
              intro k113 hk113  H locs hW ls hl
              refine lv_iload X.1 X.2.1 dX7_checksum_113 (lv_at hl 4 rfl) ?_
              refine lv_iload X.1 X.2.1 dX7_checksum_115 (lv_at hl 3 rfl) ?_
              refine n_icmp_ge_f (tgt := 151) X.1 X.2.1 dX7_checksum_117 (by decide) (by omega) (by omega) (by omega) ?_
              refine lv_ldc2 X.1 X.2.1 X.2.2.2.1 (X.2.2.2.2 (.constantLong RX7 177 (31)) (List.mem_cons_of_mem _ (List.mem_append_left _ (List.mem_append_left _ (List.mem_of_getElem? (i := 2) rfl))))) dX7_checksum_120 ?_
              refine lv_lload_n X.1 X.2.1 dX7_checksum_123 rfl (lv_at hl 1 rfl) ?_
              refine lv_lmul X.1 X.2.1 dX7_checksum_124 ?_
              refine lv_aload_n X.1 X.2.1 dX7_checksum_125 rfl (lv_at hl 0 rfl) ?_
              refine mget 3 (by decide) rfl X hin hW (X.2.2.2.2 (.fieldLink RX7 19 "StrandbookModel" "bytes" "[I") (List.mem_cons_of_mem _ (List.mem_append_left _ (List.mem_append_left _ (List.mem_of_getElem? (i := 7) rfl))))) dX7_checksum_126 ?_
              refine lv_bipush (v := nI 64) X.1 X.2.1 dX7_checksum_129 (by decide) ?_
              refine lv_aload_n X.1 X.2.1 dX7_checksum_131 rfl (lv_at hl 0 rfl) ?_
              refine mget 5 (by decide) rfl X hin hW (X.2.2.2.2 (.fieldLink RX7 25 "StrandbookModel" "byteRooms" "[I") (List.mem_cons_of_mem _ (List.mem_append_left _ (List.mem_append_left _ (List.mem_of_getElem? (i := 6) rfl))))) dX7_checksum_132 ?_
              refine lv_iload_n X.1 X.2.1 dX7_checksum_135 rfl (lv_at hl 2 rfl) ?_
              refine mld5 X hW (by omega) dX7_checksum_136 ?_
              refine n_imul X.1 X.2.1 dX7_checksum_137 ?_
              refine lv_iload X.1 X.2.1 dX7_checksum_138 (lv_at hl 4 rfl) ?_
              refine n_iadd X.1 X.2.1 dX7_checksum_140 ?_
              refine mld3 X hW (by omega) dX7_checksum_141 ?_
              refine lv_i2l (v := (D 3 ((64 * (T 5 (k82))) + k113)).toInt64) X.1 X.2.1 dX7_checksum_142 rfl ?_
              refine lv_ladd X.1 X.2.1 dX7_checksum_143 ?_
              refine lv_lstore_n (lv' := [(1, .long (((31 * ckL (31 * ck2 T D k82 + lN (T 4 (T 5 k82))) (fun k => D 3 (64 * T 5 k82 + k)) k113) + (D 3 ((64 * (T 5 (k82))) + k113)).toInt64))), (0, .ref (q 0)), (3, .int (nI (k82))), (4, .int (nI (T 4 (T 5 (k82))))), (5, .int (nI (k113)))]) X.1 X.2.1 dX7_checksum_144 rfl hl (by decide) rfl (fun ls hl => ?_)
              refine lv_iinc (v := nI (k113 + 1)) (lv' := [(5, .int (nI (k113 + 1))), (1, .long (((31 * ckL (31 * ck2 T D k82 + lN (T 4 (T 5 k82))) (fun k => D 3 (64 * T 5 k82 + k)) k113) + (D 3 ((64 * (T 5 (k82))) + k113)).toInt64))), (0, .ref (q 0)), (3, .int (nI (k82))), (4, .int (nI (T 4 (T 5 (k82)))))]) X.1 X.2.1 dX7_checksum_145 hl (k := 4) rfl (nI_1 _) (by decide) rfl (fun ls hl => ?_)
              refine lv_goto (tgt := 113) X.1 X.2.1 dX7_checksum_148 (by decide) ?_
              exact ih113 (k113 + 1) (by omega) _ _ (hW.eq (rfl) (rfl) rfl) ls (lv_sub hl [2, 1, 3, 4, 0] rfl)
          exact loop113 ((T 4 (T 5 k82)) - (0)) (0) (by omega) _ _ (hW.eq (rfl) (rfl) rfl) ls (lv_sub hl [3, 1, 4, 2, 0] rfl)
      exact loop82 ((4) - (0)) (0) (by omega) _ _ (hW.eq (rfl) (rfl) rfl) ls (lv_sub hl [1, 2, 0] rfl)
    | succ n11 ih11 =>
      intro k11 hk11  H locs hW ls hl
      have I1 := I.sr (show k11 < 4 by omega)
      have I2 := I.sl I1
      refine lv_iload_n X.1 X.2.1 dX7_checksum_11 rfl (lv_at hl 2 rfl) ?_
      refine lv_iconst (v := nI 4) X.1 X.2.1 dX7_checksum_12 (by decide) ?_
      refine n_icmp_ge_f (tgt := 80) X.1 X.2.1 dX7_checksum_13 (by decide) (by omega) (by omega) (by omega) ?_
      refine lv_ldc2 X.1 X.2.1 X.2.2.2.1 (X.2.2.2.2 (.constantLong RX7 177 (31)) (List.mem_cons_of_mem _ (List.mem_append_left _ (List.mem_append_left _ (List.mem_of_getElem? (i := 2) rfl))))) dX7_checksum_16 ?_
      refine lv_lload_n X.1 X.2.1 dX7_checksum_19 rfl (lv_at hl 1 rfl) ?_
      refine lv_lmul X.1 X.2.1 dX7_checksum_20 ?_
      refine lv_aload_n X.1 X.2.1 dX7_checksum_21 rfl (lv_at hl 0 rfl) ?_
      refine lv_iload_n X.1 X.2.1 dX7_checksum_22 rfl (lv_at hl 2 rfl) ?_
      refine mcalli hq X hW (mt_signLength l hq (T) (D) (nI (0)) I (r := k11) (by omega)) (cwV 1 X.2.2.2.2 gX7_checksum_X7_signLength rfl rfl rfl (by decide +kernel) ⟨Nat.le_of_ble_eq_true rfl, Nat.le_of_ble_eq_true rfl⟩) rfl rfl hl.1 (Nat.le_of_ble_eq_true rfl) dX7_checksum_23 ⟨Nat.zero_le _, Nat.zero_le _⟩ (fun H locs hW => ?_)
      refine lv_i2l (v := lN (T 1 (T 2 k11))) X.1 X.2.1 dX7_checksum_26 (nI_l (by omega)) ?_
      refine lv_ladd X.1 X.2.1 dX7_checksum_27 ?_
      refine lv_lstore_n (lv' := [(1, .long (((31 * ck1 T D k11) + lN (T 1 (T 2 k11))))), (0, .ref (q 0)), (3, .int (nI (k11)))]) X.1 X.2.1 dX7_checksum_28 rfl hl (by decide) rfl (fun ls hl => ?_)
      refine lv_iconst (v := nI 0) X.1 X.2.1 dX7_checksum_29 (by decide) ?_
      refine lv_istore (lv' := [(4, .int (nI (0))), (1, .long (((31 * ck1 T D k11) + lN (T 1 (T 2 k11))))), (0, .ref (q 0)), (3, .int (nI (k11)))]) X.1 X.2.1 dX7_checksum_30 hl (by decide) rfl (fun ls hl => ?_)
      have loop32 : ∀ (n32 k32 : Nat), k32 + n32 = T 1 (T 2 k11) → ∀ (H : Heap) (locs : List Loc), mH G cI cZ q (T) (D) (nI (0)) s H locs → ∀ ls : Array Slot, lv_has ls 6 [(0, .ref (q 0)), (1, .long (ckL (31 * ck1 T D k11 + lN (T 1 (T 2 k11))) (fun k => D 0 (256 * T 2 k11 + k)) k32)), (3, .int (nI (k11))), (4, .int (nI (k32)))] → W p l e ({ frames := 1, cells := 0, slots := 0, locals := 22 } : Room) s m args below meth c H locs 0 0 Q (F0 m 32 ls []) := by
        intro n32
        induction n32 with
        | zero =>
          intro k32 hk32  H locs hW ls hl
          obtain rfl : T 1 (T 2 k11) = k32 := by omega
          refine lv_iload X.1 X.2.1 dX7_checksum_32 (lv_at hl 3 rfl) ?_
          refine lv_aload_n X.1 X.2.1 dX7_checksum_34 rfl (lv_at hl 0 rfl) ?_
          refine lv_iload_n X.1 X.2.1 dX7_checksum_35 rfl (lv_at hl 2 rfl) ?_
          refine mcalli hq X hW (mt_signLength l hq (T) (D) (nI (0)) I (r := k11) (by omega)) (cwV 1 X.2.2.2.2 gX7_checksum_X7_signLength rfl rfl rfl (by decide +kernel) ⟨Nat.le_of_ble_eq_true rfl, Nat.le_of_ble_eq_true rfl⟩) rfl rfl hl.1 (Nat.le_of_ble_eq_true rfl) dX7_checksum_36 ⟨Nat.zero_le _, Nat.zero_le _⟩ (fun H locs hW => ?_)
          refine n_icmp_ge_t (tgt := 74) X.1 X.2.1 dX7_checksum_39 (by decide) (by omega) (by omega) (by omega) ?_
          refine lv_iinc (v := nI (k11 + 1)) (lv' := [(3, .int (nI (k11 + 1))), (0, .ref (q 0)), (1, .long (ckL (31 * ck1 T D k11 + lN (T 1 (T 2 k11))) (fun k => D 0 (256 * T 2 k11 + k)) (T 1 (T 2 k11)))), (4, .int (nI (T 1 (T 2 k11))))]) X.1 X.2.1 dX7_checksum_74 hl (k := 2) rfl (nI_1 _) (by decide) rfl (fun ls hl => ?_)
          refine lv_goto (tgt := 11) X.1 X.2.1 dX7_checksum_77 (by decide) ?_
          exact ih11 (k11 + 1) (by omega) _ _ (hW.eq (rfl) (rfl) rfl) ls (lv_sub hl [1, 2, 0] rfl)
        | succ n32 ih32 =>
          intro k32 hk32  H locs hW ls hl
          refine lv_iload X.1 X.2.1 dX7_checksum_32 (lv_at hl 3 rfl) ?_
          refine lv_aload_n X.1 X.2.1 dX7_checksum_34 rfl (lv_at hl 0 rfl) ?_
          refine lv_iload_n X.1 X.2.1 dX7_checksum_35 rfl (lv_at hl 2 rfl) ?_
          refine mcalli hq X hW (mt_signLength l hq (T) (D) (nI (0)) I (r := k11) (by omega)) (cwV 1 X.2.2.2.2 gX7_checksum_X7_signLength rfl rfl rfl (by decide +kernel) ⟨Nat.le_of_ble_eq_true rfl, Nat.le_of_ble_eq_true rfl⟩) rfl rfl hl.1 (Nat.le_of_ble_eq_true rfl) dX7_checksum_36 ⟨Nat.zero_le _, Nat.zero_le _⟩ (fun H locs hW => ?_)
          refine n_icmp_ge_f (tgt := 74) X.1 X.2.1 dX7_checksum_39 (by decide) (by omega) (by omega) (by omega) ?_
          refine lv_ldc2 X.1 X.2.1 X.2.2.2.1 (X.2.2.2.2 (.constantLong RX7 177 (31)) (List.mem_cons_of_mem _ (List.mem_append_left _ (List.mem_append_left _ (List.mem_of_getElem? (i := 2) rfl))))) dX7_checksum_42 ?_
          refine lv_lload_n X.1 X.2.1 dX7_checksum_45 rfl (lv_at hl 1 rfl) ?_
          refine lv_lmul X.1 X.2.1 dX7_checksum_46 ?_
          refine lv_aload_n X.1 X.2.1 dX7_checksum_47 rfl (lv_at hl 0 rfl) ?_
          refine mget 0 (by decide) rfl X hin hW (X.2.2.2.2 (.fieldLink RX7 7 "StrandbookModel" "signs" "[I") (List.mem_cons_of_mem _ (List.mem_append_left _ (List.mem_append_left _ (List.mem_of_getElem? (i := 3) rfl))))) dX7_checksum_48 ?_
          refine lv_sipush (v := nI 256) X.1 X.2.1 dX7_checksum_51 (by decide) ?_
          refine lv_aload_n X.1 X.2.1 dX7_checksum_54 rfl (lv_at hl 0 rfl) ?_
          refine mget 2 (by decide) rfl X hin hW (X.2.2.2.2 (.fieldLink RX7 16 "StrandbookModel" "signRooms" "[I") (List.mem_cons_of_mem _ (List.mem_append_left _ (List.mem_append_left _ (List.mem_of_getElem? (i := 4) rfl))))) dX7_checksum_55 ?_
          refine lv_iload_n X.1 X.2.1 dX7_checksum_58 rfl (lv_at hl 2 rfl) ?_
          refine mld2 X hW (by omega) dX7_checksum_59 ?_
          refine n_imul X.1 X.2.1 dX7_checksum_60 ?_
          refine lv_iload X.1 X.2.1 dX7_checksum_61 (lv_at hl 3 rfl) ?_
          refine n_iadd X.1 X.2.1 dX7_checksum_63 ?_
          refine mld0 X hW (by omega) dX7_checksum_64 ?_
          refine lv_i2l (v := (D 0 ((256 * (T 2 (k11))) + k32)).toInt64) X.1 X.2.1 dX7_checksum_65 rfl ?_
          refine lv_ladd X.1 X.2.1 dX7_checksum_66 ?_
          refine lv_lstore_n (lv' := [(1, .long (((31 * ckL (31 * ck1 T D k11 + lN (T 1 (T 2 k11))) (fun k => D 0 (256 * T 2 k11 + k)) k32) + (D 0 ((256 * (T 2 (k11))) + k32)).toInt64))), (0, .ref (q 0)), (3, .int (nI (k11))), (4, .int (nI (k32)))]) X.1 X.2.1 dX7_checksum_67 rfl hl (by decide) rfl (fun ls hl => ?_)
          refine lv_iinc (v := nI (k32 + 1)) (lv' := [(4, .int (nI (k32 + 1))), (1, .long (((31 * ckL (31 * ck1 T D k11 + lN (T 1 (T 2 k11))) (fun k => D 0 (256 * T 2 k11 + k)) k32) + (D 0 ((256 * (T 2 (k11))) + k32)).toInt64))), (0, .ref (q 0)), (3, .int (nI (k11)))]) X.1 X.2.1 dX7_checksum_68 hl (k := 3) rfl (nI_1 _) (by decide) rfl (fun ls hl => ?_)
          refine lv_goto (tgt := 32) X.1 X.2.1 dX7_checksum_71 (by decide) ?_
          exact ih32 (k32 + 1) (by omega) _ _ (hW.eq (rfl) (rfl) rfl) ls (lv_sub hl [2, 1, 3, 0] rfl)
      exact loop32 ((T 1 (T 2 k11)) - (0)) (0) (by omega) _ _ (hW.eq (rfl) (rfl) rfl) ls (lv_sub hl [2, 1, 3, 0] rfl)
  exact loop11 ((4) - (0)) (0) (by omega) _ _ (hW.eq (rfl) (rfl) rfl) ls (lv_sub hl [2, 1, 0] rfl)

set_option maxHeartbeats 4000000 in
set_option maxRecDepth 100000 in
theorem mt_isTrue (l : Launch) {G : va_G} {cI cZ : ClassId} {q : Nat → Nat} (hq : mJ q) (T : mT) (D : mD) (th : Int32) (I : mI T) : mMi l yX7_isTrue wsX7_isTrue ({ frames := 0, cells := 0, slots := 0, locals := 0 } : Room) G cI cZ q [] (T) (D) (th) (nI 1) (T) (D) (nI 0) := by
  refine mstarti (cc := cX7_isTrue) (maxL := 3) (ret := (some .boolean)) (by decide) rfl rfl ⟨_, rfl⟩ (Nat.le_of_ble_eq_true rfl) (fun p e s m args below meth c Q hE X hW ls hl => ?_)
  have hl : lv_has ls 3 [(0, .ref (q 0))] := hl
  have hin : ∀ w ∈ wsX70, w ∈ wsX7_isTrue := fun w h => List.mem_cons_of_mem _ (List.mem_append_left _ (List.mem_append_right _ (h)))
  refine lv_aload_n X.1 X.2.1 dX7_isTrue_0 rfl (lv_at hl 0 rfl) ?_
  refine lv_iconst (v := nI 0) X.1 X.2.1 dX7_isTrue_1 (by decide) ?_
  refine mputth hq X hin hW (X.2.2.2.2 (.fieldLink RX7 71 "StrandbookModel" "thrown" "I") (List.mem_cons_of_mem _ (List.mem_append_left _ (List.mem_append_left _ (List.mem_of_getElem? (i := 0) rfl))))) dX7_isTrue_2 (fun H locs hW => ?_)
  refine lv_iconst (v := nI 1) X.1 X.2.1 dX7_isTrue_5 (by decide) ?_
  refine lv_istore_n (lv' := [(1, .int (nI (1))), (0, .ref (q 0))]) X.1 X.2.1 dX7_isTrue_6 rfl hl (by decide) rfl (fun ls hl => ?_)
  refine lv_iconst (v := nI 0) X.1 X.2.1 dX7_isTrue_7 (by decide) ?_
  refine lv_istore_n (lv' := [(2, .int (nI (0))), (1, .int (nI (1))), (0, .ref (q 0))]) X.1 X.2.1 dX7_isTrue_8 rfl hl (by decide) rfl (fun ls hl => ?_)
  have loop9 : ∀ (n9 k9 : Nat), k9 + n9 = 3 → ∀ (H : Heap) (locs : List Loc), mH G cI cZ q (T) (D) (nI (0)) s H locs → ∀ ls : Array Slot, lv_has ls 3 [(0, .ref (q 0)), (1, .int (nI (1))), (2, .int (nI (k9)))] → W p l e ({ frames := 0, cells := 0, slots := 0, locals := 0 } : Room) s m args below meth c H locs 0 0 Q (F0 m 9 ls []) := by
    intro n9
    induction n9 with
    | zero =>
      intro k9 hk9  H locs hW ls hl
      obtain rfl : 3 = k9 := by omega
      refine lv_iload_n X.1 X.2.1 dX7_isTrue_9 rfl (lv_at hl 2 rfl) ?_
      refine lv_iconst (v := nI 3) X.1 X.2.1 dX7_isTrue_10 (by decide) ?_
      refine n_icmp_ge_t (tgt := 67) X.1 X.2.1 dX7_isTrue_11 (by decide) (by omega) (by omega) (by omega) ?_
      refine lv_iload_n X.1 X.2.1 dX7_isTrue_67 rfl (lv_at hl 1 rfl) ?_
      exact hE _ _ _ _ _ (rfl) (fun ty hty => by cases hty; exact nI_zb (by omega)) hW dX7_isTrue_68
    | succ n9 ih9 =>
      intro k9 hk9  H locs hW ls hl
      have I1 := I.rd (show k9 < 3 by omega)
      refine lv_iload_n X.1 X.2.1 dX7_isTrue_9 rfl (lv_at hl 2 rfl) ?_
      refine lv_iconst (v := nI 3) X.1 X.2.1 dX7_isTrue_10 (by decide) ?_
      refine n_icmp_ge_f (tgt := 67) X.1 X.2.1 dX7_isTrue_11 (by decide) (by omega) (by omega) (by omega) ?_
      refine lv_iload_n X.1 X.2.1 dX7_isTrue_14 rfl (lv_at hl 1 rfl) ?_
      refine lv_aload_n X.1 X.2.1 dX7_isTrue_15 rfl (lv_at hl 0 rfl) ?_
      refine mget 8 (by decide) rfl X hin hW (X.2.2.2.2 (.fieldLink RX7 34 "StrandbookModel" "reads" "[I") (List.mem_cons_of_mem _ (List.mem_append_left _ (List.mem_append_left _ (List.mem_of_getElem? (i := 1) rfl))))) dX7_isTrue_16 ?_
      refine lv_iload_n X.1 X.2.1 dX7_isTrue_19 rfl (lv_at hl 2 rfl) ?_
      rcases Decidable.em (T 8 k9 = 0) with hs | hs
      · skip
        refine mld8_0 X hW (by omega) (hs) dX7_isTrue_20 ?_
        refine x_if_lt_t (tgt := 54) X.1 X.2.1 dX7_isTrue_21 (by decide) (by decide) ?_
        refine lv_iconst (v := nI 1) X.1 X.2.1 dX7_isTrue_54 (by decide) ?_
        refine lv_goto (tgt := 59) X.1 X.2.1 dX7_isTrue_55 (by decide) ?_
        refine lv_iand X.1 X.2.1 dX7_isTrue_59 ?_
        refine n_cv (y := nI (1)) (nI_and1 (by omega)) ?_
        refine lv_istore_n (lv' := [(1, .int (nI (1))), (0, .ref (q 0)), (2, .int (nI (k9)))]) X.1 X.2.1 dX7_isTrue_60 rfl hl (by decide) rfl (fun ls hl => ?_)
        refine lv_iinc (v := nI (k9 + 1)) (lv' := [(2, .int (nI (k9 + 1))), (1, .int (nI (1))), (0, .ref (q 0))]) X.1 X.2.1 dX7_isTrue_61 hl (k := 2) rfl (nI_1 _) (by decide) rfl (fun ls hl => ?_)
        refine lv_goto (tgt := 9) X.1 X.2.1 dX7_isTrue_64 (by decide) ?_
        exact ih9 (k9 + 1) (by omega) _ _ (hW.eq (rfl) (rfl) rfl) ls (lv_sub hl [2, 1, 0] rfl)
      · skip
        refine mld8_s X hW (by omega) (z := T 8 k9 - 1) (by omega) dX7_isTrue_20 ?_
        refine n_if_lt_f (tgt := 54) X.1 X.2.1 dX7_isTrue_21 (by decide) (by omega) ?_
        refine lv_aload_n X.1 X.2.1 dX7_isTrue_24 rfl (lv_at hl 0 rfl) ?_
        refine mget 11 (by decide) rfl X hin hW (X.2.2.2.2 (.fieldLink RX7 43 "StrandbookModel" "marks" "[I") (List.mem_cons_of_mem _ (List.mem_append_left _ (List.mem_append_left _ (List.mem_of_getElem? (i := 2) rfl))))) dX7_isTrue_25 ?_
        refine lv_iload_n X.1 X.2.1 dX7_isTrue_28 rfl (lv_at hl 2 rfl) ?_
        refine mld11 X hW (by omega) dX7_isTrue_29 ?_
        refine lv_aload_n X.1 X.2.1 dX7_isTrue_30 rfl (lv_at hl 0 rfl) ?_
        refine mget 10 (by decide) rfl X hin hW (X.2.2.2.2 (.fieldLink RX7 40 "StrandbookModel" "ends" "[I") (List.mem_cons_of_mem _ (List.mem_append_left _ (List.mem_append_left _ (List.mem_of_getElem? (i := 3) rfl))))) dX7_isTrue_31 ?_
        refine lv_iload_n X.1 X.2.1 dX7_isTrue_34 rfl (lv_at hl 2 rfl) ?_
        refine mld10 X hW (by omega) dX7_isTrue_35 ?_
        refine n_icmp_gt_f (tgt := 58) X.1 X.2.1 dX7_isTrue_36 (by decide) (by omega) (by omega) (by omega) ?_
        refine lv_aload_n X.1 X.2.1 dX7_isTrue_39 rfl (lv_at hl 0 rfl) ?_
        refine mget 9 (by decide) rfl X hin hW (X.2.2.2.2 (.fieldLink RX7 37 "StrandbookModel" "places" "[I") (List.mem_cons_of_mem _ (List.mem_append_left _ (List.mem_append_left _ (List.mem_of_getElem? (i := 4) rfl))))) dX7_isTrue_40 ?_
        refine lv_iload_n X.1 X.2.1 dX7_isTrue_43 rfl (lv_at hl 2 rfl) ?_
        refine mld9 X hW (by omega) dX7_isTrue_44 ?_
        refine lv_aload_n X.1 X.2.1 dX7_isTrue_45 rfl (lv_at hl 0 rfl) ?_
        refine mget 10 (by decide) rfl X hin hW (X.2.2.2.2 (.fieldLink RX7 40 "StrandbookModel" "ends" "[I") (List.mem_cons_of_mem _ (List.mem_append_left _ (List.mem_append_left _ (List.mem_of_getElem? (i := 3) rfl))))) dX7_isTrue_46 ?_
        refine lv_iload_n X.1 X.2.1 dX7_isTrue_49 rfl (lv_at hl 2 rfl) ?_
        refine mld10 X hW (by omega) dX7_isTrue_50 ?_
        refine n_icmp_gt_f (tgt := 58) X.1 X.2.1 dX7_isTrue_51 (by decide) (by omega) (by omega) (by omega) ?_
        refine lv_iconst (v := nI 1) X.1 X.2.1 dX7_isTrue_54 (by decide) ?_
        refine lv_goto (tgt := 59) X.1 X.2.1 dX7_isTrue_55 (by decide) ?_
        refine lv_iand X.1 X.2.1 dX7_isTrue_59 ?_
        refine n_cv (y := nI (1)) (nI_and1 (by omega)) ?_
        refine lv_istore_n (lv' := [(1, .int (nI (1))), (0, .ref (q 0)), (2, .int (nI (k9)))]) X.1 X.2.1 dX7_isTrue_60 rfl hl (by decide) rfl (fun ls hl => ?_)
        refine lv_iinc (v := nI (k9 + 1)) (lv' := [(2, .int (nI (k9 + 1))), (1, .int (nI (1))), (0, .ref (q 0))]) X.1 X.2.1 dX7_isTrue_61 hl (k := 2) rfl (nI_1 _) (by decide) rfl (fun ls hl => ?_)
        refine lv_goto (tgt := 9) X.1 X.2.1 dX7_isTrue_64 (by decide) ?_
        exact ih9 (k9 + 1) (by omega) _ _ (hW.eq (rfl) (rfl) rfl) ls (lv_sub hl [2, 1, 0] rfl)
  exact loop9 ((3) - (0)) (0) (by omega) _ _ (hW.eq (rfl) (rfl) rfl) ls (lv_sub hl [2, 1, 0] rfl)
