/-! the reference's readers -/
/-- a reader is not there, or was shut -/
abbrev clo (T : mT) (i : Nat) : Prop := T 8 i = 0 ∨ T 12 i ≠ 0
def opT (T : mT) (i r f e : Nat) : mT := u2 (u2 (u2 (u2 (u2 T 8 i (T 2 r + 1)) 9 i f) 11 i f) 10 i e) 12 i 0
def sk_open (T : mT) (D : mD) (i r f n : Nat) : mR := (0, nI (min (f + n) (T 1 (T 2 r)) - f), opT T i r f (min (f + n) (T 1 (T 2 r))), D)
def sp_open (T : mT) (D : mD) (i row f n : Int32) : mR := if oN i 3 ∨ oN row 4 ∨ oP (rI T row) f (nI 0) then no T D 1 else if oN n 1001 then no T D 2 else sk_open T D i.toNatClampNeg row.toNatClampNeg f.toNatClampNeg n.toNatClampNeg
def sp_openAll (T : mT) (D : mD) (i row : Int32) : mR := if oN i 3 ∨ oN row 4 then no T D 1 else (0, nI (rI T row), opT T i.toNatClampNeg row.toNatClampNeg 0 (rI T row), D)
def sp_shut (T : mT) (D : mD) (i : Int32) : mR := if oN i 3 then no T D 1 else if T 8 i.toNatClampNeg = 0 then no T D 2 else (0, nI (if T 12 i.toNatClampNeg ≠ 0 then 0 else T 10 i.toNatClampNeg - T 9 i.toNatClampNeg), u2 T 12 i.toNatClampNeg 1, D)
def sp_read (T : mT) (D : mD) (i : Int32) : mR := if oN i 3 then no T D 1 else if clo T i.toNatClampNeg then no T D 2 else if T 9 i.toNatClampNeg = T 10 i.toNatClampNeg then (0, -1, T, D) else (0, D 0 (256 * (T 8 i.toNatClampNeg - 1) + T 9 i.toNatClampNeg), u2 T 9 i.toNatClampNeg (T 9 i.toNatClampNeg + 1), D)
def rpF (T : mT) (D : mD) (i : Nat) : Nat → Int32 := fun k => D 0 (256 * (T 8 i - 1) + T 9 i + k)
def sk_readPart (T : mT) (D : mD) (i r f n : Nat) : mR := (0, if min n (T 10 i - T 9 i) = 0 then -1 else nI (min n (T 10 i - T 9 i)), u2 T 9 i (T 9 i + min n (T 10 i - T 9 i)), cpF D 0 (256 * T 2 r + f) (rpF T D i) (min n (T 10 i - T 9 i)))
def sp_readPart (T : mT) (D : mD) (i row f n : Int32) : mR := if oN i 3 ∨ oN row 4 ∨ oP (rI T row) f n then no T D 1 else if n.toNatClampNeg = 0 then no T D 2 else if clo T i.toNatClampNeg then no T D 3 else if T 8 i.toNatClampNeg = T 2 row.toNatClampNeg + 1 then no T D 4 else sk_readPart T D i.toNatClampNeg row.toNatClampNeg f.toNatClampNeg n.toNatClampNeg
/-- a call of the reference that answers a long, as a number -/
abbrev mRl : Type := Nat × Nat × mT × mD
def nol (T : mT) (D : mD) (c : Nat) : mRl := (c, 0, T, D)
abbrev mOl (l : Launch) (y : MethodName) (ws : List Cond) (rm : Room) (G : va_G) (cI cZ : ClassId) (q : Nat → Nat) (as : List Value) (T : mT) (D : mD) (th : Int32) (r : mRl) : Prop := mMl l y ws rm G cI cZ q as T D th (lN r.2.1) r.2.2.1 r.2.2.2 (nI r.1)
def skN (m : Int64) (left : Nat) : Nat := if m < 0 then 0 else min m.toInt.toNat left
def sp_skip (T : mT) (D : mD) (i : Int32) (m : Int64) : mRl := if oN i 3 then nol T D 1 else if clo T i.toNatClampNeg then nol T D 2 else (0, skN m (T 10 i.toNatClampNeg - T 9 i.toNatClampNeg), u2 T 9 i.toNatClampNeg (T 9 i.toNatClampNeg + skN m (T 10 i.toNatClampNeg - T 9 i.toNatClampNeg)), D)
def sp_mark (T : mT) (D : mD) (i lim : Int32) : mR := if oN i 3 then no T D 1 else if lim < 0 then no T D 2 else if clo T i.toNatClampNeg then no T D 3 else (0, nI (T 10 i.toNatClampNeg - T 9 i.toNatClampNeg), u2 T 11 i.toNatClampNeg (T 9 i.toNatClampNeg), D)
def sp_back (T : mT) (D : mD) (i : Int32) : mR := if oN i 3 then no T D 1 else if clo T i.toNatClampNeg then no T D 2 else (0, nI (T 10 i.toNatClampNeg - T 11 i.toNatClampNeg), u2 T 9 i.toNatClampNeg (T 11 i.toNatClampNeg), D)
theorem m1_lt0 : ((-1 : Int32)) < 0 := by decide
theorem m1_ne (z : Nat) (h : z < 2 ^ 31) : ¬ nI z = -1 := fun e => absurd (congrArg Int32.toInt e) (by rw [nI_toInt h]; show ¬ (z : Int) = -1; omega)

set_option maxHeartbeats 4000000 in
set_option maxRecDepth 100000 in
theorem mt_isClosed_n (l : Launch) {G : va_G} {cI cZ : ClassId} {q : Nat → Nat} (hq : mJ q) (T : mT) (D : mD) (th : Int32) {i : Nat} (hi : i < 3) (h : T 8 i = 0) : mMi l yX7_isClosed wsX7_isClosed ({ frames := 0, cells := 0, slots := 0, locals := 0 } : Room) G cI cZ q [.int (nI (i))] (T) (D) (th) (nI 1) (T) (D) (th) := by
  refine mstarti (cc := cX7_isClosed) (maxL := 2) (ret := (some .boolean)) (by decide) rfl rfl ⟨_, rfl⟩ (Nat.le_of_ble_eq_true rfl) (fun p e s m args below meth c Q hE X hW ls hl => ?_)
  have hl : lv_has ls 2 [(0, .ref (q 0)), (1, .int (nI (i)))] := hl
  have hin : ∀ w ∈ wsX70, w ∈ wsX7_isClosed := fun w h => List.mem_cons_of_mem _ (List.mem_append_left _ (List.mem_append_right _ (h)))
  refine lv_aload_n X.1 X.2.1 dX7_isClosed_0 rfl (lv_at hl 0 rfl) ?_
  refine mget 8 (by decide) rfl X hin hW (X.2.2.2.2 (.fieldLink RX7 34 "StrandbookModel" "reads" "[I") (List.mem_cons_of_mem _ (List.mem_append_left _ (List.mem_append_left _ (List.mem_of_getElem? (i := 0) rfl))))) dX7_isClosed_1 ?_
  refine lv_iload_n X.1 X.2.1 dX7_isClosed_4 rfl (lv_at hl 1 rfl) ?_
  refine mld8_0 X hW (by omega) (h) dX7_isClosed_5 ?_
  refine x_if_lt_t (tgt := 18) X.1 X.2.1 dX7_isClosed_6 (by decide) (by decide) ?_
  refine lv_iconst (v := nI 1) X.1 X.2.1 dX7_isClosed_18 (by decide) ?_
  refine lv_goto (tgt := 23) X.1 X.2.1 dX7_isClosed_19 (by decide) ?_
  exact hE _ _ _ _ _ (rfl) (fun ty hty => by cases hty; exact nI_zb (by omega)) hW dX7_isClosed_23

set_option maxHeartbeats 4000000 in
set_option maxRecDepth 100000 in
theorem mt_isClosed_s (l : Launch) {G : va_G} {cI cZ : ClassId} {q : Nat → Nat} (hq : mJ q) (T : mT) (D : mD) (th : Int32) (I : mI T) {i : Nat} (hi : i < 3) (h : T 8 i ≠ 0) (h2 : T 12 i ≠ 0) : mMi l yX7_isClosed wsX7_isClosed ({ frames := 0, cells := 0, slots := 0, locals := 0 } : Room) G cI cZ q [.int (nI (i))] (T) (D) (th) (nI 1) (T) (D) (th) := by
  refine mstarti (cc := cX7_isClosed) (maxL := 2) (ret := (some .boolean)) (by decide) rfl rfl ⟨_, rfl⟩ (Nat.le_of_ble_eq_true rfl) (fun p e s m args below meth c Q hE X hW ls hl => ?_)
  have hl : lv_has ls 2 [(0, .ref (q 0)), (1, .int (nI (i)))] := hl
  have hin : ∀ w ∈ wsX70, w ∈ wsX7_isClosed := fun w h => List.mem_cons_of_mem _ (List.mem_append_left _ (List.mem_append_right _ (h)))
  have I1 := I.rd hi
  refine lv_aload_n X.1 X.2.1 dX7_isClosed_0 rfl (lv_at hl 0 rfl) ?_
  refine mget 8 (by decide) rfl X hin hW (X.2.2.2.2 (.fieldLink RX7 34 "StrandbookModel" "reads" "[I") (List.mem_cons_of_mem _ (List.mem_append_left _ (List.mem_append_left _ (List.mem_of_getElem? (i := 0) rfl))))) dX7_isClosed_1 ?_
  refine lv_iload_n X.1 X.2.1 dX7_isClosed_4 rfl (lv_at hl 1 rfl) ?_
  refine mld8_s X hW (by omega) (z := T 8 i - 1) (by omega) dX7_isClosed_5 ?_
  refine n_if_lt_f (tgt := 18) X.1 X.2.1 dX7_isClosed_6 (by decide) (by omega) ?_
  refine lv_aload_n X.1 X.2.1 dX7_isClosed_9 rfl (lv_at hl 0 rfl) ?_
  refine mget 12 (by decide) rfl X hin hW (X.2.2.2.2 (.fieldLink RX7 46 "StrandbookModel" "areShut" "[Z") (List.mem_cons_of_mem _ (List.mem_append_left _ (List.mem_append_left _ (List.mem_of_getElem? (i := 1) rfl))))) dX7_isClosed_10 ?_
  refine lv_iload_n X.1 X.2.1 dX7_isClosed_13 rfl (lv_at hl 1 rfl) ?_
  refine mld12 X hW (by omega) dX7_isClosed_14 ?_
  refine n_if_eq_f (tgt := 22) X.1 X.2.1 dX7_isClosed_15 (by decide) (h2) (by omega) ?_
  refine lv_iconst (v := nI 1) X.1 X.2.1 dX7_isClosed_18 (by decide) ?_
  refine lv_goto (tgt := 23) X.1 X.2.1 dX7_isClosed_19 (by decide) ?_
  exact hE _ _ _ _ _ (rfl) (fun ty hty => by cases hty; exact nI_zb (by omega)) hW dX7_isClosed_23

set_option maxHeartbeats 4000000 in
set_option maxRecDepth 100000 in
theorem mt_isClosed_o (l : Launch) {G : va_G} {cI cZ : ClassId} {q : Nat → Nat} (hq : mJ q) (T : mT) (D : mD) (th : Int32) (I : mI T) {i : Nat} (hi : i < 3) (h : ¬ clo T i) : mMi l yX7_isClosed wsX7_isClosed ({ frames := 0, cells := 0, slots := 0, locals := 0 } : Room) G cI cZ q [.int (nI (i))] (T) (D) (th) (nI 0) (T) (D) (th) := by
  refine mstarti (cc := cX7_isClosed) (maxL := 2) (ret := (some .boolean)) (by decide) rfl rfl ⟨_, rfl⟩ (Nat.le_of_ble_eq_true rfl) (fun p e s m args below meth c Q hE X hW ls hl => ?_)
  have hl : lv_has ls 2 [(0, .ref (q 0)), (1, .int (nI (i)))] := hl
  have hin : ∀ w ∈ wsX70, w ∈ wsX7_isClosed := fun w h => List.mem_cons_of_mem _ (List.mem_append_left _ (List.mem_append_right _ (h)))
  have I1 := I.rd hi
  have h1 : ¬ T 8 i = 0 := fun z => h (Or.inl z)
  have h2 : T 12 i = 0 := Decidable.not_not.mp (fun z => h (Or.inr z))
  refine lv_aload_n X.1 X.2.1 dX7_isClosed_0 rfl (lv_at hl 0 rfl) ?_
  refine mget 8 (by decide) rfl X hin hW (X.2.2.2.2 (.fieldLink RX7 34 "StrandbookModel" "reads" "[I") (List.mem_cons_of_mem _ (List.mem_append_left _ (List.mem_append_left _ (List.mem_of_getElem? (i := 0) rfl))))) dX7_isClosed_1 ?_
  refine lv_iload_n X.1 X.2.1 dX7_isClosed_4 rfl (lv_at hl 1 rfl) ?_
  refine mld8_s X hW (by omega) (z := T 8 i - 1) (by omega) dX7_isClosed_5 ?_
  refine n_if_lt_f (tgt := 18) X.1 X.2.1 dX7_isClosed_6 (by decide) (by omega) ?_
  refine lv_aload_n X.1 X.2.1 dX7_isClosed_9 rfl (lv_at hl 0 rfl) ?_
  refine mget 12 (by decide) rfl X hin hW (X.2.2.2.2 (.fieldLink RX7 46 "StrandbookModel" "areShut" "[Z") (List.mem_cons_of_mem _ (List.mem_append_left _ (List.mem_append_left _ (List.mem_of_getElem? (i := 1) rfl))))) dX7_isClosed_10 ?_
  refine lv_iload_n X.1 X.2.1 dX7_isClosed_13 rfl (lv_at hl 1 rfl) ?_
  refine mld12 X hW (by omega) dX7_isClosed_14 ?_
  refine n_if_eq_t (tgt := 22) X.1 X.2.1 dX7_isClosed_15 (by decide) (by omega) (by omega) ?_
  refine lv_iconst (v := nI 0) X.1 X.2.1 dX7_isClosed_22 (by decide) ?_
  exact hE _ _ _ _ _ (rfl) (fun ty hty => by cases hty; exact nI_zb (by omega)) hW dX7_isClosed_23

theorem mt_isClosed_1 (l : Launch) {G : va_G} {cI cZ : ClassId} {q : Nat → Nat} (hq : mJ q) (T : mT) (D : mD) (th : Int32) (I : mI T) {i : Nat} (hi : i < 3) (h : clo T i) : mMi l yX7_isClosed wsX7_isClosed ({ frames := 0, cells := 0, slots := 0, locals := 0 } : Room) G cI cZ q [.int (nI i)] T D th (nI 1) T D th := by
  by_cases h1 : T 8 i = 0
  · exact mt_isClosed_n l hq T D th hi h1
  · exact mt_isClosed_s l hq T D th I hi h1 (h.elim (fun z => absurd z h1) id)

set_option maxHeartbeats 4000000 in
set_option maxRecDepth 100000 in
theorem mt_opens (l : Launch) {G : va_G} {cI cZ : ClassId} {q : Nat → Nat} (hq : mJ q) (T : mT) (D : mD) (th : Int32) (I : mI T) {i r f e0 : Nat} (hi : i < 3) (hr : r < 4) : mMv l yX7_opens wsX7_opens ({ frames := 0, cells := 0, slots := 0, locals := 0 } : Room) G cI cZ q [.int (nI (i)), .int (nI (r)), .int (nI (f)), .int (nI (e0))] (T) (D) (th) (opT T i r f e0) (D) (th) := by
  refine mstartv (cc := cX7_opens) (maxL := 5) (ret := none) (by decide) rfl rfl rfl (Nat.le_of_ble_eq_true rfl) (fun p e s m args below meth c Q hE X hW ls hl => ?_)
  have hl : lv_has ls 5 [(0, .ref (q 0)), (1, .int (nI (i))), (2, .int (nI (r))), (3, .int (nI (f))), (4, .int (nI (e0)))] := hl
  have hin : ∀ w ∈ wsX70, w ∈ wsX7_opens := fun w h => List.mem_cons_of_mem _ (List.mem_append_left _ (List.mem_append_right _ (h)))
  have I2 := I.sr hr
  refine lv_aload_n X.1 X.2.1 dX7_opens_0 rfl (lv_at hl 0 rfl) ?_
  refine mget 8 (by decide) rfl X hin hW (X.2.2.2.2 (.fieldLink RX7 34 "StrandbookModel" "reads" "[I") (List.mem_cons_of_mem _ (List.mem_append_left _ (List.mem_append_left _ (List.mem_of_getElem? (i := 0) rfl))))) dX7_opens_1 ?_
  refine lv_iload_n X.1 X.2.1 dX7_opens_4 rfl (lv_at hl 1 rfl) ?_
  refine lv_aload_n X.1 X.2.1 dX7_opens_5 rfl (lv_at hl 0 rfl) ?_
  refine mget 2 (by decide) rfl X hin hW (X.2.2.2.2 (.fieldLink RX7 16 "StrandbookModel" "signRooms" "[I") (List.mem_cons_of_mem _ (List.mem_append_left _ (List.mem_append_left _ (List.mem_of_getElem? (i := 1) rfl))))) dX7_opens_6 ?_
  refine lv_iload_n X.1 X.2.1 dX7_opens_9 rfl (lv_at hl 2 rfl) ?_
  refine mld2 X hW (by omega) dX7_opens_10 ?_
  refine mst8_s hq X hW (by omega) dX7_opens_11 (fun H locs hW => ?_)
  refine lv_aload_n X.1 X.2.1 dX7_opens_12 rfl (lv_at hl 0 rfl) ?_
  refine mget 9 (by decide) rfl X hin hW (X.2.2.2.2 (.fieldLink RX7 37 "StrandbookModel" "places" "[I") (List.mem_cons_of_mem _ (List.mem_append_left _ (List.mem_append_left _ (List.mem_of_getElem? (i := 2) rfl))))) dX7_opens_13 ?_
  refine lv_iload_n X.1 X.2.1 dX7_opens_16 rfl (lv_at hl 1 rfl) ?_
  refine lv_iload_n X.1 X.2.1 dX7_opens_17 rfl (lv_at hl 3 rfl) ?_
  refine mst9 hq X hW (by omega) dX7_opens_18 (fun H locs hW => ?_)
  refine lv_aload_n X.1 X.2.1 dX7_opens_19 rfl (lv_at hl 0 rfl) ?_
  refine mget 11 (by decide) rfl X hin hW (X.2.2.2.2 (.fieldLink RX7 43 "StrandbookModel" "marks" "[I") (List.mem_cons_of_mem _ (List.mem_append_left _ (List.mem_append_left _ (List.mem_of_getElem? (i := 3) rfl))))) dX7_opens_20 ?_
  refine lv_iload_n X.1 X.2.1 dX7_opens_23 rfl (lv_at hl 1 rfl) ?_
  refine lv_iload_n X.1 X.2.1 dX7_opens_24 rfl (lv_at hl 3 rfl) ?_
  refine mst11 hq X hW (by omega) dX7_opens_25 (fun H locs hW => ?_)
  refine lv_aload_n X.1 X.2.1 dX7_opens_26 rfl (lv_at hl 0 rfl) ?_
  refine mget 10 (by decide) rfl X hin hW (X.2.2.2.2 (.fieldLink RX7 40 "StrandbookModel" "ends" "[I") (List.mem_cons_of_mem _ (List.mem_append_left _ (List.mem_append_left _ (List.mem_of_getElem? (i := 4) rfl))))) dX7_opens_27 ?_
  refine lv_iload_n X.1 X.2.1 dX7_opens_30 rfl (lv_at hl 1 rfl) ?_
  refine lv_iload X.1 X.2.1 dX7_opens_31 (lv_at hl 4 rfl) ?_
  refine mst10 hq X hW (by omega) dX7_opens_33 (fun H locs hW => ?_)
  refine lv_aload_n X.1 X.2.1 dX7_opens_34 rfl (lv_at hl 0 rfl) ?_
  refine mget 12 (by decide) rfl X hin hW (X.2.2.2.2 (.fieldLink RX7 46 "StrandbookModel" "areShut" "[Z") (List.mem_cons_of_mem _ (List.mem_append_left _ (List.mem_append_left _ (List.mem_of_getElem? (i := 5) rfl))))) dX7_opens_35 ?_
  refine lv_iload_n X.1 X.2.1 dX7_opens_38 rfl (lv_at hl 1 rfl) ?_
  refine lv_iconst (v := nI 0) X.1 X.2.1 dX7_opens_39 (by decide) ?_
  refine mst12 hq X hW (by omega) (by omega) dX7_opens_40 (fun H locs hW => ?_)
  exact hE _ _ _ _ hW dX7_opens_41

set_option maxHeartbeats 4000000 in
set_option maxRecDepth 100000 in
theorem mt_open_1a (l : Launch) {G : va_G} {cI cZ : ClassId} {q : Nat → Nat} (hq : mJ q) (T : mT) (D : mD) (th : Int32) {i row f n : Int32} (h : oN i 3) : mMi l yX7_open wsX7_open ({ frames := 2, cells := 0, slots := 0, locals := 44 } : Room) G cI cZ q [.int (i), .int (row), .int (f), .int (n)] (T) (D) (th) (nI 0) (T) (D) (nI 1) := by
  refine mstarti (cc := cX7_open) (maxL := 5) (ret := (some .int)) (by decide) rfl rfl ⟨_, rfl⟩ (Nat.le_of_ble_eq_true rfl) (fun p e s m args below meth c Q hE X hW ls hl => ?_)
  have hl : lv_has ls 5 [(0, .ref (q 0)), (1, .int (i)), (2, .int (row)), (3, .int (f)), (4, .int (n))] := hl
  have hin : ∀ w ∈ wsX70, w ∈ wsX7_open := fun w h => List.mem_cons_of_mem _ (List.mem_append_left _ (List.mem_append_right _ (h)))
  refine lv_aload_n X.1 X.2.1 dX7_open_0 rfl (lv_at hl 0 rfl) ?_
  refine lv_aload_n X.1 X.2.1 dX7_open_1 rfl (lv_at hl 0 rfl) ?_
  refine lv_iload_n X.1 X.2.1 dX7_open_2 rfl (lv_at hl 1 rfl) ?_
  refine mcalli hq X hW (mt_isOther_bad l hq (T) (D) (th) (x := i) (h)) (cwV 1 X.2.2.2.2 gX7_open_X7_isOther rfl rfl rfl (by decide +kernel) ⟨Nat.le_of_ble_eq_true rfl, Nat.le_of_ble_eq_true rfl⟩) rfl rfl hl.1 (Nat.le_of_ble_eq_true rfl) dX7_open_3 ⟨Nat.zero_le _, Nat.zero_le _⟩ (fun H locs hW => ?_)
  refine n_if_eq_t (tgt := 19) X.1 X.2.1 dX7_open_6 (by decide) (by decide) (by omega) ?_
  refine lv_iconst (v := nI 1) X.1 X.2.1 dX7_open_19 (by decide) ?_
  refine lv_goto (tgt := 41) X.1 X.2.1 dX7_open_20 (by decide) ?_
  refine mcalli hq X hW (mt_isWrong_s l hq (T) (D) (th) (n := 1) (by decide) (by decide)) (cwV 1 X.2.2.2.2 gX7_open_X7_isWrong rfl rfl rfl (by decide +kernel) ⟨Nat.le_of_ble_eq_true rfl, Nat.le_of_ble_eq_true rfl⟩) rfl rfl hl.1 (Nat.le_of_ble_eq_true rfl) dX7_open_41 ⟨Nat.zero_le _, Nat.zero_le _⟩ (fun H locs hW => ?_)
  refine n_if_eq_f (tgt := 49) X.1 X.2.1 dX7_open_44 (by decide) (by decide) (by omega) ?_
  refine lv_iconst (v := nI 0) X.1 X.2.1 dX7_open_47 (by decide) ?_
  exact hE _ _ _ _ _ (rfl) (fun ty hty => by cases hty; exact rfl) hW dX7_open_48

set_option maxHeartbeats 4000000 in
set_option maxRecDepth 100000 in
theorem mt_open_1b (l : Launch) {G : va_G} {cI cZ : ClassId} {q : Nat → Nat} (hq : mJ q) (T : mT) (D : mD) (th : Int32) {i : Nat} {row f n : Int32} (hi : i < 3) (h : oN row 4) : mMi l yX7_open wsX7_open ({ frames := 2, cells := 0, slots := 0, locals := 44 } : Room) G cI cZ q [.int (nI (i)), .int (row), .int (f), .int (n)] (T) (D) (th) (nI 0) (T) (D) (nI 1) := by
  refine mstarti (cc := cX7_open) (maxL := 5) (ret := (some .int)) (by decide) rfl rfl ⟨_, rfl⟩ (Nat.le_of_ble_eq_true rfl) (fun p e s m args below meth c Q hE X hW ls hl => ?_)
  have hl : lv_has ls 5 [(0, .ref (q 0)), (1, .int (nI (i))), (2, .int (row)), (3, .int (f)), (4, .int (n))] := hl
  have hin : ∀ w ∈ wsX70, w ∈ wsX7_open := fun w h => List.mem_cons_of_mem _ (List.mem_append_left _ (List.mem_append_right _ (h)))
  refine lv_aload_n X.1 X.2.1 dX7_open_0 rfl (lv_at hl 0 rfl) ?_
  refine lv_aload_n X.1 X.2.1 dX7_open_1 rfl (lv_at hl 0 rfl) ?_
  refine lv_iload_n X.1 X.2.1 dX7_open_2 rfl (lv_at hl 1 rfl) ?_
  refine mcalli hq X hW (mt_isOther_ok l hq (T) (D) (th) (r := i) (by omega)) (cwV 1 X.2.2.2.2 gX7_open_X7_isOther rfl rfl rfl (by decide +kernel) ⟨Nat.le_of_ble_eq_true rfl, Nat.le_of_ble_eq_true rfl⟩) rfl rfl hl.1 (Nat.le_of_ble_eq_true rfl) dX7_open_3 ⟨Nat.zero_le _, Nat.zero_le _⟩ (fun H locs hW => ?_)
  refine n_if_eq_f (tgt := 19) X.1 X.2.1 dX7_open_6 (by decide) (by decide) (by omega) ?_
  refine lv_aload_n X.1 X.2.1 dX7_open_9 rfl (lv_at hl 0 rfl) ?_
  refine lv_iload_n X.1 X.2.1 dX7_open_10 rfl (lv_at hl 2 rfl) ?_
  refine lv_iload_n X.1 X.2.1 dX7_open_11 rfl (lv_at hl 3 rfl) ?_
  refine lv_iconst (v := nI 0) X.1 X.2.1 dX7_open_12 (by decide) ?_
  refine mcalli hq X hW (mt_isPart_b0 l hq T D th (x := row) (y := f) (z := nI 0) h) (cwV 3 X.2.2.2.2 gX7_open_X7_isPart rfl rfl rfl (by decide +kernel) ⟨Nat.le_of_ble_eq_true rfl, Nat.le_of_ble_eq_true rfl⟩) rfl rfl hl.1 (Nat.le_of_ble_eq_true rfl) dX7_open_13 ⟨Nat.zero_le _, Nat.zero_le _⟩ (fun H locs hW => ?_)
  refine n_if_ne_f (tgt := 23) X.1 X.2.1 dX7_open_16 (by decide) (by decide) (by omega) ?_
  refine lv_iconst (v := nI 1) X.1 X.2.1 dX7_open_19 (by decide) ?_
  refine lv_goto (tgt := 41) X.1 X.2.1 dX7_open_20 (by decide) ?_
  refine mcalli hq X hW (mt_isWrong_s l hq (T) (D) (th) (n := 1) (by decide) (by decide)) (cwV 1 X.2.2.2.2 gX7_open_X7_isWrong rfl rfl rfl (by decide +kernel) ⟨Nat.le_of_ble_eq_true rfl, Nat.le_of_ble_eq_true rfl⟩) rfl rfl hl.1 (Nat.le_of_ble_eq_true rfl) dX7_open_41 ⟨Nat.zero_le _, Nat.zero_le _⟩ (fun H locs hW => ?_)
  refine n_if_eq_f (tgt := 49) X.1 X.2.1 dX7_open_44 (by decide) (by decide) (by omega) ?_
  refine lv_iconst (v := nI 0) X.1 X.2.1 dX7_open_47 (by decide) ?_
  exact hE _ _ _ _ _ (rfl) (fun ty hty => by cases hty; exact rfl) hW dX7_open_48

set_option maxHeartbeats 4000000 in
set_option maxRecDepth 100000 in
theorem mt_open_1c (l : Launch) {G : va_G} {cI cZ : ClassId} {q : Nat → Nat} (hq : mJ q) (T : mT) (D : mD) (th : Int32) (I : mI T) {i r : Nat} {f n : Int32} (hi : i < 3) (hr : r < 4) (h : oP (T 1 (T 2 r)) f (nI 0)) : mMi l yX7_open wsX7_open ({ frames := 2, cells := 0, slots := 0, locals := 44 } : Room) G cI cZ q [.int (nI (i)), .int (nI (r)), .int (f), .int (n)] (T) (D) (th) (nI 0) (T) (D) (nI 1) := by
  refine mstarti (cc := cX7_open) (maxL := 5) (ret := (some .int)) (by decide) rfl rfl ⟨_, rfl⟩ (Nat.le_of_ble_eq_true rfl) (fun p e s m args below meth c Q hE X hW ls hl => ?_)
  have hl : lv_has ls 5 [(0, .ref (q 0)), (1, .int (nI (i))), (2, .int (nI (r))), (3, .int (f)), (4, .int (n))] := hl
  have hin : ∀ w ∈ wsX70, w ∈ wsX7_open := fun w h => List.mem_cons_of_mem _ (List.mem_append_left _ (List.mem_append_right _ (h)))
  refine lv_aload_n X.1 X.2.1 dX7_open_0 rfl (lv_at hl 0 rfl) ?_
  refine lv_aload_n X.1 X.2.1 dX7_open_1 rfl (lv_at hl 0 rfl) ?_
  refine lv_iload_n X.1 X.2.1 dX7_open_2 rfl (lv_at hl 1 rfl) ?_
  refine mcalli hq X hW (mt_isOther_ok l hq (T) (D) (th) (r := i) (by omega)) (cwV 1 X.2.2.2.2 gX7_open_X7_isOther rfl rfl rfl (by decide +kernel) ⟨Nat.le_of_ble_eq_true rfl, Nat.le_of_ble_eq_true rfl⟩) rfl rfl hl.1 (Nat.le_of_ble_eq_true rfl) dX7_open_3 ⟨Nat.zero_le _, Nat.zero_le _⟩ (fun H locs hW => ?_)
  refine n_if_eq_f (tgt := 19) X.1 X.2.1 dX7_open_6 (by decide) (by decide) (by omega) ?_
  refine lv_aload_n X.1 X.2.1 dX7_open_9 rfl (lv_at hl 0 rfl) ?_
  refine lv_iload_n X.1 X.2.1 dX7_open_10 rfl (lv_at hl 2 rfl) ?_
  refine lv_iload_n X.1 X.2.1 dX7_open_11 rfl (lv_at hl 3 rfl) ?_
  refine lv_iconst (v := nI 0) X.1 X.2.1 dX7_open_12 (by decide) ?_
  refine mcalli hq X hW (mt_isPart_bad l hq T D th I (r := r) hr h) (cwV 3 X.2.2.2.2 gX7_open_X7_isPart rfl rfl rfl (by decide +kernel) ⟨Nat.le_of_ble_eq_true rfl, Nat.le_of_ble_eq_true rfl⟩) rfl rfl hl.1 (Nat.le_of_ble_eq_true rfl) dX7_open_13 ⟨Nat.zero_le _, Nat.zero_le _⟩ (fun H locs hW => ?_)
  refine n_if_ne_f (tgt := 23) X.1 X.2.1 dX7_open_16 (by decide) (by decide) (by omega) ?_
  refine lv_iconst (v := nI 1) X.1 X.2.1 dX7_open_19 (by decide) ?_
  refine lv_goto (tgt := 41) X.1 X.2.1 dX7_open_20 (by decide) ?_
  refine mcalli hq X hW (mt_isWrong_s l hq (T) (D) (th) (n := 1) (by decide) (by decide)) (cwV 1 X.2.2.2.2 gX7_open_X7_isWrong rfl rfl rfl (by decide +kernel) ⟨Nat.le_of_ble_eq_true rfl, Nat.le_of_ble_eq_true rfl⟩) rfl rfl hl.1 (Nat.le_of_ble_eq_true rfl) dX7_open_41 ⟨Nat.zero_le _, Nat.zero_le _⟩ (fun H locs hW => ?_)
  refine n_if_eq_f (tgt := 49) X.1 X.2.1 dX7_open_44 (by decide) (by decide) (by omega) ?_
  refine lv_iconst (v := nI 0) X.1 X.2.1 dX7_open_47 (by decide) ?_
  exact hE _ _ _ _ _ (rfl) (fun ty hty => by cases hty; exact rfl) hW dX7_open_48

set_option maxHeartbeats 4000000 in
set_option maxRecDepth 100000 in
theorem mt_open_2a (l : Launch) {G : va_G} {cI cZ : ClassId} {q : Nat → Nat} (hq : mJ q) (T : mT) (D : mD) (th : Int32) (I : mI T) {i r f : Nat} {n : Int32} (hi : i < 3) (hr : r < 4) (hf : f ≤ T 1 (T 2 r)) (h : n < 0) : mMi l yX7_open wsX7_open ({ frames := 2, cells := 0, slots := 0, locals := 44 } : Room) G cI cZ q [.int (nI (i)), .int (nI (r)), .int (nI (f)), .int (n)] (T) (D) (th) (nI 0) (T) (D) (nI 2) := by
  refine mstarti (cc := cX7_open) (maxL := 5) (ret := (some .int)) (by decide) rfl rfl ⟨_, rfl⟩ (Nat.le_of_ble_eq_true rfl) (fun p e s m args below meth c Q hE X hW ls hl => ?_)
  have hl : lv_has ls 5 [(0, .ref (q 0)), (1, .int (nI (i))), (2, .int (nI (r))), (3, .int (nI (f))), (4, .int (n))] := hl
  have hin : ∀ w ∈ wsX70, w ∈ wsX7_open := fun w h => List.mem_cons_of_mem _ (List.mem_append_left _ (List.mem_append_right _ (h)))
  have I2 := I.sr hr
  have I3 := I.sl I2
  refine lv_aload_n X.1 X.2.1 dX7_open_0 rfl (lv_at hl 0 rfl) ?_
  refine lv_aload_n X.1 X.2.1 dX7_open_1 rfl (lv_at hl 0 rfl) ?_
  refine lv_iload_n X.1 X.2.1 dX7_open_2 rfl (lv_at hl 1 rfl) ?_
  refine mcalli hq X hW (mt_isOther_ok l hq (T) (D) (th) (r := i) (by omega)) (cwV 1 X.2.2.2.2 gX7_open_X7_isOther rfl rfl rfl (by decide +kernel) ⟨Nat.le_of_ble_eq_true rfl, Nat.le_of_ble_eq_true rfl⟩) rfl rfl hl.1 (Nat.le_of_ble_eq_true rfl) dX7_open_3 ⟨Nat.zero_le _, Nat.zero_le _⟩ (fun H locs hW => ?_)
  refine n_if_eq_f (tgt := 19) X.1 X.2.1 dX7_open_6 (by decide) (by decide) (by omega) ?_
  refine lv_aload_n X.1 X.2.1 dX7_open_9 rfl (lv_at hl 0 rfl) ?_
  refine lv_iload_n X.1 X.2.1 dX7_open_10 rfl (lv_at hl 2 rfl) ?_
  refine lv_iload_n X.1 X.2.1 dX7_open_11 rfl (lv_at hl 3 rfl) ?_
  refine lv_iconst (v := nI 0) X.1 X.2.1 dX7_open_12 (by decide) ?_
  refine mcalli hq X hW (mt_isPart_ok l hq (T) (D) (th) I (r := r) (f := f) (n := 0) (by omega) (by omega)) (cwV 3 X.2.2.2.2 gX7_open_X7_isPart rfl rfl rfl (by decide +kernel) ⟨Nat.le_of_ble_eq_true rfl, Nat.le_of_ble_eq_true rfl⟩) rfl rfl hl.1 (Nat.le_of_ble_eq_true rfl) dX7_open_13 ⟨Nat.zero_le _, Nat.zero_le _⟩ (fun H locs hW => ?_)
  refine n_if_ne_t (tgt := 23) X.1 X.2.1 dX7_open_16 (by decide) (by decide) (by omega) ?_
  refine lv_iload X.1 X.2.1 dX7_open_23 (lv_at hl 4 rfl) ?_
  refine x_if_lt_t (tgt := 36) X.1 X.2.1 dX7_open_25 (by decide) (h) ?_
  refine lv_iconst (v := nI 2) X.1 X.2.1 dX7_open_36 (by decide) ?_
  refine lv_goto (tgt := 41) X.1 X.2.1 dX7_open_37 (by decide) ?_
  refine mcalli hq X hW (mt_isWrong_s l hq (T) (D) (th) (n := 2) (by decide) (by decide)) (cwV 1 X.2.2.2.2 gX7_open_X7_isWrong rfl rfl rfl (by decide +kernel) ⟨Nat.le_of_ble_eq_true rfl, Nat.le_of_ble_eq_true rfl⟩) rfl rfl hl.1 (Nat.le_of_ble_eq_true rfl) dX7_open_41 ⟨Nat.zero_le _, Nat.zero_le _⟩ (fun H locs hW => ?_)
  refine n_if_eq_f (tgt := 49) X.1 X.2.1 dX7_open_44 (by decide) (by decide) (by omega) ?_
  refine lv_iconst (v := nI 0) X.1 X.2.1 dX7_open_47 (by decide) ?_
  exact hE _ _ _ _ _ (rfl) (fun ty hty => by cases hty; exact rfl) hW dX7_open_48

set_option maxHeartbeats 4000000 in
set_option maxRecDepth 100000 in
theorem mt_open_2b (l : Launch) {G : va_G} {cI cZ : ClassId} {q : Nat → Nat} (hq : mJ q) (T : mT) (D : mD) (th : Int32) (I : mI T) {i r f n : Nat} (hi : i < 3) (hr : r < 4) (hf : f ≤ T 1 (T 2 r)) (hn : n < 2 ^ 31) (h : 1001 ≤ n) : mMi l yX7_open wsX7_open ({ frames := 2, cells := 0, slots := 0, locals := 44 } : Room) G cI cZ q [.int (nI (i)), .int (nI (r)), .int (nI (f)), .int (nI (n))] (T) (D) (th) (nI 0) (T) (D) (nI 2) := by
  refine mstarti (cc := cX7_open) (maxL := 5) (ret := (some .int)) (by decide) rfl rfl ⟨_, rfl⟩ (Nat.le_of_ble_eq_true rfl) (fun p e s m args below meth c Q hE X hW ls hl => ?_)
  have hl : lv_has ls 5 [(0, .ref (q 0)), (1, .int (nI (i))), (2, .int (nI (r))), (3, .int (nI (f))), (4, .int (nI (n)))] := hl
  have hin : ∀ w ∈ wsX70, w ∈ wsX7_open := fun w h => List.mem_cons_of_mem _ (List.mem_append_left _ (List.mem_append_right _ (h)))
  have I2 := I.sr hr
  have I3 := I.sl I2
  refine lv_aload_n X.1 X.2.1 dX7_open_0 rfl (lv_at hl 0 rfl) ?_
  refine lv_aload_n X.1 X.2.1 dX7_open_1 rfl (lv_at hl 0 rfl) ?_
  refine lv_iload_n X.1 X.2.1 dX7_open_2 rfl (lv_at hl 1 rfl) ?_
  refine mcalli hq X hW (mt_isOther_ok l hq (T) (D) (th) (r := i) (by omega)) (cwV 1 X.2.2.2.2 gX7_open_X7_isOther rfl rfl rfl (by decide +kernel) ⟨Nat.le_of_ble_eq_true rfl, Nat.le_of_ble_eq_true rfl⟩) rfl rfl hl.1 (Nat.le_of_ble_eq_true rfl) dX7_open_3 ⟨Nat.zero_le _, Nat.zero_le _⟩ (fun H locs hW => ?_)
  refine n_if_eq_f (tgt := 19) X.1 X.2.1 dX7_open_6 (by decide) (by decide) (by omega) ?_
  refine lv_aload_n X.1 X.2.1 dX7_open_9 rfl (lv_at hl 0 rfl) ?_
  refine lv_iload_n X.1 X.2.1 dX7_open_10 rfl (lv_at hl 2 rfl) ?_
  refine lv_iload_n X.1 X.2.1 dX7_open_11 rfl (lv_at hl 3 rfl) ?_
  refine lv_iconst (v := nI 0) X.1 X.2.1 dX7_open_12 (by decide) ?_
  refine mcalli hq X hW (mt_isPart_ok l hq (T) (D) (th) I (r := r) (f := f) (n := 0) (by omega) (by omega)) (cwV 3 X.2.2.2.2 gX7_open_X7_isPart rfl rfl rfl (by decide +kernel) ⟨Nat.le_of_ble_eq_true rfl, Nat.le_of_ble_eq_true rfl⟩) rfl rfl hl.1 (Nat.le_of_ble_eq_true rfl) dX7_open_13 ⟨Nat.zero_le _, Nat.zero_le _⟩ (fun H locs hW => ?_)
  refine n_if_ne_t (tgt := 23) X.1 X.2.1 dX7_open_16 (by decide) (by decide) (by omega) ?_
  refine lv_iload X.1 X.2.1 dX7_open_23 (lv_at hl 4 rfl) ?_
  refine n_if_lt_f (tgt := 36) X.1 X.2.1 dX7_open_25 (by decide) (by omega) ?_
  refine lv_iload X.1 X.2.1 dX7_open_28 (lv_at hl 4 rfl) ?_
  refine lv_sipush (v := nI 1000) X.1 X.2.1 dX7_open_30 (by decide) ?_
  refine n_icmp_le_f (tgt := 40) X.1 X.2.1 dX7_open_33 (by decide) (by omega) (by omega) (by omega) ?_
  refine lv_iconst (v := nI 2) X.1 X.2.1 dX7_open_36 (by decide) ?_
  refine lv_goto (tgt := 41) X.1 X.2.1 dX7_open_37 (by decide) ?_
  refine mcalli hq X hW (mt_isWrong_s l hq (T) (D) (th) (n := 2) (by decide) (by decide)) (cwV 1 X.2.2.2.2 gX7_open_X7_isWrong rfl rfl rfl (by decide +kernel) ⟨Nat.le_of_ble_eq_true rfl, Nat.le_of_ble_eq_true rfl⟩) rfl rfl hl.1 (Nat.le_of_ble_eq_true rfl) dX7_open_41 ⟨Nat.zero_le _, Nat.zero_le _⟩ (fun H locs hW => ?_)
  refine n_if_eq_f (tgt := 49) X.1 X.2.1 dX7_open_44 (by decide) (by decide) (by omega) ?_
  refine lv_iconst (v := nI 0) X.1 X.2.1 dX7_open_47 (by decide) ?_
  exact hE _ _ _ _ _ (rfl) (fun ty hty => by cases hty; exact rfl) hW dX7_open_48

set_option maxHeartbeats 4000000 in
set_option maxRecDepth 100000 in
theorem mt_open (l : Launch) {G : va_G} {cI cZ : ClassId} {q : Nat → Nat} (hq : mJ q) (T : mT) (D : mD) (th : Int32) (I : mI T) {i r f n : Nat} (hi : i < 3) (hr : r < 4) (hf : f ≤ T 1 (T 2 r)) (h : n < 1001) : mMi l yX7_open wsX7_open ({ frames := 2, cells := 0, slots := 0, locals := 44 } : Room) G cI cZ q [.int (nI (i)), .int (nI (r)), .int (nI (f)), .int (nI (n))] (T) (D) (th) (nI (min (f + n) (T 1 (T 2 r)) - f)) (opT T i r f (min (f + n) (T 1 (T 2 r)))) (D) (nI 0) := by
  refine mstarti (cc := cX7_open) (maxL := 5) (ret := (some .int)) (by decide) rfl rfl ⟨_, rfl⟩ (Nat.le_of_ble_eq_true rfl) (fun p e s m args below meth c Q hE X hW ls hl => ?_)
  have hl : lv_has ls 5 [(0, .ref (q 0)), (1, .int (nI (i))), (2, .int (nI (r))), (3, .int (nI (f))), (4, .int (nI (n)))] := hl
  have hin : ∀ w ∈ wsX70, w ∈ wsX7_open := fun w h => List.mem_cons_of_mem _ (List.mem_append_left _ (List.mem_append_right _ (h)))
  have I2 := I.sr hr
  have I3 := I.sl I2
  refine lv_aload_n X.1 X.2.1 dX7_open_0 rfl (lv_at hl 0 rfl) ?_
  refine lv_aload_n X.1 X.2.1 dX7_open_1 rfl (lv_at hl 0 rfl) ?_
  refine lv_iload_n X.1 X.2.1 dX7_open_2 rfl (lv_at hl 1 rfl) ?_
  refine mcalli hq X hW (mt_isOther_ok l hq (T) (D) (th) (r := i) (by omega)) (cwV 1 X.2.2.2.2 gX7_open_X7_isOther rfl rfl rfl (by decide +kernel) ⟨Nat.le_of_ble_eq_true rfl, Nat.le_of_ble_eq_true rfl⟩) rfl rfl hl.1 (Nat.le_of_ble_eq_true rfl) dX7_open_3 ⟨Nat.zero_le _, Nat.zero_le _⟩ (fun H locs hW => ?_)
  refine n_if_eq_f (tgt := 19) X.1 X.2.1 dX7_open_6 (by decide) (by decide) (by omega) ?_
  refine lv_aload_n X.1 X.2.1 dX7_open_9 rfl (lv_at hl 0 rfl) ?_
  refine lv_iload_n X.1 X.2.1 dX7_open_10 rfl (lv_at hl 2 rfl) ?_
  refine lv_iload_n X.1 X.2.1 dX7_open_11 rfl (lv_at hl 3 rfl) ?_
  refine lv_iconst (v := nI 0) X.1 X.2.1 dX7_open_12 (by decide) ?_
  refine mcalli hq X hW (mt_isPart_ok l hq (T) (D) (th) I (r := r) (f := f) (n := 0) (by omega) (by omega)) (cwV 3 X.2.2.2.2 gX7_open_X7_isPart rfl rfl rfl (by decide +kernel) ⟨Nat.le_of_ble_eq_true rfl, Nat.le_of_ble_eq_true rfl⟩) rfl rfl hl.1 (Nat.le_of_ble_eq_true rfl) dX7_open_13 ⟨Nat.zero_le _, Nat.zero_le _⟩ (fun H locs hW => ?_)
  refine n_if_ne_t (tgt := 23) X.1 X.2.1 dX7_open_16 (by decide) (by decide) (by omega) ?_
  refine lv_iload X.1 X.2.1 dX7_open_23 (lv_at hl 4 rfl) ?_
  refine n_if_lt_f (tgt := 36) X.1 X.2.1 dX7_open_25 (by decide) (by omega) ?_
  refine lv_iload X.1 X.2.1 dX7_open_28 (lv_at hl 4 rfl) ?_
  refine lv_sipush (v := nI 1000) X.1 X.2.1 dX7_open_30 (by decide) ?_
  refine n_icmp_le_t (tgt := 40) X.1 X.2.1 dX7_open_33 (by decide) (by omega) (by omega) (by omega) ?_
  refine lv_iconst (v := nI 0) X.1 X.2.1 dX7_open_40 (by decide) ?_
  refine mcalli hq X hW (mt_isWrong_0 l hq (T) (D) (th)) (cwV 1 X.2.2.2.2 gX7_open_X7_isWrong rfl rfl rfl (by decide +kernel) ⟨Nat.le_of_ble_eq_true rfl, Nat.le_of_ble_eq_true rfl⟩) rfl rfl hl.1 (Nat.le_of_ble_eq_true rfl) dX7_open_41 ⟨Nat.zero_le _, Nat.zero_le _⟩ (fun H locs hW => ?_)
  refine n_if_eq_t (tgt := 49) X.1 X.2.1 dX7_open_44 (by decide) (by decide) (by omega) ?_
  refine lv_aload_n X.1 X.2.1 dX7_open_49 rfl (lv_at hl 0 rfl) ?_
  refine lv_iload_n X.1 X.2.1 dX7_open_50 rfl (lv_at hl 1 rfl) ?_
  refine lv_iload_n X.1 X.2.1 dX7_open_51 rfl (lv_at hl 2 rfl) ?_
  refine lv_iload_n X.1 X.2.1 dX7_open_52 rfl (lv_at hl 3 rfl) ?_
  refine lv_aload_n X.1 X.2.1 dX7_open_53 rfl (lv_at hl 0 rfl) ?_
  refine lv_iload_n X.1 X.2.1 dX7_open_54 rfl (lv_at hl 3 rfl) ?_
  refine lv_iload X.1 X.2.1 dX7_open_55 (lv_at hl 4 rfl) ?_
  refine n_iadd X.1 X.2.1 dX7_open_57 ?_
  refine lv_aload_n X.1 X.2.1 dX7_open_58 rfl (lv_at hl 0 rfl) ?_
  refine lv_iload_n X.1 X.2.1 dX7_open_59 rfl (lv_at hl 2 rfl) ?_
  refine mcalli hq X hW (mt_signLength l hq (T) (D) (nI 0) I (r := r) (by omega)) (cwV 1 X.2.2.2.2 gX7_open_X7_signLength rfl rfl rfl (by decide +kernel) ⟨Nat.le_of_ble_eq_true rfl, Nat.le_of_ble_eq_true rfl⟩) rfl rfl hl.1 (Nat.le_of_ble_eq_true rfl) dX7_open_60 ⟨Nat.zero_le _, Nat.zero_le _⟩ (fun H locs hW => ?_)
  refine mcalli hq X hW (mt_lesser l hq (T) (D) (nI 0) (a := f + n) (b := T 1 (T 2 r)) (by omega) (by omega)) (cwV 2 X.2.2.2.2 gX7_open_X7_lesser rfl rfl rfl (by decide +kernel) ⟨Nat.le_of_ble_eq_true rfl, Nat.le_of_ble_eq_true rfl⟩) rfl rfl hl.1 (Nat.le_of_ble_eq_true rfl) dX7_open_63 ⟨Nat.zero_le _, Nat.zero_le _⟩ (fun H locs hW => ?_)
  refine mcallv hq X hW (mt_opens l hq (T) (D) (nI 0) I (i := i) (r := r) (f := f) (e0 := min (f + n) (T 1 (T 2 r))) (by omega) (by omega)) (cwV 4 X.2.2.2.2 gX7_open_X7_opens rfl rfl rfl (by decide +kernel) ⟨Nat.le_of_ble_eq_true rfl, Nat.le_of_ble_eq_true rfl⟩) rfl rfl hl.1 (Nat.le_of_ble_eq_true rfl) dX7_open_66 ⟨Nat.zero_le _, Nat.zero_le _⟩ (fun H locs hW => ?_)
  refine lv_aload_n X.1 X.2.1 dX7_open_69 rfl (lv_at hl 0 rfl) ?_
  refine mget 10 (by decide) rfl X hin hW (X.2.2.2.2 (.fieldLink RX7 40 "StrandbookModel" "ends" "[I") (List.mem_cons_of_mem _ (List.mem_append_left _ (List.mem_append_left _ (List.mem_append_left _ (List.mem_of_getElem? (i := 0) rfl)))))) dX7_open_70 ?_
  refine lv_iload_n X.1 X.2.1 dX7_open_73 rfl (lv_at hl 1 rfl) ?_
  refine mld10 X hW (by omega) dX7_open_74 ?_
  refine n_cv (y := nI (min (f + n) (T 1 (T 2 r)))) (congrArg nI ((congrFun (u2_ne (by decide)) _).trans u2_eq)) ?_
  refine lv_iload_n X.1 X.2.1 dX7_open_75 rfl (lv_at hl 3 rfl) ?_
  refine n_isub X.1 X.2.1 (by omega) dX7_open_76 ?_
  exact hE _ _ _ _ _ (rfl) (fun ty hty => by cases hty; exact rfl) hW dX7_open_77

theorem mo_open (l : Launch) {G : va_G} {cI cZ : ClassId} {q : Nat → Nat} (hq : mJ q) (T : mT) (D : mD) (th : Int32) (I : mI T) (J : mJD D) (i row f n : Int32) : mO l yX7_open wsX7_open ({ frames := 2, cells := 0, slots := 0, locals := 44 } : Room) G cI cZ q [.int i, .int row, .int f, .int n] T D th (sp_open T D i row f n) := by
  by_cases h1 : oN i 3
  · rw [show sp_open T D i row f n = no T D 1 from if_pos (Or.inl h1)]; exact mt_open_1a l hq T D th h1
  · obtain ⟨i, hi, rfl⟩ := oN_in (by decide) h1
    by_cases h2 : oN row 4
    · rw [show sp_open T D (nI i) row f n = no T D 1 from if_pos (Or.inr (Or.inl h2))]; exact mt_open_1b l hq T D th hi h2
    · obtain ⟨r, hr, rfl⟩ := oN_in (by decide) h2
      have hl : rI T (nI r) = T 1 (T 2 r) := by simp only [rI, nI_clamp (show r < 2 ^ 31 by omega)]
      by_cases h3 : oP (T 1 (T 2 r)) f (nI 0)
      · rw [show sp_open T D (nI i) (nI r) f n = no T D 1 from if_pos (Or.inr (Or.inr (by rw [hl]; exact h3)))]
        exact mt_open_1c l hq T D th I hi hr h3
      · have I2 := I.sr hr
        have I3 := I.sl I2
        obtain ⟨f0, hf, rfl⟩ := nI_of (fun z => h3 (Or.inl z))
        have h4 : f0 ≤ T 1 (T 2 r) := Nat.not_lt.mp (fun z => h3 (Or.inr (Or.inr (by rw [nI_clamp hf, nI_clamp (by decide)]; exact z))))
        have hno : ¬ (oN (nI i) 3 ∨ oN (nI r) 4 ∨ oP (rI T (nI r)) (nI f0) (nI 0)) := by rw [hl]; exact fun z => z.elim h1 (fun z => z.elim h2 h3)
        by_cases h5 : oN n 1001
        · rw [show sp_open T D (nI i) (nI r) (nI f0) n = no T D 2 from (if_neg hno).trans (if_pos h5)]
          by_cases h6 : n < 0
          · exact mt_open_2a l hq T D th I hi hr h4 h6
          · obtain ⟨n, g1, g2, rfl⟩ := oN_ge h5 h6
            exact mt_open_2b l hq T D th I hi hr h4 g1 g2
        · obtain ⟨n, hn, rfl⟩ := oN_in (by decide) h5
          rw [show sp_open T D (nI i) (nI r) (nI f0) (nI n) = sk_open T D i r f0 n from (if_neg hno).trans ((if_neg h5).trans (by rw [nI_clamp (show i < 2 ^ 31 by omega), nI_clamp (show r < 2 ^ 31 by omega), nI_clamp hf, nI_clamp (show n < 2 ^ 31 by omega)]))]
          exact mt_open l hq T D th I hi hr h4 hn

set_option maxHeartbeats 4000000 in
set_option maxRecDepth 100000 in
theorem mt_openAll_1a (l : Launch) {G : va_G} {cI cZ : ClassId} {q : Nat → Nat} (hq : mJ q) (T : mT) (D : mD) (th : Int32) {i row : Int32} (h : oN i 3) : mMi l yX7_openAll wsX7_openAll ({ frames := 1, cells := 0, slots := 0, locals := 24 } : Room) G cI cZ q [.int (i), .int (row)] (T) (D) (th) (nI 0) (T) (D) (nI 1) := by
  refine mstarti (cc := cX7_openAll) (maxL := 3) (ret := (some .int)) (by decide) rfl rfl ⟨_, rfl⟩ (Nat.le_of_ble_eq_true rfl) (fun p e s m args below meth c Q hE X hW ls hl => ?_)
  have hl : lv_has ls 3 [(0, .ref (q 0)), (1, .int (i)), (2, .int (row))] := hl
  have hin : ∀ w ∈ wsX70, w ∈ wsX7_openAll := fun w h => List.mem_cons_of_mem _ (List.mem_append_left _ (List.mem_append_right _ (h)))
  refine lv_aload_n X.1 X.2.1 dX7_openAll_0 rfl (lv_at hl 0 rfl) ?_
  refine lv_aload_n X.1 X.2.1 dX7_openAll_1 rfl (lv_at hl 0 rfl) ?_
  refine lv_iload_n X.1 X.2.1 dX7_openAll_2 rfl (lv_at hl 1 rfl) ?_
  refine mcalli hq X hW (mt_isOther_bad l hq (T) (D) (th) (x := i) (h)) (cwV 1 X.2.2.2.2 gX7_openAll_X7_isOther rfl rfl rfl (by decide +kernel) ⟨Nat.le_of_ble_eq_true rfl, Nat.le_of_ble_eq_true rfl⟩) rfl rfl hl.1 (Nat.le_of_ble_eq_true rfl) dX7_openAll_3 ⟨Nat.zero_le _, Nat.zero_le _⟩ (fun H locs hW => ?_)
  refine n_if_eq_t (tgt := 21) X.1 X.2.1 dX7_openAll_6 (by decide) (by decide) (by omega) ?_
  refine lv_iconst (v := nI 1) X.1 X.2.1 dX7_openAll_21 (by decide) ?_
  refine mcalli hq X hW (mt_isWrong_s l hq (T) (D) (th) (n := 1) (by decide) (by decide)) (cwV 1 X.2.2.2.2 gX7_openAll_X7_isWrong rfl rfl rfl (by decide +kernel) ⟨Nat.le_of_ble_eq_true rfl, Nat.le_of_ble_eq_true rfl⟩) rfl rfl hl.1 (Nat.le_of_ble_eq_true rfl) dX7_openAll_22 ⟨Nat.zero_le _, Nat.zero_le _⟩ (fun H locs hW => ?_)
  refine n_if_eq_f (tgt := 30) X.1 X.2.1 dX7_openAll_25 (by decide) (by decide) (by omega) ?_
  refine lv_iconst (v := nI 0) X.1 X.2.1 dX7_openAll_28 (by decide) ?_
  exact hE _ _ _ _ _ (rfl) (fun ty hty => by cases hty; exact rfl) hW dX7_openAll_29

set_option maxHeartbeats 4000000 in
set_option maxRecDepth 100000 in
theorem mt_openAll_1b (l : Launch) {G : va_G} {cI cZ : ClassId} {q : Nat → Nat} (hq : mJ q) (T : mT) (D : mD) (th : Int32) {i : Nat} {row : Int32} (hi : i < 3) (h : oN row 4) : mMi l yX7_openAll wsX7_openAll ({ frames := 1, cells := 0, slots := 0, locals := 24 } : Room) G cI cZ q [.int (nI (i)), .int (row)] (T) (D) (th) (nI 0) (T) (D) (nI 1) := by
  refine mstarti (cc := cX7_openAll) (maxL := 3) (ret := (some .int)) (by decide) rfl rfl ⟨_, rfl⟩ (Nat.le_of_ble_eq_true rfl) (fun p e s m args below meth c Q hE X hW ls hl => ?_)
  have hl : lv_has ls 3 [(0, .ref (q 0)), (1, .int (nI (i))), (2, .int (row))] := hl
  have hin : ∀ w ∈ wsX70, w ∈ wsX7_openAll := fun w h => List.mem_cons_of_mem _ (List.mem_append_left _ (List.mem_append_right _ (h)))
  refine lv_aload_n X.1 X.2.1 dX7_openAll_0 rfl (lv_at hl 0 rfl) ?_
  refine lv_aload_n X.1 X.2.1 dX7_openAll_1 rfl (lv_at hl 0 rfl) ?_
  refine lv_iload_n X.1 X.2.1 dX7_openAll_2 rfl (lv_at hl 1 rfl) ?_
  refine mcalli hq X hW (mt_isOther_ok l hq (T) (D) (th) (r := i) (by omega)) (cwV 1 X.2.2.2.2 gX7_openAll_X7_isOther rfl rfl rfl (by decide +kernel) ⟨Nat.le_of_ble_eq_true rfl, Nat.le_of_ble_eq_true rfl⟩) rfl rfl hl.1 (Nat.le_of_ble_eq_true rfl) dX7_openAll_3 ⟨Nat.zero_le _, Nat.zero_le _⟩ (fun H locs hW => ?_)
  refine n_if_eq_f (tgt := 21) X.1 X.2.1 dX7_openAll_6 (by decide) (by decide) (by omega) ?_
  refine lv_aload_n X.1 X.2.1 dX7_openAll_9 rfl (lv_at hl 0 rfl) ?_
  refine lv_iload_n X.1 X.2.1 dX7_openAll_10 rfl (lv_at hl 2 rfl) ?_
  refine mcalli hq X hW (mt_isRow_bad l hq (T) (D) (th) (x := row) (h)) (cwV 1 X.2.2.2.2 gX7_openAll_X7_isRow rfl rfl rfl (by decide +kernel) ⟨Nat.le_of_ble_eq_true rfl, Nat.le_of_ble_eq_true rfl⟩) rfl rfl hl.1 (Nat.le_of_ble_eq_true rfl) dX7_openAll_11 ⟨Nat.zero_le _, Nat.zero_le _⟩ (fun H locs hW => ?_)
  refine n_if_eq_t (tgt := 21) X.1 X.2.1 dX7_openAll_14 (by decide) (by decide) (by omega) ?_
  refine lv_iconst (v := nI 1) X.1 X.2.1 dX7_openAll_21 (by decide) ?_
  refine mcalli hq X hW (mt_isWrong_s l hq (T) (D) (th) (n := 1) (by decide) (by decide)) (cwV 1 X.2.2.2.2 gX7_openAll_X7_isWrong rfl rfl rfl (by decide +kernel) ⟨Nat.le_of_ble_eq_true rfl, Nat.le_of_ble_eq_true rfl⟩) rfl rfl hl.1 (Nat.le_of_ble_eq_true rfl) dX7_openAll_22 ⟨Nat.zero_le _, Nat.zero_le _⟩ (fun H locs hW => ?_)
  refine n_if_eq_f (tgt := 30) X.1 X.2.1 dX7_openAll_25 (by decide) (by decide) (by omega) ?_
  refine lv_iconst (v := nI 0) X.1 X.2.1 dX7_openAll_28 (by decide) ?_
  exact hE _ _ _ _ _ (rfl) (fun ty hty => by cases hty; exact rfl) hW dX7_openAll_29

set_option maxHeartbeats 4000000 in
set_option maxRecDepth 100000 in
theorem mt_openAll (l : Launch) {G : va_G} {cI cZ : ClassId} {q : Nat → Nat} (hq : mJ q) (T : mT) (D : mD) (th : Int32) (I : mI T) {i r : Nat} (hi : i < 3) (hr : r < 4) : mMi l yX7_openAll wsX7_openAll ({ frames := 1, cells := 0, slots := 0, locals := 24 } : Room) G cI cZ q [.int (nI (i)), .int (nI (r))] (T) (D) (th) (nI (T 1 (T 2 r))) (opT T i r 0 (T 1 (T 2 r))) (D) (nI 0) := by
  refine mstarti (cc := cX7_openAll) (maxL := 3) (ret := (some .int)) (by decide) rfl rfl ⟨_, rfl⟩ (Nat.le_of_ble_eq_true rfl) (fun p e s m args below meth c Q hE X hW ls hl => ?_)
  have hl : lv_has ls 3 [(0, .ref (q 0)), (1, .int (nI (i))), (2, .int (nI (r)))] := hl
  have hin : ∀ w ∈ wsX70, w ∈ wsX7_openAll := fun w h => List.mem_cons_of_mem _ (List.mem_append_left _ (List.mem_append_right _ (h)))
  have I2 := I.sr hr
  have I3 := I.sl I2
  refine lv_aload_n X.1 X.2.1 dX7_openAll_0 rfl (lv_at hl 0 rfl) ?_
  refine lv_aload_n X.1 X.2.1 dX7_openAll_1 rfl (lv_at hl 0 rfl) ?_
  refine lv_iload_n X.1 X.2.1 dX7_openAll_2 rfl (lv_at hl 1 rfl) ?_
  refine mcalli hq X hW (mt_isOther_ok l hq (T) (D) (th) (r := i) (by omega)) (cwV 1 X.2.2.2.2 gX7_openAll_X7_isOther rfl rfl rfl (by decide +kernel) ⟨Nat.le_of_ble_eq_true rfl, Nat.le_of_ble_eq_true rfl⟩) rfl rfl hl.1 (Nat.le_of_ble_eq_true rfl) dX7_openAll_3 ⟨Nat.zero_le _, Nat.zero_le _⟩ (fun H locs hW => ?_)
  refine n_if_eq_f (tgt := 21) X.1 X.2.1 dX7_openAll_6 (by decide) (by decide) (by omega) ?_
  refine lv_aload_n X.1 X.2.1 dX7_openAll_9 rfl (lv_at hl 0 rfl) ?_
  refine lv_iload_n X.1 X.2.1 dX7_openAll_10 rfl (lv_at hl 2 rfl) ?_
  refine mcalli hq X hW (mt_isRow_ok l hq (T) (D) (th) (r := r) (by omega)) (cwV 1 X.2.2.2.2 gX7_openAll_X7_isRow rfl rfl rfl (by decide +kernel) ⟨Nat.le_of_ble_eq_true rfl, Nat.le_of_ble_eq_true rfl⟩) rfl rfl hl.1 (Nat.le_of_ble_eq_true rfl) dX7_openAll_11 ⟨Nat.zero_le _, Nat.zero_le _⟩ (fun H locs hW => ?_)
  refine n_if_eq_f (tgt := 21) X.1 X.2.1 dX7_openAll_14 (by decide) (by decide) (by omega) ?_
  refine lv_iconst (v := nI 0) X.1 X.2.1 dX7_openAll_17 (by decide) ?_
  refine lv_goto (tgt := 22) X.1 X.2.1 dX7_openAll_18 (by decide) ?_
  refine mcalli hq X hW (mt_isWrong_0 l hq (T) (D) (th)) (cwV 1 X.2.2.2.2 gX7_openAll_X7_isWrong rfl rfl rfl (by decide +kernel) ⟨Nat.le_of_ble_eq_true rfl, Nat.le_of_ble_eq_true rfl⟩) rfl rfl hl.1 (Nat.le_of_ble_eq_true rfl) dX7_openAll_22 ⟨Nat.zero_le _, Nat.zero_le _⟩ (fun H locs hW => ?_)
  refine n_if_eq_t (tgt := 30) X.1 X.2.1 dX7_openAll_25 (by decide) (by decide) (by omega) ?_
  refine lv_aload_n X.1 X.2.1 dX7_openAll_30 rfl (lv_at hl 0 rfl) ?_
  refine lv_iload_n X.1 X.2.1 dX7_openAll_31 rfl (lv_at hl 1 rfl) ?_
  refine lv_iload_n X.1 X.2.1 dX7_openAll_32 rfl (lv_at hl 2 rfl) ?_
  refine lv_iconst (v := nI 0) X.1 X.2.1 dX7_openAll_33 (by decide) ?_
  refine lv_aload_n X.1 X.2.1 dX7_openAll_34 rfl (lv_at hl 0 rfl) ?_
  refine lv_iload_n X.1 X.2.1 dX7_openAll_35 rfl (lv_at hl 2 rfl) ?_
  refine mcalli hq X hW (mt_signLength l hq (T) (D) (nI 0) I (r := r) (by omega)) (cwV 1 X.2.2.2.2 gX7_openAll_X7_signLength rfl rfl rfl (by decide +kernel) ⟨Nat.le_of_ble_eq_true rfl, Nat.le_of_ble_eq_true rfl⟩) rfl rfl hl.1 (Nat.le_of_ble_eq_true rfl) dX7_openAll_36 ⟨Nat.zero_le _, Nat.zero_le _⟩ (fun H locs hW => ?_)
  refine mcallv hq X hW (mt_opens l hq (T) (D) (nI 0) I (i := i) (r := r) (f := 0) (e0 := T 1 (T 2 r)) (by omega) (by omega)) (cwV 4 X.2.2.2.2 gX7_openAll_X7_opens rfl rfl rfl (by decide +kernel) ⟨Nat.le_of_ble_eq_true rfl, Nat.le_of_ble_eq_true rfl⟩) rfl rfl hl.1 (Nat.le_of_ble_eq_true rfl) dX7_openAll_39 ⟨Nat.zero_le _, Nat.zero_le _⟩ (fun H locs hW => ?_)
  refine lv_aload_n X.1 X.2.1 dX7_openAll_42 rfl (lv_at hl 0 rfl) ?_
  refine mget 10 (by decide) rfl X hin hW (X.2.2.2.2 (.fieldLink RX7 40 "StrandbookModel" "ends" "[I") (List.mem_cons_of_mem _ (List.mem_append_left _ (List.mem_append_left _ (List.mem_append_left _ (List.mem_of_getElem? (i := 0) rfl)))))) dX7_openAll_43 ?_
  refine lv_iload_n X.1 X.2.1 dX7_openAll_46 rfl (lv_at hl 1 rfl) ?_
  refine mld10 X hW (by omega) dX7_openAll_47 ?_
  refine n_cv (y := nI (T 1 (T 2 r))) (congrArg nI ((congrFun (u2_ne (by decide)) _).trans u2_eq)) ?_
  exact hE _ _ _ _ _ (rfl) (fun ty hty => by cases hty; exact rfl) hW dX7_openAll_48

theorem mo_openAll (l : Launch) {G : va_G} {cI cZ : ClassId} {q : Nat → Nat} (hq : mJ q) (T : mT) (D : mD) (th : Int32) (I : mI T) (J : mJD D) (i row : Int32) : mO l yX7_openAll wsX7_openAll ({ frames := 1, cells := 0, slots := 0, locals := 24 } : Room) G cI cZ q [.int i, .int row] T D th (sp_openAll T D i row) := by
  by_cases h1 : oN i 3
  · rw [show sp_openAll T D i row = no T D 1 from if_pos (Or.inl h1)]; exact mt_openAll_1a l hq T D th h1
  · obtain ⟨i, hi, rfl⟩ := oN_in (by decide) h1
    by_cases h2 : oN row 4
    · rw [show sp_openAll T D (nI i) row = no T D 1 from if_pos (Or.inr h2)]; exact mt_openAll_1b l hq T D th hi h2
    · obtain ⟨r, hr, rfl⟩ := oN_in (by decide) h2
      rw [show sp_openAll T D (nI i) (nI r) = (0, nI (T 1 (T 2 r)), opT T i r 0 (T 1 (T 2 r)), D) from (if_neg (fun z => z.elim h1 h2)).trans (by simp only [rI, nI_clamp (show i < 2 ^ 31 by omega), nI_clamp (show r < 2 ^ 31 by omega)])]
      exact mt_openAll l hq T D th I hi hr

set_option maxHeartbeats 4000000 in
set_option maxRecDepth 100000 in
theorem mt_shut_1 (l : Launch) {G : va_G} {cI cZ : ClassId} {q : Nat → Nat} (hq : mJ q) (T : mT) (D : mD) (th : Int32) {i : Int32} (h : oN i 3) : mMi l yX7_shut wsX7_shut ({ frames := 1, cells := 0, slots := 0, locals := 21 } : Room) G cI cZ q [.int (i)] (T) (D) (th) (nI 0) (T) (D) (nI 1) := by
  refine mstarti (cc := cX7_shut) (maxL := 3) (ret := (some .int)) (by decide) rfl rfl ⟨_, rfl⟩ (Nat.le_of_ble_eq_true rfl) (fun p e s m args below meth c Q hE X hW ls hl => ?_)
  have hl : lv_has ls 3 [(0, .ref (q 0)), (1, .int (i))] := hl
  have hin : ∀ w ∈ wsX70, w ∈ wsX7_shut := fun w h => List.mem_cons_of_mem _ (List.mem_append_left _ (List.mem_append_right _ (h)))
  refine lv_aload_n X.1 X.2.1 dX7_shut_0 rfl (lv_at hl 0 rfl) ?_
  refine lv_aload_n X.1 X.2.1 dX7_shut_1 rfl (lv_at hl 0 rfl) ?_
  refine lv_iload_n X.1 X.2.1 dX7_shut_2 rfl (lv_at hl 1 rfl) ?_
  refine mcalli hq X hW (mt_isOther_bad l hq (T) (D) (th) (x := i) (h)) (cwV 1 X.2.2.2.2 gX7_shut_X7_isOther rfl rfl rfl (by decide +kernel) ⟨Nat.le_of_ble_eq_true rfl, Nat.le_of_ble_eq_true rfl⟩) rfl rfl hl.1 (Nat.le_of_ble_eq_true rfl) dX7_shut_3 ⟨Nat.zero_le _, Nat.zero_le _⟩ (fun H locs hW => ?_)
  refine n_if_ne_f (tgt := 13) X.1 X.2.1 dX7_shut_6 (by decide) (by decide) (by omega) ?_
  refine lv_iconst (v := nI 1) X.1 X.2.1 dX7_shut_9 (by decide) ?_
  refine lv_goto (tgt := 27) X.1 X.2.1 dX7_shut_10 (by decide) ?_
  refine mcalli hq X hW (mt_isWrong_s l hq (T) (D) (th) (n := 1) (by decide) (by decide)) (cwV 1 X.2.2.2.2 gX7_shut_X7_isWrong rfl rfl rfl (by decide +kernel) ⟨Nat.le_of_ble_eq_true rfl, Nat.le_of_ble_eq_true rfl⟩) rfl rfl hl.1 (Nat.le_of_ble_eq_true rfl) dX7_shut_27 ⟨Nat.zero_le _, Nat.zero_le _⟩ (fun H locs hW => ?_)
  refine n_if_eq_f (tgt := 35) X.1 X.2.1 dX7_shut_30 (by decide) (by decide) (by omega) ?_
  refine lv_iconst (v := nI 0) X.1 X.2.1 dX7_shut_33 (by decide) ?_
  exact hE _ _ _ _ _ (rfl) (fun ty hty => by cases hty; exact rfl) hW dX7_shut_34

set_option maxHeartbeats 4000000 in
set_option maxRecDepth 100000 in
theorem mt_shut_2 (l : Launch) {G : va_G} {cI cZ : ClassId} {q : Nat → Nat} (hq : mJ q) (T : mT) (D : mD) (th : Int32) {i : Nat} (hi : i < 3) (h : T 8 i = 0) : mMi l yX7_shut wsX7_shut ({ frames := 1, cells := 0, slots := 0, locals := 21 } : Room) G cI cZ q [.int (nI (i))] (T) (D) (th) (nI 0) (T) (D) (nI 2) := by
  refine mstarti (cc := cX7_shut) (maxL := 3) (ret := (some .int)) (by decide) rfl rfl ⟨_, rfl⟩ (Nat.le_of_ble_eq_true rfl) (fun p e s m args below meth c Q hE X hW ls hl => ?_)
  have hl : lv_has ls 3 [(0, .ref (q 0)), (1, .int (nI (i)))] := hl
  have hin : ∀ w ∈ wsX70, w ∈ wsX7_shut := fun w h => List.mem_cons_of_mem _ (List.mem_append_left _ (List.mem_append_right _ (h)))
  refine lv_aload_n X.1 X.2.1 dX7_shut_0 rfl (lv_at hl 0 rfl) ?_
  refine lv_aload_n X.1 X.2.1 dX7_shut_1 rfl (lv_at hl 0 rfl) ?_
  refine lv_iload_n X.1 X.2.1 dX7_shut_2 rfl (lv_at hl 1 rfl) ?_
  refine mcalli hq X hW (mt_isOther_ok l hq (T) (D) (th) (r := i) (by omega)) (cwV 1 X.2.2.2.2 gX7_shut_X7_isOther rfl rfl rfl (by decide +kernel) ⟨Nat.le_of_ble_eq_true rfl, Nat.le_of_ble_eq_true rfl⟩) rfl rfl hl.1 (Nat.le_of_ble_eq_true rfl) dX7_shut_3 ⟨Nat.zero_le _, Nat.zero_le _⟩ (fun H locs hW => ?_)
  refine n_if_ne_t (tgt := 13) X.1 X.2.1 dX7_shut_6 (by decide) (by decide) (by omega) ?_
  refine lv_aload_n X.1 X.2.1 dX7_shut_13 rfl (lv_at hl 0 rfl) ?_
  refine mget 8 (by decide) rfl X hin hW (X.2.2.2.2 (.fieldLink RX7 34 "StrandbookModel" "reads" "[I") (List.mem_cons_of_mem _ (List.mem_append_left _ (List.mem_append_left _ (List.mem_of_getElem? (i := 0) rfl))))) dX7_shut_14 ?_
  refine lv_iload_n X.1 X.2.1 dX7_shut_17 rfl (lv_at hl 1 rfl) ?_
  refine mld8_0 X hW (by omega) (h) dX7_shut_18 ?_
  refine x_if_ge_f (tgt := 26) X.1 X.2.1 dX7_shut_19 (by decide) (by decide) ?_
  refine lv_iconst (v := nI 2) X.1 X.2.1 dX7_shut_22 (by decide) ?_
  refine lv_goto (tgt := 27) X.1 X.2.1 dX7_shut_23 (by decide) ?_
  refine mcalli hq X hW (mt_isWrong_s l hq (T) (D) (th) (n := 2) (by decide) (by decide)) (cwV 1 X.2.2.2.2 gX7_shut_X7_isWrong rfl rfl rfl (by decide +kernel) ⟨Nat.le_of_ble_eq_true rfl, Nat.le_of_ble_eq_true rfl⟩) rfl rfl hl.1 (Nat.le_of_ble_eq_true rfl) dX7_shut_27 ⟨Nat.zero_le _, Nat.zero_le _⟩ (fun H locs hW => ?_)
  refine n_if_eq_f (tgt := 35) X.1 X.2.1 dX7_shut_30 (by decide) (by decide) (by omega) ?_
  refine lv_iconst (v := nI 0) X.1 X.2.1 dX7_shut_33 (by decide) ?_
  exact hE _ _ _ _ _ (rfl) (fun ty hty => by cases hty; exact rfl) hW dX7_shut_34

set_option maxHeartbeats 4000000 in
set_option maxRecDepth 100000 in
theorem mt_shut_a (l : Launch) {G : va_G} {cI cZ : ClassId} {q : Nat → Nat} (hq : mJ q) (T : mT) (D : mD) (th : Int32) (I : mI T) {i : Nat} (hi : i < 3) (h : T 8 i ≠ 0) (h2 : T 12 i ≠ 0) : mMi l yX7_shut wsX7_shut ({ frames := 1, cells := 0, slots := 0, locals := 21 } : Room) G cI cZ q [.int (nI (i))] (T) (D) (th) (nI 0) (u2 T 12 i 1) (D) (nI 0) := by
  refine mstarti (cc := cX7_shut) (maxL := 3) (ret := (some .int)) (by decide) rfl rfl ⟨_, rfl⟩ (Nat.le_of_ble_eq_true rfl) (fun p e s m args below meth c Q hE X hW ls hl => ?_)
  have hl : lv_has ls 3 [(0, .ref (q 0)), (1, .int (nI (i)))] := hl
  have hin : ∀ w ∈ wsX70, w ∈ wsX7_shut := fun w h => List.mem_cons_of_mem _ (List.mem_append_left _ (List.mem_append_right _ (h)))
  have I1 := I.rd hi
  refine lv_aload_n X.1 X.2.1 dX7_shut_0 rfl (lv_at hl 0 rfl) ?_
  refine lv_aload_n X.1 X.2.1 dX7_shut_1 rfl (lv_at hl 0 rfl) ?_
  refine lv_iload_n X.1 X.2.1 dX7_shut_2 rfl (lv_at hl 1 rfl) ?_
  refine mcalli hq X hW (mt_isOther_ok l hq (T) (D) (th) (r := i) (by omega)) (cwV 1 X.2.2.2.2 gX7_shut_X7_isOther rfl rfl rfl (by decide +kernel) ⟨Nat.le_of_ble_eq_true rfl, Nat.le_of_ble_eq_true rfl⟩) rfl rfl hl.1 (Nat.le_of_ble_eq_true rfl) dX7_shut_3 ⟨Nat.zero_le _, Nat.zero_le _⟩ (fun H locs hW => ?_)
  refine n_if_ne_t (tgt := 13) X.1 X.2.1 dX7_shut_6 (by decide) (by decide) (by omega) ?_
  refine lv_aload_n X.1 X.2.1 dX7_shut_13 rfl (lv_at hl 0 rfl) ?_
  refine mget 8 (by decide) rfl X hin hW (X.2.2.2.2 (.fieldLink RX7 34 "StrandbookModel" "reads" "[I") (List.mem_cons_of_mem _ (List.mem_append_left _ (List.mem_append_left _ (List.mem_of_getElem? (i := 0) rfl))))) dX7_shut_14 ?_
  refine lv_iload_n X.1 X.2.1 dX7_shut_17 rfl (lv_at hl 1 rfl) ?_
  refine mld8_s X hW (by omega) (z := T 8 i - 1) (by omega) dX7_shut_18 ?_
  refine n_if_ge_t (tgt := 26) X.1 X.2.1 dX7_shut_19 (by decide) (by omega) ?_
  refine lv_iconst (v := nI 0) X.1 X.2.1 dX7_shut_26 (by decide) ?_
  refine mcalli hq X hW (mt_isWrong_0 l hq (T) (D) (th)) (cwV 1 X.2.2.2.2 gX7_shut_X7_isWrong rfl rfl rfl (by decide +kernel) ⟨Nat.le_of_ble_eq_true rfl, Nat.le_of_ble_eq_true rfl⟩) rfl rfl hl.1 (Nat.le_of_ble_eq_true rfl) dX7_shut_27 ⟨Nat.zero_le _, Nat.zero_le _⟩ (fun H locs hW => ?_)
  refine n_if_eq_t (tgt := 35) X.1 X.2.1 dX7_shut_30 (by decide) (by decide) (by omega) ?_
  refine lv_aload_n X.1 X.2.1 dX7_shut_35 rfl (lv_at hl 0 rfl) ?_
  refine mget 12 (by decide) rfl X hin hW (X.2.2.2.2 (.fieldLink RX7 46 "StrandbookModel" "areShut" "[Z") (List.mem_cons_of_mem _ (List.mem_append_left _ (List.mem_append_left _ (List.mem_of_getElem? (i := 1) rfl))))) dX7_shut_36 ?_
  refine lv_iload_n X.1 X.2.1 dX7_shut_39 rfl (lv_at hl 1 rfl) ?_
  refine mld12 X hW (by omega) dX7_shut_40 ?_
  refine n_if_eq_f (tgt := 48) X.1 X.2.1 dX7_shut_41 (by decide) (h2) (by omega) ?_
  refine lv_iconst (v := nI 0) X.1 X.2.1 dX7_shut_44 (by decide) ?_
  refine lv_goto (tgt := 61) X.1 X.2.1 dX7_shut_45 (by decide) ?_
  refine lv_istore_n (lv' := [(2, .int (nI (0))), (0, .ref (q 0)), (1, .int (nI (i)))]) X.1 X.2.1 dX7_shut_61 rfl hl (by decide) rfl (fun ls hl => ?_)
  refine lv_aload_n X.1 X.2.1 dX7_shut_62 rfl (lv_at hl 1 rfl) ?_
  refine mget 12 (by decide) rfl X hin hW (X.2.2.2.2 (.fieldLink RX7 46 "StrandbookModel" "areShut" "[Z") (List.mem_cons_of_mem _ (List.mem_append_left _ (List.mem_append_left _ (List.mem_of_getElem? (i := 1) rfl))))) dX7_shut_63 ?_
  refine lv_iload_n X.1 X.2.1 dX7_shut_66 rfl (lv_at hl 2 rfl) ?_
  refine lv_iconst (v := nI 1) X.1 X.2.1 dX7_shut_67 (by decide) ?_
  refine mst12 hq X hW (by omega) (by omega) dX7_shut_68 (fun H locs hW => ?_)
  refine lv_iload_n X.1 X.2.1 dX7_shut_69 rfl (lv_at hl 0 rfl) ?_
  exact hE _ _ _ _ _ (rfl) (fun ty hty => by cases hty; exact rfl) hW dX7_shut_70

set_option maxHeartbeats 4000000 in
set_option maxRecDepth 100000 in
theorem mt_shut_b (l : Launch) {G : va_G} {cI cZ : ClassId} {q : Nat → Nat} (hq : mJ q) (T : mT) (D : mD) (th : Int32) (I : mI T) {i : Nat} (hi : i < 3) (h : T 8 i ≠ 0) (h2 : T 12 i = 0) : mMi l yX7_shut wsX7_shut ({ frames := 1, cells := 0, slots := 0, locals := 21 } : Room) G cI cZ q [.int (nI (i))] (T) (D) (th) (nI (T 10 i - T 9 i)) (u2 T 12 i 1) (D) (nI 0) := by
  refine mstarti (cc := cX7_shut) (maxL := 3) (ret := (some .int)) (by decide) rfl rfl ⟨_, rfl⟩ (Nat.le_of_ble_eq_true rfl) (fun p e s m args below meth c Q hE X hW ls hl => ?_)
  have hl : lv_has ls 3 [(0, .ref (q 0)), (1, .int (nI (i)))] := hl
  have hin : ∀ w ∈ wsX70, w ∈ wsX7_shut := fun w h => List.mem_cons_of_mem _ (List.mem_append_left _ (List.mem_append_right _ (h)))
  have I1 := I.rd hi
  refine lv_aload_n X.1 X.2.1 dX7_shut_0 rfl (lv_at hl 0 rfl) ?_
  refine lv_aload_n X.1 X.2.1 dX7_shut_1 rfl (lv_at hl 0 rfl) ?_
  refine lv_iload_n X.1 X.2.1 dX7_shut_2 rfl (lv_at hl 1 rfl) ?_
  refine mcalli hq X hW (mt_isOther_ok l hq (T) (D) (th) (r := i) (by omega)) (cwV 1 X.2.2.2.2 gX7_shut_X7_isOther rfl rfl rfl (by decide +kernel) ⟨Nat.le_of_ble_eq_true rfl, Nat.le_of_ble_eq_true rfl⟩) rfl rfl hl.1 (Nat.le_of_ble_eq_true rfl) dX7_shut_3 ⟨Nat.zero_le _, Nat.zero_le _⟩ (fun H locs hW => ?_)
  refine n_if_ne_t (tgt := 13) X.1 X.2.1 dX7_shut_6 (by decide) (by decide) (by omega) ?_
  refine lv_aload_n X.1 X.2.1 dX7_shut_13 rfl (lv_at hl 0 rfl) ?_
  refine mget 8 (by decide) rfl X hin hW (X.2.2.2.2 (.fieldLink RX7 34 "StrandbookModel" "reads" "[I") (List.mem_cons_of_mem _ (List.mem_append_left _ (List.mem_append_left _ (List.mem_of_getElem? (i := 0) rfl))))) dX7_shut_14 ?_
  refine lv_iload_n X.1 X.2.1 dX7_shut_17 rfl (lv_at hl 1 rfl) ?_
  refine mld8_s X hW (by omega) (z := T 8 i - 1) (by omega) dX7_shut_18 ?_
  refine n_if_ge_t (tgt := 26) X.1 X.2.1 dX7_shut_19 (by decide) (by omega) ?_
  refine lv_iconst (v := nI 0) X.1 X.2.1 dX7_shut_26 (by decide) ?_
  refine mcalli hq X hW (mt_isWrong_0 l hq (T) (D) (th)) (cwV 1 X.2.2.2.2 gX7_shut_X7_isWrong rfl rfl rfl (by decide +kernel) ⟨Nat.le_of_ble_eq_true rfl, Nat.le_of_ble_eq_true rfl⟩) rfl rfl hl.1 (Nat.le_of_ble_eq_true rfl) dX7_shut_27 ⟨Nat.zero_le _, Nat.zero_le _⟩ (fun H locs hW => ?_)
  refine n_if_eq_t (tgt := 35) X.1 X.2.1 dX7_shut_30 (by decide) (by decide) (by omega) ?_
  refine lv_aload_n X.1 X.2.1 dX7_shut_35 rfl (lv_at hl 0 rfl) ?_
  refine mget 12 (by decide) rfl X hin hW (X.2.2.2.2 (.fieldLink RX7 46 "StrandbookModel" "areShut" "[Z") (List.mem_cons_of_mem _ (List.mem_append_left _ (List.mem_append_left _ (List.mem_of_getElem? (i := 1) rfl))))) dX7_shut_36 ?_
  refine lv_iload_n X.1 X.2.1 dX7_shut_39 rfl (lv_at hl 1 rfl) ?_
  refine mld12 X hW (by omega) dX7_shut_40 ?_
  refine n_if_eq_t (tgt := 48) X.1 X.2.1 dX7_shut_41 (by decide) (h2) (by omega) ?_
  refine lv_aload_n X.1 X.2.1 dX7_shut_48 rfl (lv_at hl 0 rfl) ?_
  refine mget 10 (by decide) rfl X hin hW (X.2.2.2.2 (.fieldLink RX7 40 "StrandbookModel" "ends" "[I") (List.mem_cons_of_mem _ (List.mem_append_left _ (List.mem_append_left _ (List.mem_of_getElem? (i := 2) rfl))))) dX7_shut_49 ?_
  refine lv_iload_n X.1 X.2.1 dX7_shut_52 rfl (lv_at hl 1 rfl) ?_
  refine mld10 X hW (by omega) dX7_shut_53 ?_
  refine lv_aload_n X.1 X.2.1 dX7_shut_54 rfl (lv_at hl 0 rfl) ?_
  refine mget 9 (by decide) rfl X hin hW (X.2.2.2.2 (.fieldLink RX7 37 "StrandbookModel" "places" "[I") (List.mem_cons_of_mem _ (List.mem_append_left _ (List.mem_append_left _ (List.mem_of_getElem? (i := 3) rfl))))) dX7_shut_55 ?_
  refine lv_iload_n X.1 X.2.1 dX7_shut_58 rfl (lv_at hl 1 rfl) ?_
  refine mld9 X hW (by omega) dX7_shut_59 ?_
  refine n_isub X.1 X.2.1 (by omega) dX7_shut_60 ?_
  refine lv_istore_n (lv' := [(2, .int (nI ((T 10 (i)) - (T 9 (i))))), (0, .ref (q 0)), (1, .int (nI (i)))]) X.1 X.2.1 dX7_shut_61 rfl hl (by decide) rfl (fun ls hl => ?_)
  refine lv_aload_n X.1 X.2.1 dX7_shut_62 rfl (lv_at hl 1 rfl) ?_
  refine mget 12 (by decide) rfl X hin hW (X.2.2.2.2 (.fieldLink RX7 46 "StrandbookModel" "areShut" "[Z") (List.mem_cons_of_mem _ (List.mem_append_left _ (List.mem_append_left _ (List.mem_of_getElem? (i := 1) rfl))))) dX7_shut_63 ?_
  refine lv_iload_n X.1 X.2.1 dX7_shut_66 rfl (lv_at hl 2 rfl) ?_
  refine lv_iconst (v := nI 1) X.1 X.2.1 dX7_shut_67 (by decide) ?_
  refine mst12 hq X hW (by omega) (by omega) dX7_shut_68 (fun H locs hW => ?_)
  refine lv_iload_n X.1 X.2.1 dX7_shut_69 rfl (lv_at hl 0 rfl) ?_
  exact hE _ _ _ _ _ (rfl) (fun ty hty => by cases hty; exact rfl) hW dX7_shut_70

theorem mo_shut (l : Launch) {G : va_G} {cI cZ : ClassId} {q : Nat → Nat} (hq : mJ q) (T : mT) (D : mD) (th : Int32) (I : mI T) (J : mJD D) (i : Int32) : mO l yX7_shut wsX7_shut ({ frames := 1, cells := 0, slots := 0, locals := 21 } : Room) G cI cZ q [.int i] T D th (sp_shut T D i) := by
  by_cases h1 : oN i 3
  · rw [show sp_shut T D i = no T D 1 from if_pos h1]; exact mt_shut_1 l hq T D th h1
  · obtain ⟨i, hi, rfl⟩ := oN_in (by decide) h1
    have hc : (nI i).toNatClampNeg = i := nI_clamp (by omega)
    by_cases h2 : T 8 i = 0
    · rw [show sp_shut T D (nI i) = no T D 2 from (if_neg h1).trans (if_pos (by rw [hc]; exact h2))]; exact mt_shut_2 l hq T D th hi h2
    · by_cases h3 : T 12 i ≠ 0
      · rw [show sp_shut T D (nI i) = (0, nI 0, u2 T 12 i 1, D) from (if_neg h1).trans ((if_neg (by rw [hc]; exact h2)).trans (by rw [hc, if_pos h3]))]; exact mt_shut_a l hq T D th I hi h2 h3
      · rw [show sp_shut T D (nI i) = (0, nI (T 10 i - T 9 i), u2 T 12 i 1, D) from (if_neg h1).trans ((if_neg (by rw [hc]; exact h2)).trans (by rw [hc, if_neg h3]))]; exact mt_shut_b l hq T D th I hi h2 (Decidable.not_not.mp h3)

set_option maxHeartbeats 4000000 in
set_option maxRecDepth 100000 in
theorem mt_read_1 (l : Launch) {G : va_G} {cI cZ : ClassId} {q : Nat → Nat} (hq : mJ q) (T : mT) (D : mD) (th : Int32) {i : Int32} (h : oN i 3) : mMi l yX7_read wsX7_read ({ frames := 1, cells := 0, slots := 0, locals := 21 } : Room) G cI cZ q [.int (i)] (T) (D) (th) (nI 0) (T) (D) (nI 1) := by
  refine mstarti (cc := cX7_read) (maxL := 2) (ret := (some .int)) (by decide) rfl rfl ⟨_, rfl⟩ (Nat.le_of_ble_eq_true rfl) (fun p e s m args below meth c Q hE X hW ls hl => ?_)
  have hl : lv_has ls 2 [(0, .ref (q 0)), (1, .int (i))] := hl
  have hin : ∀ w ∈ wsX70, w ∈ wsX7_read := fun w h => List.mem_cons_of_mem _ (List.mem_append_left _ (List.mem_append_right _ (h)))
  refine lv_aload_n X.1 X.2.1 dX7_read_0 rfl (lv_at hl 0 rfl) ?_
  refine lv_aload_n X.1 X.2.1 dX7_read_1 rfl (lv_at hl 0 rfl) ?_
  refine lv_iload_n X.1 X.2.1 dX7_read_2 rfl (lv_at hl 1 rfl) ?_
  refine mcalli hq X hW (mt_isOther_bad l hq (T) (D) (th) (x := i) (h)) (cwV 1 X.2.2.2.2 gX7_read_X7_isOther rfl rfl rfl (by decide +kernel) ⟨Nat.le_of_ble_eq_true rfl, Nat.le_of_ble_eq_true rfl⟩) rfl rfl hl.1 (Nat.le_of_ble_eq_true rfl) dX7_read_3 ⟨Nat.zero_le _, Nat.zero_le _⟩ (fun H locs hW => ?_)
  refine n_if_ne_f (tgt := 13) X.1 X.2.1 dX7_read_6 (by decide) (by decide) (by omega) ?_
  refine lv_iconst (v := nI 1) X.1 X.2.1 dX7_read_9 (by decide) ?_
  refine lv_goto (tgt := 26) X.1 X.2.1 dX7_read_10 (by decide) ?_
  refine mcalli hq X hW (mt_isWrong_s l hq (T) (D) (th) (n := 1) (by decide) (by decide)) (cwV 1 X.2.2.2.2 gX7_read_X7_isWrong rfl rfl rfl (by decide +kernel) ⟨Nat.le_of_ble_eq_true rfl, Nat.le_of_ble_eq_true rfl⟩) rfl rfl hl.1 (Nat.le_of_ble_eq_true rfl) dX7_read_26 ⟨Nat.zero_le _, Nat.zero_le _⟩ (fun H locs hW => ?_)
  refine n_if_eq_f (tgt := 34) X.1 X.2.1 dX7_read_29 (by decide) (by decide) (by omega) ?_
  refine lv_iconst (v := nI 0) X.1 X.2.1 dX7_read_32 (by decide) ?_
  exact hE _ _ _ _ _ (rfl) (fun ty hty => by cases hty; exact rfl) hW dX7_read_33

set_option maxHeartbeats 4000000 in
set_option maxRecDepth 100000 in
theorem mt_read_2 (l : Launch) {G : va_G} {cI cZ : ClassId} {q : Nat → Nat} (hq : mJ q) (T : mT) (D : mD) (th : Int32) (I : mI T) {i : Nat} (hi : i < 3) (h : clo T i) : mMi l yX7_read wsX7_read ({ frames := 1, cells := 0, slots := 0, locals := 21 } : Room) G cI cZ q [.int (nI (i))] (T) (D) (th) (nI 0) (T) (D) (nI 2) := by
  refine mstarti (cc := cX7_read) (maxL := 2) (ret := (some .int)) (by decide) rfl rfl ⟨_, rfl⟩ (Nat.le_of_ble_eq_true rfl) (fun p e s m args below meth c Q hE X hW ls hl => ?_)
  have hl : lv_has ls 2 [(0, .ref (q 0)), (1, .int (nI (i)))] := hl
  have hin : ∀ w ∈ wsX70, w ∈ wsX7_read := fun w h => List.mem_cons_of_mem _ (List.mem_append_left _ (List.mem_append_right _ (h)))
  refine lv_aload_n X.1 X.2.1 dX7_read_0 rfl (lv_at hl 0 rfl) ?_
  refine lv_aload_n X.1 X.2.1 dX7_read_1 rfl (lv_at hl 0 rfl) ?_
  refine lv_iload_n X.1 X.2.1 dX7_read_2 rfl (lv_at hl 1 rfl) ?_
  refine mcalli hq X hW (mt_isOther_ok l hq (T) (D) (th) (r := i) (by omega)) (cwV 1 X.2.2.2.2 gX7_read_X7_isOther rfl rfl rfl (by decide +kernel) ⟨Nat.le_of_ble_eq_true rfl, Nat.le_of_ble_eq_true rfl⟩) rfl rfl hl.1 (Nat.le_of_ble_eq_true rfl) dX7_read_3 ⟨Nat.zero_le _, Nat.zero_le _⟩ (fun H locs hW => ?_)
  refine n_if_ne_t (tgt := 13) X.1 X.2.1 dX7_read_6 (by decide) (by decide) (by omega) ?_
  refine lv_aload_n X.1 X.2.1 dX7_read_13 rfl (lv_at hl 0 rfl) ?_
  refine lv_iload_n X.1 X.2.1 dX7_read_14 rfl (lv_at hl 1 rfl) ?_
  refine mcalli hq X hW (mt_isClosed_1 l hq (T) (D) (th) I (i := i) (by omega) (h)) (cwV 1 X.2.2.2.2 gX7_read_X7_isClosed rfl rfl rfl (by decide +kernel) ⟨Nat.le_of_ble_eq_true rfl, Nat.le_of_ble_eq_true rfl⟩) rfl rfl hl.1 (Nat.le_of_ble_eq_true rfl) dX7_read_15 ⟨Nat.zero_le _, Nat.zero_le _⟩ (fun H locs hW => ?_)
  refine n_if_eq_f (tgt := 25) X.1 X.2.1 dX7_read_18 (by decide) (by decide) (by omega) ?_
  refine lv_iconst (v := nI 2) X.1 X.2.1 dX7_read_21 (by decide) ?_
  refine lv_goto (tgt := 26) X.1 X.2.1 dX7_read_22 (by decide) ?_
  refine mcalli hq X hW (mt_isWrong_s l hq (T) (D) (th) (n := 2) (by decide) (by decide)) (cwV 1 X.2.2.2.2 gX7_read_X7_isWrong rfl rfl rfl (by decide +kernel) ⟨Nat.le_of_ble_eq_true rfl, Nat.le_of_ble_eq_true rfl⟩) rfl rfl hl.1 (Nat.le_of_ble_eq_true rfl) dX7_read_26 ⟨Nat.zero_le _, Nat.zero_le _⟩ (fun H locs hW => ?_)
  refine n_if_eq_f (tgt := 34) X.1 X.2.1 dX7_read_29 (by decide) (by decide) (by omega) ?_
  refine lv_iconst (v := nI 0) X.1 X.2.1 dX7_read_32 (by decide) ?_
  exact hE _ _ _ _ _ (rfl) (fun ty hty => by cases hty; exact rfl) hW dX7_read_33

set_option maxHeartbeats 4000000 in
set_option maxRecDepth 100000 in
theorem mt_read_e (l : Launch) {G : va_G} {cI cZ : ClassId} {q : Nat → Nat} (hq : mJ q) (T : mT) (D : mD) (th : Int32) (I : mI T) {i : Nat} (hi : i < 3) (h : ¬ clo T i) (h2 : T 9 i = T 10 i) : mMi l yX7_read wsX7_read ({ frames := 1, cells := 0, slots := 0, locals := 21 } : Room) G cI cZ q [.int (nI (i))] (T) (D) (th) (-1) (T) (D) (nI 0) := by
  refine mstarti (cc := cX7_read) (maxL := 2) (ret := (some .int)) (by decide) rfl rfl ⟨_, rfl⟩ (Nat.le_of_ble_eq_true rfl) (fun p e s m args below meth c Q hE X hW ls hl => ?_)
  have hl : lv_has ls 2 [(0, .ref (q 0)), (1, .int (nI (i)))] := hl
  have hin : ∀ w ∈ wsX70, w ∈ wsX7_read := fun w h => List.mem_cons_of_mem _ (List.mem_append_left _ (List.mem_append_right _ (h)))
  have I1 := I.rd hi
  refine lv_aload_n X.1 X.2.1 dX7_read_0 rfl (lv_at hl 0 rfl) ?_
  refine lv_aload_n X.1 X.2.1 dX7_read_1 rfl (lv_at hl 0 rfl) ?_
  refine lv_iload_n X.1 X.2.1 dX7_read_2 rfl (lv_at hl 1 rfl) ?_
  refine mcalli hq X hW (mt_isOther_ok l hq (T) (D) (th) (r := i) (by omega)) (cwV 1 X.2.2.2.2 gX7_read_X7_isOther rfl rfl rfl (by decide +kernel) ⟨Nat.le_of_ble_eq_true rfl, Nat.le_of_ble_eq_true rfl⟩) rfl rfl hl.1 (Nat.le_of_ble_eq_true rfl) dX7_read_3 ⟨Nat.zero_le _, Nat.zero_le _⟩ (fun H locs hW => ?_)
  refine n_if_ne_t (tgt := 13) X.1 X.2.1 dX7_read_6 (by decide) (by decide) (by omega) ?_
  refine lv_aload_n X.1 X.2.1 dX7_read_13 rfl (lv_at hl 0 rfl) ?_
  refine lv_iload_n X.1 X.2.1 dX7_read_14 rfl (lv_at hl 1 rfl) ?_
  refine mcalli hq X hW (mt_isClosed_o l hq (T) (D) (th) I (i := i) (by omega) (h)) (cwV 1 X.2.2.2.2 gX7_read_X7_isClosed rfl rfl rfl (by decide +kernel) ⟨Nat.le_of_ble_eq_true rfl, Nat.le_of_ble_eq_true rfl⟩) rfl rfl hl.1 (Nat.le_of_ble_eq_true rfl) dX7_read_15 ⟨Nat.zero_le _, Nat.zero_le _⟩ (fun H locs hW => ?_)
  refine n_if_eq_t (tgt := 25) X.1 X.2.1 dX7_read_18 (by decide) (by decide) (by omega) ?_
  refine lv_iconst (v := nI 0) X.1 X.2.1 dX7_read_25 (by decide) ?_
  refine mcalli hq X hW (mt_isWrong_0 l hq (T) (D) (th)) (cwV 1 X.2.2.2.2 gX7_read_X7_isWrong rfl rfl rfl (by decide +kernel) ⟨Nat.le_of_ble_eq_true rfl, Nat.le_of_ble_eq_true rfl⟩) rfl rfl hl.1 (Nat.le_of_ble_eq_true rfl) dX7_read_26 ⟨Nat.zero_le _, Nat.zero_le _⟩ (fun H locs hW => ?_)
  refine n_if_eq_t (tgt := 34) X.1 X.2.1 dX7_read_29 (by decide) (by decide) (by omega) ?_
  refine lv_aload_n X.1 X.2.1 dX7_read_34 rfl (lv_at hl 0 rfl) ?_
  refine mget 9 (by decide) rfl X hin hW (X.2.2.2.2 (.fieldLink RX7 37 "StrandbookModel" "places" "[I") (List.mem_cons_of_mem _ (List.mem_append_left _ (List.mem_append_left _ (List.mem_of_getElem? (i := 0) rfl))))) dX7_read_35 ?_
  refine lv_iload_n X.1 X.2.1 dX7_read_38 rfl (lv_at hl 1 rfl) ?_
  refine mld9 X hW (by omega) dX7_read_39 ?_
  refine lv_aload_n X.1 X.2.1 dX7_read_40 rfl (lv_at hl 0 rfl) ?_
  refine mget 10 (by decide) rfl X hin hW (X.2.2.2.2 (.fieldLink RX7 40 "StrandbookModel" "ends" "[I") (List.mem_cons_of_mem _ (List.mem_append_left _ (List.mem_append_left _ (List.mem_of_getElem? (i := 1) rfl))))) dX7_read_41 ?_
  refine lv_iload_n X.1 X.2.1 dX7_read_44 rfl (lv_at hl 1 rfl) ?_
  refine mld10 X hW (by omega) dX7_read_45 ?_
  refine n_icmp_ne_f (tgt := 51) X.1 X.2.1 dX7_read_46 (by decide) (h2) (by omega) (by omega) ?_
  refine lv_iconst (v := -1) X.1 X.2.1 dX7_read_49 (by decide) ?_
  exact hE _ _ _ _ _ (rfl) (fun ty hty => by cases hty; exact rfl) hW dX7_read_50

set_option maxHeartbeats 4000000 in
set_option maxRecDepth 100000 in
theorem mt_read (l : Launch) {G : va_G} {cI cZ : ClassId} {q : Nat → Nat} (hq : mJ q) (T : mT) (D : mD) (th : Int32) (I : mI T) {i : Nat} (hi : i < 3) (h : ¬ clo T i) (h2 : ¬ T 9 i = T 10 i) : mMi l yX7_read wsX7_read ({ frames := 1, cells := 0, slots := 0, locals := 21 } : Room) G cI cZ q [.int (nI (i))] (T) (D) (th) (D 0 (256 * (T 8 i - 1) + T 9 i)) (u2 T 9 i (T 9 i + 1)) (D) (nI 0) := by
  refine mstarti (cc := cX7_read) (maxL := 2) (ret := (some .int)) (by decide) rfl rfl ⟨_, rfl⟩ (Nat.le_of_ble_eq_true rfl) (fun p e s m args below meth c Q hE X hW ls hl => ?_)
  have hl : lv_has ls 2 [(0, .ref (q 0)), (1, .int (nI (i)))] := hl
  have hin : ∀ w ∈ wsX70, w ∈ wsX7_read := fun w h => List.mem_cons_of_mem _ (List.mem_append_left _ (List.mem_append_right _ (h)))
  have I1 := I.rd hi
  have h1 : ¬ T 8 i = 0 := fun z => h (Or.inl z)
  refine lv_aload_n X.1 X.2.1 dX7_read_0 rfl (lv_at hl 0 rfl) ?_
  refine lv_aload_n X.1 X.2.1 dX7_read_1 rfl (lv_at hl 0 rfl) ?_
  refine lv_iload_n X.1 X.2.1 dX7_read_2 rfl (lv_at hl 1 rfl) ?_
  refine mcalli hq X hW (mt_isOther_ok l hq (T) (D) (th) (r := i) (by omega)) (cwV 1 X.2.2.2.2 gX7_read_X7_isOther rfl rfl rfl (by decide +kernel) ⟨Nat.le_of_ble_eq_true rfl, Nat.le_of_ble_eq_true rfl⟩) rfl rfl hl.1 (Nat.le_of_ble_eq_true rfl) dX7_read_3 ⟨Nat.zero_le _, Nat.zero_le _⟩ (fun H locs hW => ?_)
  refine n_if_ne_t (tgt := 13) X.1 X.2.1 dX7_read_6 (by decide) (by decide) (by omega) ?_
  refine lv_aload_n X.1 X.2.1 dX7_read_13 rfl (lv_at hl 0 rfl) ?_
  refine lv_iload_n X.1 X.2.1 dX7_read_14 rfl (lv_at hl 1 rfl) ?_
  refine mcalli hq X hW (mt_isClosed_o l hq (T) (D) (th) I (i := i) (by omega) (h)) (cwV 1 X.2.2.2.2 gX7_read_X7_isClosed rfl rfl rfl (by decide +kernel) ⟨Nat.le_of_ble_eq_true rfl, Nat.le_of_ble_eq_true rfl⟩) rfl rfl hl.1 (Nat.le_of_ble_eq_true rfl) dX7_read_15 ⟨Nat.zero_le _, Nat.zero_le _⟩ (fun H locs hW => ?_)
  refine n_if_eq_t (tgt := 25) X.1 X.2.1 dX7_read_18 (by decide) (by decide) (by omega) ?_
  refine lv_iconst (v := nI 0) X.1 X.2.1 dX7_read_25 (by decide) ?_
  refine mcalli hq X hW (mt_isWrong_0 l hq (T) (D) (th)) (cwV 1 X.2.2.2.2 gX7_read_X7_isWrong rfl rfl rfl (by decide +kernel) ⟨Nat.le_of_ble_eq_true rfl, Nat.le_of_ble_eq_true rfl⟩) rfl rfl hl.1 (Nat.le_of_ble_eq_true rfl) dX7_read_26 ⟨Nat.zero_le _, Nat.zero_le _⟩ (fun H locs hW => ?_)
  refine n_if_eq_t (tgt := 34) X.1 X.2.1 dX7_read_29 (by decide) (by decide) (by omega) ?_
  refine lv_aload_n X.1 X.2.1 dX7_read_34 rfl (lv_at hl 0 rfl) ?_
  refine mget 9 (by decide) rfl X hin hW (X.2.2.2.2 (.fieldLink RX7 37 "StrandbookModel" "places" "[I") (List.mem_cons_of_mem _ (List.mem_append_left _ (List.mem_append_left _ (List.mem_of_getElem? (i := 0) rfl))))) dX7_read_35 ?_
  refine lv_iload_n X.1 X.2.1 dX7_read_38 rfl (lv_at hl 1 rfl) ?_
  refine mld9 X hW (by omega) dX7_read_39 ?_
  refine lv_aload_n X.1 X.2.1 dX7_read_40 rfl (lv_at hl 0 rfl) ?_
  refine mget 10 (by decide) rfl X hin hW (X.2.2.2.2 (.fieldLink RX7 40 "StrandbookModel" "ends" "[I") (List.mem_cons_of_mem _ (List.mem_append_left _ (List.mem_append_left _ (List.mem_of_getElem? (i := 1) rfl))))) dX7_read_41 ?_
  refine lv_iload_n X.1 X.2.1 dX7_read_44 rfl (lv_at hl 1 rfl) ?_
  refine mld10 X hW (by omega) dX7_read_45 ?_
  refine n_icmp_ne_t (tgt := 51) X.1 X.2.1 dX7_read_46 (by decide) (h2) (by omega) (by omega) ?_
  refine lv_aload_n X.1 X.2.1 dX7_read_51 rfl (lv_at hl 0 rfl) ?_
  refine mget 9 (by decide) rfl X hin hW (X.2.2.2.2 (.fieldLink RX7 37 "StrandbookModel" "places" "[I") (List.mem_cons_of_mem _ (List.mem_append_left _ (List.mem_append_left _ (List.mem_of_getElem? (i := 0) rfl))))) dX7_read_52 ?_
  refine lv_iload_n X.1 X.2.1 dX7_read_55 rfl (lv_at hl 1 rfl) ?_
  refine lv_dup2_11 X.1 X.2.1 dX7_read_56 rfl rfl ?_
  refine mld9 X hW (by omega) dX7_read_57 ?_
  refine lv_iconst (v := nI 1) X.1 X.2.1 dX7_read_58 (by decide) ?_
  refine n_iadd X.1 X.2.1 dX7_read_59 ?_
  refine mst9 hq X hW (by omega) dX7_read_60 (fun H locs hW => ?_)
  refine lv_aload_n X.1 X.2.1 dX7_read_61 rfl (lv_at hl 0 rfl) ?_
  refine mget 0 (by decide) rfl X hin hW (X.2.2.2.2 (.fieldLink RX7 7 "StrandbookModel" "signs" "[I") (List.mem_cons_of_mem _ (List.mem_append_left _ (List.mem_append_left _ (List.mem_of_getElem? (i := 2) rfl))))) dX7_read_62 ?_
  refine lv_sipush (v := nI 256) X.1 X.2.1 dX7_read_65 (by decide) ?_
  refine lv_aload_n X.1 X.2.1 dX7_read_68 rfl (lv_at hl 0 rfl) ?_
  refine mget 8 (by decide) rfl X hin hW (X.2.2.2.2 (.fieldLink RX7 34 "StrandbookModel" "reads" "[I") (List.mem_cons_of_mem _ (List.mem_append_left _ (List.mem_append_left _ (List.mem_of_getElem? (i := 3) rfl))))) dX7_read_69 ?_
  refine lv_iload_n X.1 X.2.1 dX7_read_72 rfl (lv_at hl 1 rfl) ?_
  refine mld8_s X hW (by omega) (z := T 8 i - 1) ((congrFun (u2_ne (by decide)) _).trans (by omega)) dX7_read_73 ?_
  refine n_imul X.1 X.2.1 dX7_read_74 ?_
  refine lv_aload_n X.1 X.2.1 dX7_read_75 rfl (lv_at hl 0 rfl) ?_
  refine mget 9 (by decide) rfl X hin hW (X.2.2.2.2 (.fieldLink RX7 37 "StrandbookModel" "places" "[I") (List.mem_cons_of_mem _ (List.mem_append_left _ (List.mem_append_left _ (List.mem_of_getElem? (i := 0) rfl))))) dX7_read_76 ?_
  refine lv_iload_n X.1 X.2.1 dX7_read_79 rfl (lv_at hl 1 rfl) ?_
  refine mld9 X hW (by omega) dX7_read_80 ?_
  refine n_cv (y := nI ((T 9 (i)) + 1)) (congrArg nI (u2_eq)) ?_
  refine n_iadd X.1 X.2.1 dX7_read_81 ?_
  refine lv_iconst (v := nI 1) X.1 X.2.1 dX7_read_82 (by decide) ?_
  refine n_isub X.1 X.2.1 (by omega) dX7_read_83 ?_
  refine mld0 X hW (by omega) dX7_read_84 ?_
  exact hE _ _ _ _ _ (congrArg (D 0) (by omega)) (fun ty hty => by cases hty; exact rfl) hW dX7_read_85

theorem mo_read (l : Launch) {G : va_G} {cI cZ : ClassId} {q : Nat → Nat} (hq : mJ q) (T : mT) (D : mD) (th : Int32) (I : mI T) (J : mJD D) (i : Int32) : mO l yX7_read wsX7_read ({ frames := 1, cells := 0, slots := 0, locals := 21 } : Room) G cI cZ q [.int i] T D th (sp_read T D i) := by
  by_cases h1 : oN i 3
  · rw [show sp_read T D i = no T D 1 from if_pos h1]; exact mt_read_1 l hq T D th h1
  · obtain ⟨i, hi, rfl⟩ := oN_in (by decide) h1
    have hc : (nI i).toNatClampNeg = i := nI_clamp (by omega)
    by_cases h2 : clo T i
    · rw [show sp_read T D (nI i) = no T D 2 from (if_neg h1).trans (if_pos (by rw [hc]; exact h2))]; exact mt_read_2 l hq T D th I hi h2
    · by_cases h3 : T 9 i = T 10 i
      · rw [show sp_read T D (nI i) = (0, -1, T, D) from (if_neg h1).trans ((if_neg (by rw [hc]; exact h2)).trans (if_pos (by rw [hc]; exact h3)))]; exact mt_read_e l hq T D th I hi h2 h3
      · rw [show sp_read T D (nI i) = (0, D 0 (256 * (T 8 i - 1) + T 9 i), u2 T 9 i (T 9 i + 1), D) from (if_neg h1).trans ((if_neg (by rw [hc]; exact h2)).trans ((if_neg (by rw [hc]; exact h3)).trans (by rw [hc])))]; exact mt_read l hq T D th I hi h2 h3

set_option maxHeartbeats 4000000 in
set_option maxRecDepth 100000 in
theorem mt_back_1 (l : Launch) {G : va_G} {cI cZ : ClassId} {q : Nat → Nat} (hq : mJ q) (T : mT) (D : mD) (th : Int32) {i : Int32} (h : oN i 3) : mMi l yX7_back wsX7_back ({ frames := 1, cells := 0, slots := 0, locals := 21 } : Room) G cI cZ q [.int (i)] (T) (D) (th) (nI 0) (T) (D) (nI 1) := by
  refine mstarti (cc := cX7_back) (maxL := 2) (ret := (some .int)) (by decide) rfl rfl ⟨_, rfl⟩ (Nat.le_of_ble_eq_true rfl) (fun p e s m args below meth c Q hE X hW ls hl => ?_)
  have hl : lv_has ls 2 [(0, .ref (q 0)), (1, .int (i))] := hl
  have hin : ∀ w ∈ wsX70, w ∈ wsX7_back := fun w h => List.mem_cons_of_mem _ (List.mem_append_left _ (List.mem_append_right _ (h)))
  refine lv_aload_n X.1 X.2.1 dX7_back_0 rfl (lv_at hl 0 rfl) ?_
  refine lv_aload_n X.1 X.2.1 dX7_back_1 rfl (lv_at hl 0 rfl) ?_
  refine lv_iload_n X.1 X.2.1 dX7_back_2 rfl (lv_at hl 1 rfl) ?_
  refine mcalli hq X hW (mt_isOther_bad l hq (T) (D) (th) (x := i) (h)) (cwV 1 X.2.2.2.2 gX7_back_X7_isOther rfl rfl rfl (by decide +kernel) ⟨Nat.le_of_ble_eq_true rfl, Nat.le_of_ble_eq_true rfl⟩) rfl rfl hl.1 (Nat.le_of_ble_eq_true rfl) dX7_back_3 ⟨Nat.zero_le _, Nat.zero_le _⟩ (fun H locs hW => ?_)
  refine n_if_ne_f (tgt := 13) X.1 X.2.1 dX7_back_6 (by decide) (by decide) (by omega) ?_
  refine lv_iconst (v := nI 1) X.1 X.2.1 dX7_back_9 (by decide) ?_
  refine lv_goto (tgt := 26) X.1 X.2.1 dX7_back_10 (by decide) ?_
  refine mcalli hq X hW (mt_isWrong_s l hq (T) (D) (th) (n := 1) (by decide) (by decide)) (cwV 1 X.2.2.2.2 gX7_back_X7_isWrong rfl rfl rfl (by decide +kernel) ⟨Nat.le_of_ble_eq_true rfl, Nat.le_of_ble_eq_true rfl⟩) rfl rfl hl.1 (Nat.le_of_ble_eq_true rfl) dX7_back_26 ⟨Nat.zero_le _, Nat.zero_le _⟩ (fun H locs hW => ?_)
  refine n_if_eq_f (tgt := 34) X.1 X.2.1 dX7_back_29 (by decide) (by decide) (by omega) ?_
  refine lv_iconst (v := nI 0) X.1 X.2.1 dX7_back_32 (by decide) ?_
  exact hE _ _ _ _ _ (rfl) (fun ty hty => by cases hty; exact rfl) hW dX7_back_33

set_option maxHeartbeats 4000000 in
set_option maxRecDepth 100000 in
theorem mt_back_2 (l : Launch) {G : va_G} {cI cZ : ClassId} {q : Nat → Nat} (hq : mJ q) (T : mT) (D : mD) (th : Int32) (I : mI T) {i : Nat} (hi : i < 3) (h : clo T i) : mMi l yX7_back wsX7_back ({ frames := 1, cells := 0, slots := 0, locals := 21 } : Room) G cI cZ q [.int (nI (i))] (T) (D) (th) (nI 0) (T) (D) (nI 2) := by
  refine mstarti (cc := cX7_back) (maxL := 2) (ret := (some .int)) (by decide) rfl rfl ⟨_, rfl⟩ (Nat.le_of_ble_eq_true rfl) (fun p e s m args below meth c Q hE X hW ls hl => ?_)
  have hl : lv_has ls 2 [(0, .ref (q 0)), (1, .int (nI (i)))] := hl
  have hin : ∀ w ∈ wsX70, w ∈ wsX7_back := fun w h => List.mem_cons_of_mem _ (List.mem_append_left _ (List.mem_append_right _ (h)))
  refine lv_aload_n X.1 X.2.1 dX7_back_0 rfl (lv_at hl 0 rfl) ?_
  refine lv_aload_n X.1 X.2.1 dX7_back_1 rfl (lv_at hl 0 rfl) ?_
  refine lv_iload_n X.1 X.2.1 dX7_back_2 rfl (lv_at hl 1 rfl) ?_
  refine mcalli hq X hW (mt_isOther_ok l hq (T) (D) (th) (r := i) (by omega)) (cwV 1 X.2.2.2.2 gX7_back_X7_isOther rfl rfl rfl (by decide +kernel) ⟨Nat.le_of_ble_eq_true rfl, Nat.le_of_ble_eq_true rfl⟩) rfl rfl hl.1 (Nat.le_of_ble_eq_true rfl) dX7_back_3 ⟨Nat.zero_le _, Nat.zero_le _⟩ (fun H locs hW => ?_)
  refine n_if_ne_t (tgt := 13) X.1 X.2.1 dX7_back_6 (by decide) (by decide) (by omega) ?_
  refine lv_aload_n X.1 X.2.1 dX7_back_13 rfl (lv_at hl 0 rfl) ?_
  refine lv_iload_n X.1 X.2.1 dX7_back_14 rfl (lv_at hl 1 rfl) ?_
  refine mcalli hq X hW (mt_isClosed_1 l hq (T) (D) (th) I (i := i) (by omega) (h)) (cwV 1 X.2.2.2.2 gX7_back_X7_isClosed rfl rfl rfl (by decide +kernel) ⟨Nat.le_of_ble_eq_true rfl, Nat.le_of_ble_eq_true rfl⟩) rfl rfl hl.1 (Nat.le_of_ble_eq_true rfl) dX7_back_15 ⟨Nat.zero_le _, Nat.zero_le _⟩ (fun H locs hW => ?_)
  refine n_if_eq_f (tgt := 25) X.1 X.2.1 dX7_back_18 (by decide) (by decide) (by omega) ?_
  refine lv_iconst (v := nI 2) X.1 X.2.1 dX7_back_21 (by decide) ?_
  refine lv_goto (tgt := 26) X.1 X.2.1 dX7_back_22 (by decide) ?_
  refine mcalli hq X hW (mt_isWrong_s l hq (T) (D) (th) (n := 2) (by decide) (by decide)) (cwV 1 X.2.2.2.2 gX7_back_X7_isWrong rfl rfl rfl (by decide +kernel) ⟨Nat.le_of_ble_eq_true rfl, Nat.le_of_ble_eq_true rfl⟩) rfl rfl hl.1 (Nat.le_of_ble_eq_true rfl) dX7_back_26 ⟨Nat.zero_le _, Nat.zero_le _⟩ (fun H locs hW => ?_)
  refine n_if_eq_f (tgt := 34) X.1 X.2.1 dX7_back_29 (by decide) (by decide) (by omega) ?_
  refine lv_iconst (v := nI 0) X.1 X.2.1 dX7_back_32 (by decide) ?_
  exact hE _ _ _ _ _ (rfl) (fun ty hty => by cases hty; exact rfl) hW dX7_back_33

set_option maxHeartbeats 4000000 in
set_option maxRecDepth 100000 in
theorem mt_back (l : Launch) {G : va_G} {cI cZ : ClassId} {q : Nat → Nat} (hq : mJ q) (T : mT) (D : mD) (th : Int32) (I : mI T) {i : Nat} (hi : i < 3) (h : ¬ clo T i) : mMi l yX7_back wsX7_back ({ frames := 1, cells := 0, slots := 0, locals := 21 } : Room) G cI cZ q [.int (nI (i))] (T) (D) (th) (nI (T 10 i - T 11 i)) (u2 T 9 i (T 11 i)) (D) (nI 0) := by
  refine mstarti (cc := cX7_back) (maxL := 2) (ret := (some .int)) (by decide) rfl rfl ⟨_, rfl⟩ (Nat.le_of_ble_eq_true rfl) (fun p e s m args below meth c Q hE X hW ls hl => ?_)
  have hl : lv_has ls 2 [(0, .ref (q 0)), (1, .int (nI (i)))] := hl
  have hin : ∀ w ∈ wsX70, w ∈ wsX7_back := fun w h => List.mem_cons_of_mem _ (List.mem_append_left _ (List.mem_append_right _ (h)))
  have I1 := I.rd hi
  refine lv_aload_n X.1 X.2.1 dX7_back_0 rfl (lv_at hl 0 rfl) ?_
  refine lv_aload_n X.1 X.2.1 dX7_back_1 rfl (lv_at hl 0 rfl) ?_
  refine lv_iload_n X.1 X.2.1 dX7_back_2 rfl (lv_at hl 1 rfl) ?_
  refine mcalli hq X hW (mt_isOther_ok l hq (T) (D) (th) (r := i) (by omega)) (cwV 1 X.2.2.2.2 gX7_back_X7_isOther rfl rfl rfl (by decide +kernel) ⟨Nat.le_of_ble_eq_true rfl, Nat.le_of_ble_eq_true rfl⟩) rfl rfl hl.1 (Nat.le_of_ble_eq_true rfl) dX7_back_3 ⟨Nat.zero_le _, Nat.zero_le _⟩ (fun H locs hW => ?_)
  refine n_if_ne_t (tgt := 13) X.1 X.2.1 dX7_back_6 (by decide) (by decide) (by omega) ?_
  refine lv_aload_n X.1 X.2.1 dX7_back_13 rfl (lv_at hl 0 rfl) ?_
  refine lv_iload_n X.1 X.2.1 dX7_back_14 rfl (lv_at hl 1 rfl) ?_
  refine mcalli hq X hW (mt_isClosed_o l hq (T) (D) (th) I (i := i) (by omega) (h)) (cwV 1 X.2.2.2.2 gX7_back_X7_isClosed rfl rfl rfl (by decide +kernel) ⟨Nat.le_of_ble_eq_true rfl, Nat.le_of_ble_eq_true rfl⟩) rfl rfl hl.1 (Nat.le_of_ble_eq_true rfl) dX7_back_15 ⟨Nat.zero_le _, Nat.zero_le _⟩ (fun H locs hW => ?_)
  refine n_if_eq_t (tgt := 25) X.1 X.2.1 dX7_back_18 (by decide) (by decide) (by omega) ?_
  refine lv_iconst (v := nI 0) X.1 X.2.1 dX7_back_25 (by decide) ?_
  refine mcalli hq X hW (mt_isWrong_0 l hq (T) (D) (th)) (cwV 1 X.2.2.2.2 gX7_back_X7_isWrong rfl rfl rfl (by decide +kernel) ⟨Nat.le_of_ble_eq_true rfl, Nat.le_of_ble_eq_true rfl⟩) rfl rfl hl.1 (Nat.le_of_ble_eq_true rfl) dX7_back_26 ⟨Nat.zero_le _, Nat.zero_le _⟩ (fun H locs hW => ?_)
  refine n_if_eq_t (tgt := 34) X.1 X.2.1 dX7_back_29 (by decide) (by decide) (by omega) ?_
  refine lv_aload_n X.1 X.2.1 dX7_back_34 rfl (lv_at hl 0 rfl) ?_
  refine mget 9 (by decide) rfl X hin hW (X.2.2.2.2 (.fieldLink RX7 37 "StrandbookModel" "places" "[I") (List.mem_cons_of_mem _ (List.mem_append_left _ (List.mem_append_left _ (List.mem_of_getElem? (i := 0) rfl))))) dX7_back_35 ?_
  refine lv_iload_n X.1 X.2.1 dX7_back_38 rfl (lv_at hl 1 rfl) ?_
  refine lv_aload_n X.1 X.2.1 dX7_back_39 rfl (lv_at hl 0 rfl) ?_
  refine mget 11 (by decide) rfl X hin hW (X.2.2.2.2 (.fieldLink RX7 43 "StrandbookModel" "marks" "[I") (List.mem_cons_of_mem _ (List.mem_append_left _ (List.mem_append_left _ (List.mem_of_getElem? (i := 1) rfl))))) dX7_back_40 ?_
  refine lv_iload_n X.1 X.2.1 dX7_back_43 rfl (lv_at hl 1 rfl) ?_
  refine mld11 X hW (by omega) dX7_back_44 ?_
  refine mst9 hq X hW (by omega) dX7_back_45 (fun H locs hW => ?_)
  refine lv_aload_n X.1 X.2.1 dX7_back_46 rfl (lv_at hl 0 rfl) ?_
  refine mget 10 (by decide) rfl X hin hW (X.2.2.2.2 (.fieldLink RX7 40 "StrandbookModel" "ends" "[I") (List.mem_cons_of_mem _ (List.mem_append_left _ (List.mem_append_left _ (List.mem_of_getElem? (i := 2) rfl))))) dX7_back_47 ?_
  refine lv_iload_n X.1 X.2.1 dX7_back_50 rfl (lv_at hl 1 rfl) ?_
  refine mld10 X hW (by omega) dX7_back_51 ?_
  refine n_cv (y := nI (T 10 (i))) (congrArg nI (congrFun (u2_ne (by decide)) _)) ?_
  refine lv_aload_n X.1 X.2.1 dX7_back_52 rfl (lv_at hl 0 rfl) ?_
  refine mget 9 (by decide) rfl X hin hW (X.2.2.2.2 (.fieldLink RX7 37 "StrandbookModel" "places" "[I") (List.mem_cons_of_mem _ (List.mem_append_left _ (List.mem_append_left _ (List.mem_of_getElem? (i := 0) rfl))))) dX7_back_53 ?_
  refine lv_iload_n X.1 X.2.1 dX7_back_56 rfl (lv_at hl 1 rfl) ?_
  refine mld9 X hW (by omega) dX7_back_57 ?_
  refine n_cv (y := nI (T 11 (i))) (congrArg nI (u2_eq)) ?_
  refine n_isub X.1 X.2.1 (by omega) dX7_back_58 ?_
  exact hE _ _ _ _ _ (rfl) (fun ty hty => by cases hty; exact rfl) hW dX7_back_59

theorem mo_back (l : Launch) {G : va_G} {cI cZ : ClassId} {q : Nat → Nat} (hq : mJ q) (T : mT) (D : mD) (th : Int32) (I : mI T) (J : mJD D) (i : Int32) : mO l yX7_back wsX7_back ({ frames := 1, cells := 0, slots := 0, locals := 21 } : Room) G cI cZ q [.int i] T D th (sp_back T D i) := by
  by_cases h1 : oN i 3
  · rw [show sp_back T D i = no T D 1 from if_pos h1]; exact mt_back_1 l hq T D th h1
  · obtain ⟨i, hi, rfl⟩ := oN_in (by decide) h1
    have hc : (nI i).toNatClampNeg = i := nI_clamp (by omega)
    by_cases h2 : clo T i
    · rw [show sp_back T D (nI i) = no T D 2 from (if_neg h1).trans (if_pos (by rw [hc]; exact h2))]; exact mt_back_2 l hq T D th I hi h2
    · rw [show sp_back T D (nI i) = (0, nI (T 10 i - T 11 i), u2 T 9 i (T 11 i), D) from (if_neg h1).trans ((if_neg (by rw [hc]; exact h2)).trans (by rw [hc]))]; exact mt_back l hq T D th I hi h2

set_option maxHeartbeats 4000000 in
set_option maxRecDepth 100000 in
theorem mt_mark_1 (l : Launch) {G : va_G} {cI cZ : ClassId} {q : Nat → Nat} (hq : mJ q) (T : mT) (D : mD) (th : Int32) {i lm : Int32} (h : oN i 3) : mMi l yX7_mark wsX7_mark ({ frames := 1, cells := 0, slots := 0, locals := 21 } : Room) G cI cZ q [.int (i), .int (lm)] (T) (D) (th) (nI 0) (T) (D) (nI 1) := by
  refine mstarti (cc := cX7_mark) (maxL := 3) (ret := (some .int)) (by decide) rfl rfl ⟨_, rfl⟩ (Nat.le_of_ble_eq_true rfl) (fun p e s m args below meth c Q hE X hW ls hl => ?_)
  have hl : lv_has ls 3 [(0, .ref (q 0)), (1, .int (i)), (2, .int (lm))] := hl
  have hin : ∀ w ∈ wsX70, w ∈ wsX7_mark := fun w h => List.mem_cons_of_mem _ (List.mem_append_left _ (List.mem_append_right _ (h)))
  refine lv_aload_n X.1 X.2.1 dX7_mark_0 rfl (lv_at hl 0 rfl) ?_
  refine lv_aload_n X.1 X.2.1 dX7_mark_1 rfl (lv_at hl 0 rfl) ?_
  refine lv_iload_n X.1 X.2.1 dX7_mark_2 rfl (lv_at hl 1 rfl) ?_
  refine mcalli hq X hW (mt_isOther_bad l hq (T) (D) (th) (x := i) (h)) (cwV 1 X.2.2.2.2 gX7_mark_X7_isOther rfl rfl rfl (by decide +kernel) ⟨Nat.le_of_ble_eq_true rfl, Nat.le_of_ble_eq_true rfl⟩) rfl rfl hl.1 (Nat.le_of_ble_eq_true rfl) dX7_mark_3 ⟨Nat.zero_le _, Nat.zero_le _⟩ (fun H locs hW => ?_)
  refine n_if_ne_f (tgt := 13) X.1 X.2.1 dX7_mark_6 (by decide) (by decide) (by omega) ?_
  refine lv_iconst (v := nI 1) X.1 X.2.1 dX7_mark_9 (by decide) ?_
  refine lv_goto (tgt := 34) X.1 X.2.1 dX7_mark_10 (by decide) ?_
  refine mcalli hq X hW (mt_isWrong_s l hq (T) (D) (th) (n := 1) (by decide) (by decide)) (cwV 1 X.2.2.2.2 gX7_mark_X7_isWrong rfl rfl rfl (by decide +kernel) ⟨Nat.le_of_ble_eq_true rfl, Nat.le_of_ble_eq_true rfl⟩) rfl rfl hl.1 (Nat.le_of_ble_eq_true rfl) dX7_mark_34 ⟨Nat.zero_le _, Nat.zero_le _⟩ (fun H locs hW => ?_)
  refine n_if_eq_f (tgt := 42) X.1 X.2.1 dX7_mark_37 (by decide) (by decide) (by omega) ?_
  refine lv_iconst (v := nI 0) X.1 X.2.1 dX7_mark_40 (by decide) ?_
  exact hE _ _ _ _ _ (rfl) (fun ty hty => by cases hty; exact rfl) hW dX7_mark_41

set_option maxHeartbeats 4000000 in
set_option maxRecDepth 100000 in
theorem mt_mark_2 (l : Launch) {G : va_G} {cI cZ : ClassId} {q : Nat → Nat} (hq : mJ q) (T : mT) (D : mD) (th : Int32) {i : Nat} {lm : Int32} (hi : i < 3) (h : lm < 0) : mMi l yX7_mark wsX7_mark ({ frames := 1, cells := 0, slots := 0, locals := 21 } : Room) G cI cZ q [.int (nI (i)), .int (lm)] (T) (D) (th) (nI 0) (T) (D) (nI 2) := by
  refine mstarti (cc := cX7_mark) (maxL := 3) (ret := (some .int)) (by decide) rfl rfl ⟨_, rfl⟩ (Nat.le_of_ble_eq_true rfl) (fun p e s m args below meth c Q hE X hW ls hl => ?_)
  have hl : lv_has ls 3 [(0, .ref (q 0)), (1, .int (nI (i))), (2, .int (lm))] := hl
  have hin : ∀ w ∈ wsX70, w ∈ wsX7_mark := fun w h => List.mem_cons_of_mem _ (List.mem_append_left _ (List.mem_append_right _ (h)))
  refine lv_aload_n X.1 X.2.1 dX7_mark_0 rfl (lv_at hl 0 rfl) ?_
  refine lv_aload_n X.1 X.2.1 dX7_mark_1 rfl (lv_at hl 0 rfl) ?_
  refine lv_iload_n X.1 X.2.1 dX7_mark_2 rfl (lv_at hl 1 rfl) ?_
  refine mcalli hq X hW (mt_isOther_ok l hq (T) (D) (th) (r := i) (by omega)) (cwV 1 X.2.2.2.2 gX7_mark_X7_isOther rfl rfl rfl (by decide +kernel) ⟨Nat.le_of_ble_eq_true rfl, Nat.le_of_ble_eq_true rfl⟩) rfl rfl hl.1 (Nat.le_of_ble_eq_true rfl) dX7_mark_3 ⟨Nat.zero_le _, Nat.zero_le _⟩ (fun H locs hW => ?_)
  refine n_if_ne_t (tgt := 13) X.1 X.2.1 dX7_mark_6 (by decide) (by decide) (by omega) ?_
  refine lv_iload_n X.1 X.2.1 dX7_mark_13 rfl (lv_at hl 2 rfl) ?_
  refine x_if_ge_f (tgt := 21) X.1 X.2.1 dX7_mark_14 (by decide) (fun z => absurd h (Int32.not_lt.mpr z)) ?_
  refine lv_iconst (v := nI 2) X.1 X.2.1 dX7_mark_17 (by decide) ?_
  refine lv_goto (tgt := 34) X.1 X.2.1 dX7_mark_18 (by decide) ?_
  refine mcalli hq X hW (mt_isWrong_s l hq (T) (D) (th) (n := 2) (by decide) (by decide)) (cwV 1 X.2.2.2.2 gX7_mark_X7_isWrong rfl rfl rfl (by decide +kernel) ⟨Nat.le_of_ble_eq_true rfl, Nat.le_of_ble_eq_true rfl⟩) rfl rfl hl.1 (Nat.le_of_ble_eq_true rfl) dX7_mark_34 ⟨Nat.zero_le _, Nat.zero_le _⟩ (fun H locs hW => ?_)
  refine n_if_eq_f (tgt := 42) X.1 X.2.1 dX7_mark_37 (by decide) (by decide) (by omega) ?_
  refine lv_iconst (v := nI 0) X.1 X.2.1 dX7_mark_40 (by decide) ?_
  exact hE _ _ _ _ _ (rfl) (fun ty hty => by cases hty; exact rfl) hW dX7_mark_41

set_option maxHeartbeats 4000000 in
set_option maxRecDepth 100000 in
theorem mt_mark_3 (l : Launch) {G : va_G} {cI cZ : ClassId} {q : Nat → Nat} (hq : mJ q) (T : mT) (D : mD) (th : Int32) (I : mI T) {i : Nat} {lm : Int32} (hi : i < 3) (hm : ¬ lm < 0) (h : clo T i) : mMi l yX7_mark wsX7_mark ({ frames := 1, cells := 0, slots := 0, locals := 21 } : Room) G cI cZ q [.int (nI (i)), .int (lm)] (T) (D) (th) (nI 0) (T) (D) (nI 3) := by
  refine mstarti (cc := cX7_mark) (maxL := 3) (ret := (some .int)) (by decide) rfl rfl ⟨_, rfl⟩ (Nat.le_of_ble_eq_true rfl) (fun p e s m args below meth c Q hE X hW ls hl => ?_)
  have hl : lv_has ls 3 [(0, .ref (q 0)), (1, .int (nI (i))), (2, .int (lm))] := hl
  have hin : ∀ w ∈ wsX70, w ∈ wsX7_mark := fun w h => List.mem_cons_of_mem _ (List.mem_append_left _ (List.mem_append_right _ (h)))
  refine lv_aload_n X.1 X.2.1 dX7_mark_0 rfl (lv_at hl 0 rfl) ?_
  refine lv_aload_n X.1 X.2.1 dX7_mark_1 rfl (lv_at hl 0 rfl) ?_
  refine lv_iload_n X.1 X.2.1 dX7_mark_2 rfl (lv_at hl 1 rfl) ?_
  refine mcalli hq X hW (mt_isOther_ok l hq (T) (D) (th) (r := i) (by omega)) (cwV 1 X.2.2.2.2 gX7_mark_X7_isOther rfl rfl rfl (by decide +kernel) ⟨Nat.le_of_ble_eq_true rfl, Nat.le_of_ble_eq_true rfl⟩) rfl rfl hl.1 (Nat.le_of_ble_eq_true rfl) dX7_mark_3 ⟨Nat.zero_le _, Nat.zero_le _⟩ (fun H locs hW => ?_)
  refine n_if_ne_t (tgt := 13) X.1 X.2.1 dX7_mark_6 (by decide) (by decide) (by omega) ?_
  refine lv_iload_n X.1 X.2.1 dX7_mark_13 rfl (lv_at hl 2 rfl) ?_
  refine x_if_ge_t (tgt := 21) X.1 X.2.1 dX7_mark_14 (by decide) (Int32.not_lt.mp hm) ?_
  refine lv_aload_n X.1 X.2.1 dX7_mark_21 rfl (lv_at hl 0 rfl) ?_
  refine lv_iload_n X.1 X.2.1 dX7_mark_22 rfl (lv_at hl 1 rfl) ?_
  refine mcalli hq X hW (mt_isClosed_1 l hq (T) (D) (th) I (i := i) (by omega) (h)) (cwV 1 X.2.2.2.2 gX7_mark_X7_isClosed rfl rfl rfl (by decide +kernel) ⟨Nat.le_of_ble_eq_true rfl, Nat.le_of_ble_eq_true rfl⟩) rfl rfl hl.1 (Nat.le_of_ble_eq_true rfl) dX7_mark_23 ⟨Nat.zero_le _, Nat.zero_le _⟩ (fun H locs hW => ?_)
  refine n_if_eq_f (tgt := 33) X.1 X.2.1 dX7_mark_26 (by decide) (by decide) (by omega) ?_
  refine lv_iconst (v := nI 3) X.1 X.2.1 dX7_mark_29 (by decide) ?_
  refine lv_goto (tgt := 34) X.1 X.2.1 dX7_mark_30 (by decide) ?_
  refine mcalli hq X hW (mt_isWrong_s l hq (T) (D) (th) (n := 3) (by decide) (by decide)) (cwV 1 X.2.2.2.2 gX7_mark_X7_isWrong rfl rfl rfl (by decide +kernel) ⟨Nat.le_of_ble_eq_true rfl, Nat.le_of_ble_eq_true rfl⟩) rfl rfl hl.1 (Nat.le_of_ble_eq_true rfl) dX7_mark_34 ⟨Nat.zero_le _, Nat.zero_le _⟩ (fun H locs hW => ?_)
  refine n_if_eq_f (tgt := 42) X.1 X.2.1 dX7_mark_37 (by decide) (by decide) (by omega) ?_
  refine lv_iconst (v := nI 0) X.1 X.2.1 dX7_mark_40 (by decide) ?_
  exact hE _ _ _ _ _ (rfl) (fun ty hty => by cases hty; exact rfl) hW dX7_mark_41

set_option maxHeartbeats 4000000 in
set_option maxRecDepth 100000 in
theorem mt_mark (l : Launch) {G : va_G} {cI cZ : ClassId} {q : Nat → Nat} (hq : mJ q) (T : mT) (D : mD) (th : Int32) (I : mI T) {i : Nat} {lm : Int32} (hi : i < 3) (hm : ¬ lm < 0) (h : ¬ clo T i) : mMi l yX7_mark wsX7_mark ({ frames := 1, cells := 0, slots := 0, locals := 21 } : Room) G cI cZ q [.int (nI (i)), .int (lm)] (T) (D) (th) (nI (T 10 i - T 9 i)) (u2 T 11 i (T 9 i)) (D) (nI 0) := by
  refine mstarti (cc := cX7_mark) (maxL := 3) (ret := (some .int)) (by decide) rfl rfl ⟨_, rfl⟩ (Nat.le_of_ble_eq_true rfl) (fun p e s m args below meth c Q hE X hW ls hl => ?_)
  have hl : lv_has ls 3 [(0, .ref (q 0)), (1, .int (nI (i))), (2, .int (lm))] := hl
  have hin : ∀ w ∈ wsX70, w ∈ wsX7_mark := fun w h => List.mem_cons_of_mem _ (List.mem_append_left _ (List.mem_append_right _ (h)))
  have I1 := I.rd hi
  refine lv_aload_n X.1 X.2.1 dX7_mark_0 rfl (lv_at hl 0 rfl) ?_
  refine lv_aload_n X.1 X.2.1 dX7_mark_1 rfl (lv_at hl 0 rfl) ?_
  refine lv_iload_n X.1 X.2.1 dX7_mark_2 rfl (lv_at hl 1 rfl) ?_
  refine mcalli hq X hW (mt_isOther_ok l hq (T) (D) (th) (r := i) (by omega)) (cwV 1 X.2.2.2.2 gX7_mark_X7_isOther rfl rfl rfl (by decide +kernel) ⟨Nat.le_of_ble_eq_true rfl, Nat.le_of_ble_eq_true rfl⟩) rfl rfl hl.1 (Nat.le_of_ble_eq_true rfl) dX7_mark_3 ⟨Nat.zero_le _, Nat.zero_le _⟩ (fun H locs hW => ?_)
  refine n_if_ne_t (tgt := 13) X.1 X.2.1 dX7_mark_6 (by decide) (by decide) (by omega) ?_
  refine lv_iload_n X.1 X.2.1 dX7_mark_13 rfl (lv_at hl 2 rfl) ?_
  refine x_if_ge_t (tgt := 21) X.1 X.2.1 dX7_mark_14 (by decide) (Int32.not_lt.mp hm) ?_
  refine lv_aload_n X.1 X.2.1 dX7_mark_21 rfl (lv_at hl 0 rfl) ?_
  refine lv_iload_n X.1 X.2.1 dX7_mark_22 rfl (lv_at hl 1 rfl) ?_
  refine mcalli hq X hW (mt_isClosed_o l hq (T) (D) (th) I (i := i) (by omega) (h)) (cwV 1 X.2.2.2.2 gX7_mark_X7_isClosed rfl rfl rfl (by decide +kernel) ⟨Nat.le_of_ble_eq_true rfl, Nat.le_of_ble_eq_true rfl⟩) rfl rfl hl.1 (Nat.le_of_ble_eq_true rfl) dX7_mark_23 ⟨Nat.zero_le _, Nat.zero_le _⟩ (fun H locs hW => ?_)
  refine n_if_eq_t (tgt := 33) X.1 X.2.1 dX7_mark_26 (by decide) (by decide) (by omega) ?_
  refine lv_iconst (v := nI 0) X.1 X.2.1 dX7_mark_33 (by decide) ?_
  refine mcalli hq X hW (mt_isWrong_0 l hq (T) (D) (th)) (cwV 1 X.2.2.2.2 gX7_mark_X7_isWrong rfl rfl rfl (by decide +kernel) ⟨Nat.le_of_ble_eq_true rfl, Nat.le_of_ble_eq_true rfl⟩) rfl rfl hl.1 (Nat.le_of_ble_eq_true rfl) dX7_mark_34 ⟨Nat.zero_le _, Nat.zero_le _⟩ (fun H locs hW => ?_)
  refine n_if_eq_t (tgt := 42) X.1 X.2.1 dX7_mark_37 (by decide) (by decide) (by omega) ?_
  refine lv_aload_n X.1 X.2.1 dX7_mark_42 rfl (lv_at hl 0 rfl) ?_
  refine mget 11 (by decide) rfl X hin hW (X.2.2.2.2 (.fieldLink RX7 43 "StrandbookModel" "marks" "[I") (List.mem_cons_of_mem _ (List.mem_append_left _ (List.mem_append_left _ (List.mem_of_getElem? (i := 0) rfl))))) dX7_mark_43 ?_
  refine lv_iload_n X.1 X.2.1 dX7_mark_46 rfl (lv_at hl 1 rfl) ?_
  refine lv_aload_n X.1 X.2.1 dX7_mark_47 rfl (lv_at hl 0 rfl) ?_
  refine mget 9 (by decide) rfl X hin hW (X.2.2.2.2 (.fieldLink RX7 37 "StrandbookModel" "places" "[I") (List.mem_cons_of_mem _ (List.mem_append_left _ (List.mem_append_left _ (List.mem_of_getElem? (i := 1) rfl))))) dX7_mark_48 ?_
  refine lv_iload_n X.1 X.2.1 dX7_mark_51 rfl (lv_at hl 1 rfl) ?_
  refine mld9 X hW (by omega) dX7_mark_52 ?_
  refine mst11 hq X hW (by omega) dX7_mark_53 (fun H locs hW => ?_)
  refine lv_aload_n X.1 X.2.1 dX7_mark_54 rfl (lv_at hl 0 rfl) ?_
  refine mget 10 (by decide) rfl X hin hW (X.2.2.2.2 (.fieldLink RX7 40 "StrandbookModel" "ends" "[I") (List.mem_cons_of_mem _ (List.mem_append_left _ (List.mem_append_left _ (List.mem_of_getElem? (i := 2) rfl))))) dX7_mark_55 ?_
  refine lv_iload_n X.1 X.2.1 dX7_mark_58 rfl (lv_at hl 1 rfl) ?_
  refine mld10 X hW (by omega) dX7_mark_59 ?_
  refine n_cv (y := nI (T 10 (i))) (congrArg nI (congrFun (u2_ne (by decide)) _)) ?_
  refine lv_aload_n X.1 X.2.1 dX7_mark_60 rfl (lv_at hl 0 rfl) ?_
  refine mget 9 (by decide) rfl X hin hW (X.2.2.2.2 (.fieldLink RX7 37 "StrandbookModel" "places" "[I") (List.mem_cons_of_mem _ (List.mem_append_left _ (List.mem_append_left _ (List.mem_of_getElem? (i := 1) rfl))))) dX7_mark_61 ?_
  refine lv_iload_n X.1 X.2.1 dX7_mark_64 rfl (lv_at hl 1 rfl) ?_
  refine mld9 X hW (by omega) dX7_mark_65 ?_
  refine n_cv (y := nI (T 9 (i))) (congrArg nI (congrFun (u2_ne (by decide)) _)) ?_
  refine n_isub X.1 X.2.1 (by omega) dX7_mark_66 ?_
  exact hE _ _ _ _ _ (rfl) (fun ty hty => by cases hty; exact rfl) hW dX7_mark_67

theorem mo_mark (l : Launch) {G : va_G} {cI cZ : ClassId} {q : Nat → Nat} (hq : mJ q) (T : mT) (D : mD) (th : Int32) (I : mI T) (J : mJD D) (i m : Int32) : mO l yX7_mark wsX7_mark ({ frames := 1, cells := 0, slots := 0, locals := 21 } : Room) G cI cZ q [.int i, .int m] T D th (sp_mark T D i m) := by
  by_cases h1 : oN i 3
  · rw [show sp_mark T D i m = no T D 1 from if_pos h1]; exact mt_mark_1 l hq T D th h1
  · obtain ⟨i, hi, rfl⟩ := oN_in (by decide) h1
    have hc : (nI i).toNatClampNeg = i := nI_clamp (by omega)
    by_cases hm : m < 0
    · rw [show sp_mark T D (nI i) m = no T D 2 from (if_neg h1).trans (if_pos hm)]; exact mt_mark_2 l hq T D th hi hm
    · by_cases h2 : clo T i
      · rw [show sp_mark T D (nI i) m = no T D 3 from (if_neg h1).trans ((if_neg hm).trans (if_pos (by rw [hc]; exact h2)))]; exact mt_mark_3 l hq T D th I hi hm h2
      · rw [show sp_mark T D (nI i) m = (0, nI (T 10 i - T 9 i), u2 T 11 i (T 9 i), D) from (if_neg h1).trans ((if_neg hm).trans ((if_neg (by rw [hc]; exact h2)).trans (by rw [hc])))]; exact mt_mark l hq T D th I hi hm h2

set_option maxHeartbeats 4000000 in
set_option maxRecDepth 100000 in
theorem mt_readPart_1a (l : Launch) {G : va_G} {cI cZ : ClassId} {q : Nat → Nat} (hq : mJ q) (T : mT) (D : mD) (th : Int32) {i row f n : Int32} (h : oN i 3) : mMi l yX7_readPart wsX7_readPart ({ frames := 2, cells := 0, slots := 0, locals := 44 } : Room) G cI cZ q [.int (i), .int (row), .int (f), .int (n)] (T) (D) (th) (nI 0) (T) (D) (nI 1) := by
  refine mstarti (cc := cX7_readPart) (maxL := 8) (ret := (some .int)) (by decide) rfl rfl ⟨_, rfl⟩ (Nat.le_of_ble_eq_true rfl) (fun p e s m args below meth c Q hE X hW ls hl => ?_)
  have hl : lv_has ls 8 [(0, .ref (q 0)), (1, .int (i)), (2, .int (row)), (3, .int (f)), (4, .int (n))] := hl
  have hin : ∀ w ∈ wsX70, w ∈ wsX7_readPart := fun w h => List.mem_cons_of_mem _ (List.mem_append_left _ (List.mem_append_right _ (h)))
  refine lv_aload_n X.1 X.2.1 dX7_readPart_0 rfl (lv_at hl 0 rfl) ?_
  refine lv_iload_n X.1 X.2.1 dX7_readPart_1 rfl (lv_at hl 1 rfl) ?_
  refine mcalli hq X hW (mt_isOther_bad l hq (T) (D) (th) (x := i) (h)) (cwV 1 X.2.2.2.2 gX7_readPart_X7_isOther rfl rfl rfl (by decide +kernel) ⟨Nat.le_of_ble_eq_true rfl, Nat.le_of_ble_eq_true rfl⟩) rfl rfl hl.1 (Nat.le_of_ble_eq_true rfl) dX7_readPart_2 ⟨Nat.zero_le _, Nat.zero_le _⟩ (fun H locs hW => ?_)
  refine n_if_eq_t (tgt := 33) X.1 X.2.1 dX7_readPart_5 (by decide) (by decide) (by omega) ?_
  refine lv_iconst (v := nI 0) X.1 X.2.1 dX7_readPart_33 (by decide) ?_
  refine lv_istore (lv' := [(5, .int (nI (0))), (0, .ref (q 0)), (1, .int (i)), (2, .int (row)), (3, .int (f)), (4, .int (n))]) X.1 X.2.1 dX7_readPart_34 hl (by decide) rfl (fun ls hl => ?_)
  refine lv_aload_n X.1 X.2.1 dX7_readPart_36 rfl (lv_at hl 1 rfl) ?_
  refine lv_iload X.1 X.2.1 dX7_readPart_37 (lv_at hl 0 rfl) ?_
  refine n_if_eq_t (tgt := 47) X.1 X.2.1 dX7_readPart_39 (by decide) (by decide) (by omega) ?_
  refine lv_iconst (v := nI 1) X.1 X.2.1 dX7_readPart_47 (by decide) ?_
  refine lv_goto (tgt := 93) X.1 X.2.1 dX7_readPart_48 (by decide) ?_
  refine mcalli hq X hW (mt_isWrong_s l hq (T) (D) (th) (n := 1) (by decide) (by decide)) (cwV 1 X.2.2.2.2 gX7_readPart_X7_isWrong rfl rfl rfl (by decide +kernel) ⟨Nat.le_of_ble_eq_true rfl, Nat.le_of_ble_eq_true rfl⟩) rfl rfl hl.1 (Nat.le_of_ble_eq_true rfl) dX7_readPart_93 ⟨Nat.zero_le _, Nat.zero_le _⟩ (fun H locs hW => ?_)
  refine n_if_eq_f (tgt := 101) X.1 X.2.1 dX7_readPart_96 (by decide) (by decide) (by omega) ?_
  refine lv_iconst (v := nI 0) X.1 X.2.1 dX7_readPart_99 (by decide) ?_
  exact hE _ _ _ _ _ (rfl) (fun ty hty => by cases hty; exact rfl) hW dX7_readPart_100

set_option maxHeartbeats 4000000 in
set_option maxRecDepth 100000 in
theorem mt_readPart_1bx (l : Launch) {G : va_G} {cI cZ : ClassId} {q : Nat → Nat} (hq : mJ q) (T : mT) (D : mD) (th : Int32) {i : Nat} {row f n : Int32} (hi : i < 3) (h : oN row 4) (hn : ¬ nI 1 ≤ n) : mMi l yX7_readPart wsX7_readPart ({ frames := 2, cells := 0, slots := 0, locals := 44 } : Room) G cI cZ q [.int (nI (i)), .int (row), .int (f), .int (n)] (T) (D) (th) (nI 0) (T) (D) (nI 1) := by
  refine mstarti (cc := cX7_readPart) (maxL := 8) (ret := (some .int)) (by decide) rfl rfl ⟨_, rfl⟩ (Nat.le_of_ble_eq_true rfl) (fun p e s m args below meth c Q hE X hW ls hl => ?_)
  have hl : lv_has ls 8 [(0, .ref (q 0)), (1, .int (nI (i))), (2, .int (row)), (3, .int (f)), (4, .int (n))] := hl
  have hin : ∀ w ∈ wsX70, w ∈ wsX7_readPart := fun w h => List.mem_cons_of_mem _ (List.mem_append_left _ (List.mem_append_right _ (h)))
  refine lv_aload_n X.1 X.2.1 dX7_readPart_0 rfl (lv_at hl 0 rfl) ?_
  refine lv_iload_n X.1 X.2.1 dX7_readPart_1 rfl (lv_at hl 1 rfl) ?_
  refine mcalli hq X hW (mt_isOther_ok l hq (T) (D) (th) (r := i) (by omega)) (cwV 1 X.2.2.2.2 gX7_readPart_X7_isOther rfl rfl rfl (by decide +kernel) ⟨Nat.le_of_ble_eq_true rfl, Nat.le_of_ble_eq_true rfl⟩) rfl rfl hl.1 (Nat.le_of_ble_eq_true rfl) dX7_readPart_2 ⟨Nat.zero_le _, Nat.zero_le _⟩ (fun H locs hW => ?_)
  refine n_if_eq_f (tgt := 33) X.1 X.2.1 dX7_readPart_5 (by decide) (by decide) (by omega) ?_
  refine lv_aload_n X.1 X.2.1 dX7_readPart_8 rfl (lv_at hl 0 rfl) ?_
  refine lv_iload_n X.1 X.2.1 dX7_readPart_9 rfl (lv_at hl 2 rfl) ?_
  refine lv_iload_n X.1 X.2.1 dX7_readPart_10 rfl (lv_at hl 3 rfl) ?_
  refine lv_iload X.1 X.2.1 dX7_readPart_11 (lv_at hl 4 rfl) ?_
  refine lv_iconst (v := nI 1) X.1 X.2.1 dX7_readPart_13 (by decide) ?_
  refine x_icmp_ge_f (tgt := 21) X.1 X.2.1 dX7_readPart_14 (by decide) (hn) ?_
  refine lv_iconst (v := nI 0) X.1 X.2.1 dX7_readPart_17 (by decide) ?_
  refine lv_goto (tgt := 23) X.1 X.2.1 dX7_readPart_18 (by decide) ?_
  refine mcalli hq X hW (mt_isPart_b0 l hq T D th (x := row) (y := f) (z := nI 0) h) (cwV 3 X.2.2.2.2 gX7_readPart_X7_isPart rfl rfl rfl (by decide +kernel) ⟨Nat.le_of_ble_eq_true rfl, Nat.le_of_ble_eq_true rfl⟩) rfl rfl hl.1 (Nat.le_of_ble_eq_true rfl) dX7_readPart_23 ⟨Nat.zero_le _, Nat.zero_le _⟩ (fun H locs hW => ?_)
  refine n_if_eq_t (tgt := 33) X.1 X.2.1 dX7_readPart_26 (by decide) (by decide) (by omega) ?_
  refine lv_iconst (v := nI 0) X.1 X.2.1 dX7_readPart_33 (by decide) ?_
  refine lv_istore (lv' := [(5, .int (nI (0))), (0, .ref (q 0)), (1, .int (nI (i))), (2, .int (row)), (3, .int (f)), (4, .int (n))]) X.1 X.2.1 dX7_readPart_34 hl (by decide) rfl (fun ls hl => ?_)
  refine lv_aload_n X.1 X.2.1 dX7_readPart_36 rfl (lv_at hl 1 rfl) ?_
  refine lv_iload X.1 X.2.1 dX7_readPart_37 (lv_at hl 0 rfl) ?_
  refine n_if_eq_t (tgt := 47) X.1 X.2.1 dX7_readPart_39 (by decide) (by decide) (by omega) ?_
  refine lv_iconst (v := nI 1) X.1 X.2.1 dX7_readPart_47 (by decide) ?_
  refine lv_goto (tgt := 93) X.1 X.2.1 dX7_readPart_48 (by decide) ?_
  refine mcalli hq X hW (mt_isWrong_s l hq (T) (D) (th) (n := 1) (by decide) (by decide)) (cwV 1 X.2.2.2.2 gX7_readPart_X7_isWrong rfl rfl rfl (by decide +kernel) ⟨Nat.le_of_ble_eq_true rfl, Nat.le_of_ble_eq_true rfl⟩) rfl rfl hl.1 (Nat.le_of_ble_eq_true rfl) dX7_readPart_93 ⟨Nat.zero_le _, Nat.zero_le _⟩ (fun H locs hW => ?_)
  refine n_if_eq_f (tgt := 101) X.1 X.2.1 dX7_readPart_96 (by decide) (by decide) (by omega) ?_
  refine lv_iconst (v := nI 0) X.1 X.2.1 dX7_readPart_99 (by decide) ?_
  exact hE _ _ _ _ _ (rfl) (fun ty hty => by cases hty; exact rfl) hW dX7_readPart_100

set_option maxHeartbeats 4000000 in
set_option maxRecDepth 100000 in
theorem mt_readPart_1by (l : Launch) {G : va_G} {cI cZ : ClassId} {q : Nat → Nat} (hq : mJ q) (T : mT) (D : mD) (th : Int32) {i : Nat} {row f n : Int32} (hi : i < 3) (h : oN row 4) (hn : nI 1 ≤ n) : mMi l yX7_readPart wsX7_readPart ({ frames := 2, cells := 0, slots := 0, locals := 44 } : Room) G cI cZ q [.int (nI (i)), .int (row), .int (f), .int (n)] (T) (D) (th) (nI 0) (T) (D) (nI 1) := by
  refine mstarti (cc := cX7_readPart) (maxL := 8) (ret := (some .int)) (by decide) rfl rfl ⟨_, rfl⟩ (Nat.le_of_ble_eq_true rfl) (fun p e s m args below meth c Q hE X hW ls hl => ?_)
  have hl : lv_has ls 8 [(0, .ref (q 0)), (1, .int (nI (i))), (2, .int (row)), (3, .int (f)), (4, .int (n))] := hl
  have hin : ∀ w ∈ wsX70, w ∈ wsX7_readPart := fun w h => List.mem_cons_of_mem _ (List.mem_append_left _ (List.mem_append_right _ (h)))
  refine lv_aload_n X.1 X.2.1 dX7_readPart_0 rfl (lv_at hl 0 rfl) ?_
  refine lv_iload_n X.1 X.2.1 dX7_readPart_1 rfl (lv_at hl 1 rfl) ?_
  refine mcalli hq X hW (mt_isOther_ok l hq (T) (D) (th) (r := i) (by omega)) (cwV 1 X.2.2.2.2 gX7_readPart_X7_isOther rfl rfl rfl (by decide +kernel) ⟨Nat.le_of_ble_eq_true rfl, Nat.le_of_ble_eq_true rfl⟩) rfl rfl hl.1 (Nat.le_of_ble_eq_true rfl) dX7_readPart_2 ⟨Nat.zero_le _, Nat.zero_le _⟩ (fun H locs hW => ?_)
  refine n_if_eq_f (tgt := 33) X.1 X.2.1 dX7_readPart_5 (by decide) (by decide) (by omega) ?_
  refine lv_aload_n X.1 X.2.1 dX7_readPart_8 rfl (lv_at hl 0 rfl) ?_
  refine lv_iload_n X.1 X.2.1 dX7_readPart_9 rfl (lv_at hl 2 rfl) ?_
  refine lv_iload_n X.1 X.2.1 dX7_readPart_10 rfl (lv_at hl 3 rfl) ?_
  refine lv_iload X.1 X.2.1 dX7_readPart_11 (lv_at hl 4 rfl) ?_
  refine lv_iconst (v := nI 1) X.1 X.2.1 dX7_readPart_13 (by decide) ?_
  refine x_icmp_ge_t (tgt := 21) X.1 X.2.1 dX7_readPart_14 (by decide) (hn) ?_
  refine lv_iload X.1 X.2.1 dX7_readPart_21 (lv_at hl 4 rfl) ?_
  refine mcalli hq X hW (mt_isPart_b0 l hq T D th (x := row) (y := f) (z := n) h) (cwV 3 X.2.2.2.2 gX7_readPart_X7_isPart rfl rfl rfl (by decide +kernel) ⟨Nat.le_of_ble_eq_true rfl, Nat.le_of_ble_eq_true rfl⟩) rfl rfl hl.1 (Nat.le_of_ble_eq_true rfl) dX7_readPart_23 ⟨Nat.zero_le _, Nat.zero_le _⟩ (fun H locs hW => ?_)
  refine n_if_eq_t (tgt := 33) X.1 X.2.1 dX7_readPart_26 (by decide) (by decide) (by omega) ?_
  refine lv_iconst (v := nI 0) X.1 X.2.1 dX7_readPart_33 (by decide) ?_
  refine lv_istore (lv' := [(5, .int (nI (0))), (0, .ref (q 0)), (1, .int (nI (i))), (2, .int (row)), (3, .int (f)), (4, .int (n))]) X.1 X.2.1 dX7_readPart_34 hl (by decide) rfl (fun ls hl => ?_)
  refine lv_aload_n X.1 X.2.1 dX7_readPart_36 rfl (lv_at hl 1 rfl) ?_
  refine lv_iload X.1 X.2.1 dX7_readPart_37 (lv_at hl 0 rfl) ?_
  refine n_if_eq_t (tgt := 47) X.1 X.2.1 dX7_readPart_39 (by decide) (by decide) (by omega) ?_
  refine lv_iconst (v := nI 1) X.1 X.2.1 dX7_readPart_47 (by decide) ?_
  refine lv_goto (tgt := 93) X.1 X.2.1 dX7_readPart_48 (by decide) ?_
  refine mcalli hq X hW (mt_isWrong_s l hq (T) (D) (th) (n := 1) (by decide) (by decide)) (cwV 1 X.2.2.2.2 gX7_readPart_X7_isWrong rfl rfl rfl (by decide +kernel) ⟨Nat.le_of_ble_eq_true rfl, Nat.le_of_ble_eq_true rfl⟩) rfl rfl hl.1 (Nat.le_of_ble_eq_true rfl) dX7_readPart_93 ⟨Nat.zero_le _, Nat.zero_le _⟩ (fun H locs hW => ?_)
  refine n_if_eq_f (tgt := 101) X.1 X.2.1 dX7_readPart_96 (by decide) (by decide) (by omega) ?_
  refine lv_iconst (v := nI 0) X.1 X.2.1 dX7_readPart_99 (by decide) ?_
  exact hE _ _ _ _ _ (rfl) (fun ty hty => by cases hty; exact rfl) hW dX7_readPart_100

set_option maxHeartbeats 4000000 in
set_option maxRecDepth 100000 in
theorem mt_readPart_1c (l : Launch) {G : va_G} {cI cZ : ClassId} {q : Nat → Nat} (hq : mJ q) (T : mT) (D : mD) (th : Int32) (I : mI T) {i r : Nat} {f n : Int32} (hi : i < 3) (hr : r < 4) (hn : nI 1 ≤ n) (h : oP (T 1 (T 2 r)) f n) : mMi l yX7_readPart wsX7_readPart ({ frames := 2, cells := 0, slots := 0, locals := 44 } : Room) G cI cZ q [.int (nI (i)), .int (nI (r)), .int (f), .int (n)] (T) (D) (th) (nI 0) (T) (D) (nI 1) := by
  refine mstarti (cc := cX7_readPart) (maxL := 8) (ret := (some .int)) (by decide) rfl rfl ⟨_, rfl⟩ (Nat.le_of_ble_eq_true rfl) (fun p e s m args below meth c Q hE X hW ls hl => ?_)
  have hl : lv_has ls 8 [(0, .ref (q 0)), (1, .int (nI (i))), (2, .int (nI (r))), (3, .int (f)), (4, .int (n))] := hl
  have hin : ∀ w ∈ wsX70, w ∈ wsX7_readPart := fun w h => List.mem_cons_of_mem _ (List.mem_append_left _ (List.mem_append_right _ (h)))
  refine lv_aload_n X.1 X.2.1 dX7_readPart_0 rfl (lv_at hl 0 rfl) ?_
  refine lv_iload_n X.1 X.2.1 dX7_readPart_1 rfl (lv_at hl 1 rfl) ?_
  refine mcalli hq X hW (mt_isOther_ok l hq (T) (D) (th) (r := i) (by omega)) (cwV 1 X.2.2.2.2 gX7_readPart_X7_isOther rfl rfl rfl (by decide +kernel) ⟨Nat.le_of_ble_eq_true rfl, Nat.le_of_ble_eq_true rfl⟩) rfl rfl hl.1 (Nat.le_of_ble_eq_true rfl) dX7_readPart_2 ⟨Nat.zero_le _, Nat.zero_le _⟩ (fun H locs hW => ?_)
  refine n_if_eq_f (tgt := 33) X.1 X.2.1 dX7_readPart_5 (by decide) (by decide) (by omega) ?_
  refine lv_aload_n X.1 X.2.1 dX7_readPart_8 rfl (lv_at hl 0 rfl) ?_
  refine lv_iload_n X.1 X.2.1 dX7_readPart_9 rfl (lv_at hl 2 rfl) ?_
  refine lv_iload_n X.1 X.2.1 dX7_readPart_10 rfl (lv_at hl 3 rfl) ?_
  refine lv_iload X.1 X.2.1 dX7_readPart_11 (lv_at hl 4 rfl) ?_
  refine lv_iconst (v := nI 1) X.1 X.2.1 dX7_readPart_13 (by decide) ?_
  refine x_icmp_ge_t (tgt := 21) X.1 X.2.1 dX7_readPart_14 (by decide) (hn) ?_
  refine lv_iload X.1 X.2.1 dX7_readPart_21 (lv_at hl 4 rfl) ?_
  refine mcalli hq X hW (mt_isPart_bad l hq T D th I (r := r) hr h) (cwV 3 X.2.2.2.2 gX7_readPart_X7_isPart rfl rfl rfl (by decide +kernel) ⟨Nat.le_of_ble_eq_true rfl, Nat.le_of_ble_eq_true rfl⟩) rfl rfl hl.1 (Nat.le_of_ble_eq_true rfl) dX7_readPart_23 ⟨Nat.zero_le _, Nat.zero_le _⟩ (fun H locs hW => ?_)
  refine n_if_eq_t (tgt := 33) X.1 X.2.1 dX7_readPart_26 (by decide) (by decide) (by omega) ?_
  refine lv_iconst (v := nI 0) X.1 X.2.1 dX7_readPart_33 (by decide) ?_
  refine lv_istore (lv' := [(5, .int (nI (0))), (0, .ref (q 0)), (1, .int (nI (i))), (2, .int (nI (r))), (3, .int (f)), (4, .int (n))]) X.1 X.2.1 dX7_readPart_34 hl (by decide) rfl (fun ls hl => ?_)
  refine lv_aload_n X.1 X.2.1 dX7_readPart_36 rfl (lv_at hl 1 rfl) ?_
  refine lv_iload X.1 X.2.1 dX7_readPart_37 (lv_at hl 0 rfl) ?_
  refine n_if_eq_t (tgt := 47) X.1 X.2.1 dX7_readPart_39 (by decide) (by decide) (by omega) ?_
  refine lv_iconst (v := nI 1) X.1 X.2.1 dX7_readPart_47 (by decide) ?_
  refine lv_goto (tgt := 93) X.1 X.2.1 dX7_readPart_48 (by decide) ?_
  refine mcalli hq X hW (mt_isWrong_s l hq (T) (D) (th) (n := 1) (by decide) (by decide)) (cwV 1 X.2.2.2.2 gX7_readPart_X7_isWrong rfl rfl rfl (by decide +kernel) ⟨Nat.le_of_ble_eq_true rfl, Nat.le_of_ble_eq_true rfl⟩) rfl rfl hl.1 (Nat.le_of_ble_eq_true rfl) dX7_readPart_93 ⟨Nat.zero_le _, Nat.zero_le _⟩ (fun H locs hW => ?_)
  refine n_if_eq_f (tgt := 101) X.1 X.2.1 dX7_readPart_96 (by decide) (by decide) (by omega) ?_
  refine lv_iconst (v := nI 0) X.1 X.2.1 dX7_readPart_99 (by decide) ?_
  exact hE _ _ _ _ _ (rfl) (fun ty hty => by cases hty; exact rfl) hW dX7_readPart_100

set_option maxHeartbeats 4000000 in
set_option maxRecDepth 100000 in
theorem mt_readPart_1d (l : Launch) {G : va_G} {cI cZ : ClassId} {q : Nat → Nat} (hq : mJ q) (T : mT) (D : mD) (th : Int32) (I : mI T) {i r : Nat} {f n : Int32} (hi : i < 3) (hr : r < 4) (hn : ¬ nI 1 ≤ n) (h : oP (T 1 (T 2 r)) f (nI 0)) : mMi l yX7_readPart wsX7_readPart ({ frames := 2, cells := 0, slots := 0, locals := 44 } : Room) G cI cZ q [.int (nI (i)), .int (nI (r)), .int (f), .int (n)] (T) (D) (th) (nI 0) (T) (D) (nI 1) := by
  refine mstarti (cc := cX7_readPart) (maxL := 8) (ret := (some .int)) (by decide) rfl rfl ⟨_, rfl⟩ (Nat.le_of_ble_eq_true rfl) (fun p e s m args below meth c Q hE X hW ls hl => ?_)
  have hl : lv_has ls 8 [(0, .ref (q 0)), (1, .int (nI (i))), (2, .int (nI (r))), (3, .int (f)), (4, .int (n))] := hl
  have hin : ∀ w ∈ wsX70, w ∈ wsX7_readPart := fun w h => List.mem_cons_of_mem _ (List.mem_append_left _ (List.mem_append_right _ (h)))
  refine lv_aload_n X.1 X.2.1 dX7_readPart_0 rfl (lv_at hl 0 rfl) ?_
  refine lv_iload_n X.1 X.2.1 dX7_readPart_1 rfl (lv_at hl 1 rfl) ?_
  refine mcalli hq X hW (mt_isOther_ok l hq (T) (D) (th) (r := i) (by omega)) (cwV 1 X.2.2.2.2 gX7_readPart_X7_isOther rfl rfl rfl (by decide +kernel) ⟨Nat.le_of_ble_eq_true rfl, Nat.le_of_ble_eq_true rfl⟩) rfl rfl hl.1 (Nat.le_of_ble_eq_true rfl) dX7_readPart_2 ⟨Nat.zero_le _, Nat.zero_le _⟩ (fun H locs hW => ?_)
  refine n_if_eq_f (tgt := 33) X.1 X.2.1 dX7_readPart_5 (by decide) (by decide) (by omega) ?_
  refine lv_aload_n X.1 X.2.1 dX7_readPart_8 rfl (lv_at hl 0 rfl) ?_
  refine lv_iload_n X.1 X.2.1 dX7_readPart_9 rfl (lv_at hl 2 rfl) ?_
  refine lv_iload_n X.1 X.2.1 dX7_readPart_10 rfl (lv_at hl 3 rfl) ?_
  refine lv_iload X.1 X.2.1 dX7_readPart_11 (lv_at hl 4 rfl) ?_
  refine lv_iconst (v := nI 1) X.1 X.2.1 dX7_readPart_13 (by decide) ?_
  refine x_icmp_ge_f (tgt := 21) X.1 X.2.1 dX7_readPart_14 (by decide) (hn) ?_
  refine lv_iconst (v := nI 0) X.1 X.2.1 dX7_readPart_17 (by decide) ?_
  refine lv_goto (tgt := 23) X.1 X.2.1 dX7_readPart_18 (by decide) ?_
  refine mcalli hq X hW (mt_isPart_bad l hq T D th I (r := r) hr h) (cwV 3 X.2.2.2.2 gX7_readPart_X7_isPart rfl rfl rfl (by decide +kernel) ⟨Nat.le_of_ble_eq_true rfl, Nat.le_of_ble_eq_true rfl⟩) rfl rfl hl.1 (Nat.le_of_ble_eq_true rfl) dX7_readPart_23 ⟨Nat.zero_le _, Nat.zero_le _⟩ (fun H locs hW => ?_)
  refine n_if_eq_t (tgt := 33) X.1 X.2.1 dX7_readPart_26 (by decide) (by decide) (by omega) ?_
  refine lv_iconst (v := nI 0) X.1 X.2.1 dX7_readPart_33 (by decide) ?_
  refine lv_istore (lv' := [(5, .int (nI (0))), (0, .ref (q 0)), (1, .int (nI (i))), (2, .int (nI (r))), (3, .int (f)), (4, .int (n))]) X.1 X.2.1 dX7_readPart_34 hl (by decide) rfl (fun ls hl => ?_)
  refine lv_aload_n X.1 X.2.1 dX7_readPart_36 rfl (lv_at hl 1 rfl) ?_
  refine lv_iload X.1 X.2.1 dX7_readPart_37 (lv_at hl 0 rfl) ?_
  refine n_if_eq_t (tgt := 47) X.1 X.2.1 dX7_readPart_39 (by decide) (by decide) (by omega) ?_
  refine lv_iconst (v := nI 1) X.1 X.2.1 dX7_readPart_47 (by decide) ?_
  refine lv_goto (tgt := 93) X.1 X.2.1 dX7_readPart_48 (by decide) ?_
  refine mcalli hq X hW (mt_isWrong_s l hq (T) (D) (th) (n := 1) (by decide) (by decide)) (cwV 1 X.2.2.2.2 gX7_readPart_X7_isWrong rfl rfl rfl (by decide +kernel) ⟨Nat.le_of_ble_eq_true rfl, Nat.le_of_ble_eq_true rfl⟩) rfl rfl hl.1 (Nat.le_of_ble_eq_true rfl) dX7_readPart_93 ⟨Nat.zero_le _, Nat.zero_le _⟩ (fun H locs hW => ?_)
  refine n_if_eq_f (tgt := 101) X.1 X.2.1 dX7_readPart_96 (by decide) (by decide) (by omega) ?_
  refine lv_iconst (v := nI 0) X.1 X.2.1 dX7_readPart_99 (by decide) ?_
  exact hE _ _ _ _ _ (rfl) (fun ty hty => by cases hty; exact rfl) hW dX7_readPart_100

set_option maxHeartbeats 4000000 in
set_option maxRecDepth 100000 in
theorem mt_readPart_1e (l : Launch) {G : va_G} {cI cZ : ClassId} {q : Nat → Nat} (hq : mJ q) (T : mT) (D : mD) (th : Int32) (I : mI T) {i r f : Nat} {n : Int32} (hi : i < 3) (hr : r < 4) (hf : f ≤ T 1 (T 2 r)) (hn : ¬ nI 1 ≤ n) (h : n < 0) : mMi l yX7_readPart wsX7_readPart ({ frames := 2, cells := 0, slots := 0, locals := 44 } : Room) G cI cZ q [.int (nI (i)), .int (nI (r)), .int (nI (f)), .int (n)] (T) (D) (th) (nI 0) (T) (D) (nI 1) := by
  refine mstarti (cc := cX7_readPart) (maxL := 8) (ret := (some .int)) (by decide) rfl rfl ⟨_, rfl⟩ (Nat.le_of_ble_eq_true rfl) (fun p e s m args below meth c Q hE X hW ls hl => ?_)
  have hl : lv_has ls 8 [(0, .ref (q 0)), (1, .int (nI (i))), (2, .int (nI (r))), (3, .int (nI (f))), (4, .int (n))] := hl
  have hin : ∀ w ∈ wsX70, w ∈ wsX7_readPart := fun w h => List.mem_cons_of_mem _ (List.mem_append_left _ (List.mem_append_right _ (h)))
  have I2 := I.sr hr
  have I3 := I.sl I2
  refine lv_aload_n X.1 X.2.1 dX7_readPart_0 rfl (lv_at hl 0 rfl) ?_
  refine lv_iload_n X.1 X.2.1 dX7_readPart_1 rfl (lv_at hl 1 rfl) ?_
  refine mcalli hq X hW (mt_isOther_ok l hq (T) (D) (th) (r := i) (by omega)) (cwV 1 X.2.2.2.2 gX7_readPart_X7_isOther rfl rfl rfl (by decide +kernel) ⟨Nat.le_of_ble_eq_true rfl, Nat.le_of_ble_eq_true rfl⟩) rfl rfl hl.1 (Nat.le_of_ble_eq_true rfl) dX7_readPart_2 ⟨Nat.zero_le _, Nat.zero_le _⟩ (fun H locs hW => ?_)
  refine n_if_eq_f (tgt := 33) X.1 X.2.1 dX7_readPart_5 (by decide) (by decide) (by omega) ?_
  refine lv_aload_n X.1 X.2.1 dX7_readPart_8 rfl (lv_at hl 0 rfl) ?_
  refine lv_iload_n X.1 X.2.1 dX7_readPart_9 rfl (lv_at hl 2 rfl) ?_
  refine lv_iload_n X.1 X.2.1 dX7_readPart_10 rfl (lv_at hl 3 rfl) ?_
  refine lv_iload X.1 X.2.1 dX7_readPart_11 (lv_at hl 4 rfl) ?_
  refine lv_iconst (v := nI 1) X.1 X.2.1 dX7_readPart_13 (by decide) ?_
  refine x_icmp_ge_f (tgt := 21) X.1 X.2.1 dX7_readPart_14 (by decide) (hn) ?_
  refine lv_iconst (v := nI 0) X.1 X.2.1 dX7_readPart_17 (by decide) ?_
  refine lv_goto (tgt := 23) X.1 X.2.1 dX7_readPart_18 (by decide) ?_
  refine mcalli hq X hW (mt_isPart_ok l hq T D th I (r := r) (f := f) (n := 0) hr (by omega)) (cwV 3 X.2.2.2.2 gX7_readPart_X7_isPart rfl rfl rfl (by decide +kernel) ⟨Nat.le_of_ble_eq_true rfl, Nat.le_of_ble_eq_true rfl⟩) rfl rfl hl.1 (Nat.le_of_ble_eq_true rfl) dX7_readPart_23 ⟨Nat.zero_le _, Nat.zero_le _⟩ (fun H locs hW => ?_)
  refine n_if_eq_f (tgt := 33) X.1 X.2.1 dX7_readPart_26 (by decide) (by decide) (by omega) ?_
  refine lv_iconst (v := nI 1) X.1 X.2.1 dX7_readPart_29 (by decide) ?_
  refine lv_goto (tgt := 34) X.1 X.2.1 dX7_readPart_30 (by decide) ?_
  refine lv_istore (lv' := [(5, .int (nI (1))), (0, .ref (q 0)), (1, .int (nI (i))), (2, .int (nI (r))), (3, .int (nI (f))), (4, .int (n))]) X.1 X.2.1 dX7_readPart_34 hl (by decide) rfl (fun ls hl => ?_)
  refine lv_aload_n X.1 X.2.1 dX7_readPart_36 rfl (lv_at hl 1 rfl) ?_
  refine lv_iload X.1 X.2.1 dX7_readPart_37 (lv_at hl 0 rfl) ?_
  refine n_if_eq_f (tgt := 47) X.1 X.2.1 dX7_readPart_39 (by decide) (by decide) (by omega) ?_
  refine lv_iload X.1 X.2.1 dX7_readPart_42 (lv_at hl 5 rfl) ?_
  refine x_if_ge_f (tgt := 51) X.1 X.2.1 dX7_readPart_44 (by decide) (fun z => absurd h (Int32.not_lt.mpr z)) ?_
  refine lv_iconst (v := nI 1) X.1 X.2.1 dX7_readPart_47 (by decide) ?_
  refine lv_goto (tgt := 93) X.1 X.2.1 dX7_readPart_48 (by decide) ?_
  refine mcalli hq X hW (mt_isWrong_s l hq (T) (D) (th) (n := 1) (by decide) (by decide)) (cwV 1 X.2.2.2.2 gX7_readPart_X7_isWrong rfl rfl rfl (by decide +kernel) ⟨Nat.le_of_ble_eq_true rfl, Nat.le_of_ble_eq_true rfl⟩) rfl rfl hl.1 (Nat.le_of_ble_eq_true rfl) dX7_readPart_93 ⟨Nat.zero_le _, Nat.zero_le _⟩ (fun H locs hW => ?_)
  refine n_if_eq_f (tgt := 101) X.1 X.2.1 dX7_readPart_96 (by decide) (by decide) (by omega) ?_
  refine lv_iconst (v := nI 0) X.1 X.2.1 dX7_readPart_99 (by decide) ?_
  exact hE _ _ _ _ _ (rfl) (fun ty hty => by cases hty; exact rfl) hW dX7_readPart_100

set_option maxHeartbeats 4000000 in
set_option maxRecDepth 100000 in
theorem mt_readPart_2 (l : Launch) {G : va_G} {cI cZ : ClassId} {q : Nat → Nat} (hq : mJ q) (T : mT) (D : mD) (th : Int32) (I : mI T) {i r f : Nat} (hi : i < 3) (hr : r < 4) (hf : f ≤ T 1 (T 2 r)) : mMi l yX7_readPart wsX7_readPart ({ frames := 2, cells := 0, slots := 0, locals := 44 } : Room) G cI cZ q [.int (nI (i)), .int (nI (r)), .int (nI (f)), .int (nI (0))] (T) (D) (th) (nI 0) (T) (D) (nI 2) := by
  refine mstarti (cc := cX7_readPart) (maxL := 8) (ret := (some .int)) (by decide) rfl rfl ⟨_, rfl⟩ (Nat.le_of_ble_eq_true rfl) (fun p e s m args below meth c Q hE X hW ls hl => ?_)
  have hl : lv_has ls 8 [(0, .ref (q 0)), (1, .int (nI (i))), (2, .int (nI (r))), (3, .int (nI (f))), (4, .int (nI (0)))] := hl
  have hin : ∀ w ∈ wsX70, w ∈ wsX7_readPart := fun w h => List.mem_cons_of_mem _ (List.mem_append_left _ (List.mem_append_right _ (h)))
  have I2 := I.sr hr
  have I3 := I.sl I2
  refine lv_aload_n X.1 X.2.1 dX7_readPart_0 rfl (lv_at hl 0 rfl) ?_
  refine lv_iload_n X.1 X.2.1 dX7_readPart_1 rfl (lv_at hl 1 rfl) ?_
  refine mcalli hq X hW (mt_isOther_ok l hq (T) (D) (th) (r := i) (by omega)) (cwV 1 X.2.2.2.2 gX7_readPart_X7_isOther rfl rfl rfl (by decide +kernel) ⟨Nat.le_of_ble_eq_true rfl, Nat.le_of_ble_eq_true rfl⟩) rfl rfl hl.1 (Nat.le_of_ble_eq_true rfl) dX7_readPart_2 ⟨Nat.zero_le _, Nat.zero_le _⟩ (fun H locs hW => ?_)
  refine n_if_eq_f (tgt := 33) X.1 X.2.1 dX7_readPart_5 (by decide) (by decide) (by omega) ?_
  refine lv_aload_n X.1 X.2.1 dX7_readPart_8 rfl (lv_at hl 0 rfl) ?_
  refine lv_iload_n X.1 X.2.1 dX7_readPart_9 rfl (lv_at hl 2 rfl) ?_
  refine lv_iload_n X.1 X.2.1 dX7_readPart_10 rfl (lv_at hl 3 rfl) ?_
  refine lv_iload X.1 X.2.1 dX7_readPart_11 (lv_at hl 4 rfl) ?_
  refine lv_iconst (v := nI 1) X.1 X.2.1 dX7_readPart_13 (by decide) ?_
  refine n_icmp_ge_f (tgt := 21) X.1 X.2.1 dX7_readPart_14 (by decide) (by decide) (by omega) (by omega) ?_
  refine lv_iconst (v := nI 0) X.1 X.2.1 dX7_readPart_17 (by decide) ?_
  refine lv_goto (tgt := 23) X.1 X.2.1 dX7_readPart_18 (by decide) ?_
  refine mcalli hq X hW (mt_isPart_ok l hq (T) (D) (th) I (r := r) (f := f) (n := 0) (by omega) (by omega)) (cwV 3 X.2.2.2.2 gX7_readPart_X7_isPart rfl rfl rfl (by decide +kernel) ⟨Nat.le_of_ble_eq_true rfl, Nat.le_of_ble_eq_true rfl⟩) rfl rfl hl.1 (Nat.le_of_ble_eq_true rfl) dX7_readPart_23 ⟨Nat.zero_le _, Nat.zero_le _⟩ (fun H locs hW => ?_)
  refine n_if_eq_f (tgt := 33) X.1 X.2.1 dX7_readPart_26 (by decide) (by decide) (by omega) ?_
  refine lv_iconst (v := nI 1) X.1 X.2.1 dX7_readPart_29 (by decide) ?_
  refine lv_goto (tgt := 34) X.1 X.2.1 dX7_readPart_30 (by decide) ?_
  refine lv_istore (lv' := [(5, .int (nI (1))), (0, .ref (q 0)), (1, .int (nI (i))), (2, .int (nI (r))), (3, .int (nI (f))), (4, .int (nI (0)))]) X.1 X.2.1 dX7_readPart_34 hl (by decide) rfl (fun ls hl => ?_)
  refine lv_aload_n X.1 X.2.1 dX7_readPart_36 rfl (lv_at hl 1 rfl) ?_
  refine lv_iload X.1 X.2.1 dX7_readPart_37 (lv_at hl 0 rfl) ?_
  refine n_if_eq_f (tgt := 47) X.1 X.2.1 dX7_readPart_39 (by decide) (by decide) (by omega) ?_
  refine lv_iload X.1 X.2.1 dX7_readPart_42 (lv_at hl 5 rfl) ?_
  refine n_if_ge_t (tgt := 51) X.1 X.2.1 dX7_readPart_44 (by decide) (by omega) ?_
  refine lv_iload X.1 X.2.1 dX7_readPart_51 (lv_at hl 5 rfl) ?_
  refine lv_iconst (v := nI 1) X.1 X.2.1 dX7_readPart_53 (by decide) ?_
  refine n_icmp_ge_f (tgt := 61) X.1 X.2.1 dX7_readPart_54 (by decide) (by decide) (by omega) (by omega) ?_
  refine lv_iconst (v := nI 2) X.1 X.2.1 dX7_readPart_57 (by decide) ?_
  refine lv_goto (tgt := 93) X.1 X.2.1 dX7_readPart_58 (by decide) ?_
  refine mcalli hq X hW (mt_isWrong_s l hq (T) (D) (th) (n := 2) (by decide) (by decide)) (cwV 1 X.2.2.2.2 gX7_readPart_X7_isWrong rfl rfl rfl (by decide +kernel) ⟨Nat.le_of_ble_eq_true rfl, Nat.le_of_ble_eq_true rfl⟩) rfl rfl hl.1 (Nat.le_of_ble_eq_true rfl) dX7_readPart_93 ⟨Nat.zero_le _, Nat.zero_le _⟩ (fun H locs hW => ?_)
  refine n_if_eq_f (tgt := 101) X.1 X.2.1 dX7_readPart_96 (by decide) (by decide) (by omega) ?_
  refine lv_iconst (v := nI 0) X.1 X.2.1 dX7_readPart_99 (by decide) ?_
  exact hE _ _ _ _ _ (rfl) (fun ty hty => by cases hty; exact rfl) hW dX7_readPart_100

set_option maxHeartbeats 4000000 in
set_option maxRecDepth 100000 in
theorem mt_readPart_3 (l : Launch) {G : va_G} {cI cZ : ClassId} {q : Nat → Nat} (hq : mJ q) (T : mT) (D : mD) (th : Int32) (I : mI T) {i r f n : Nat} (hi : i < 3) (hr : r < 4) (hf : f + n ≤ T 1 (T 2 r)) (hn : n ≠ 0) (h : clo T i) : mMi l yX7_readPart wsX7_readPart ({ frames := 2, cells := 0, slots := 0, locals := 44 } : Room) G cI cZ q [.int (nI (i)), .int (nI (r)), .int (nI (f)), .int (nI (n))] (T) (D) (th) (nI 0) (T) (D) (nI 3) := by
  refine mstarti (cc := cX7_readPart) (maxL := 8) (ret := (some .int)) (by decide) rfl rfl ⟨_, rfl⟩ (Nat.le_of_ble_eq_true rfl) (fun p e s m args below meth c Q hE X hW ls hl => ?_)
  have hl : lv_has ls 8 [(0, .ref (q 0)), (1, .int (nI (i))), (2, .int (nI (r))), (3, .int (nI (f))), (4, .int (nI (n)))] := hl
  have hin : ∀ w ∈ wsX70, w ∈ wsX7_readPart := fun w h => List.mem_cons_of_mem _ (List.mem_append_left _ (List.mem_append_right _ (h)))
  have I2 := I.sr hr
  have I3 := I.sl I2
  refine lv_aload_n X.1 X.2.1 dX7_readPart_0 rfl (lv_at hl 0 rfl) ?_
  refine lv_iload_n X.1 X.2.1 dX7_readPart_1 rfl (lv_at hl 1 rfl) ?_
  refine mcalli hq X hW (mt_isOther_ok l hq (T) (D) (th) (r := i) (by omega)) (cwV 1 X.2.2.2.2 gX7_readPart_X7_isOther rfl rfl rfl (by decide +kernel) ⟨Nat.le_of_ble_eq_true rfl, Nat.le_of_ble_eq_true rfl⟩) rfl rfl hl.1 (Nat.le_of_ble_eq_true rfl) dX7_readPart_2 ⟨Nat.zero_le _, Nat.zero_le _⟩ (fun H locs hW => ?_)
  refine n_if_eq_f (tgt := 33) X.1 X.2.1 dX7_readPart_5 (by decide) (by decide) (by omega) ?_
  refine lv_aload_n X.1 X.2.1 dX7_readPart_8 rfl (lv_at hl 0 rfl) ?_
  refine lv_iload_n X.1 X.2.1 dX7_readPart_9 rfl (lv_at hl 2 rfl) ?_
  refine lv_iload_n X.1 X.2.1 dX7_readPart_10 rfl (lv_at hl 3 rfl) ?_
  refine lv_iload X.1 X.2.1 dX7_readPart_11 (lv_at hl 4 rfl) ?_
  refine lv_iconst (v := nI 1) X.1 X.2.1 dX7_readPart_13 (by decide) ?_
  refine n_icmp_ge_t (tgt := 21) X.1 X.2.1 dX7_readPart_14 (by decide) (by omega) (by omega) (by omega) ?_
  refine lv_iload X.1 X.2.1 dX7_readPart_21 (lv_at hl 4 rfl) ?_
  refine mcalli hq X hW (mt_isPart_ok l hq (T) (D) (th) I (r := r) (f := f) (n := n) (by omega) (by omega)) (cwV 3 X.2.2.2.2 gX7_readPart_X7_isPart rfl rfl rfl (by decide +kernel) ⟨Nat.le_of_ble_eq_true rfl, Nat.le_of_ble_eq_true rfl⟩) rfl rfl hl.1 (Nat.le_of_ble_eq_true rfl) dX7_readPart_23 ⟨Nat.zero_le _, Nat.zero_le _⟩ (fun H locs hW => ?_)
  refine n_if_eq_f (tgt := 33) X.1 X.2.1 dX7_readPart_26 (by decide) (by decide) (by omega) ?_
  refine lv_iconst (v := nI 1) X.1 X.2.1 dX7_readPart_29 (by decide) ?_
  refine lv_goto (tgt := 34) X.1 X.2.1 dX7_readPart_30 (by decide) ?_
  refine lv_istore (lv' := [(5, .int (nI (1))), (0, .ref (q 0)), (1, .int (nI (i))), (2, .int (nI (r))), (3, .int (nI (f))), (4, .int (nI (n)))]) X.1 X.2.1 dX7_readPart_34 hl (by decide) rfl (fun ls hl => ?_)
  refine lv_aload_n X.1 X.2.1 dX7_readPart_36 rfl (lv_at hl 1 rfl) ?_
  refine lv_iload X.1 X.2.1 dX7_readPart_37 (lv_at hl 0 rfl) ?_
  refine n_if_eq_f (tgt := 47) X.1 X.2.1 dX7_readPart_39 (by decide) (by decide) (by omega) ?_
  refine lv_iload X.1 X.2.1 dX7_readPart_42 (lv_at hl 5 rfl) ?_
  refine n_if_ge_t (tgt := 51) X.1 X.2.1 dX7_readPart_44 (by decide) (by omega) ?_
  refine lv_iload X.1 X.2.1 dX7_readPart_51 (lv_at hl 5 rfl) ?_
  refine lv_iconst (v := nI 1) X.1 X.2.1 dX7_readPart_53 (by decide) ?_
  refine n_icmp_ge_t (tgt := 61) X.1 X.2.1 dX7_readPart_54 (by decide) (by omega) (by omega) (by omega) ?_
  refine lv_aload_n X.1 X.2.1 dX7_readPart_61 rfl (lv_at hl 1 rfl) ?_
  refine lv_iload_n X.1 X.2.1 dX7_readPart_62 rfl (lv_at hl 2 rfl) ?_
  refine mcalli hq X hW (mt_isClosed_1 l hq (T) (D) (th) I (i := i) (by omega) (h)) (cwV 1 X.2.2.2.2 gX7_readPart_X7_isClosed rfl rfl rfl (by decide +kernel) ⟨Nat.le_of_ble_eq_true rfl, Nat.le_of_ble_eq_true rfl⟩) rfl rfl hl.1 (Nat.le_of_ble_eq_true rfl) dX7_readPart_63 ⟨Nat.zero_le _, Nat.zero_le _⟩ (fun H locs hW => ?_)
  refine n_if_eq_f (tgt := 73) X.1 X.2.1 dX7_readPart_66 (by decide) (by decide) (by omega) ?_
  refine lv_iconst (v := nI 3) X.1 X.2.1 dX7_readPart_69 (by decide) ?_
  refine lv_goto (tgt := 93) X.1 X.2.1 dX7_readPart_70 (by decide) ?_
  refine mcalli hq X hW (mt_isWrong_s l hq (T) (D) (th) (n := 3) (by decide) (by decide)) (cwV 1 X.2.2.2.2 gX7_readPart_X7_isWrong rfl rfl rfl (by decide +kernel) ⟨Nat.le_of_ble_eq_true rfl, Nat.le_of_ble_eq_true rfl⟩) rfl rfl hl.1 (Nat.le_of_ble_eq_true rfl) dX7_readPart_93 ⟨Nat.zero_le _, Nat.zero_le _⟩ (fun H locs hW => ?_)
  refine n_if_eq_f (tgt := 101) X.1 X.2.1 dX7_readPart_96 (by decide) (by decide) (by omega) ?_
  refine lv_iconst (v := nI 0) X.1 X.2.1 dX7_readPart_99 (by decide) ?_
  exact hE _ _ _ _ _ (rfl) (fun ty hty => by cases hty; exact rfl) hW dX7_readPart_100

set_option maxHeartbeats 4000000 in
set_option maxRecDepth 100000 in
theorem mt_readPart_4 (l : Launch) {G : va_G} {cI cZ : ClassId} {q : Nat → Nat} (hq : mJ q) (T : mT) (D : mD) (th : Int32) (I : mI T) {i r f n : Nat} (hi : i < 3) (hr : r < 4) (hf : f + n ≤ T 1 (T 2 r)) (hn : n ≠ 0) (h : ¬ clo T i) (h4 : T 8 i = T 2 r + 1) : mMi l yX7_readPart wsX7_readPart ({ frames := 2, cells := 0, slots := 0, locals := 44 } : Room) G cI cZ q [.int (nI (i)), .int (nI (r)), .int (nI (f)), .int (nI (n))] (T) (D) (th) (nI 0) (T) (D) (nI 4) := by
  refine mstarti (cc := cX7_readPart) (maxL := 8) (ret := (some .int)) (by decide) rfl rfl ⟨_, rfl⟩ (Nat.le_of_ble_eq_true rfl) (fun p e s m args below meth c Q hE X hW ls hl => ?_)
  have hl : lv_has ls 8 [(0, .ref (q 0)), (1, .int (nI (i))), (2, .int (nI (r))), (3, .int (nI (f))), (4, .int (nI (n)))] := hl
  have hin : ∀ w ∈ wsX70, w ∈ wsX7_readPart := fun w h => List.mem_cons_of_mem _ (List.mem_append_left _ (List.mem_append_right _ (h)))
  have I2 := I.sr hr
  have I3 := I.sl I2
  have I1 := I.rd hi
  have h1 : ¬ T 8 i = 0 := fun z => h (Or.inl z)
  refine lv_aload_n X.1 X.2.1 dX7_readPart_0 rfl (lv_at hl 0 rfl) ?_
  refine lv_iload_n X.1 X.2.1 dX7_readPart_1 rfl (lv_at hl 1 rfl) ?_
  refine mcalli hq X hW (mt_isOther_ok l hq (T) (D) (th) (r := i) (by omega)) (cwV 1 X.2.2.2.2 gX7_readPart_X7_isOther rfl rfl rfl (by decide +kernel) ⟨Nat.le_of_ble_eq_true rfl, Nat.le_of_ble_eq_true rfl⟩) rfl rfl hl.1 (Nat.le_of_ble_eq_true rfl) dX7_readPart_2 ⟨Nat.zero_le _, Nat.zero_le _⟩ (fun H locs hW => ?_)
  refine n_if_eq_f (tgt := 33) X.1 X.2.1 dX7_readPart_5 (by decide) (by decide) (by omega) ?_
  refine lv_aload_n X.1 X.2.1 dX7_readPart_8 rfl (lv_at hl 0 rfl) ?_
  refine lv_iload_n X.1 X.2.1 dX7_readPart_9 rfl (lv_at hl 2 rfl) ?_
  refine lv_iload_n X.1 X.2.1 dX7_readPart_10 rfl (lv_at hl 3 rfl) ?_
  refine lv_iload X.1 X.2.1 dX7_readPart_11 (lv_at hl 4 rfl) ?_
  refine lv_iconst (v := nI 1) X.1 X.2.1 dX7_readPart_13 (by decide) ?_
  refine n_icmp_ge_t (tgt := 21) X.1 X.2.1 dX7_readPart_14 (by decide) (by omega) (by omega) (by omega) ?_
  refine lv_iload X.1 X.2.1 dX7_readPart_21 (lv_at hl 4 rfl) ?_
  refine mcalli hq X hW (mt_isPart_ok l hq (T) (D) (th) I (r := r) (f := f) (n := n) (by omega) (by omega)) (cwV 3 X.2.2.2.2 gX7_readPart_X7_isPart rfl rfl rfl (by decide +kernel) ⟨Nat.le_of_ble_eq_true rfl, Nat.le_of_ble_eq_true rfl⟩) rfl rfl hl.1 (Nat.le_of_ble_eq_true rfl) dX7_readPart_23 ⟨Nat.zero_le _, Nat.zero_le _⟩ (fun H locs hW => ?_)
  refine n_if_eq_f (tgt := 33) X.1 X.2.1 dX7_readPart_26 (by decide) (by decide) (by omega) ?_
  refine lv_iconst (v := nI 1) X.1 X.2.1 dX7_readPart_29 (by decide) ?_
  refine lv_goto (tgt := 34) X.1 X.2.1 dX7_readPart_30 (by decide) ?_
  refine lv_istore (lv' := [(5, .int (nI (1))), (0, .ref (q 0)), (1, .int (nI (i))), (2, .int (nI (r))), (3, .int (nI (f))), (4, .int (nI (n)))]) X.1 X.2.1 dX7_readPart_34 hl (by decide) rfl (fun ls hl => ?_)
  refine lv_aload_n X.1 X.2.1 dX7_readPart_36 rfl (lv_at hl 1 rfl) ?_
  refine lv_iload X.1 X.2.1 dX7_readPart_37 (lv_at hl 0 rfl) ?_
  refine n_if_eq_f (tgt := 47) X.1 X.2.1 dX7_readPart_39 (by decide) (by decide) (by omega) ?_
  refine lv_iload X.1 X.2.1 dX7_readPart_42 (lv_at hl 5 rfl) ?_
  refine n_if_ge_t (tgt := 51) X.1 X.2.1 dX7_readPart_44 (by decide) (by omega) ?_
  refine lv_iload X.1 X.2.1 dX7_readPart_51 (lv_at hl 5 rfl) ?_
  refine lv_iconst (v := nI 1) X.1 X.2.1 dX7_readPart_53 (by decide) ?_
  refine n_icmp_ge_t (tgt := 61) X.1 X.2.1 dX7_readPart_54 (by decide) (by omega) (by omega) (by omega) ?_
  refine lv_aload_n X.1 X.2.1 dX7_readPart_61 rfl (lv_at hl 1 rfl) ?_
  refine lv_iload_n X.1 X.2.1 dX7_readPart_62 rfl (lv_at hl 2 rfl) ?_
  refine mcalli hq X hW (mt_isClosed_o l hq (T) (D) (th) I (i := i) (by omega) (h)) (cwV 1 X.2.2.2.2 gX7_readPart_X7_isClosed rfl rfl rfl (by decide +kernel) ⟨Nat.le_of_ble_eq_true rfl, Nat.le_of_ble_eq_true rfl⟩) rfl rfl hl.1 (Nat.le_of_ble_eq_true rfl) dX7_readPart_63 ⟨Nat.zero_le _, Nat.zero_le _⟩ (fun H locs hW => ?_)
  refine n_if_eq_t (tgt := 73) X.1 X.2.1 dX7_readPart_66 (by decide) (by decide) (by omega) ?_
  refine lv_aload_n X.1 X.2.1 dX7_readPart_73 rfl (lv_at hl 1 rfl) ?_
  refine mget 8 (by decide) rfl X hin hW (X.2.2.2.2 (.fieldLink RX7 34 "StrandbookModel" "reads" "[I") (List.mem_cons_of_mem _ (List.mem_append_left _ (List.mem_append_left _ (List.mem_append_left _ (List.mem_of_getElem? (i := 0) rfl)))))) dX7_readPart_74 ?_
  refine lv_iload_n X.1 X.2.1 dX7_readPart_77 rfl (lv_at hl 2 rfl) ?_
  refine mld8_s X hW (by omega) (z := T 2 r) (h4) dX7_readPart_78 ?_
  refine lv_aload_n X.1 X.2.1 dX7_readPart_79 rfl (lv_at hl 1 rfl) ?_
  refine mget 2 (by decide) rfl X hin hW (X.2.2.2.2 (.fieldLink RX7 16 "StrandbookModel" "signRooms" "[I") (List.mem_cons_of_mem _ (List.mem_append_left _ (List.mem_append_left _ (List.mem_append_left _ (List.mem_of_getElem? (i := 1) rfl)))))) dX7_readPart_80 ?_
  refine lv_iload_n X.1 X.2.1 dX7_readPart_83 rfl (lv_at hl 3 rfl) ?_
  refine mld2 X hW (by omega) dX7_readPart_84 ?_
  refine n_icmp_ne_f (tgt := 92) X.1 X.2.1 dX7_readPart_85 (by decide) (rfl) (by omega) (by omega) ?_
  refine lv_iconst (v := nI 4) X.1 X.2.1 dX7_readPart_88 (by decide) ?_
  refine lv_goto (tgt := 93) X.1 X.2.1 dX7_readPart_89 (by decide) ?_
  refine mcalli hq X hW (mt_isWrong_s l hq (T) (D) (th) (n := 4) (by decide) (by decide)) (cwV 1 X.2.2.2.2 gX7_readPart_X7_isWrong rfl rfl rfl (by decide +kernel) ⟨Nat.le_of_ble_eq_true rfl, Nat.le_of_ble_eq_true rfl⟩) rfl rfl hl.1 (Nat.le_of_ble_eq_true rfl) dX7_readPart_93 ⟨Nat.zero_le _, Nat.zero_le _⟩ (fun H locs hW => ?_)
  refine n_if_eq_f (tgt := 101) X.1 X.2.1 dX7_readPart_96 (by decide) (by decide) (by omega) ?_
  refine lv_iconst (v := nI 0) X.1 X.2.1 dX7_readPart_99 (by decide) ?_
  exact hE _ _ _ _ _ (rfl) (fun ty hty => by cases hty; exact rfl) hW dX7_readPart_100

set_option maxHeartbeats 4000000 in
set_option maxRecDepth 100000 in
theorem mt_readPart_z (l : Launch) {G : va_G} {cI cZ : ClassId} {q : Nat → Nat} (hq : mJ q) (T : mT) (D : mD) (th : Int32) (I : mI T) {i r f n : Nat} (hi : i < 3) (hr : r < 4) (hf : f + n ≤ T 1 (T 2 r)) (hn : n ≠ 0) (h : ¬ clo T i) (h4 : ¬ T 8 i = T 2 r + 1) (h5 : min n (T 10 i - T 9 i) = 0) : mMi l yX7_readPart wsX7_readPart ({ frames := 2, cells := 0, slots := 0, locals := 44 } : Room) G cI cZ q [.int (nI (i)), .int (nI (r)), .int (nI (f)), .int (nI (n))] (T) (D) (th) (-1) (u2 T 9 i (T 9 i + min n (T 10 i - T 9 i))) (cpF D 0 (256 * T 2 r + f) (rpF T D i) (min n (T 10 i - T 9 i))) (nI 0) := by
  refine mstarti (cc := cX7_readPart) (maxL := 8) (ret := (some .int)) (by decide) rfl rfl ⟨_, rfl⟩ (Nat.le_of_ble_eq_true rfl) (fun p e s m args below meth c Q hE X hW ls hl => ?_)
  have hl : lv_has ls 8 [(0, .ref (q 0)), (1, .int (nI (i))), (2, .int (nI (r))), (3, .int (nI (f))), (4, .int (nI (n)))] := hl
  have hin : ∀ w ∈ wsX70, w ∈ wsX7_readPart := fun w h => List.mem_cons_of_mem _ (List.mem_append_left _ (List.mem_append_right _ (h)))
  have I2 := I.sr hr
  have I3 := I.sl I2
  have I1 := I.rd hi
  have h1 : ¬ T 8 i = 0 := fun z => h (Or.inl z)
  have hle : T 10 i ≤ T 1 (T 8 i - 1) := I1.2.2.2.2.2 h1
  have hm1 : min n (T 10 i - T 9 i) ≤ n := Nat.min_le_left _ _
  have hm2 : min n (T 10 i - T 9 i) ≤ T 10 i - T 9 i := Nat.min_le_right _ _
  refine lv_aload_n X.1 X.2.1 dX7_readPart_0 rfl (lv_at hl 0 rfl) ?_
  refine lv_iload_n X.1 X.2.1 dX7_readPart_1 rfl (lv_at hl 1 rfl) ?_
  refine mcalli hq X hW (mt_isOther_ok l hq (T) (D) (th) (r := i) (by omega)) (cwV 1 X.2.2.2.2 gX7_readPart_X7_isOther rfl rfl rfl (by decide +kernel) ⟨Nat.le_of_ble_eq_true rfl, Nat.le_of_ble_eq_true rfl⟩) rfl rfl hl.1 (Nat.le_of_ble_eq_true rfl) dX7_readPart_2 ⟨Nat.zero_le _, Nat.zero_le _⟩ (fun H locs hW => ?_)
  refine n_if_eq_f (tgt := 33) X.1 X.2.1 dX7_readPart_5 (by decide) (by decide) (by omega) ?_
  refine lv_aload_n X.1 X.2.1 dX7_readPart_8 rfl (lv_at hl 0 rfl) ?_
  refine lv_iload_n X.1 X.2.1 dX7_readPart_9 rfl (lv_at hl 2 rfl) ?_
  refine lv_iload_n X.1 X.2.1 dX7_readPart_10 rfl (lv_at hl 3 rfl) ?_
  refine lv_iload X.1 X.2.1 dX7_readPart_11 (lv_at hl 4 rfl) ?_
  refine lv_iconst (v := nI 1) X.1 X.2.1 dX7_readPart_13 (by decide) ?_
  refine n_icmp_ge_t (tgt := 21) X.1 X.2.1 dX7_readPart_14 (by decide) (by omega) (by omega) (by omega) ?_
  refine lv_iload X.1 X.2.1 dX7_readPart_21 (lv_at hl 4 rfl) ?_
  refine mcalli hq X hW (mt_isPart_ok l hq (T) (D) (th) I (r := r) (f := f) (n := n) (by omega) (by omega)) (cwV 3 X.2.2.2.2 gX7_readPart_X7_isPart rfl rfl rfl (by decide +kernel) ⟨Nat.le_of_ble_eq_true rfl, Nat.le_of_ble_eq_true rfl⟩) rfl rfl hl.1 (Nat.le_of_ble_eq_true rfl) dX7_readPart_23 ⟨Nat.zero_le _, Nat.zero_le _⟩ (fun H locs hW => ?_)
  refine n_if_eq_f (tgt := 33) X.1 X.2.1 dX7_readPart_26 (by decide) (by decide) (by omega) ?_
  refine lv_iconst (v := nI 1) X.1 X.2.1 dX7_readPart_29 (by decide) ?_
  refine lv_goto (tgt := 34) X.1 X.2.1 dX7_readPart_30 (by decide) ?_
  refine lv_istore (lv' := [(5, .int (nI (1))), (0, .ref (q 0)), (1, .int (nI (i))), (2, .int (nI (r))), (3, .int (nI (f))), (4, .int (nI (n)))]) X.1 X.2.1 dX7_readPart_34 hl (by decide) rfl (fun ls hl => ?_)
  refine lv_aload_n X.1 X.2.1 dX7_readPart_36 rfl (lv_at hl 1 rfl) ?_
  refine lv_iload X.1 X.2.1 dX7_readPart_37 (lv_at hl 0 rfl) ?_
  refine n_if_eq_f (tgt := 47) X.1 X.2.1 dX7_readPart_39 (by decide) (by decide) (by omega) ?_
  refine lv_iload X.1 X.2.1 dX7_readPart_42 (lv_at hl 5 rfl) ?_
  refine n_if_ge_t (tgt := 51) X.1 X.2.1 dX7_readPart_44 (by decide) (by omega) ?_
  refine lv_iload X.1 X.2.1 dX7_readPart_51 (lv_at hl 5 rfl) ?_
  refine lv_iconst (v := nI 1) X.1 X.2.1 dX7_readPart_53 (by decide) ?_
  refine n_icmp_ge_t (tgt := 61) X.1 X.2.1 dX7_readPart_54 (by decide) (by omega) (by omega) (by omega) ?_
  refine lv_aload_n X.1 X.2.1 dX7_readPart_61 rfl (lv_at hl 1 rfl) ?_
  refine lv_iload_n X.1 X.2.1 dX7_readPart_62 rfl (lv_at hl 2 rfl) ?_
  refine mcalli hq X hW (mt_isClosed_o l hq (T) (D) (th) I (i := i) (by omega) (h)) (cwV 1 X.2.2.2.2 gX7_readPart_X7_isClosed rfl rfl rfl (by decide +kernel) ⟨Nat.le_of_ble_eq_true rfl, Nat.le_of_ble_eq_true rfl⟩) rfl rfl hl.1 (Nat.le_of_ble_eq_true rfl) dX7_readPart_63 ⟨Nat.zero_le _, Nat.zero_le _⟩ (fun H locs hW => ?_)
  refine n_if_eq_t (tgt := 73) X.1 X.2.1 dX7_readPart_66 (by decide) (by decide) (by omega) ?_
  refine lv_aload_n X.1 X.2.1 dX7_readPart_73 rfl (lv_at hl 1 rfl) ?_
  refine mget 8 (by decide) rfl X hin hW (X.2.2.2.2 (.fieldLink RX7 34 "StrandbookModel" "reads" "[I") (List.mem_cons_of_mem _ (List.mem_append_left _ (List.mem_append_left _ (List.mem_append_left _ (List.mem_of_getElem? (i := 0) rfl)))))) dX7_readPart_74 ?_
  refine lv_iload_n X.1 X.2.1 dX7_readPart_77 rfl (lv_at hl 2 rfl) ?_
  refine mld8_s X hW (by omega) (z := T 8 i - 1) (by omega) dX7_readPart_78 ?_
  refine lv_aload_n X.1 X.2.1 dX7_readPart_79 rfl (lv_at hl 1 rfl) ?_
  refine mget 2 (by decide) rfl X hin hW (X.2.2.2.2 (.fieldLink RX7 16 "StrandbookModel" "signRooms" "[I") (List.mem_cons_of_mem _ (List.mem_append_left _ (List.mem_append_left _ (List.mem_append_left _ (List.mem_of_getElem? (i := 1) rfl)))))) dX7_readPart_80 ?_
  refine lv_iload_n X.1 X.2.1 dX7_readPart_83 rfl (lv_at hl 3 rfl) ?_
  refine mld2 X hW (by omega) dX7_readPart_84 ?_
  refine n_icmp_ne_t (tgt := 92) X.1 X.2.1 dX7_readPart_85 (by decide) (by omega) (by omega) (by omega) ?_
  refine lv_iconst (v := nI 0) X.1 X.2.1 dX7_readPart_92 (by decide) ?_
  refine mcalli hq X hW (mt_isWrong_0 l hq (T) (D) (th)) (cwV 1 X.2.2.2.2 gX7_readPart_X7_isWrong rfl rfl rfl (by decide +kernel) ⟨Nat.le_of_ble_eq_true rfl, Nat.le_of_ble_eq_true rfl⟩) rfl rfl hl.1 (Nat.le_of_ble_eq_true rfl) dX7_readPart_93 ⟨Nat.zero_le _, Nat.zero_le _⟩ (fun H locs hW => ?_)
  refine n_if_eq_t (tgt := 101) X.1 X.2.1 dX7_readPart_96 (by decide) (by decide) (by omega) ?_
  refine lv_aload_n X.1 X.2.1 dX7_readPart_101 rfl (lv_at hl 1 rfl) ?_
  refine lv_iload X.1 X.2.1 dX7_readPart_102 (lv_at hl 5 rfl) ?_
  refine lv_aload_n X.1 X.2.1 dX7_readPart_104 rfl (lv_at hl 1 rfl) ?_
  refine mget 10 (by decide) rfl X hin hW (X.2.2.2.2 (.fieldLink RX7 40 "StrandbookModel" "ends" "[I") (List.mem_cons_of_mem _ (List.mem_append_left _ (List.mem_append_left _ (List.mem_append_left _ (List.mem_of_getElem? (i := 2) rfl)))))) dX7_readPart_105 ?_
  refine lv_iload_n X.1 X.2.1 dX7_readPart_108 rfl (lv_at hl 2 rfl) ?_
  refine mld10 X hW (by omega) dX7_readPart_109 ?_
  refine lv_aload_n X.1 X.2.1 dX7_readPart_110 rfl (lv_at hl 1 rfl) ?_
  refine mget 9 (by decide) rfl X hin hW (X.2.2.2.2 (.fieldLink RX7 37 "StrandbookModel" "places" "[I") (List.mem_cons_of_mem _ (List.mem_append_left _ (List.mem_append_left _ (List.mem_append_left _ (List.mem_of_getElem? (i := 3) rfl)))))) dX7_readPart_111 ?_
  refine lv_iload_n X.1 X.2.1 dX7_readPart_114 rfl (lv_at hl 2 rfl) ?_
  refine mld9 X hW (by omega) dX7_readPart_115 ?_
  refine n_isub X.1 X.2.1 (by omega) dX7_readPart_116 ?_
  refine mcalli hq X hW (mt_lesser l hq (T) (D) (nI 0) (a := n) (b := (T 10 (i)) - (T 9 (i))) (by omega) (by omega)) (cwV 2 X.2.2.2.2 gX7_readPart_X7_lesser rfl rfl rfl (by decide +kernel) ⟨Nat.le_of_ble_eq_true rfl, Nat.le_of_ble_eq_true rfl⟩) rfl rfl hl.1 (Nat.le_of_ble_eq_true rfl) dX7_readPart_117 ⟨Nat.zero_le _, Nat.zero_le _⟩ (fun H locs hW => ?_)
  refine lv_istore (lv' := [(6, .int (nI (min n ((T 10 (i)) - (T 9 (i)))))), (5, .int (nI (1))), (0, .ref (q 0)), (1, .int (nI (i))), (2, .int (nI (r))), (3, .int (nI (f))), (4, .int (nI (n)))]) X.1 X.2.1 dX7_readPart_120 hl (by decide) rfl (fun ls hl => ?_)
  refine lv_iconst (v := nI 0) X.1 X.2.1 dX7_readPart_122 (by decide) ?_
  refine lv_istore (lv' := [(7, .int (nI (0))), (6, .int (nI (min n ((T 10 (i)) - (T 9 (i)))))), (5, .int (nI (1))), (0, .ref (q 0)), (1, .int (nI (i))), (2, .int (nI (r))), (3, .int (nI (f))), (4, .int (nI (n)))]) X.1 X.2.1 dX7_readPart_123 hl (by decide) rfl (fun ls hl => ?_)
  have loop125 : ∀ (n125 k125 : Nat), k125 + n125 = min n (T 10 i - T 9 i) → ∀ (H : Heap) (locs : List Loc), mH G cI cZ q (T) (cpF D 0 (256 * T 2 r + f) (rpF T D i) k125) (nI 0) s H locs → ∀ ls : Array Slot, lv_has ls 8 [(0, .ref (q 0)), (1, .int (nI (i))), (2, .int (nI (r))), (3, .int (nI (f))), (4, .int (nI (n))), (5, .int (nI (1))), (6, .int (nI (min n ((T 10 (i)) - (T 9 (i)))))), (7, .int (nI (k125)))] → W p l e ({ frames := 2, cells := 0, slots := 0, locals := 44 } : Room) s m args below meth c H locs 0 0 Q (F0 m 125 ls []) := by
    intro n125
    induction n125 with
    | zero =>
      intro k125 hk125  H locs hW ls hl
      obtain rfl : min n (T 10 i - T 9 i) = k125 := by omega
      refine lv_iload X.1 X.2.1 dX7_readPart_125 (lv_at hl 7 rfl) ?_
      refine lv_iload X.1 X.2.1 dX7_readPart_127 (lv_at hl 6 rfl) ?_
      refine n_icmp_ge_t (tgt := 183) X.1 X.2.1 dX7_readPart_129 (by decide) (by omega) (by omega) (by omega) ?_
      refine lv_aload_n X.1 X.2.1 dX7_readPart_183 rfl (lv_at hl 0 rfl) ?_
      refine mget 9 (by decide) rfl X hin hW (X.2.2.2.2 (.fieldLink RX7 37 "StrandbookModel" "places" "[I") (List.mem_cons_of_mem _ (List.mem_append_left _ (List.mem_append_left _ (List.mem_append_left _ (List.mem_of_getElem? (i := 3) rfl)))))) dX7_readPart_184 ?_
      refine lv_iload_n X.1 X.2.1 dX7_readPart_187 rfl (lv_at hl 1 rfl) ?_
      refine lv_dup2_11 X.1 X.2.1 dX7_readPart_188 rfl rfl ?_
      refine mld9 X hW (by omega) dX7_readPart_189 ?_
      refine lv_iload X.1 X.2.1 dX7_readPart_190 (lv_at hl 6 rfl) ?_
      refine n_iadd X.1 X.2.1 dX7_readPart_192 ?_
      refine mst9 hq X hW (by omega) dX7_readPart_193 (fun H locs hW => ?_)
      refine lv_iload X.1 X.2.1 dX7_readPart_194 (lv_at hl 6 rfl) ?_
      refine n_if_ne_f (tgt := 203) X.1 X.2.1 dX7_readPart_196 (by decide) (h5) (by omega) ?_
      refine lv_iconst (v := -1) X.1 X.2.1 dX7_readPart_199 (by decide) ?_
      refine lv_goto (tgt := 205) X.1 X.2.1 dX7_readPart_200 (by decide) ?_
      exact hE _ _ _ _ _ (rfl) (fun ty hty => by cases hty; exact rfl) hW dX7_readPart_205
    | succ n125 ih125 =>
      intro k125 hk125  H locs hW ls hl
      refine lv_iload X.1 X.2.1 dX7_readPart_125 (lv_at hl 7 rfl) ?_
      refine lv_iload X.1 X.2.1 dX7_readPart_127 (lv_at hl 6 rfl) ?_
      refine n_icmp_ge_f (tgt := 183) X.1 X.2.1 dX7_readPart_129 (by decide) (by omega) (by omega) (by omega) ?_
      refine lv_aload_n X.1 X.2.1 dX7_readPart_132 rfl (lv_at hl 0 rfl) ?_
      refine mget 0 (by decide) rfl X hin hW (X.2.2.2.2 (.fieldLink RX7 7 "StrandbookModel" "signs" "[I") (List.mem_cons_of_mem _ (List.mem_append_left _ (List.mem_append_left _ (List.mem_append_left _ (List.mem_of_getElem? (i := 4) rfl)))))) dX7_readPart_133 ?_
      refine lv_sipush (v := nI 256) X.1 X.2.1 dX7_readPart_136 (by decide) ?_
      refine lv_aload_n X.1 X.2.1 dX7_readPart_139 rfl (lv_at hl 0 rfl) ?_
      refine mget 2 (by decide) rfl X hin hW (X.2.2.2.2 (.fieldLink RX7 16 "StrandbookModel" "signRooms" "[I") (List.mem_cons_of_mem _ (List.mem_append_left _ (List.mem_append_left _ (List.mem_append_left _ (List.mem_of_getElem? (i := 1) rfl)))))) dX7_readPart_140 ?_
      refine lv_iload_n X.1 X.2.1 dX7_readPart_143 rfl (lv_at hl 2 rfl) ?_
      refine mld2 X hW (by omega) dX7_readPart_144 ?_
      refine n_imul X.1 X.2.1 dX7_readPart_145 ?_
      refine lv_iload_n X.1 X.2.1 dX7_readPart_146 rfl (lv_at hl 3 rfl) ?_
      refine n_iadd X.1 X.2.1 dX7_readPart_147 ?_
      refine lv_iload X.1 X.2.1 dX7_readPart_148 (lv_at hl 7 rfl) ?_
      refine n_iadd X.1 X.2.1 dX7_readPart_150 ?_
      refine lv_aload_n X.1 X.2.1 dX7_readPart_151 rfl (lv_at hl 0 rfl) ?_
      refine mget 0 (by decide) rfl X hin hW (X.2.2.2.2 (.fieldLink RX7 7 "StrandbookModel" "signs" "[I") (List.mem_cons_of_mem _ (List.mem_append_left _ (List.mem_append_left _ (List.mem_append_left _ (List.mem_of_getElem? (i := 4) rfl)))))) dX7_readPart_152 ?_
      refine lv_sipush (v := nI 256) X.1 X.2.1 dX7_readPart_155 (by decide) ?_
      refine lv_aload_n X.1 X.2.1 dX7_readPart_158 rfl (lv_at hl 0 rfl) ?_
      refine mget 8 (by decide) rfl X hin hW (X.2.2.2.2 (.fieldLink RX7 34 "StrandbookModel" "reads" "[I") (List.mem_cons_of_mem _ (List.mem_append_left _ (List.mem_append_left _ (List.mem_append_left _ (List.mem_of_getElem? (i := 0) rfl)))))) dX7_readPart_159 ?_
      refine lv_iload_n X.1 X.2.1 dX7_readPart_162 rfl (lv_at hl 1 rfl) ?_
      refine mld8_s X hW (by omega) (z := T 8 i - 1) (by omega) dX7_readPart_163 ?_
      refine n_imul X.1 X.2.1 dX7_readPart_164 ?_
      refine lv_aload_n X.1 X.2.1 dX7_readPart_165 rfl (lv_at hl 0 rfl) ?_
      refine mget 9 (by decide) rfl X hin hW (X.2.2.2.2 (.fieldLink RX7 37 "StrandbookModel" "places" "[I") (List.mem_cons_of_mem _ (List.mem_append_left _ (List.mem_append_left _ (List.mem_append_left _ (List.mem_of_getElem? (i := 3) rfl)))))) dX7_readPart_166 ?_
      refine lv_iload_n X.1 X.2.1 dX7_readPart_169 rfl (lv_at hl 1 rfl) ?_
      refine mld9 X hW (by omega) dX7_readPart_170 ?_
      refine n_iadd X.1 X.2.1 dX7_readPart_171 ?_
      refine lv_iload X.1 X.2.1 dX7_readPart_172 (lv_at hl 7 rfl) ?_
      refine n_iadd X.1 X.2.1 dX7_readPart_174 ?_
      refine mld0 X hW (by omega) dX7_readPart_175 ?_
      refine n_cv (y := D 0 (256 * (T 8 i - 1) + T 9 i + k125)) (cpF_out (by omega)) ?_
      refine mst0 hq X hW (by omega) dX7_readPart_176 (fun H locs hW => ?_)
      refine lv_iinc (v := nI (k125 + 1)) (lv' := [(7, .int (nI (k125 + 1))), (0, .ref (q 0)), (1, .int (nI (i))), (2, .int (nI (r))), (3, .int (nI (f))), (4, .int (nI (n))), (5, .int (nI (1))), (6, .int (nI (min n ((T 10 (i)) - (T 9 (i))))))]) X.1 X.2.1 dX7_readPart_177 hl (k := 7) rfl (nI_1 _) (by decide) rfl (fun ls hl => ?_)
      refine lv_goto (tgt := 125) X.1 X.2.1 dX7_readPart_180 (by decide) ?_
      exact ih125 (k125 + 1) (by omega) _ _ (hW.eq (rfl) (cpF_S' rfl (congrArg (D 0) rfl)) rfl) ls (lv_sub hl [1, 2, 3, 4, 5, 6, 7, 0] rfl)
  exact loop125 ((min n (T 10 i - T 9 i)) - (0)) (0) (by omega) _ _ (hW.eq (rfl) (cpF_0.symm) rfl) ls (lv_sub hl [3, 4, 5, 6, 7, 2, 1, 0] rfl)

set_option maxHeartbeats 4000000 in
set_option maxRecDepth 100000 in
theorem mt_readPart_p (l : Launch) {G : va_G} {cI cZ : ClassId} {q : Nat → Nat} (hq : mJ q) (T : mT) (D : mD) (th : Int32) (I : mI T) {i r f n : Nat} (hi : i < 3) (hr : r < 4) (hf : f + n ≤ T 1 (T 2 r)) (hn : n ≠ 0) (h : ¬ clo T i) (h4 : ¬ T 8 i = T 2 r + 1) (h5 : min n (T 10 i - T 9 i) ≠ 0) : mMi l yX7_readPart wsX7_readPart ({ frames := 2, cells := 0, slots := 0, locals := 44 } : Room) G cI cZ q [.int (nI (i)), .int (nI (r)), .int (nI (f)), .int (nI (n))] (T) (D) (th) (nI (min n (T 10 i - T 9 i))) (u2 T 9 i (T 9 i + min n (T 10 i - T 9 i))) (cpF D 0 (256 * T 2 r + f) (rpF T D i) (min n (T 10 i - T 9 i))) (nI 0) := by
  refine mstarti (cc := cX7_readPart) (maxL := 8) (ret := (some .int)) (by decide) rfl rfl ⟨_, rfl⟩ (Nat.le_of_ble_eq_true rfl) (fun p e s m args below meth c Q hE X hW ls hl => ?_)
  have hl : lv_has ls 8 [(0, .ref (q 0)), (1, .int (nI (i))), (2, .int (nI (r))), (3, .int (nI (f))), (4, .int (nI (n)))] := hl
  have hin : ∀ w ∈ wsX70, w ∈ wsX7_readPart := fun w h => List.mem_cons_of_mem _ (List.mem_append_left _ (List.mem_append_right _ (h)))
  have I2 := I.sr hr
  have I3 := I.sl I2
  have I1 := I.rd hi
  have h1 : ¬ T 8 i = 0 := fun z => h (Or.inl z)
  have hle : T 10 i ≤ T 1 (T 8 i - 1) := I1.2.2.2.2.2 h1
  have hm1 : min n (T 10 i - T 9 i) ≤ n := Nat.min_le_left _ _
  have hm2 : min n (T 10 i - T 9 i) ≤ T 10 i - T 9 i := Nat.min_le_right _ _
  refine lv_aload_n X.1 X.2.1 dX7_readPart_0 rfl (lv_at hl 0 rfl) ?_
  refine lv_iload_n X.1 X.2.1 dX7_readPart_1 rfl (lv_at hl 1 rfl) ?_
  refine mcalli hq X hW (mt_isOther_ok l hq (T) (D) (th) (r := i) (by omega)) (cwV 1 X.2.2.2.2 gX7_readPart_X7_isOther rfl rfl rfl (by decide +kernel) ⟨Nat.le_of_ble_eq_true rfl, Nat.le_of_ble_eq_true rfl⟩) rfl rfl hl.1 (Nat.le_of_ble_eq_true rfl) dX7_readPart_2 ⟨Nat.zero_le _, Nat.zero_le _⟩ (fun H locs hW => ?_)
  refine n_if_eq_f (tgt := 33) X.1 X.2.1 dX7_readPart_5 (by decide) (by decide) (by omega) ?_
  refine lv_aload_n X.1 X.2.1 dX7_readPart_8 rfl (lv_at hl 0 rfl) ?_
  refine lv_iload_n X.1 X.2.1 dX7_readPart_9 rfl (lv_at hl 2 rfl) ?_
  refine lv_iload_n X.1 X.2.1 dX7_readPart_10 rfl (lv_at hl 3 rfl) ?_
  refine lv_iload X.1 X.2.1 dX7_readPart_11 (lv_at hl 4 rfl) ?_
  refine lv_iconst (v := nI 1) X.1 X.2.1 dX7_readPart_13 (by decide) ?_
  refine n_icmp_ge_t (tgt := 21) X.1 X.2.1 dX7_readPart_14 (by decide) (by omega) (by omega) (by omega) ?_
  refine lv_iload X.1 X.2.1 dX7_readPart_21 (lv_at hl 4 rfl) ?_
  refine mcalli hq X hW (mt_isPart_ok l hq (T) (D) (th) I (r := r) (f := f) (n := n) (by omega) (by omega)) (cwV 3 X.2.2.2.2 gX7_readPart_X7_isPart rfl rfl rfl (by decide +kernel) ⟨Nat.le_of_ble_eq_true rfl, Nat.le_of_ble_eq_true rfl⟩) rfl rfl hl.1 (Nat.le_of_ble_eq_true rfl) dX7_readPart_23 ⟨Nat.zero_le _, Nat.zero_le _⟩ (fun H locs hW => ?_)
  refine n_if_eq_f (tgt := 33) X.1 X.2.1 dX7_readPart_26 (by decide) (by decide) (by omega) ?_
  refine lv_iconst (v := nI 1) X.1 X.2.1 dX7_readPart_29 (by decide) ?_
  refine lv_goto (tgt := 34) X.1 X.2.1 dX7_readPart_30 (by decide) ?_
  refine lv_istore (lv' := [(5, .int (nI (1))), (0, .ref (q 0)), (1, .int (nI (i))), (2, .int (nI (r))), (3, .int (nI (f))), (4, .int (nI (n)))]) X.1 X.2.1 dX7_readPart_34 hl (by decide) rfl (fun ls hl => ?_)
  refine lv_aload_n X.1 X.2.1 dX7_readPart_36 rfl (lv_at hl 1 rfl) ?_
  refine lv_iload X.1 X.2.1 dX7_readPart_37 (lv_at hl 0 rfl) ?_
  refine n_if_eq_f (tgt := 47) X.1 X.2.1 dX7_readPart_39 (by decide) (by decide) (by omega) ?_
  refine lv_iload X.1 X.2.1 dX7_readPart_42 (lv_at hl 5 rfl) ?_
  refine n_if_ge_t (tgt := 51) X.1 X.2.1 dX7_readPart_44 (by decide) (by omega) ?_
  refine lv_iload X.1 X.2.1 dX7_readPart_51 (lv_at hl 5 rfl) ?_
  refine lv_iconst (v := nI 1) X.1 X.2.1 dX7_readPart_53 (by decide) ?_
  refine n_icmp_ge_t (tgt := 61) X.1 X.2.1 dX7_readPart_54 (by decide) (by omega) (by omega) (by omega) ?_
  refine lv_aload_n X.1 X.2.1 dX7_readPart_61 rfl (lv_at hl 1 rfl) ?_
  refine lv_iload_n X.1 X.2.1 dX7_readPart_62 rfl (lv_at hl 2 rfl) ?_
  refine mcalli hq X hW (mt_isClosed_o l hq (T) (D) (th) I (i := i) (by omega) (h)) (cwV 1 X.2.2.2.2 gX7_readPart_X7_isClosed rfl rfl rfl (by decide +kernel) ⟨Nat.le_of_ble_eq_true rfl, Nat.le_of_ble_eq_true rfl⟩) rfl rfl hl.1 (Nat.le_of_ble_eq_true rfl) dX7_readPart_63 ⟨Nat.zero_le _, Nat.zero_le _⟩ (fun H locs hW => ?_)
  refine n_if_eq_t (tgt := 73) X.1 X.2.1 dX7_readPart_66 (by decide) (by decide) (by omega) ?_
  refine lv_aload_n X.1 X.2.1 dX7_readPart_73 rfl (lv_at hl 1 rfl) ?_
  refine mget 8 (by decide) rfl X hin hW (X.2.2.2.2 (.fieldLink RX7 34 "StrandbookModel" "reads" "[I") (List.mem_cons_of_mem _ (List.mem_append_left _ (List.mem_append_left _ (List.mem_append_left _ (List.mem_of_getElem? (i := 0) rfl)))))) dX7_readPart_74 ?_
  refine lv_iload_n X.1 X.2.1 dX7_readPart_77 rfl (lv_at hl 2 rfl) ?_
  refine mld8_s X hW (by omega) (z := T 8 i - 1) (by omega) dX7_readPart_78 ?_
  refine lv_aload_n X.1 X.2.1 dX7_readPart_79 rfl (lv_at hl 1 rfl) ?_
  refine mget 2 (by decide) rfl X hin hW (X.2.2.2.2 (.fieldLink RX7 16 "StrandbookModel" "signRooms" "[I") (List.mem_cons_of_mem _ (List.mem_append_left _ (List.mem_append_left _ (List.mem_append_left _ (List.mem_of_getElem? (i := 1) rfl)))))) dX7_readPart_80 ?_
  refine lv_iload_n X.1 X.2.1 dX7_readPart_83 rfl (lv_at hl 3 rfl) ?_
  refine mld2 X hW (by omega) dX7_readPart_84 ?_
  refine n_icmp_ne_t (tgt := 92) X.1 X.2.1 dX7_readPart_85 (by decide) (by omega) (by omega) (by omega) ?_
  refine lv_iconst (v := nI 0) X.1 X.2.1 dX7_readPart_92 (by decide) ?_
  refine mcalli hq X hW (mt_isWrong_0 l hq (T) (D) (th)) (cwV 1 X.2.2.2.2 gX7_readPart_X7_isWrong rfl rfl rfl (by decide +kernel) ⟨Nat.le_of_ble_eq_true rfl, Nat.le_of_ble_eq_true rfl⟩) rfl rfl hl.1 (Nat.le_of_ble_eq_true rfl) dX7_readPart_93 ⟨Nat.zero_le _, Nat.zero_le _⟩ (fun H locs hW => ?_)
  refine n_if_eq_t (tgt := 101) X.1 X.2.1 dX7_readPart_96 (by decide) (by decide) (by omega) ?_
  refine lv_aload_n X.1 X.2.1 dX7_readPart_101 rfl (lv_at hl 1 rfl) ?_
  refine lv_iload X.1 X.2.1 dX7_readPart_102 (lv_at hl 5 rfl) ?_
  refine lv_aload_n X.1 X.2.1 dX7_readPart_104 rfl (lv_at hl 1 rfl) ?_
  refine mget 10 (by decide) rfl X hin hW (X.2.2.2.2 (.fieldLink RX7 40 "StrandbookModel" "ends" "[I") (List.mem_cons_of_mem _ (List.mem_append_left _ (List.mem_append_left _ (List.mem_append_left _ (List.mem_of_getElem? (i := 2) rfl)))))) dX7_readPart_105 ?_
  refine lv_iload_n X.1 X.2.1 dX7_readPart_108 rfl (lv_at hl 2 rfl) ?_
  refine mld10 X hW (by omega) dX7_readPart_109 ?_
  refine lv_aload_n X.1 X.2.1 dX7_readPart_110 rfl (lv_at hl 1 rfl) ?_
  refine mget 9 (by decide) rfl X hin hW (X.2.2.2.2 (.fieldLink RX7 37 "StrandbookModel" "places" "[I") (List.mem_cons_of_mem _ (List.mem_append_left _ (List.mem_append_left _ (List.mem_append_left _ (List.mem_of_getElem? (i := 3) rfl)))))) dX7_readPart_111 ?_
  refine lv_iload_n X.1 X.2.1 dX7_readPart_114 rfl (lv_at hl 2 rfl) ?_
  refine mld9 X hW (by omega) dX7_readPart_115 ?_
  refine n_isub X.1 X.2.1 (by omega) dX7_readPart_116 ?_
  refine mcalli hq X hW (mt_lesser l hq (T) (D) (nI 0) (a := n) (b := (T 10 (i)) - (T 9 (i))) (by omega) (by omega)) (cwV 2 X.2.2.2.2 gX7_readPart_X7_lesser rfl rfl rfl (by decide +kernel) ⟨Nat.le_of_ble_eq_true rfl, Nat.le_of_ble_eq_true rfl⟩) rfl rfl hl.1 (Nat.le_of_ble_eq_true rfl) dX7_readPart_117 ⟨Nat.zero_le _, Nat.zero_le _⟩ (fun H locs hW => ?_)
  refine lv_istore (lv' := [(6, .int (nI (min n ((T 10 (i)) - (T 9 (i)))))), (5, .int (nI (1))), (0, .ref (q 0)), (1, .int (nI (i))), (2, .int (nI (r))), (3, .int (nI (f))), (4, .int (nI (n)))]) X.1 X.2.1 dX7_readPart_120 hl (by decide) rfl (fun ls hl => ?_)
  refine lv_iconst (v := nI 0) X.1 X.2.1 dX7_readPart_122 (by decide) ?_
  refine lv_istore (lv' := [(7, .int (nI (0))), (6, .int (nI (min n ((T 10 (i)) - (T 9 (i)))))), (5, .int (nI (1))), (0, .ref (q 0)), (1, .int (nI (i))), (2, .int (nI (r))), (3, .int (nI (f))), (4, .int (nI (n)))]) X.1 X.2.1 dX7_readPart_123 hl (by decide) rfl (fun ls hl => ?_)
  have loop125 : ∀ (n125 k125 : Nat), k125 + n125 = min n (T 10 i - T 9 i) → ∀ (H : Heap) (locs : List Loc), mH G cI cZ q (T) (cpF D 0 (256 * T 2 r + f) (rpF T D i) k125) (nI 0) s H locs → ∀ ls : Array Slot, lv_has ls 8 [(0, .ref (q 0)), (1, .int (nI (i))), (2, .int (nI (r))), (3, .int (nI (f))), (4, .int (nI (n))), (5, .int (nI (1))), (6, .int (nI (min n ((T 10 (i)) - (T 9 (i)))))), (7, .int (nI (k125)))] → W p l e ({ frames := 2, cells := 0, slots := 0, locals := 44 } : Room) s m args below meth c H locs 0 0 Q (F0 m 125 ls []) := by
    intro n125
    induction n125 with
    | zero =>
      intro k125 hk125  H locs hW ls hl
      obtain rfl : min n (T 10 i - T 9 i) = k125 := by omega
      refine lv_iload X.1 X.2.1 dX7_readPart_125 (lv_at hl 7 rfl) ?_
      refine lv_iload X.1 X.2.1 dX7_readPart_127 (lv_at hl 6 rfl) ?_
      refine n_icmp_ge_t (tgt := 183) X.1 X.2.1 dX7_readPart_129 (by decide) (by omega) (by omega) (by omega) ?_
      refine lv_aload_n X.1 X.2.1 dX7_readPart_183 rfl (lv_at hl 0 rfl) ?_
      refine mget 9 (by decide) rfl X hin hW (X.2.2.2.2 (.fieldLink RX7 37 "StrandbookModel" "places" "[I") (List.mem_cons_of_mem _ (List.mem_append_left _ (List.mem_append_left _ (List.mem_append_left _ (List.mem_of_getElem? (i := 3) rfl)))))) dX7_readPart_184 ?_
      refine lv_iload_n X.1 X.2.1 dX7_readPart_187 rfl (lv_at hl 1 rfl) ?_
      refine lv_dup2_11 X.1 X.2.1 dX7_readPart_188 rfl rfl ?_
      refine mld9 X hW (by omega) dX7_readPart_189 ?_
      refine lv_iload X.1 X.2.1 dX7_readPart_190 (lv_at hl 6 rfl) ?_
      refine n_iadd X.1 X.2.1 dX7_readPart_192 ?_
      refine mst9 hq X hW (by omega) dX7_readPart_193 (fun H locs hW => ?_)
      refine lv_iload X.1 X.2.1 dX7_readPart_194 (lv_at hl 6 rfl) ?_
      refine n_if_ne_t (tgt := 203) X.1 X.2.1 dX7_readPart_196 (by decide) (h5) (by omega) ?_
      refine lv_iload X.1 X.2.1 dX7_readPart_203 (lv_at hl 6 rfl) ?_
      exact hE _ _ _ _ _ (rfl) (fun ty hty => by cases hty; exact rfl) hW dX7_readPart_205
    | succ n125 ih125 =>
      intro k125 hk125  H locs hW ls hl
      refine lv_iload X.1 X.2.1 dX7_readPart_125 (lv_at hl 7 rfl) ?_
      refine lv_iload X.1 X.2.1 dX7_readPart_127 (lv_at hl 6 rfl) ?_
      refine n_icmp_ge_f (tgt := 183) X.1 X.2.1 dX7_readPart_129 (by decide) (by omega) (by omega) (by omega) ?_
      refine lv_aload_n X.1 X.2.1 dX7_readPart_132 rfl (lv_at hl 0 rfl) ?_
      refine mget 0 (by decide) rfl X hin hW (X.2.2.2.2 (.fieldLink RX7 7 "StrandbookModel" "signs" "[I") (List.mem_cons_of_mem _ (List.mem_append_left _ (List.mem_append_left _ (List.mem_append_left _ (List.mem_of_getElem? (i := 4) rfl)))))) dX7_readPart_133 ?_
      refine lv_sipush (v := nI 256) X.1 X.2.1 dX7_readPart_136 (by decide) ?_
      refine lv_aload_n X.1 X.2.1 dX7_readPart_139 rfl (lv_at hl 0 rfl) ?_
      refine mget 2 (by decide) rfl X hin hW (X.2.2.2.2 (.fieldLink RX7 16 "StrandbookModel" "signRooms" "[I") (List.mem_cons_of_mem _ (List.mem_append_left _ (List.mem_append_left _ (List.mem_append_left _ (List.mem_of_getElem? (i := 1) rfl)))))) dX7_readPart_140 ?_
      refine lv_iload_n X.1 X.2.1 dX7_readPart_143 rfl (lv_at hl 2 rfl) ?_
      refine mld2 X hW (by omega) dX7_readPart_144 ?_
      refine n_imul X.1 X.2.1 dX7_readPart_145 ?_
      refine lv_iload_n X.1 X.2.1 dX7_readPart_146 rfl (lv_at hl 3 rfl) ?_
      refine n_iadd X.1 X.2.1 dX7_readPart_147 ?_
      refine lv_iload X.1 X.2.1 dX7_readPart_148 (lv_at hl 7 rfl) ?_
      refine n_iadd X.1 X.2.1 dX7_readPart_150 ?_
      refine lv_aload_n X.1 X.2.1 dX7_readPart_151 rfl (lv_at hl 0 rfl) ?_
      refine mget 0 (by decide) rfl X hin hW (X.2.2.2.2 (.fieldLink RX7 7 "StrandbookModel" "signs" "[I") (List.mem_cons_of_mem _ (List.mem_append_left _ (List.mem_append_left _ (List.mem_append_left _ (List.mem_of_getElem? (i := 4) rfl)))))) dX7_readPart_152 ?_
      refine lv_sipush (v := nI 256) X.1 X.2.1 dX7_readPart_155 (by decide) ?_
      refine lv_aload_n X.1 X.2.1 dX7_readPart_158 rfl (lv_at hl 0 rfl) ?_
      refine mget 8 (by decide) rfl X hin hW (X.2.2.2.2 (.fieldLink RX7 34 "StrandbookModel" "reads" "[I") (List.mem_cons_of_mem _ (List.mem_append_left _ (List.mem_append_left _ (List.mem_append_left _ (List.mem_of_getElem? (i := 0) rfl)))))) dX7_readPart_159 ?_
      refine lv_iload_n X.1 X.2.1 dX7_readPart_162 rfl (lv_at hl 1 rfl) ?_
      refine mld8_s X hW (by omega) (z := T 8 i - 1) (by omega) dX7_readPart_163 ?_
      refine n_imul X.1 X.2.1 dX7_readPart_164 ?_
      refine lv_aload_n X.1 X.2.1 dX7_readPart_165 rfl (lv_at hl 0 rfl) ?_
      refine mget 9 (by decide) rfl X hin hW (X.2.2.2.2 (.fieldLink RX7 37 "StrandbookModel" "places" "[I") (List.mem_cons_of_mem _ (List.mem_append_left _ (List.mem_append_left _ (List.mem_append_left _ (List.mem_of_getElem? (i := 3) rfl)))))) dX7_readPart_166 ?_
      refine lv_iload_n X.1 X.2.1 dX7_readPart_169 rfl (lv_at hl 1 rfl) ?_
      refine mld9 X hW (by omega) dX7_readPart_170 ?_
      refine n_iadd X.1 X.2.1 dX7_readPart_171 ?_
      refine lv_iload X.1 X.2.1 dX7_readPart_172 (lv_at hl 7 rfl) ?_
      refine n_iadd X.1 X.2.1 dX7_readPart_174 ?_
      refine mld0 X hW (by omega) dX7_readPart_175 ?_
      refine n_cv (y := D 0 (256 * (T 8 i - 1) + T 9 i + k125)) (cpF_out (by omega)) ?_
      refine mst0 hq X hW (by omega) dX7_readPart_176 (fun H locs hW => ?_)
      refine lv_iinc (v := nI (k125 + 1)) (lv' := [(7, .int (nI (k125 + 1))), (0, .ref (q 0)), (1, .int (nI (i))), (2, .int (nI (r))), (3, .int (nI (f))), (4, .int (nI (n))), (5, .int (nI (1))), (6, .int (nI (min n ((T 10 (i)) - (T 9 (i))))))]) X.1 X.2.1 dX7_readPart_177 hl (k := 7) rfl (nI_1 _) (by decide) rfl (fun ls hl => ?_)
      refine lv_goto (tgt := 125) X.1 X.2.1 dX7_readPart_180 (by decide) ?_
      exact ih125 (k125 + 1) (by omega) _ _ (hW.eq (rfl) (cpF_S' rfl (congrArg (D 0) rfl)) rfl) ls (lv_sub hl [1, 2, 3, 4, 5, 6, 7, 0] rfl)
  exact loop125 ((min n (T 10 i - T 9 i)) - (0)) (0) (by omega) _ _ (hW.eq (rfl) (cpF_0.symm) rfl) ls (lv_sub hl [3, 4, 5, 6, 7, 2, 1, 0] rfl)

theorem mo_readPart (l : Launch) {G : va_G} {cI cZ : ClassId} {q : Nat → Nat} (hq : mJ q) (T : mT) (D : mD) (th : Int32) (I : mI T) (J : mJD D) (i row f n : Int32) : mO l yX7_readPart wsX7_readPart ({ frames := 2, cells := 0, slots := 0, locals := 44 } : Room) G cI cZ q [.int i, .int row, .int f, .int n] T D th (sp_readPart T D i row f n) := by
  by_cases h1 : oN i 3
  · rw [show sp_readPart T D i row f n = no T D 1 from if_pos (Or.inl h1)]; exact mt_readPart_1a l hq T D th h1
  · obtain ⟨i, hi, rfl⟩ := oN_in (by decide) h1
    by_cases h2 : oN row 4
    · rw [show sp_readPart T D (nI i) row f n = no T D 1 from if_pos (Or.inr (Or.inl h2))]
      by_cases hn : nI 1 ≤ n
      · exact mt_readPart_1by l hq T D th hi h2 hn
      · exact mt_readPart_1bx l hq T D th hi h2 hn
    · obtain ⟨r, hr, rfl⟩ := oN_in (by decide) h2
      have hl : rI T (nI r) = T 1 (T 2 r) := by simp only [rI, nI_clamp (show r < 2 ^ 31 by omega)]
      have I2 := I.sr hr
      have I3 := I.sl I2
      by_cases h3 : oP (T 1 (T 2 r)) f n
      · rw [show sp_readPart T D (nI i) (nI r) f n = no T D 1 from if_pos (Or.inr (Or.inr (by rw [hl]; exact h3)))]
        by_cases hn : nI 1 ≤ n
        · exact mt_readPart_1c l hq T D th I hi hr hn h3
        · by_cases h4 : oP (T 1 (T 2 r)) f (nI 0)
          · exact mt_readPart_1d l hq T D th I hi hr hn h4
          · obtain ⟨f0, hf, rfl⟩ := nI_of (fun z => h4 (Or.inl z))
            have h5 : f0 ≤ T 1 (T 2 r) := Nat.not_lt.mp (fun z => h4 (Or.inr (Or.inr (by rw [nI_clamp hf, nI_clamp (by decide)]; exact z))))
            refine mt_readPart_1e l hq T D th I hi hr h5 hn ?_
            rcases h3 with h3 | h3 | h3
            · exact absurd h3 (fun z => h4 (Or.inl z))
            · exact h3
            · refine Classical.byContradiction (fun g => ?_)
              obtain ⟨n0, hn0, rfl⟩ := nI_of g
              rw [nI_clamp hf, nI_clamp hn0] at h3
              exact hn ((nI_leI (by decide) hn0).mpr (by omega))
      · obtain ⟨f0, hf, rfl⟩ := nI_of (fun z => h3 (Or.inl z))
        obtain ⟨n0, hn, rfl⟩ := nI_of (fun z => h3 (Or.inr (Or.inl z)))
        have h4 : f0 + n0 ≤ T 1 (T 2 r) := Nat.not_lt.mp (fun z => h3 (Or.inr (Or.inr (by rw [nI_clamp hf, nI_clamp hn]; exact z))))
        have hc : (nI i).toNatClampNeg = i := nI_clamp (by omega)
        have hc2 : (nI r).toNatClampNeg = r := nI_clamp (by omega)
        have hc3 : (nI f0).toNatClampNeg = f0 := nI_clamp hf
        have hc4 : (nI n0).toNatClampNeg = n0 := nI_clamp hn
        have hno : ¬ (oN (nI i) 3 ∨ oN (nI r) 4 ∨ oP (rI T (nI r)) (nI f0) (nI n0)) := by rw [hl]; exact fun z => z.elim h1 (fun z => z.elim h2 h3)
        have e0 : sp_readPart T D (nI i) (nI r) (nI f0) (nI n0) = if n0 = 0 then no T D 2 else if clo T i then no T D 3 else if T 8 i = T 2 r + 1 then no T D 4 else sk_readPart T D i r f0 n0 := by
          rw [sp_readPart, if_neg hno, hc, hc2, hc3, hc4]
        rw [e0]
        by_cases h5 : n0 = 0
        · subst h5; rw [if_pos rfl]; exact mt_readPart_2 l hq T D th I hi hr (by omega)
        · rw [if_neg h5]
          by_cases h6 : clo T i
          · rw [if_pos h6]; exact mt_readPart_3 l hq T D th I hi hr h4 h5 h6
          · rw [if_neg h6]
            by_cases h7 : T 8 i = T 2 r + 1
            · rw [if_pos h7]; exact mt_readPart_4 l hq T D th I hi hr h4 h5 h6 h7
            · rw [if_neg h7]
              by_cases h8 : min n0 (T 10 i - T 9 i) = 0
              · have e : sk_readPart T D i r f0 n0 = (0, -1, u2 T 9 i (T 9 i + min n0 (T 10 i - T 9 i)), cpF D 0 (256 * T 2 r + f0) (rpF T D i) (min n0 (T 10 i - T 9 i))) := by rw [sk_readPart, if_pos h8]
                rw [e]; exact mt_readPart_z l hq T D th I hi hr h4 h5 h6 h7 h8
              · have e : sk_readPart T D i r f0 n0 = (0, nI (min n0 (T 10 i - T 9 i)), u2 T 9 i (T 9 i + min n0 (T 10 i - T 9 i)), cpF D 0 (256 * T 2 r + f0) (rpF T D i) (min n0 (T 10 i - T 9 i))) := by rw [sk_readPart, if_neg h8]
                rw [e]; exact mt_readPart_p l hq T D th I hi hr h4 h5 h6 h7 h8

set_option maxHeartbeats 4000000 in
set_option maxRecDepth 100000 in
theorem mt_skip_1 (l : Launch) {G : va_G} {cI cZ : ClassId} {q : Nat → Nat} (hq : mJ q) (T : mT) (D : mD) (th : Int32) {i : Int32} {lm : Int64} (h : oN i 3) : mMl l yX7_skip wsX7_skip ({ frames := 1, cells := 0, slots := 0, locals := 21 } : Room) G cI cZ q [.int (i), .long (lm)] (T) (D) (th) (lN 0) (T) (D) (nI 1) := by
  refine mstartl (cc := cX7_skip) (maxL := 6) (ret := (some .long)) (by decide) rfl rfl rfl (Nat.le_of_ble_eq_true rfl) (fun p e s m args below meth c Q hE X hW ls hl => ?_)
  have hl : lv_has ls 6 [(0, .ref (q 0)), (1, .int (i)), (2, .long (lm))] := hl
  have hin : ∀ w ∈ wsX70, w ∈ wsX7_skip := fun w h => List.mem_cons_of_mem _ (List.mem_append_left _ (List.mem_append_right _ (h)))
  refine lv_aload_n X.1 X.2.1 dX7_skip_0 rfl (lv_at hl 0 rfl) ?_
  refine lv_aload_n X.1 X.2.1 dX7_skip_1 rfl (lv_at hl 0 rfl) ?_
  refine lv_iload_n X.1 X.2.1 dX7_skip_2 rfl (lv_at hl 1 rfl) ?_
  refine mcalli hq X hW (mt_isOther_bad l hq (T) (D) (th) (x := i) (h)) (cwV 1 X.2.2.2.2 gX7_skip_X7_isOther rfl rfl rfl (by decide +kernel) ⟨Nat.le_of_ble_eq_true rfl, Nat.le_of_ble_eq_true rfl⟩) rfl rfl hl.1 (Nat.le_of_ble_eq_true rfl) dX7_skip_3 ⟨Nat.zero_le _, Nat.zero_le _⟩ (fun H locs hW => ?_)
  refine n_if_ne_f (tgt := 13) X.1 X.2.1 dX7_skip_6 (by decide) (by decide) (by omega) ?_
  refine lv_iconst (v := nI 1) X.1 X.2.1 dX7_skip_9 (by decide) ?_
  refine lv_goto (tgt := 26) X.1 X.2.1 dX7_skip_10 (by decide) ?_
  refine mcalli hq X hW (mt_isWrong_s l hq (T) (D) (th) (n := 1) (by decide) (by decide)) (cwV 1 X.2.2.2.2 gX7_skip_X7_isWrong rfl rfl rfl (by decide +kernel) ⟨Nat.le_of_ble_eq_true rfl, Nat.le_of_ble_eq_true rfl⟩) rfl rfl hl.1 (Nat.le_of_ble_eq_true rfl) dX7_skip_26 ⟨Nat.zero_le _, Nat.zero_le _⟩ (fun H locs hW => ?_)
  refine n_if_eq_f (tgt := 34) X.1 X.2.1 dX7_skip_29 (by decide) (by decide) (by omega) ?_
  refine lv_lconst (v := lN 0) X.1 X.2.1 dX7_skip_32 rfl ?_
  exact hE _ _ _ _ _ (rfl) hW dX7_skip_33

set_option maxHeartbeats 4000000 in
set_option maxRecDepth 100000 in
theorem mt_skip_2 (l : Launch) {G : va_G} {cI cZ : ClassId} {q : Nat → Nat} (hq : mJ q) (T : mT) (D : mD) (th : Int32) (I : mI T) {i : Nat} {lm : Int64} (hi : i < 3) (h : clo T i) : mMl l yX7_skip wsX7_skip ({ frames := 1, cells := 0, slots := 0, locals := 21 } : Room) G cI cZ q [.int (nI (i)), .long (lm)] (T) (D) (th) (lN 0) (T) (D) (nI 2) := by
  refine mstartl (cc := cX7_skip) (maxL := 6) (ret := (some .long)) (by decide) rfl rfl rfl (Nat.le_of_ble_eq_true rfl) (fun p e s m args below meth c Q hE X hW ls hl => ?_)
  have hl : lv_has ls 6 [(0, .ref (q 0)), (1, .int (nI (i))), (2, .long (lm))] := hl
  have hin : ∀ w ∈ wsX70, w ∈ wsX7_skip := fun w h => List.mem_cons_of_mem _ (List.mem_append_left _ (List.mem_append_right _ (h)))
  refine lv_aload_n X.1 X.2.1 dX7_skip_0 rfl (lv_at hl 0 rfl) ?_
  refine lv_aload_n X.1 X.2.1 dX7_skip_1 rfl (lv_at hl 0 rfl) ?_
  refine lv_iload_n X.1 X.2.1 dX7_skip_2 rfl (lv_at hl 1 rfl) ?_
  refine mcalli hq X hW (mt_isOther_ok l hq (T) (D) (th) (r := i) (by omega)) (cwV 1 X.2.2.2.2 gX7_skip_X7_isOther rfl rfl rfl (by decide +kernel) ⟨Nat.le_of_ble_eq_true rfl, Nat.le_of_ble_eq_true rfl⟩) rfl rfl hl.1 (Nat.le_of_ble_eq_true rfl) dX7_skip_3 ⟨Nat.zero_le _, Nat.zero_le _⟩ (fun H locs hW => ?_)
  refine n_if_ne_t (tgt := 13) X.1 X.2.1 dX7_skip_6 (by decide) (by decide) (by omega) ?_
  refine lv_aload_n X.1 X.2.1 dX7_skip_13 rfl (lv_at hl 0 rfl) ?_
  refine lv_iload_n X.1 X.2.1 dX7_skip_14 rfl (lv_at hl 1 rfl) ?_
  refine mcalli hq X hW (mt_isClosed_1 l hq (T) (D) (th) I (i := i) (by omega) (h)) (cwV 1 X.2.2.2.2 gX7_skip_X7_isClosed rfl rfl rfl (by decide +kernel) ⟨Nat.le_of_ble_eq_true rfl, Nat.le_of_ble_eq_true rfl⟩) rfl rfl hl.1 (Nat.le_of_ble_eq_true rfl) dX7_skip_15 ⟨Nat.zero_le _, Nat.zero_le _⟩ (fun H locs hW => ?_)
  refine n_if_eq_f (tgt := 25) X.1 X.2.1 dX7_skip_18 (by decide) (by decide) (by omega) ?_
  refine lv_iconst (v := nI 2) X.1 X.2.1 dX7_skip_21 (by decide) ?_
  refine lv_goto (tgt := 26) X.1 X.2.1 dX7_skip_22 (by decide) ?_
  refine mcalli hq X hW (mt_isWrong_s l hq (T) (D) (th) (n := 2) (by decide) (by decide)) (cwV 1 X.2.2.2.2 gX7_skip_X7_isWrong rfl rfl rfl (by decide +kernel) ⟨Nat.le_of_ble_eq_true rfl, Nat.le_of_ble_eq_true rfl⟩) rfl rfl hl.1 (Nat.le_of_ble_eq_true rfl) dX7_skip_26 ⟨Nat.zero_le _, Nat.zero_le _⟩ (fun H locs hW => ?_)
  refine n_if_eq_f (tgt := 34) X.1 X.2.1 dX7_skip_29 (by decide) (by decide) (by omega) ?_
  refine lv_lconst (v := lN 0) X.1 X.2.1 dX7_skip_32 rfl ?_
  exact hE _ _ _ _ _ (rfl) hW dX7_skip_33

set_option maxHeartbeats 4000000 in
set_option maxRecDepth 100000 in
theorem mt_skip_n (l : Launch) {G : va_G} {cI cZ : ClassId} {q : Nat → Nat} (hq : mJ q) (T : mT) (D : mD) (th : Int32) (I : mI T) {i : Nat} {lm : Int64} (hi : i < 3) (h : ¬ clo T i) (hm : lm < 0) : mMl l yX7_skip wsX7_skip ({ frames := 1, cells := 0, slots := 0, locals := 21 } : Room) G cI cZ q [.int (nI (i)), .long (lm)] (T) (D) (th) (lN 0) (u2 T 9 i (T 9 i + 0)) (D) (nI 0) := by
  refine mstartl (cc := cX7_skip) (maxL := 6) (ret := (some .long)) (by decide) rfl rfl rfl (Nat.le_of_ble_eq_true rfl) (fun p e s m args below meth c Q hE X hW ls hl => ?_)
  have hl : lv_has ls 6 [(0, .ref (q 0)), (1, .int (nI (i))), (2, .long (lm))] := hl
  have hin : ∀ w ∈ wsX70, w ∈ wsX7_skip := fun w h => List.mem_cons_of_mem _ (List.mem_append_left _ (List.mem_append_right _ (h)))
  have I1 := I.rd hi
  refine lv_aload_n X.1 X.2.1 dX7_skip_0 rfl (lv_at hl 0 rfl) ?_
  refine lv_aload_n X.1 X.2.1 dX7_skip_1 rfl (lv_at hl 0 rfl) ?_
  refine lv_iload_n X.1 X.2.1 dX7_skip_2 rfl (lv_at hl 1 rfl) ?_
  refine mcalli hq X hW (mt_isOther_ok l hq (T) (D) (th) (r := i) (by omega)) (cwV 1 X.2.2.2.2 gX7_skip_X7_isOther rfl rfl rfl (by decide +kernel) ⟨Nat.le_of_ble_eq_true rfl, Nat.le_of_ble_eq_true rfl⟩) rfl rfl hl.1 (Nat.le_of_ble_eq_true rfl) dX7_skip_3 ⟨Nat.zero_le _, Nat.zero_le _⟩ (fun H locs hW => ?_)
  refine n_if_ne_t (tgt := 13) X.1 X.2.1 dX7_skip_6 (by decide) (by decide) (by omega) ?_
  refine lv_aload_n X.1 X.2.1 dX7_skip_13 rfl (lv_at hl 0 rfl) ?_
  refine lv_iload_n X.1 X.2.1 dX7_skip_14 rfl (lv_at hl 1 rfl) ?_
  refine mcalli hq X hW (mt_isClosed_o l hq (T) (D) (th) I (i := i) (by omega) (h)) (cwV 1 X.2.2.2.2 gX7_skip_X7_isClosed rfl rfl rfl (by decide +kernel) ⟨Nat.le_of_ble_eq_true rfl, Nat.le_of_ble_eq_true rfl⟩) rfl rfl hl.1 (Nat.le_of_ble_eq_true rfl) dX7_skip_15 ⟨Nat.zero_le _, Nat.zero_le _⟩ (fun H locs hW => ?_)
  refine n_if_eq_t (tgt := 25) X.1 X.2.1 dX7_skip_18 (by decide) (by decide) (by omega) ?_
  refine lv_iconst (v := nI 0) X.1 X.2.1 dX7_skip_25 (by decide) ?_
  refine mcalli hq X hW (mt_isWrong_0 l hq (T) (D) (th)) (cwV 1 X.2.2.2.2 gX7_skip_X7_isWrong rfl rfl rfl (by decide +kernel) ⟨Nat.le_of_ble_eq_true rfl, Nat.le_of_ble_eq_true rfl⟩) rfl rfl hl.1 (Nat.le_of_ble_eq_true rfl) dX7_skip_26 ⟨Nat.zero_le _, Nat.zero_le _⟩ (fun H locs hW => ?_)
  refine n_if_eq_t (tgt := 34) X.1 X.2.1 dX7_skip_29 (by decide) (by decide) (by omega) ?_
  refine lv_aload_n X.1 X.2.1 dX7_skip_34 rfl (lv_at hl 0 rfl) ?_
  refine mget 10 (by decide) rfl X hin hW (X.2.2.2.2 (.fieldLink RX7 40 "StrandbookModel" "ends" "[I") (List.mem_cons_of_mem _ (List.mem_append_left _ (List.mem_append_left _ (List.mem_of_getElem? (i := 0) rfl))))) dX7_skip_35 ?_
  refine lv_iload_n X.1 X.2.1 dX7_skip_38 rfl (lv_at hl 1 rfl) ?_
  refine mld10 X hW (by omega) dX7_skip_39 ?_
  refine lv_aload_n X.1 X.2.1 dX7_skip_40 rfl (lv_at hl 0 rfl) ?_
  refine mget 9 (by decide) rfl X hin hW (X.2.2.2.2 (.fieldLink RX7 37 "StrandbookModel" "places" "[I") (List.mem_cons_of_mem _ (List.mem_append_left _ (List.mem_append_left _ (List.mem_of_getElem? (i := 1) rfl))))) dX7_skip_41 ?_
  refine lv_iload_n X.1 X.2.1 dX7_skip_44 rfl (lv_at hl 1 rfl) ?_
  refine mld9 X hW (by omega) dX7_skip_45 ?_
  refine n_isub X.1 X.2.1 (by omega) dX7_skip_46 ?_
  refine lv_istore (lv' := [(4, .int (nI ((T 10 (i)) - (T 9 (i))))), (0, .ref (q 0)), (1, .int (nI (i))), (2, .long (lm))]) X.1 X.2.1 dX7_skip_47 hl (by decide) rfl (fun ls hl => ?_)
  refine lv_lload_n X.1 X.2.1 dX7_skip_49 rfl (lv_at hl 3 rfl) ?_
  refine lv_lconst (v := lN 0) X.1 X.2.1 dX7_skip_50 rfl ?_
  refine W.lcmp X.1 X.2.1 dX7_skip_51 ?_
  refine x_if_ge_f (tgt := 59) X.1 X.2.1 dX7_skip_52 (by decide) (fun z => absurd hm (Int64.not_lt.mpr ((lg_cmp_ge _ _).mp z))) ?_
  refine lv_iconst (v := nI 0) X.1 X.2.1 dX7_skip_55 (by decide) ?_
  refine lv_goto (tgt := 74) X.1 X.2.1 dX7_skip_56 (by decide) ?_
  refine lv_istore (lv' := [(5, .int (nI (0))), (4, .int (nI ((T 10 (i)) - (T 9 (i))))), (0, .ref (q 0)), (1, .int (nI (i))), (2, .long (lm))]) X.1 X.2.1 dX7_skip_74 hl (by decide) rfl (fun ls hl => ?_)
  refine lv_aload_n X.1 X.2.1 dX7_skip_76 rfl (lv_at hl 2 rfl) ?_
  refine mget 9 (by decide) rfl X hin hW (X.2.2.2.2 (.fieldLink RX7 37 "StrandbookModel" "places" "[I") (List.mem_cons_of_mem _ (List.mem_append_left _ (List.mem_append_left _ (List.mem_of_getElem? (i := 1) rfl))))) dX7_skip_77 ?_
  refine lv_iload_n X.1 X.2.1 dX7_skip_80 rfl (lv_at hl 3 rfl) ?_
  refine lv_dup2_11 X.1 X.2.1 dX7_skip_81 rfl rfl ?_
  refine mld9 X hW (by omega) dX7_skip_82 ?_
  refine lv_iload X.1 X.2.1 dX7_skip_83 (lv_at hl 0 rfl) ?_
  refine n_iadd X.1 X.2.1 dX7_skip_85 ?_
  refine mst9 hq X hW (by omega) dX7_skip_86 (fun H locs hW => ?_)
  refine lv_iload X.1 X.2.1 dX7_skip_87 (lv_at hl 0 rfl) ?_
  refine lv_i2l (v := lN (0)) X.1 X.2.1 dX7_skip_89 (nI_l (by omega)) ?_
  exact hE _ _ _ _ _ (rfl) hW dX7_skip_90

set_option maxHeartbeats 4000000 in
set_option maxRecDepth 100000 in
theorem mt_skip_l (l : Launch) {G : va_G} {cI cZ : ClassId} {q : Nat → Nat} (hq : mJ q) (T : mT) (D : mD) (th : Int32) (I : mI T) {i k : Nat} (hi : i < 3) (h : ¬ clo T i) (hk : k < 2 ^ 63) (h2 : k < T 10 i - T 9 i) : mMl l yX7_skip wsX7_skip ({ frames := 1, cells := 0, slots := 0, locals := 21 } : Room) G cI cZ q [.int (nI (i)), .long (lN k)] (T) (D) (th) (lN k) (u2 T 9 i (T 9 i + k)) (D) (nI 0) := by
  refine mstartl (cc := cX7_skip) (maxL := 6) (ret := (some .long)) (by decide) rfl rfl rfl (Nat.le_of_ble_eq_true rfl) (fun p e s m args below meth c Q hE X hW ls hl => ?_)
  have hl : lv_has ls 6 [(0, .ref (q 0)), (1, .int (nI (i))), (2, .long (lN k))] := hl
  have hin : ∀ w ∈ wsX70, w ∈ wsX7_skip := fun w h => List.mem_cons_of_mem _ (List.mem_append_left _ (List.mem_append_right _ (h)))
  have I1 := I.rd hi
  refine lv_aload_n X.1 X.2.1 dX7_skip_0 rfl (lv_at hl 0 rfl) ?_
  refine lv_aload_n X.1 X.2.1 dX7_skip_1 rfl (lv_at hl 0 rfl) ?_
  refine lv_iload_n X.1 X.2.1 dX7_skip_2 rfl (lv_at hl 1 rfl) ?_
  refine mcalli hq X hW (mt_isOther_ok l hq (T) (D) (th) (r := i) (by omega)) (cwV 1 X.2.2.2.2 gX7_skip_X7_isOther rfl rfl rfl (by decide +kernel) ⟨Nat.le_of_ble_eq_true rfl, Nat.le_of_ble_eq_true rfl⟩) rfl rfl hl.1 (Nat.le_of_ble_eq_true rfl) dX7_skip_3 ⟨Nat.zero_le _, Nat.zero_le _⟩ (fun H locs hW => ?_)
  refine n_if_ne_t (tgt := 13) X.1 X.2.1 dX7_skip_6 (by decide) (by decide) (by omega) ?_
  refine lv_aload_n X.1 X.2.1 dX7_skip_13 rfl (lv_at hl 0 rfl) ?_
  refine lv_iload_n X.1 X.2.1 dX7_skip_14 rfl (lv_at hl 1 rfl) ?_
  refine mcalli hq X hW (mt_isClosed_o l hq (T) (D) (th) I (i := i) (by omega) (h)) (cwV 1 X.2.2.2.2 gX7_skip_X7_isClosed rfl rfl rfl (by decide +kernel) ⟨Nat.le_of_ble_eq_true rfl, Nat.le_of_ble_eq_true rfl⟩) rfl rfl hl.1 (Nat.le_of_ble_eq_true rfl) dX7_skip_15 ⟨Nat.zero_le _, Nat.zero_le _⟩ (fun H locs hW => ?_)
  refine n_if_eq_t (tgt := 25) X.1 X.2.1 dX7_skip_18 (by decide) (by decide) (by omega) ?_
  refine lv_iconst (v := nI 0) X.1 X.2.1 dX7_skip_25 (by decide) ?_
  refine mcalli hq X hW (mt_isWrong_0 l hq (T) (D) (th)) (cwV 1 X.2.2.2.2 gX7_skip_X7_isWrong rfl rfl rfl (by decide +kernel) ⟨Nat.le_of_ble_eq_true rfl, Nat.le_of_ble_eq_true rfl⟩) rfl rfl hl.1 (Nat.le_of_ble_eq_true rfl) dX7_skip_26 ⟨Nat.zero_le _, Nat.zero_le _⟩ (fun H locs hW => ?_)
  refine n_if_eq_t (tgt := 34) X.1 X.2.1 dX7_skip_29 (by decide) (by decide) (by omega) ?_
  refine lv_aload_n X.1 X.2.1 dX7_skip_34 rfl (lv_at hl 0 rfl) ?_
  refine mget 10 (by decide) rfl X hin hW (X.2.2.2.2 (.fieldLink RX7 40 "StrandbookModel" "ends" "[I") (List.mem_cons_of_mem _ (List.mem_append_left _ (List.mem_append_left _ (List.mem_of_getElem? (i := 0) rfl))))) dX7_skip_35 ?_
  refine lv_iload_n X.1 X.2.1 dX7_skip_38 rfl (lv_at hl 1 rfl) ?_
  refine mld10 X hW (by omega) dX7_skip_39 ?_
  refine lv_aload_n X.1 X.2.1 dX7_skip_40 rfl (lv_at hl 0 rfl) ?_
  refine mget 9 (by decide) rfl X hin hW (X.2.2.2.2 (.fieldLink RX7 37 "StrandbookModel" "places" "[I") (List.mem_cons_of_mem _ (List.mem_append_left _ (List.mem_append_left _ (List.mem_of_getElem? (i := 1) rfl))))) dX7_skip_41 ?_
  refine lv_iload_n X.1 X.2.1 dX7_skip_44 rfl (lv_at hl 1 rfl) ?_
  refine mld9 X hW (by omega) dX7_skip_45 ?_
  refine n_isub X.1 X.2.1 (by omega) dX7_skip_46 ?_
  refine lv_istore (lv' := [(4, .int (nI ((T 10 (i)) - (T 9 (i))))), (0, .ref (q 0)), (1, .int (nI (i))), (2, .long (lN k))]) X.1 X.2.1 dX7_skip_47 hl (by decide) rfl (fun ls hl => ?_)
  refine lv_lload_n X.1 X.2.1 dX7_skip_49 rfl (lv_at hl 3 rfl) ?_
  refine lv_lconst (v := lN 0) X.1 X.2.1 dX7_skip_50 rfl ?_
  refine W.lcmp X.1 X.2.1 dX7_skip_51 ?_
  refine x_if_ge_t (tgt := 59) X.1 X.2.1 dX7_skip_52 (by decide) ((lg_cmp_ge _ _).mpr (by rw [show (lN 0 : Int64) = 0 from rfl]; exact (pk_lLE (by decide) hk).mpr (Nat.zero_le k))) ?_
  refine lv_lload_n X.1 X.2.1 dX7_skip_59 rfl (lv_at hl 3 rfl) ?_
  refine lv_iload X.1 X.2.1 dX7_skip_60 (lv_at hl 0 rfl) ?_
  refine lv_i2l (v := lN ((T 10 (i)) - (T 9 (i)))) X.1 X.2.1 dX7_skip_62 (nI_l (by omega)) ?_
  refine W.lcmp X.1 X.2.1 dX7_skip_63 ?_
  refine x_if_ge_f (tgt := 72) X.1 X.2.1 dX7_skip_64 (by decide) (fun z => absurd ((pk_lLE (by omega) hk).mp ((lg_cmp_ge _ _).mp z)) (by omega)) ?_
  refine lv_lload_n X.1 X.2.1 dX7_skip_67 rfl (lv_at hl 3 rfl) ?_
  refine lv_l2i (v := nI (k)) X.1 X.2.1 dX7_skip_68 (lN_i k) ?_
  refine lv_goto (tgt := 74) X.1 X.2.1 dX7_skip_69 (by decide) ?_
  refine lv_istore (lv' := [(5, .int (nI (k))), (4, .int (nI ((T 10 (i)) - (T 9 (i))))), (0, .ref (q 0)), (1, .int (nI (i))), (2, .long (lN k))]) X.1 X.2.1 dX7_skip_74 hl (by decide) rfl (fun ls hl => ?_)
  refine lv_aload_n X.1 X.2.1 dX7_skip_76 rfl (lv_at hl 2 rfl) ?_
  refine mget 9 (by decide) rfl X hin hW (X.2.2.2.2 (.fieldLink RX7 37 "StrandbookModel" "places" "[I") (List.mem_cons_of_mem _ (List.mem_append_left _ (List.mem_append_left _ (List.mem_of_getElem? (i := 1) rfl))))) dX7_skip_77 ?_
  refine lv_iload_n X.1 X.2.1 dX7_skip_80 rfl (lv_at hl 3 rfl) ?_
  refine lv_dup2_11 X.1 X.2.1 dX7_skip_81 rfl rfl ?_
  refine mld9 X hW (by omega) dX7_skip_82 ?_
  refine lv_iload X.1 X.2.1 dX7_skip_83 (lv_at hl 0 rfl) ?_
  refine n_iadd X.1 X.2.1 dX7_skip_85 ?_
  refine mst9 hq X hW (by omega) dX7_skip_86 (fun H locs hW => ?_)
  refine lv_iload X.1 X.2.1 dX7_skip_87 (lv_at hl 0 rfl) ?_
  refine lv_i2l (v := lN (k)) X.1 X.2.1 dX7_skip_89 (nI_l (by omega)) ?_
  exact hE _ _ _ _ _ (rfl) hW dX7_skip_90

set_option maxHeartbeats 4000000 in
set_option maxRecDepth 100000 in
theorem mt_skip_r (l : Launch) {G : va_G} {cI cZ : ClassId} {q : Nat → Nat} (hq : mJ q) (T : mT) (D : mD) (th : Int32) (I : mI T) {i k : Nat} (hi : i < 3) (h : ¬ clo T i) (hk : k < 2 ^ 63) (h2 : T 10 i - T 9 i ≤ k) : mMl l yX7_skip wsX7_skip ({ frames := 1, cells := 0, slots := 0, locals := 21 } : Room) G cI cZ q [.int (nI (i)), .long (lN k)] (T) (D) (th) (lN (T 10 i - T 9 i)) (u2 T 9 i (T 9 i + (T 10 i - T 9 i))) (D) (nI 0) := by
  refine mstartl (cc := cX7_skip) (maxL := 6) (ret := (some .long)) (by decide) rfl rfl rfl (Nat.le_of_ble_eq_true rfl) (fun p e s m args below meth c Q hE X hW ls hl => ?_)
  have hl : lv_has ls 6 [(0, .ref (q 0)), (1, .int (nI (i))), (2, .long (lN k))] := hl
  have hin : ∀ w ∈ wsX70, w ∈ wsX7_skip := fun w h => List.mem_cons_of_mem _ (List.mem_append_left _ (List.mem_append_right _ (h)))
  have I1 := I.rd hi
  refine lv_aload_n X.1 X.2.1 dX7_skip_0 rfl (lv_at hl 0 rfl) ?_
  refine lv_aload_n X.1 X.2.1 dX7_skip_1 rfl (lv_at hl 0 rfl) ?_
  refine lv_iload_n X.1 X.2.1 dX7_skip_2 rfl (lv_at hl 1 rfl) ?_
  refine mcalli hq X hW (mt_isOther_ok l hq (T) (D) (th) (r := i) (by omega)) (cwV 1 X.2.2.2.2 gX7_skip_X7_isOther rfl rfl rfl (by decide +kernel) ⟨Nat.le_of_ble_eq_true rfl, Nat.le_of_ble_eq_true rfl⟩) rfl rfl hl.1 (Nat.le_of_ble_eq_true rfl) dX7_skip_3 ⟨Nat.zero_le _, Nat.zero_le _⟩ (fun H locs hW => ?_)
  refine n_if_ne_t (tgt := 13) X.1 X.2.1 dX7_skip_6 (by decide) (by decide) (by omega) ?_
  refine lv_aload_n X.1 X.2.1 dX7_skip_13 rfl (lv_at hl 0 rfl) ?_
  refine lv_iload_n X.1 X.2.1 dX7_skip_14 rfl (lv_at hl 1 rfl) ?_
  refine mcalli hq X hW (mt_isClosed_o l hq (T) (D) (th) I (i := i) (by omega) (h)) (cwV 1 X.2.2.2.2 gX7_skip_X7_isClosed rfl rfl rfl (by decide +kernel) ⟨Nat.le_of_ble_eq_true rfl, Nat.le_of_ble_eq_true rfl⟩) rfl rfl hl.1 (Nat.le_of_ble_eq_true rfl) dX7_skip_15 ⟨Nat.zero_le _, Nat.zero_le _⟩ (fun H locs hW => ?_)
  refine n_if_eq_t (tgt := 25) X.1 X.2.1 dX7_skip_18 (by decide) (by decide) (by omega) ?_
  refine lv_iconst (v := nI 0) X.1 X.2.1 dX7_skip_25 (by decide) ?_
  refine mcalli hq X hW (mt_isWrong_0 l hq (T) (D) (th)) (cwV 1 X.2.2.2.2 gX7_skip_X7_isWrong rfl rfl rfl (by decide +kernel) ⟨Nat.le_of_ble_eq_true rfl, Nat.le_of_ble_eq_true rfl⟩) rfl rfl hl.1 (Nat.le_of_ble_eq_true rfl) dX7_skip_26 ⟨Nat.zero_le _, Nat.zero_le _⟩ (fun H locs hW => ?_)
  refine n_if_eq_t (tgt := 34) X.1 X.2.1 dX7_skip_29 (by decide) (by decide) (by omega) ?_
  refine lv_aload_n X.1 X.2.1 dX7_skip_34 rfl (lv_at hl 0 rfl) ?_
  refine mget 10 (by decide) rfl X hin hW (X.2.2.2.2 (.fieldLink RX7 40 "StrandbookModel" "ends" "[I") (List.mem_cons_of_mem _ (List.mem_append_left _ (List.mem_append_left _ (List.mem_of_getElem? (i := 0) rfl))))) dX7_skip_35 ?_
  refine lv_iload_n X.1 X.2.1 dX7_skip_38 rfl (lv_at hl 1 rfl) ?_
  refine mld10 X hW (by omega) dX7_skip_39 ?_
  refine lv_aload_n X.1 X.2.1 dX7_skip_40 rfl (lv_at hl 0 rfl) ?_
  refine mget 9 (by decide) rfl X hin hW (X.2.2.2.2 (.fieldLink RX7 37 "StrandbookModel" "places" "[I") (List.mem_cons_of_mem _ (List.mem_append_left _ (List.mem_append_left _ (List.mem_of_getElem? (i := 1) rfl))))) dX7_skip_41 ?_
  refine lv_iload_n X.1 X.2.1 dX7_skip_44 rfl (lv_at hl 1 rfl) ?_
  refine mld9 X hW (by omega) dX7_skip_45 ?_
  refine n_isub X.1 X.2.1 (by omega) dX7_skip_46 ?_
  refine lv_istore (lv' := [(4, .int (nI ((T 10 (i)) - (T 9 (i))))), (0, .ref (q 0)), (1, .int (nI (i))), (2, .long (lN k))]) X.1 X.2.1 dX7_skip_47 hl (by decide) rfl (fun ls hl => ?_)
  refine lv_lload_n X.1 X.2.1 dX7_skip_49 rfl (lv_at hl 3 rfl) ?_
  refine lv_lconst (v := lN 0) X.1 X.2.1 dX7_skip_50 rfl ?_
  refine W.lcmp X.1 X.2.1 dX7_skip_51 ?_
  refine x_if_ge_t (tgt := 59) X.1 X.2.1 dX7_skip_52 (by decide) ((lg_cmp_ge _ _).mpr (by rw [show (lN 0 : Int64) = 0 from rfl]; exact (pk_lLE (by decide) hk).mpr (Nat.zero_le k))) ?_
  refine lv_lload_n X.1 X.2.1 dX7_skip_59 rfl (lv_at hl 3 rfl) ?_
  refine lv_iload X.1 X.2.1 dX7_skip_60 (lv_at hl 0 rfl) ?_
  refine lv_i2l (v := lN ((T 10 (i)) - (T 9 (i)))) X.1 X.2.1 dX7_skip_62 (nI_l (by omega)) ?_
  refine W.lcmp X.1 X.2.1 dX7_skip_63 ?_
  refine x_if_ge_t (tgt := 72) X.1 X.2.1 dX7_skip_64 (by decide) ((lg_cmp_ge _ _).mpr ((pk_lLE (by omega) hk).mpr h2)) ?_
  refine lv_iload X.1 X.2.1 dX7_skip_72 (lv_at hl 0 rfl) ?_
  refine lv_istore (lv' := [(5, .int (nI ((T 10 (i)) - (T 9 (i))))), (4, .int (nI ((T 10 (i)) - (T 9 (i))))), (0, .ref (q 0)), (1, .int (nI (i))), (2, .long (lN k))]) X.1 X.2.1 dX7_skip_74 hl (by decide) rfl (fun ls hl => ?_)
  refine lv_aload_n X.1 X.2.1 dX7_skip_76 rfl (lv_at hl 2 rfl) ?_
  refine mget 9 (by decide) rfl X hin hW (X.2.2.2.2 (.fieldLink RX7 37 "StrandbookModel" "places" "[I") (List.mem_cons_of_mem _ (List.mem_append_left _ (List.mem_append_left _ (List.mem_of_getElem? (i := 1) rfl))))) dX7_skip_77 ?_
  refine lv_iload_n X.1 X.2.1 dX7_skip_80 rfl (lv_at hl 3 rfl) ?_
  refine lv_dup2_11 X.1 X.2.1 dX7_skip_81 rfl rfl ?_
  refine mld9 X hW (by omega) dX7_skip_82 ?_
  refine lv_iload X.1 X.2.1 dX7_skip_83 (lv_at hl 0 rfl) ?_
  refine n_iadd X.1 X.2.1 dX7_skip_85 ?_
  refine mst9 hq X hW (by omega) dX7_skip_86 (fun H locs hW => ?_)
  refine lv_iload X.1 X.2.1 dX7_skip_87 (lv_at hl 0 rfl) ?_
  refine lv_i2l (v := lN ((T 10 (i)) - (T 9 (i)))) X.1 X.2.1 dX7_skip_89 (nI_l (by omega)) ?_
  exact hE _ _ _ _ _ (rfl) hW dX7_skip_90

theorem mo_skip (l : Launch) {G : va_G} {cI cZ : ClassId} {q : Nat → Nat} (hq : mJ q) (T : mT) (D : mD) (th : Int32) (I : mI T) (J : mJD D) (i : Int32) (m : Int64) : mOl l yX7_skip wsX7_skip ({ frames := 1, cells := 0, slots := 0, locals := 21 } : Room) G cI cZ q [.int i, .long m] T D th (sp_skip T D i m) := by
  by_cases h1 : oN i 3
  · rw [show sp_skip T D i m = nol T D 1 from if_pos h1]; exact mt_skip_1 l hq T D th h1
  · obtain ⟨i, hi, rfl⟩ := oN_in (by decide) h1
    have hc : (nI i).toNatClampNeg = i := nI_clamp (by omega)
    by_cases h2 : clo T i
    · rw [show sp_skip T D (nI i) m = nol T D 2 from (if_neg h1).trans (if_pos (by rw [hc]; exact h2))]; exact mt_skip_2 l hq T D th I hi h2
    · have I1 := I.rd hi
      have e0 : sp_skip T D (nI i) m = (0, skN m (T 10 i - T 9 i), u2 T 9 i (T 9 i + skN m (T 10 i - T 9 i)), D) := (if_neg h1).trans ((if_neg (by rw [hc]; exact h2)).trans (by rw [hc]))
      rw [e0]
      by_cases hm : m < 0
      · rw [show skN m (T 10 i - T 9 i) = 0 from if_pos hm]; exact mt_skip_n l hq T D th I hi h2 hm
      · obtain ⟨k, hk, rfl⟩ := pk_lOf hm
        have e1 : skN (lN k) (T 10 i - T 9 i) = min k (T 10 i - T 9 i) := (if_neg hm).trans (by rw [pk_lT hk]; rfl)
        rw [e1]
        by_cases h3 : k < T 10 i - T 9 i
        · rw [show min k (T 10 i - T 9 i) = k by omega]; exact mt_skip_l l hq T D th I hi h2 hk h3
        · rw [show min k (T 10 i - T 9 i) = T 10 i - T 9 i by omega]; exact mt_skip_r l hq T D th I hi h2 hk (Nat.not_lt.mp h3)
