/-! the class: writers, rows and readers -/
section RA
variable {p : Program} {l : Launch} {e : Env} {R : Room} {s : State} {m : MethodId} {args : Array Value} {below : List Frame} {meth : Method} {c : Code} {H : Heap} {locs : List Loc} {cells slots : Nat} {Q : State → Prop} {cc : ByteArray} {pc : Nat} {ls : Array Slot} {rest : List Value}
theorem r_acmp_ne_t (hx : p.tables.exec = Jvm.exec) (hb : c.code = cc) {x y : Nat} {off : Int} {tgt : Nat} (hdg : decode cc pc = .ok (.if_acmp .ne off, 3)) (ht : (pc : Int) + off = (tgt : Int)) (h : x ≠ y) (k : W p l e R s m args below meth c H locs cells slots Q (F0 m tgt ls rest)) : W p l e R s m args below meth c H locs cells slots Q (F0 m pc ls (.ref y :: .ref x :: rest)) :=
  lv_acmp_ne (rx := some x) (ry := some y) hx hb hdg ht (fun _ => k) (fun z => absurd (Option.some.inj z) h)
theorem r_acmp_ne_f (hx : p.tables.exec = Jvm.exec) (hb : c.code = cc) {x y : Nat} {off : Int} {tgt : Nat} (hdg : decode cc pc = .ok (.if_acmp .ne off, 3)) (ht : (pc : Int) + off = (tgt : Int)) (h : x = y) (k : W p l e R s m args below meth c H locs cells slots Q (F0 m (pc + 3) ls rest)) : W p l e R s m args below meth c H locs cells slots Q (F0 m pc ls (.ref y :: .ref x :: rest)) :=
  lv_acmp_ne (rx := some x) (ry := some y) hx hb hdg ht (fun z => absurd (congrArg some h) z) (fun _ => k)
end RA
/-- a writer at th, its row at ar, of n signs -/
def isWr (L : List Nat) (K : Nat → Nat) (R : pR) (I : pI) (N : Nat → Nat) (th ar n : Nat) : Prop := th ∈ L ∧ K th = 4 ∧ R 4 th = some ar ∧ ar ∈ L ∧ K ar = 8 ∧ N ar = 256 ∧ I 10 th = nI n ∧ n ≤ 256
/-- a row of signs at ro, its array at ar, of n -/
def isSR (L : List Nat) (K : Nat → Nat) (R : pR) (N : Nat → Nat) (ro ar n : Nat) : Prop := ro ∈ L ∧ K ro = 3 ∧ R 3 ro = some ar ∧ ar ∈ L ∧ K ar = 8 ∧ N ar = n ∧ n ≤ 256
/-- an array of signs at ar, of n -/
def isCA (L : List Nat) (K : Nat → Nat) (N : Nat → Nat) (ar n : Nat) : Prop := ar ∈ L ∧ K ar = 8 ∧ N ar = n ∧ n ≤ 256
/-- a reader at th over the row ro, at the place a of an end b -/
def isRd (L : List Nat) (K : Nat → Nat) (R : pR) (I : pI) (th ro a b : Nat) : Prop := th ∈ L ∧ K th = 2 ∧ R 2 th = some ro ∧ I 5 th = nI a ∧ I 6 th = nI b ∧ a ≤ b ∧ b ≤ 256
theorem nar_c {x : Int32} (h : x &&& nI 255 = x) : vp_nar .char x = x := by rw [vp_nar_char]; exact cvc_255 h
theorem nar_cc (x : Int32) : vp_nar .char (cvc x) = cvc x := by rw [vp_nar_char]; exact pk_vc x
theorem min_nI {a b : Nat} (ha : a < 2 ^ 31) (hb : b < 2 ^ 31) : (if nI b < nI a then nI b else nI a) = nI (min a b) := by
  by_cases h : b < a
  · rw [if_pos ((nI_ltI hb ha).mpr h), show min a b = b by omega]
  · rw [if_neg (fun z => h ((nI_ltI hb ha).mp z)), show min a b = a by omega]
set_option maxHeartbeats 4000000 in
set_option maxRecDepth 100000 in
theorem ct_giveUpAll (l : Launch) {G : va_G} {kT : Nat → ClassId} {L : List Nat} {K : Nat → Nat} {R : pR} {I : pI} {A : mD} {Q : pR} {N : Nat → Nat} {th ar n : Nat} (hw : isWr L K R I N th ar n) : cMi l yX4_giveUpAll wsX4_giveUpAll ({ frames := 0, cells := 0, slots := 0, locals := 0 } : Room) G kT [.ref (th)] L K (R) (I) (A) (Q) N (nI n) (R) (u2 I 10 th (nI 0)) (A) (Q) := by
  refine csti (cc := cX4_giveUpAll) (maxL := 2) (ret := (some .int)) (by decide) rfl ⟨_, rfl⟩ (Nat.le_of_ble_eq_true rfl) (fun p e s m args below meth c Z hE X hW ls hl => ?_)
  have X : CallFix p m c cX4_giveUpAll 2 s args wsX4_giveUpAll RX4 := X
  have hl : lv_has ls 2 [(0, .ref (th))] := hl
  have hin4 : ∀ w ∈ wsX40, w ∈ wsX4_giveUpAll := fun w h => List.mem_cons_of_mem _ (List.mem_append_right _ (h))
  refine lv_aload_n X.1 X.2.1 dX4_giveUpAll_0 rfl (lv_at hl 0 rfl) ?_
  refine cg_4_count X hin4 hW (hw.1) (hw.2.1) (hw.2.2.2.2.2.2.1) (X.2.2.2.2 (.fieldLink RX4 15 "Strandbook$SignWriter" "count" "I") (List.mem_cons_of_mem _ (List.mem_append_left _ (List.mem_of_getElem? (i := 0) rfl)))) dX4_giveUpAll_1 ?_
  refine lv_istore_n (lv' := [(1, .int (nI (n))), (0, .ref (th))]) X.1 X.2.1 dX4_giveUpAll_4 rfl hl (by decide) rfl (fun ls hl => ?_)
  refine lv_aload_n X.1 X.2.1 dX4_giveUpAll_5 rfl (lv_at hl 1 rfl) ?_
  refine lv_iconst (v := nI 0) X.1 X.2.1 dX4_giveUpAll_6 (by decide) ?_
  refine cp_4_count X hin4 hW (hw.1) (hw.2.1) (X.2.2.2.2 (.fieldLink RX4 15 "Strandbook$SignWriter" "count" "I") (List.mem_cons_of_mem _ (List.mem_append_left _ (List.mem_of_getElem? (i := 0) rfl)))) dX4_giveUpAll_7 (fun H locs hW => ?_)
  refine lv_iload_n X.1 X.2.1 dX4_giveUpAll_10 rfl (lv_at hl 0 rfl) ?_
  exact hE _ _ _ _ _ (rfl) (fun ty hty => by cases hty; exact rfl) hW dX4_giveUpAll_11
set_option maxHeartbeats 4000000 in
set_option maxRecDepth 100000 in
theorem ct_addAll (l : Launch) {G : va_G} {kT : Nat → ClassId} {L : List Nat} {K : Nat → Nat} {R : pR} {I : pI} {A : mD} {Q : pR} {N : Nat → Nat} {th ar n sr k f j : Nat} (hw : isWr L K R I N th ar n) (hs : isCA L K N sr k) (hne : sr ≠ ar) (hj : n + j ≤ 256) (hf : f + j ≤ k) (hx : ∀ i, f ≤ i → i < f + j → vp_nar .char (A sr i) = A sr i) : cMv l yX4_addAll wsX4_addAll ({ frames := 0, cells := 0, slots := 0, locals := 0 } : Room) G kT [.ref (th), .ref (sr), .int (nI (f)), .int (nI (j))] L K (R) (I) (A) (Q) N (R) (u2 I 10 th (nI (n + j))) (cpF A ar n (fun i => A sr (f + i)) j) (Q) := by
  refine cstv (cc := cX4_addAll) (maxL := 5) (ret := none) (by decide) rfl rfl (Nat.le_of_ble_eq_true rfl) (fun p e s m args below meth c Z hE X hW ls hl => ?_)
  have X : CallFix p m c cX4_addAll 5 s args wsX4_addAll RX4 := X
  have hl : lv_has ls 5 [(0, .ref (th)), (1, .ref (sr)), (2, .int (nI (f))), (3, .int (nI (j)))] := hl
  have hin4 : ∀ w ∈ wsX40, w ∈ wsX4_addAll := fun w h => List.mem_cons_of_mem _ (List.mem_append_left _ (List.mem_append_right _ (h)))
  have hk := hs.2.2.2
  refine lv_iconst (v := nI 0) X.1 X.2.1 dX4_addAll_0 (by decide) ?_
  refine lv_istore (lv' := [(4, .int (nI (0))), (0, .ref (th)), (1, .ref (sr)), (2, .int (nI (f))), (3, .int (nI (j)))]) X.1 X.2.1 dX4_addAll_1 hl (by decide) rfl (fun ls hl => ?_)
  have loop3 : ∀ (n3 k3 : Nat), k3 + n3 = j → ∀ (H : Heap) (locs : List Loc), cH G kT L L K (R) (I) (cpF A ar n (fun i => A sr (f + i)) k3) (Q) N s H locs → ∀ ls : Array Slot, lv_has ls 5 [(0, .ref (th)), (1, .ref (sr)), (2, .int (nI (f))), (3, .int (nI (j))), (4, .int (nI (k3)))] → W p l e ({ frames := 0, cells := 0, slots := 0, locals := 0 } : Room) s m args below meth c H locs 0 0 Z (F0 m 3 ls []) := by
    intro n3
    induction n3 with
    | zero =>
      intro k3 hk3  H locs hW ls hl
      obtain rfl : j = k3 := by omega
      refine lv_iload X.1 X.2.1 dX4_addAll_3 (lv_at hl 4 rfl) ?_
      refine lv_iload_n X.1 X.2.1 dX4_addAll_5 rfl (lv_at hl 3 rfl) ?_
      refine n_icmp_ge_t (tgt := 33) X.1 X.2.1 dX4_addAll_6 (by decide) (by omega) (by omega) (by omega) ?_
      refine lv_aload_n X.1 X.2.1 dX4_addAll_33 rfl (lv_at hl 0 rfl) ?_
      refine lv_dup X.1 X.2.1 dX4_addAll_34 rfl ?_
      refine cg_4_count X hin4 hW (hw.1) (hw.2.1) (hw.2.2.2.2.2.2.1) (X.2.2.2.2 (.fieldLink RX4 15 "Strandbook$SignWriter" "count" "I") (List.mem_cons_of_mem _ (List.mem_append_left _ (List.mem_append_left _ (List.mem_of_getElem? (i := 1) rfl))))) dX4_addAll_35 ?_
      refine lv_iload_n X.1 X.2.1 dX4_addAll_38 rfl (lv_at hl 3 rfl) ?_
      refine n_iadd X.1 X.2.1 dX4_addAll_39 ?_
      refine cp_4_count X hin4 hW (hw.1) (hw.2.1) (X.2.2.2.2 (.fieldLink RX4 15 "Strandbook$SignWriter" "count" "I") (List.mem_cons_of_mem _ (List.mem_append_left _ (List.mem_append_left _ (List.mem_of_getElem? (i := 1) rfl))))) dX4_addAll_40 (fun H locs hW => ?_)
      exact hE _ _ _ _ hW dX4_addAll_43
    | succ n3 ih3 =>
      intro k3 hk3  H locs hW ls hl
      refine lv_iload X.1 X.2.1 dX4_addAll_3 (lv_at hl 4 rfl) ?_
      refine lv_iload_n X.1 X.2.1 dX4_addAll_5 rfl (lv_at hl 3 rfl) ?_
      refine n_icmp_ge_f (tgt := 33) X.1 X.2.1 dX4_addAll_6 (by decide) (by omega) (by omega) (by omega) ?_
      refine lv_aload_n X.1 X.2.1 dX4_addAll_9 rfl (lv_at hl 0 rfl) ?_
      refine cg_4_signs X hin4 hW (hw.1) (hw.2.1) (hw.2.2.1) (X.2.2.2.2 (.fieldLink RX4 9 "Strandbook$SignWriter" "signs" "[C") (List.mem_cons_of_mem _ (List.mem_append_left _ (List.mem_append_left _ (List.mem_of_getElem? (i := 0) rfl))))) dX4_addAll_10 ?_
      refine lv_aload_n X.1 X.2.1 dX4_addAll_13 rfl (lv_at hl 0 rfl) ?_
      refine cg_4_count X hin4 hW (hw.1) (hw.2.1) (hw.2.2.2.2.2.2.1) (X.2.2.2.2 (.fieldLink RX4 15 "Strandbook$SignWriter" "count" "I") (List.mem_cons_of_mem _ (List.mem_append_left _ (List.mem_append_left _ (List.mem_of_getElem? (i := 1) rfl))))) dX4_addAll_14 ?_
      refine lv_iload X.1 X.2.1 dX4_addAll_17 (lv_at hl 4 rfl) ?_
      refine n_iadd X.1 X.2.1 dX4_addAll_19 ?_
      refine lv_aload_n X.1 X.2.1 dX4_addAll_20 rfl (lv_at hl 1 rfl) ?_
      refine lv_iload_n X.1 X.2.1 dX4_addAll_21 rfl (lv_at hl 2 rfl) ?_
      refine lv_iload X.1 X.2.1 dX4_addAll_22 (lv_at hl 4 rfl) ?_
      refine n_iadd X.1 X.2.1 dX4_addAll_24 ?_
      refine cld_8 X hW (v := A sr (f + k3)) (hs.1) (hs.2.1) (by rw [hs.2.2.1]; omega) (by omega) (congrFun (cpF_ne hne) _) dX4_addAll_25 ?_
      refine cst_8 X hW (hw.2.2.2.1) (hw.2.2.2.2.1) (by rw [hw.2.2.2.2.2.1]; omega) (by omega) (hx _ (by omega) (by omega)) dX4_addAll_26 (fun H locs hW => ?_)
      refine lv_iinc (v := nI (k3 + 1)) (lv' := [(4, .int (nI (k3 + 1))), (0, .ref (th)), (1, .ref (sr)), (2, .int (nI (f))), (3, .int (nI (j)))]) X.1 X.2.1 dX4_addAll_27 hl (k := 4) rfl (nI_1 _) (by decide) rfl (fun ls hl => ?_)
      refine lv_goto (tgt := 3) X.1 X.2.1 dX4_addAll_30 (by decide) ?_
      exact ih3 (k3 + 1) (by omega) _ _ (hW.eq (rfl) (rfl) (cpF_S' rfl rfl) (rfl)) ls (lv_sub hl [1, 2, 3, 4, 0] rfl)
  exact loop3 ((j) - (0)) (0) (by omega) _ _ (hW.eq (rfl) (rfl) (cpF_0.symm) (rfl)) ls (lv_sub hl [1, 2, 3, 4, 0] rfl)
set_option maxHeartbeats 4000000 in
set_option maxRecDepth 100000 in
theorem ct_copyTo (l : Launch) {G : va_G} {kT : Nat → ClassId} {L : List Nat} {K : Nat → Nat} {R : pR} {I : pI} {A : mD} {Q : pR} {N : Nat → Nat} {th ar n sr k : Nat} (hw : isWr L K R I N th ar n) (hs : isCA L K N sr k) (hne : ar ≠ sr) (hn : n ≤ k) (hx : ∀ i, i < n → vp_nar .char (A ar i) = A ar i) : cMv l yX4_copyTo wsX4_copyTo ({ frames := 0, cells := 0, slots := 0, locals := 0 } : Room) G kT [.ref (th), .ref (sr)] L K (R) (I) (A) (Q) N (R) (I) (cpF A sr 0 (fun i => A ar i) n) (Q) := by
  refine cstv (cc := cX4_copyTo) (maxL := 3) (ret := none) (by decide) rfl rfl (Nat.le_of_ble_eq_true rfl) (fun p e s m args below meth c Z hE X hW ls hl => ?_)
  have X : CallFix p m c cX4_copyTo 3 s args wsX4_copyTo RX4 := X
  have hl : lv_has ls 3 [(0, .ref (th)), (1, .ref (sr))] := hl
  have hin4 : ∀ w ∈ wsX40, w ∈ wsX4_copyTo := fun w h => List.mem_cons_of_mem _ (List.mem_append_left _ (List.mem_append_right _ (h)))
  have hk := hs.2.2.2
  have hn2 := hw.2.2.2.2.2.2.2
  refine lv_iconst (v := nI 0) X.1 X.2.1 dX4_copyTo_0 (by decide) ?_
  refine lv_istore_n (lv' := [(2, .int (nI (0))), (0, .ref (th)), (1, .ref (sr))]) X.1 X.2.1 dX4_copyTo_1 rfl hl (by decide) rfl (fun ls hl => ?_)
  have loop2 : ∀ (n2 k2 : Nat), k2 + n2 = n → ∀ (H : Heap) (locs : List Loc), cH G kT L L K (R) (I) (cpF A sr 0 (fun i => A ar i) k2) (Q) N s H locs → ∀ ls : Array Slot, lv_has ls 3 [(0, .ref (th)), (1, .ref (sr)), (2, .int (nI (k2)))] → W p l e ({ frames := 0, cells := 0, slots := 0, locals := 0 } : Room) s m args below meth c H locs 0 0 Z (F0 m 2 ls []) := by
    intro n2
    induction n2 with
    | zero =>
      intro k2 hk2  H locs hW ls hl
      obtain rfl : n = k2 := by omega
      refine lv_iload_n X.1 X.2.1 dX4_copyTo_2 rfl (lv_at hl 2 rfl) ?_
      refine lv_aload_n X.1 X.2.1 dX4_copyTo_3 rfl (lv_at hl 0 rfl) ?_
      refine cg_4_count X hin4 hW (hw.1) (hw.2.1) (hw.2.2.2.2.2.2.1) (X.2.2.2.2 (.fieldLink RX4 15 "Strandbook$SignWriter" "count" "I") (List.mem_cons_of_mem _ (List.mem_append_left _ (List.mem_append_left _ (List.mem_of_getElem? (i := 0) rfl))))) dX4_copyTo_4 ?_
      refine n_icmp_ge_t (tgt := 25) X.1 X.2.1 dX4_copyTo_7 (by decide) (by omega) (by omega) (by omega) ?_
      exact hE _ _ _ _ hW dX4_copyTo_25
    | succ n2 ih2 =>
      intro k2 hk2  H locs hW ls hl
      refine lv_iload_n X.1 X.2.1 dX4_copyTo_2 rfl (lv_at hl 2 rfl) ?_
      refine lv_aload_n X.1 X.2.1 dX4_copyTo_3 rfl (lv_at hl 0 rfl) ?_
      refine cg_4_count X hin4 hW (hw.1) (hw.2.1) (hw.2.2.2.2.2.2.1) (X.2.2.2.2 (.fieldLink RX4 15 "Strandbook$SignWriter" "count" "I") (List.mem_cons_of_mem _ (List.mem_append_left _ (List.mem_append_left _ (List.mem_of_getElem? (i := 0) rfl))))) dX4_copyTo_4 ?_
      refine n_icmp_ge_f (tgt := 25) X.1 X.2.1 dX4_copyTo_7 (by decide) (by omega) (by omega) (by omega) ?_
      refine lv_aload_n X.1 X.2.1 dX4_copyTo_10 rfl (lv_at hl 1 rfl) ?_
      refine lv_iload_n X.1 X.2.1 dX4_copyTo_11 rfl (lv_at hl 2 rfl) ?_
      refine lv_aload_n X.1 X.2.1 dX4_copyTo_12 rfl (lv_at hl 0 rfl) ?_
      refine cg_4_signs X hin4 hW (hw.1) (hw.2.1) (hw.2.2.1) (X.2.2.2.2 (.fieldLink RX4 9 "Strandbook$SignWriter" "signs" "[C") (List.mem_cons_of_mem _ (List.mem_append_left _ (List.mem_append_left _ (List.mem_of_getElem? (i := 1) rfl))))) dX4_copyTo_13 ?_
      refine lv_iload_n X.1 X.2.1 dX4_copyTo_16 rfl (lv_at hl 2 rfl) ?_
      refine cld_8 X hW (v := A ar k2) (hw.2.2.2.1) (hw.2.2.2.2.1) (by rw [hw.2.2.2.2.2.1]; omega) (by omega) (congrFun (cpF_ne hne) _) dX4_copyTo_17 ?_
      refine cst_8 X hW (hs.1) (hs.2.1) (by rw [hs.2.2.1]; omega) (by omega) (hx _ (by omega)) dX4_copyTo_18 (fun H locs hW => ?_)
      refine lv_iinc (v := nI (k2 + 1)) (lv' := [(2, .int (nI (k2 + 1))), (0, .ref (th)), (1, .ref (sr))]) X.1 X.2.1 dX4_copyTo_19 hl (k := 2) rfl (nI_1 _) (by decide) rfl (fun ls hl => ?_)
      refine lv_goto (tgt := 2) X.1 X.2.1 dX4_copyTo_22 (by decide) ?_
      exact ih2 (k2 + 1) (by omega) _ _ (hW.eq (rfl) (rfl) (cpF_S' (by omega) rfl) (rfl)) ls (lv_sub hl [1, 2, 0] rfl)
  exact loop2 ((n) - (0)) (0) (by omega) _ _ (hW.eq (rfl) (rfl) (cpF_0.symm) (rfl)) ls (lv_sub hl [1, 2, 0] rfl)
set_option maxHeartbeats 4000000 in
set_option maxRecDepth 100000 in
theorem ct_hasSame_n (l : Launch) {G : va_G} {kT : Nat → ClassId} {L : List Nat} {K : Nat → Nat} {R : pR} {I : pI} {A : mD} {Q : pR} {N : Nat → Nat} {th ar n ot a2 n2 : Nat} (hw : isWr L K R I N th ar n) (ho : isWr L K R I N ot a2 n2) (h : n ≠ n2) : cMi l yX4_hasSameAs wsX4_hasSameAs ({ frames := 0, cells := 0, slots := 0, locals := 0 } : Room) G kT [.ref (th), .ref (ot)] L K (R) (I) (A) (Q) N (nI 0) (R) (I) (A) (Q) := by
  refine csti (cc := cX4_hasSameAs) (maxL := 3) (ret := (some .boolean)) (by decide) rfl ⟨_, rfl⟩ (Nat.le_of_ble_eq_true rfl) (fun p e s m args below meth c Z hE X hW ls hl => ?_)
  have X : CallFix p m c cX4_hasSameAs 3 s args wsX4_hasSameAs RX4 := X
  have hl : lv_has ls 3 [(0, .ref (th)), (1, .ref (ot))] := hl
  have hin4 : ∀ w ∈ wsX40, w ∈ wsX4_hasSameAs := fun w h => List.mem_cons_of_mem _ (List.mem_append_left _ (List.mem_append_right _ (h)))
  have hn9 := hw.2.2.2.2.2.2.2
  have hn8 := ho.2.2.2.2.2.2.2
  refine lv_aload_n X.1 X.2.1 dX4_hasSameAs_0 rfl (lv_at hl 0 rfl) ?_
  refine cg_4_count X hin4 hW (hw.1) (hw.2.1) (hw.2.2.2.2.2.2.1) (X.2.2.2.2 (.fieldLink RX4 15 "Strandbook$SignWriter" "count" "I") (List.mem_cons_of_mem _ (List.mem_append_left _ (List.mem_append_left _ (List.mem_of_getElem? (i := 0) rfl))))) dX4_hasSameAs_1 ?_
  refine lv_aload_n X.1 X.2.1 dX4_hasSameAs_4 rfl (lv_at hl 1 rfl) ?_
  refine cg_4_count X hin4 hW (ho.1) (ho.2.1) (ho.2.2.2.2.2.2.1) (X.2.2.2.2 (.fieldLink RX4 15 "Strandbook$SignWriter" "count" "I") (List.mem_cons_of_mem _ (List.mem_append_left _ (List.mem_append_left _ (List.mem_of_getElem? (i := 0) rfl))))) dX4_hasSameAs_5 ?_
  refine n_icmp_eq_f (tgt := 13) X.1 X.2.1 dX4_hasSameAs_8 (by decide) (h) (by omega) (by omega) ?_
  refine lv_iconst (v := nI 0) X.1 X.2.1 dX4_hasSameAs_11 (by decide) ?_
  exact hE _ _ _ _ _ (rfl) (fun ty hty => by cases hty; exact nI_zb (by omega)) hW dX4_hasSameAs_12
set_option maxHeartbeats 4000000 in
set_option maxRecDepth 100000 in
theorem ct_hasSame_t (l : Launch) {G : va_G} {kT : Nat → ClassId} {L : List Nat} {K : Nat → Nat} {R : pR} {I : pI} {A : mD} {Q : pR} {N : Nat → Nat} {th ar n ot a2 : Nat} (hw : isWr L K R I N th ar n) (ho : isWr L K R I N ot a2 n) (h : ∀ i, i < n → A ar i = A a2 i) : cMi l yX4_hasSameAs wsX4_hasSameAs ({ frames := 0, cells := 0, slots := 0, locals := 0 } : Room) G kT [.ref (th), .ref (ot)] L K (R) (I) (A) (Q) N (nI 1) (R) (I) (A) (Q) := by
  refine csti (cc := cX4_hasSameAs) (maxL := 3) (ret := (some .boolean)) (by decide) rfl ⟨_, rfl⟩ (Nat.le_of_ble_eq_true rfl) (fun p e s m args below meth c Z hE X hW ls hl => ?_)
  have X : CallFix p m c cX4_hasSameAs 3 s args wsX4_hasSameAs RX4 := X
  have hl : lv_has ls 3 [(0, .ref (th)), (1, .ref (ot))] := hl
  have hin4 : ∀ w ∈ wsX40, w ∈ wsX4_hasSameAs := fun w h => List.mem_cons_of_mem _ (List.mem_append_left _ (List.mem_append_right _ (h)))
  have hn9 := hw.2.2.2.2.2.2.2
  have hn8 := ho.2.2.2.2.2.2.2
  refine lv_aload_n X.1 X.2.1 dX4_hasSameAs_0 rfl (lv_at hl 0 rfl) ?_
  refine cg_4_count X hin4 hW (hw.1) (hw.2.1) (hw.2.2.2.2.2.2.1) (X.2.2.2.2 (.fieldLink RX4 15 "Strandbook$SignWriter" "count" "I") (List.mem_cons_of_mem _ (List.mem_append_left _ (List.mem_append_left _ (List.mem_of_getElem? (i := 0) rfl))))) dX4_hasSameAs_1 ?_
  refine lv_aload_n X.1 X.2.1 dX4_hasSameAs_4 rfl (lv_at hl 1 rfl) ?_
  refine cg_4_count X hin4 hW (ho.1) (ho.2.1) (ho.2.2.2.2.2.2.1) (X.2.2.2.2 (.fieldLink RX4 15 "Strandbook$SignWriter" "count" "I") (List.mem_cons_of_mem _ (List.mem_append_left _ (List.mem_append_left _ (List.mem_of_getElem? (i := 0) rfl))))) dX4_hasSameAs_5 ?_
  refine n_icmp_eq_t (tgt := 13) X.1 X.2.1 dX4_hasSameAs_8 (by decide) (rfl) (by omega) (by omega) ?_
  refine lv_iconst (v := nI 0) X.1 X.2.1 dX4_hasSameAs_13 (by decide) ?_
  refine lv_istore_n (lv' := [(2, .int (nI (0))), (0, .ref (th)), (1, .ref (ot))]) X.1 X.2.1 dX4_hasSameAs_14 rfl hl (by decide) rfl (fun ls hl => ?_)
  have loop15 : ∀ (n15 k15 : Nat), k15 + n15 = n → ∀ (H : Heap) (locs : List Loc), cH G kT L L K (R) (I) (A) (Q) N s H locs → ∀ ls : Array Slot, lv_has ls 3 [(0, .ref (th)), (1, .ref (ot)), (2, .int (nI (k15)))] → W p l e ({ frames := 0, cells := 0, slots := 0, locals := 0 } : Room) s m args below meth c H locs 0 0 Z (F0 m 15 ls []) := by
    intro n15
    induction n15 with
    | zero =>
      intro k15 hk15  H locs hW ls hl
      obtain rfl : n = k15 := by omega
      refine lv_iload_n X.1 X.2.1 dX4_hasSameAs_15 rfl (lv_at hl 2 rfl) ?_
      refine lv_aload_n X.1 X.2.1 dX4_hasSameAs_16 rfl (lv_at hl 0 rfl) ?_
      refine cg_4_count X hin4 hW (hw.1) (hw.2.1) (hw.2.2.2.2.2.2.1) (X.2.2.2.2 (.fieldLink RX4 15 "Strandbook$SignWriter" "count" "I") (List.mem_cons_of_mem _ (List.mem_append_left _ (List.mem_append_left _ (List.mem_of_getElem? (i := 0) rfl))))) dX4_hasSameAs_17 ?_
      refine n_icmp_ge_t (tgt := 46) X.1 X.2.1 dX4_hasSameAs_20 (by decide) (by omega) (by omega) (by omega) ?_
      refine lv_iconst (v := nI 1) X.1 X.2.1 dX4_hasSameAs_46 (by decide) ?_
      exact hE _ _ _ _ _ (rfl) (fun ty hty => by cases hty; exact nI_zb (by omega)) hW dX4_hasSameAs_47
    | succ n15 ih15 =>
      intro k15 hk15  H locs hW ls hl
      refine lv_iload_n X.1 X.2.1 dX4_hasSameAs_15 rfl (lv_at hl 2 rfl) ?_
      refine lv_aload_n X.1 X.2.1 dX4_hasSameAs_16 rfl (lv_at hl 0 rfl) ?_
      refine cg_4_count X hin4 hW (hw.1) (hw.2.1) (hw.2.2.2.2.2.2.1) (X.2.2.2.2 (.fieldLink RX4 15 "Strandbook$SignWriter" "count" "I") (List.mem_cons_of_mem _ (List.mem_append_left _ (List.mem_append_left _ (List.mem_of_getElem? (i := 0) rfl))))) dX4_hasSameAs_17 ?_
      refine n_icmp_ge_f (tgt := 46) X.1 X.2.1 dX4_hasSameAs_20 (by decide) (by omega) (by omega) (by omega) ?_
      refine lv_aload_n X.1 X.2.1 dX4_hasSameAs_23 rfl (lv_at hl 0 rfl) ?_
      refine cg_4_signs X hin4 hW (hw.1) (hw.2.1) (hw.2.2.1) (X.2.2.2.2 (.fieldLink RX4 9 "Strandbook$SignWriter" "signs" "[C") (List.mem_cons_of_mem _ (List.mem_append_left _ (List.mem_append_left _ (List.mem_of_getElem? (i := 1) rfl))))) dX4_hasSameAs_24 ?_
      refine lv_iload_n X.1 X.2.1 dX4_hasSameAs_27 rfl (lv_at hl 2 rfl) ?_
      refine cld_8 X hW (v := A ar k15) (hw.2.2.2.1) (hw.2.2.2.2.1) (by rw [hw.2.2.2.2.2.1]; omega) (by omega) (rfl) dX4_hasSameAs_28 ?_
      refine lv_aload_n X.1 X.2.1 dX4_hasSameAs_29 rfl (lv_at hl 1 rfl) ?_
      refine cg_4_signs X hin4 hW (ho.1) (ho.2.1) (ho.2.2.1) (X.2.2.2.2 (.fieldLink RX4 9 "Strandbook$SignWriter" "signs" "[C") (List.mem_cons_of_mem _ (List.mem_append_left _ (List.mem_append_left _ (List.mem_of_getElem? (i := 1) rfl))))) dX4_hasSameAs_30 ?_
      refine lv_iload_n X.1 X.2.1 dX4_hasSameAs_33 rfl (lv_at hl 2 rfl) ?_
      refine cld_8 X hW (v := A a2 k15) (ho.2.2.2.1) (ho.2.2.2.2.1) (by rw [ho.2.2.2.2.2.1]; omega) (by omega) (rfl) dX4_hasSameAs_34 ?_
      refine x_icmp_eq_t (tgt := 40) X.1 X.2.1 dX4_hasSameAs_35 (by decide) (h _ (by omega)) ?_
      refine lv_iinc (v := nI (k15 + 1)) (lv' := [(2, .int (nI (k15 + 1))), (0, .ref (th)), (1, .ref (ot))]) X.1 X.2.1 dX4_hasSameAs_40 hl (k := 2) rfl (nI_1 _) (by decide) rfl (fun ls hl => ?_)
      refine lv_goto (tgt := 15) X.1 X.2.1 dX4_hasSameAs_43 (by decide) ?_
      exact ih15 (k15 + 1) (by omega) _ _ (hW.eq (rfl) (rfl) (rfl) (rfl)) ls (lv_sub hl [1, 2, 0] rfl)
  exact loop15 ((n) - (0)) (0) (by omega) _ _ (hW.eq (rfl) (rfl) (rfl) (rfl)) ls (lv_sub hl [1, 2, 0] rfl)
set_option maxHeartbeats 4000000 in
set_option maxRecDepth 100000 in
theorem ct_hasSame_f (l : Launch) {G : va_G} {kT : Nat → ClassId} {L : List Nat} {K : Nat → Nat} {R : pR} {I : pI} {A : mD} {Q : pR} {N : Nat → Nat} {th ar n ot a2 : Nat} (hw : isWr L K R I N th ar n) (ho : isWr L K R I N ot a2 n) (i0 : Nat) (hi0 : i0 < n) (hd : A ar i0 ≠ A a2 i0) (h : ∀ i, i < i0 → A ar i = A a2 i) : cMi l yX4_hasSameAs wsX4_hasSameAs ({ frames := 0, cells := 0, slots := 0, locals := 0 } : Room) G kT [.ref (th), .ref (ot)] L K (R) (I) (A) (Q) N (nI 0) (R) (I) (A) (Q) := by
  refine csti (cc := cX4_hasSameAs) (maxL := 3) (ret := (some .boolean)) (by decide) rfl ⟨_, rfl⟩ (Nat.le_of_ble_eq_true rfl) (fun p e s m args below meth c Z hE X hW ls hl => ?_)
  have X : CallFix p m c cX4_hasSameAs 3 s args wsX4_hasSameAs RX4 := X
  have hl : lv_has ls 3 [(0, .ref (th)), (1, .ref (ot))] := hl
  have hin4 : ∀ w ∈ wsX40, w ∈ wsX4_hasSameAs := fun w h => List.mem_cons_of_mem _ (List.mem_append_left _ (List.mem_append_right _ (h)))
  have hn9 := hw.2.2.2.2.2.2.2
  have hn8 := ho.2.2.2.2.2.2.2
  refine lv_aload_n X.1 X.2.1 dX4_hasSameAs_0 rfl (lv_at hl 0 rfl) ?_
  refine cg_4_count X hin4 hW (hw.1) (hw.2.1) (hw.2.2.2.2.2.2.1) (X.2.2.2.2 (.fieldLink RX4 15 "Strandbook$SignWriter" "count" "I") (List.mem_cons_of_mem _ (List.mem_append_left _ (List.mem_append_left _ (List.mem_of_getElem? (i := 0) rfl))))) dX4_hasSameAs_1 ?_
  refine lv_aload_n X.1 X.2.1 dX4_hasSameAs_4 rfl (lv_at hl 1 rfl) ?_
  refine cg_4_count X hin4 hW (ho.1) (ho.2.1) (ho.2.2.2.2.2.2.1) (X.2.2.2.2 (.fieldLink RX4 15 "Strandbook$SignWriter" "count" "I") (List.mem_cons_of_mem _ (List.mem_append_left _ (List.mem_append_left _ (List.mem_of_getElem? (i := 0) rfl))))) dX4_hasSameAs_5 ?_
  refine n_icmp_eq_t (tgt := 13) X.1 X.2.1 dX4_hasSameAs_8 (by decide) (rfl) (by omega) (by omega) ?_
  refine lv_iconst (v := nI 0) X.1 X.2.1 dX4_hasSameAs_13 (by decide) ?_
  refine lv_istore_n (lv' := [(2, .int (nI (0))), (0, .ref (th)), (1, .ref (ot))]) X.1 X.2.1 dX4_hasSameAs_14 rfl hl (by decide) rfl (fun ls hl => ?_)
  have loop15 : ∀ (n15 k15 : Nat), k15 + n15 = n → k15 ≤ i0 → ∀ (H : Heap) (locs : List Loc), cH G kT L L K (R) (I) (A) (Q) N s H locs → ∀ ls : Array Slot, lv_has ls 3 [(0, .ref (th)), (1, .ref (ot)), (2, .int (nI (k15)))] → W p l e ({ frames := 0, cells := 0, slots := 0, locals := 0 } : Room) s m args below meth c H locs 0 0 Z (F0 m 15 ls []) := by
    intro n15
    induction n15 with
    | zero =>
      intro k15 hk15 hi15_0 H locs hW ls hl
      obtain rfl : n = k15 := by omega
      exact absurd hi15_0 (by omega)
    | succ n15 ih15 =>
      intro k15 hk15 hi15_0 H locs hW ls hl
      refine lv_iload_n X.1 X.2.1 dX4_hasSameAs_15 rfl (lv_at hl 2 rfl) ?_
      refine lv_aload_n X.1 X.2.1 dX4_hasSameAs_16 rfl (lv_at hl 0 rfl) ?_
      refine cg_4_count X hin4 hW (hw.1) (hw.2.1) (hw.2.2.2.2.2.2.1) (X.2.2.2.2 (.fieldLink RX4 15 "Strandbook$SignWriter" "count" "I") (List.mem_cons_of_mem _ (List.mem_append_left _ (List.mem_append_left _ (List.mem_of_getElem? (i := 0) rfl))))) dX4_hasSameAs_17 ?_
      refine n_icmp_ge_f (tgt := 46) X.1 X.2.1 dX4_hasSameAs_20 (by decide) (by omega) (by omega) (by omega) ?_
      refine lv_aload_n X.1 X.2.1 dX4_hasSameAs_23 rfl (lv_at hl 0 rfl) ?_
      refine cg_4_signs X hin4 hW (hw.1) (hw.2.1) (hw.2.2.1) (X.2.2.2.2 (.fieldLink RX4 9 "Strandbook$SignWriter" "signs" "[C") (List.mem_cons_of_mem _ (List.mem_append_left _ (List.mem_append_left _ (List.mem_of_getElem? (i := 1) rfl))))) dX4_hasSameAs_24 ?_
      refine lv_iload_n X.1 X.2.1 dX4_hasSameAs_27 rfl (lv_at hl 2 rfl) ?_
      refine cld_8 X hW (v := A ar k15) (hw.2.2.2.1) (hw.2.2.2.2.1) (by rw [hw.2.2.2.2.2.1]; omega) (by omega) (rfl) dX4_hasSameAs_28 ?_
      refine lv_aload_n X.1 X.2.1 dX4_hasSameAs_29 rfl (lv_at hl 1 rfl) ?_
      refine cg_4_signs X hin4 hW (ho.1) (ho.2.1) (ho.2.2.1) (X.2.2.2.2 (.fieldLink RX4 9 "Strandbook$SignWriter" "signs" "[C") (List.mem_cons_of_mem _ (List.mem_append_left _ (List.mem_append_left _ (List.mem_of_getElem? (i := 1) rfl))))) dX4_hasSameAs_30 ?_
      refine lv_iload_n X.1 X.2.1 dX4_hasSameAs_33 rfl (lv_at hl 2 rfl) ?_
      rcases Decidable.em (k15 = i0) with hs | hs
      · subst hs
        refine cld_8 X hW (v := A a2 k15) (ho.2.2.2.1) (ho.2.2.2.2.1) (by rw [ho.2.2.2.2.2.1]; omega) (by omega) (rfl) dX4_hasSameAs_34 ?_
        refine x_icmp_eq_f (tgt := 40) X.1 X.2.1 dX4_hasSameAs_35 (by decide) (hd) ?_
        refine lv_iconst (v := nI 0) X.1 X.2.1 dX4_hasSameAs_38 (by decide) ?_
        exact hE _ _ _ _ _ (rfl) (fun ty hty => by cases hty; exact nI_zb (by omega)) hW dX4_hasSameAs_39
      · skip
        refine cld_8 X hW (v := A a2 k15) (ho.2.2.2.1) (ho.2.2.2.2.1) (by rw [ho.2.2.2.2.2.1]; omega) (by omega) (rfl) dX4_hasSameAs_34 ?_
        refine x_icmp_eq_t (tgt := 40) X.1 X.2.1 dX4_hasSameAs_35 (by decide) (h _ (by omega)) ?_
        refine lv_iinc (v := nI (k15 + 1)) (lv' := [(2, .int (nI (k15 + 1))), (0, .ref (th)), (1, .ref (ot))]) X.1 X.2.1 dX4_hasSameAs_40 hl (k := 2) rfl (nI_1 _) (by decide) rfl (fun ls hl => ?_)
        refine lv_goto (tgt := 15) X.1 X.2.1 dX4_hasSameAs_43 (by decide) ?_
        exact ih15 (k15 + 1) (by omega) (by omega) _ _ (hW.eq (rfl) (rfl) (rfl) (rfl)) ls (lv_sub hl [1, 2, 0] rfl)
  exact loop15 ((n) - (0)) (0) (by omega) (Nat.zero_le _) _ _ (hW.eq (rfl) (rfl) (rfl) (rfl)) ls (lv_sub hl [1, 2, 0] rfl)
theorem ct_hasSame (l : Launch) {G : va_G} {kT : Nat → ClassId} {L : List Nat} {K : Nat → Nat} {R : pR} {I : pI} {A : mD} {Q : pR} {N : Nat → Nat} {th ar n ot a2 n2 : Nat} (hw : isWr L K R I N th ar n) (ho : isWr L K R I N ot a2 n2) : cMi l yX4_hasSameAs wsX4_hasSameAs ({ frames := 0, cells := 0, slots := 0, locals := 0 } : Room) G kT [.ref th, .ref ot] L K R I A Q N (nI (if n = n2 then lkF (A ar) (A a2) n else 0)) R I A Q := by
  by_cases h : n = n2
  · subst h
    rw [if_pos rfl]
    by_cases h2 : ∀ i, i < n → A ar i = A a2 i
    · rw [(lkF_iff n).mpr h2]; exact ct_hasSame_t l hw ho h2
    · have h3 : ∃ i, i < n ∧ A ar i ≠ A a2 i := Classical.byContradiction (fun z => h2 (fun i hi => Classical.byContradiction (fun y => z ⟨i, hi, y⟩)))
      obtain ⟨i0, ⟨hi0, hd⟩, hl⟩ := pk_least _ h3
      have e : lkF (A ar) (A a2) n = 0 := by
        have h4 := lkF_le (f := A ar) (g := A a2) n
        have h5 : ¬ lkF (A ar) (A a2) n = 1 := fun z => hd ((lkF_iff n).mp z i0 hi0)
        omega
      rw [e]
      exact ct_hasSame_f l hw ho i0 hi0 hd (fun i hi => Classical.byContradiction (fun y => hl i hi ⟨by omega, y⟩))
  · rw [if_neg h]; exact ct_hasSame_n l hw ho h
set_option maxHeartbeats 4000000 in
set_option maxRecDepth 100000 in
theorem ct_countRest (l : Launch) {G : va_G} {kT : Nat → ClassId} {L : List Nat} {K : Nat → Nat} {R : pR} {I : pI} {A : mD} {Q : pR} {N : Nat → Nat} {th ro a b : Nat} (hr : isRd L K R I th ro a b) : cMi l yX2_countRest wsX2_countRest ({ frames := 0, cells := 0, slots := 0, locals := 0 } : Room) G kT [.ref (th)] L K (R) (I) (A) (Q) N (nI (b - a)) (R) (I) (A) (Q) := by
  refine csti (cc := cX2_countRest) (maxL := 1) (ret := (some .int)) (by decide) rfl ⟨_, rfl⟩ (Nat.le_of_ble_eq_true rfl) (fun p e s m args below meth c Z hE X hW ls hl => ?_)
  have X : CallFix p m c cX2_countRest 1 s args wsX2_countRest RX2 := X
  have hl : lv_has ls 1 [(0, .ref (th))] := hl
  have hin2 : ∀ w ∈ wsX20, w ∈ wsX2_countRest := fun w h => List.mem_cons_of_mem _ (List.mem_append_right _ (h))
  have ha9 := hr.2.2.2.2.2.1
  have hb9 := hr.2.2.2.2.2.2
  refine lv_aload_n X.1 X.2.1 dX2_countRest_0 rfl (lv_at hl 0 rfl) ?_
  refine cg_2_end X hin2 hW (hr.1) (hr.2.1) (hr.2.2.2.2.1) (X.2.2.2.2 (.fieldLink RX2 32 "Strandbook$SignReader" "end" "I") (List.mem_cons_of_mem _ (List.mem_append_left _ (List.mem_of_getElem? (i := 0) rfl)))) dX2_countRest_1 ?_
  refine lv_aload_n X.1 X.2.1 dX2_countRest_4 rfl (lv_at hl 0 rfl) ?_
  refine cg_2_place X hin2 hW (hr.1) (hr.2.1) (hr.2.2.2.1) (X.2.2.2.2 (.fieldLink RX2 18 "Strandbook$SignReader" "place" "I") (List.mem_cons_of_mem _ (List.mem_append_left _ (List.mem_of_getElem? (i := 1) rfl)))) dX2_countRest_5 ?_
  refine n_isub X.1 X.2.1 (by omega) dX2_countRest_8 ?_
  exact hE _ _ _ _ _ (rfl) (fun ty hty => by cases hty; exact rfl) hW dX2_countRest_9
set_option maxHeartbeats 4000000 in
set_option maxRecDepth 100000 in
theorem ct_readOne_e (l : Launch) {G : va_G} {kT : Nat → ClassId} {L : List Nat} {K : Nat → Nat} {R : pR} {I : pI} {A : mD} {Q : pR} {N : Nat → Nat} {th ro a b : Nat} (hr : isRd L K R I th ro a b) (h : a = b) : cMi l yX2_readOne wsX2_readOne ({ frames := 0, cells := 0, slots := 0, locals := 0 } : Room) G kT [.ref (th)] L K (R) (I) (A) (Q) N (-1) (R) (I) (A) (Q) := by
  refine csti (cc := cX2_readOne) (maxL := 2) (ret := (some .int)) (by decide) rfl ⟨_, rfl⟩ (Nat.le_of_ble_eq_true rfl) (fun p e s m args below meth c Z hE X hW ls hl => ?_)
  have X : CallFix p m c cX2_readOne 2 s args wsX2_readOne RX2 := X
  have hl : lv_has ls 2 [(0, .ref (th))] := hl
  have hin2 : ∀ w ∈ wsX20, w ∈ wsX2_readOne := fun w h => List.mem_cons_of_mem _ (List.mem_append_left _ (List.mem_append_left _ (List.mem_append_right _ (h))))
  have hin3 : ∀ w ∈ wsX30, w ∈ wsX2_readOne := fun w h => List.mem_cons_of_mem _ (List.mem_append_left _ (List.mem_append_right _ (h)))
  have ha9 := hr.2.2.2.2.2.1
  have hb9 := hr.2.2.2.2.2.2
  refine lv_aload_n X.1 X.2.1 dX2_readOne_0 rfl (lv_at hl 0 rfl) ?_
  refine cg_2_place X hin2 hW (hr.1) (hr.2.1) (hr.2.2.2.1) (X.2.2.2.2 (.fieldLink RX2 18 "Strandbook$SignReader" "place" "I") (List.mem_cons_of_mem _ (List.mem_append_left _ (List.mem_append_left _ (List.mem_append_left _ (List.mem_of_getElem? (i := 0) rfl)))))) dX2_readOne_1 ?_
  refine lv_aload_n X.1 X.2.1 dX2_readOne_4 rfl (lv_at hl 0 rfl) ?_
  refine cg_2_end X hin2 hW (hr.1) (hr.2.1) (hr.2.2.2.2.1) (X.2.2.2.2 (.fieldLink RX2 32 "Strandbook$SignReader" "end" "I") (List.mem_cons_of_mem _ (List.mem_append_left _ (List.mem_append_left _ (List.mem_append_left _ (List.mem_of_getElem? (i := 1) rfl)))))) dX2_readOne_5 ?_
  refine n_icmp_lt_f (tgt := 13) X.1 X.2.1 dX2_readOne_8 (by decide) (by omega) (by omega) (by omega) ?_
  refine lv_iconst (v := -1) X.1 X.2.1 dX2_readOne_11 (by decide) ?_
  exact hE _ _ _ _ _ (rfl) (fun ty hty => by cases hty; exact rfl) hW dX2_readOne_12
set_option maxHeartbeats 4000000 in
set_option maxRecDepth 100000 in
theorem ct_readOne (l : Launch) {G : va_G} {kT : Nat → ClassId} {L : List Nat} {K : Nat → Nat} {R : pR} {I : pI} {A : mD} {Q : pR} {N : Nat → Nat} {th ro a b sr k : Nat} (hr : isRd L K R I th ro a b) (hs : isSR L K R N ro sr k) (hk : b ≤ k) (h : a < b) : cMi l yX2_readOne wsX2_readOne ({ frames := 0, cells := 0, slots := 0, locals := 0 } : Room) G kT [.ref (th)] L K (R) (I) (A) (Q) N (A sr a) (R) (u2 I 5 th (nI (a + 1))) (A) (Q) := by
  refine csti (cc := cX2_readOne) (maxL := 2) (ret := (some .int)) (by decide) rfl ⟨_, rfl⟩ (Nat.le_of_ble_eq_true rfl) (fun p e s m args below meth c Z hE X hW ls hl => ?_)
  have X : CallFix p m c cX2_readOne 2 s args wsX2_readOne RX2 := X
  have hl : lv_has ls 2 [(0, .ref (th))] := hl
  have hin2 : ∀ w ∈ wsX20, w ∈ wsX2_readOne := fun w h => List.mem_cons_of_mem _ (List.mem_append_left _ (List.mem_append_left _ (List.mem_append_right _ (h))))
  have hin3 : ∀ w ∈ wsX30, w ∈ wsX2_readOne := fun w h => List.mem_cons_of_mem _ (List.mem_append_left _ (List.mem_append_right _ (h)))
  have ha9 := hr.2.2.2.2.2.1
  have hb9 := hr.2.2.2.2.2.2
  refine lv_aload_n X.1 X.2.1 dX2_readOne_0 rfl (lv_at hl 0 rfl) ?_
  refine cg_2_place X hin2 hW (hr.1) (hr.2.1) (hr.2.2.2.1) (X.2.2.2.2 (.fieldLink RX2 18 "Strandbook$SignReader" "place" "I") (List.mem_cons_of_mem _ (List.mem_append_left _ (List.mem_append_left _ (List.mem_append_left _ (List.mem_of_getElem? (i := 0) rfl)))))) dX2_readOne_1 ?_
  refine lv_aload_n X.1 X.2.1 dX2_readOne_4 rfl (lv_at hl 0 rfl) ?_
  refine cg_2_end X hin2 hW (hr.1) (hr.2.1) (hr.2.2.2.2.1) (X.2.2.2.2 (.fieldLink RX2 32 "Strandbook$SignReader" "end" "I") (List.mem_cons_of_mem _ (List.mem_append_left _ (List.mem_append_left _ (List.mem_append_left _ (List.mem_of_getElem? (i := 1) rfl)))))) dX2_readOne_5 ?_
  refine n_icmp_lt_t (tgt := 13) X.1 X.2.1 dX2_readOne_8 (by decide) (by omega) (by omega) (by omega) ?_
  refine lv_aload_n X.1 X.2.1 dX2_readOne_13 rfl (lv_at hl 0 rfl) ?_
  refine cg_2_row X hin2 hW (hr.1) (hr.2.1) (hr.2.2.1) (X.2.2.2.2 (.fieldLink RX2 12 "Strandbook$SignReader" "row" "LStrandbook$SignRow;") (List.mem_cons_of_mem _ (List.mem_append_left _ (List.mem_append_left _ (List.mem_append_left _ (List.mem_of_getElem? (i := 2) rfl)))))) dX2_readOne_14 ?_
  refine cg_3_signs X hin3 hW (hs.1) (hs.2.1) (hs.2.2.1) (X.2.2.2.2 (.fieldLink RX2 22 "Strandbook$SignRow" "signs" "[C") (List.mem_cons_of_mem _ (List.mem_append_left _ (List.mem_append_left _ (List.mem_append_left _ (List.mem_of_getElem? (i := 3) rfl)))))) dX2_readOne_17 ?_
  refine lv_aload_n X.1 X.2.1 dX2_readOne_20 rfl (lv_at hl 0 rfl) ?_
  refine cg_2_place X hin2 hW (hr.1) (hr.2.1) (hr.2.2.2.1) (X.2.2.2.2 (.fieldLink RX2 18 "Strandbook$SignReader" "place" "I") (List.mem_cons_of_mem _ (List.mem_append_left _ (List.mem_append_left _ (List.mem_append_left _ (List.mem_of_getElem? (i := 0) rfl)))))) dX2_readOne_21 ?_
  refine cld_8 X hW (v := A sr a) (hs.2.2.2.1) (hs.2.2.2.2.1) (by rw [hs.2.2.2.2.2.1]; omega) (by omega) (rfl) dX2_readOne_24 ?_
  refine lv_istore_n (lv' := [(1, .int (A sr a)), (0, .ref (th))]) X.1 X.2.1 dX2_readOne_25 rfl hl (by decide) rfl (fun ls hl => ?_)
  refine lv_aload_n X.1 X.2.1 dX2_readOne_26 rfl (lv_at hl 1 rfl) ?_
  refine lv_dup X.1 X.2.1 dX2_readOne_27 rfl ?_
  refine cg_2_place X hin2 hW (hr.1) (hr.2.1) (hr.2.2.2.1) (X.2.2.2.2 (.fieldLink RX2 18 "Strandbook$SignReader" "place" "I") (List.mem_cons_of_mem _ (List.mem_append_left _ (List.mem_append_left _ (List.mem_append_left _ (List.mem_of_getElem? (i := 0) rfl)))))) dX2_readOne_28 ?_
  refine lv_iconst (v := nI 1) X.1 X.2.1 dX2_readOne_31 (by decide) ?_
  refine n_iadd X.1 X.2.1 dX2_readOne_32 ?_
  refine cp_2_place X hin2 hW (hr.1) (hr.2.1) (X.2.2.2.2 (.fieldLink RX2 18 "Strandbook$SignReader" "place" "I") (List.mem_cons_of_mem _ (List.mem_append_left _ (List.mem_append_left _ (List.mem_append_left _ (List.mem_of_getElem? (i := 0) rfl)))))) dX2_readOne_33 (fun H locs hW => ?_)
  refine lv_iload_n X.1 X.2.1 dX2_readOne_36 rfl (lv_at hl 0 rfl) ?_
  exact hE _ _ _ _ _ (rfl) (fun ty hty => by cases hty; exact rfl) hW dX2_readOne_37
set_option maxHeartbeats 4000000 in
set_option maxRecDepth 100000 in
theorem ct_readSome_e (l : Launch) {G : va_G} {kT : Nat → ClassId} {L : List Nat} {K : Nat → Nat} {R : pR} {I : pI} {A : mD} {Q : pR} {N : Nat → Nat} {th ro a b ta f n : Nat} (hr : isRd L K R I th ro a b) (h : a = b) : cMi l yX2_readSome wsX2_readSome ({ frames := 1, cells := 0, slots := 0, locals := 21 } : Room) G kT [.ref (th), .ref (ta), .int (nI (f)), .int (nI (n))] L K (R) (I) (A) (Q) N (-1) (R) (I) (A) (Q) := by
  refine csti (cc := cX2_readSome) (maxL := 6) (ret := (some .int)) (by decide) rfl ⟨_, rfl⟩ (Nat.le_of_ble_eq_true rfl) (fun p e s m args below meth c Z hE X hW ls hl => ?_)
  have X : CallFix p m c cX2_readSome 6 s args wsX2_readSome RX2 := X
  have hl : lv_has ls 6 [(0, .ref (th)), (1, .ref (ta)), (2, .int (nI (f))), (3, .int (nI (n)))] := hl
  have hin2 : ∀ w ∈ wsX20, w ∈ wsX2_readSome := fun w h => List.mem_cons_of_mem _ (List.mem_append_left _ (List.mem_append_left _ (List.mem_append_right _ (h))))
  have hin3 : ∀ w ∈ wsX30, w ∈ wsX2_readSome := fun w h => List.mem_cons_of_mem _ (List.mem_append_left _ (List.mem_append_right _ (h)))
  have ha9 := hr.2.2.2.2.2.1
  have hb9 := hr.2.2.2.2.2.2
  refine lv_aload_n X.1 X.2.1 dX2_readSome_0 rfl (lv_at hl 0 rfl) ?_
  refine cg_2_place X hin2 hW (hr.1) (hr.2.1) (hr.2.2.2.1) (X.2.2.2.2 (.fieldLink RX2 18 "Strandbook$SignReader" "place" "I") (List.mem_cons_of_mem _ (List.mem_append_left _ (List.mem_append_left _ (List.mem_append_left _ (List.mem_of_getElem? (i := 0) rfl)))))) dX2_readSome_1 ?_
  refine lv_aload_n X.1 X.2.1 dX2_readSome_4 rfl (lv_at hl 0 rfl) ?_
  refine cg_2_end X hin2 hW (hr.1) (hr.2.1) (hr.2.2.2.2.1) (X.2.2.2.2 (.fieldLink RX2 32 "Strandbook$SignReader" "end" "I") (List.mem_cons_of_mem _ (List.mem_append_left _ (List.mem_append_left _ (List.mem_append_left _ (List.mem_of_getElem? (i := 1) rfl)))))) dX2_readSome_5 ?_
  refine n_icmp_lt_f (tgt := 13) X.1 X.2.1 dX2_readSome_8 (by decide) (by omega) (by omega) (by omega) ?_
  refine lv_iconst (v := -1) X.1 X.2.1 dX2_readSome_11 (by decide) ?_
  exact hE _ _ _ _ _ (rfl) (fun ty hty => by cases hty; exact rfl) hW dX2_readSome_12
set_option maxHeartbeats 4000000 in
set_option maxRecDepth 100000 in
theorem ct_readSome (l : Launch) {G : va_G} {kT : Nat → ClassId} {L : List Nat} {K : Nat → Nat} {R : pR} {I : pI} {A : mD} {Q : pR} {N : Nat → Nat} {th ro a b sr k ta f n tk : Nat} (hr : isRd L K R I th ro a b) (hs : isSR L K R N ro sr k) (hk : b ≤ k) (ht : isCA L K N ta tk) (hne : sr ≠ ta) (hf : f + n ≤ tk) (h : a < b) (hx : ∀ i, i < b → vp_nar .char (A sr i) = A sr i) : cMi l yX2_readSome wsX2_readSome ({ frames := 1, cells := 0, slots := 0, locals := 21 } : Room) G kT [.ref (th), .ref (ta), .int (nI (f)), .int (nI (n))] L K (R) (I) (A) (Q) N (nI (min n (b - a))) (R) (u2 I 5 th (nI (a + min n (b - a)))) (cpF A ta f (fun i => A sr (a + i)) (min n (b - a))) (Q) := by
  refine csti (cc := cX2_readSome) (maxL := 6) (ret := (some .int)) (by decide) rfl ⟨_, rfl⟩ (Nat.le_of_ble_eq_true rfl) (fun p e s m args below meth c Z hE X hW ls hl => ?_)
  have X : CallFix p m c cX2_readSome 6 s args wsX2_readSome RX2 := X
  have hl : lv_has ls 6 [(0, .ref (th)), (1, .ref (ta)), (2, .int (nI (f))), (3, .int (nI (n)))] := hl
  have hin2 : ∀ w ∈ wsX20, w ∈ wsX2_readSome := fun w h => List.mem_cons_of_mem _ (List.mem_append_left _ (List.mem_append_left _ (List.mem_append_right _ (h))))
  have hin3 : ∀ w ∈ wsX30, w ∈ wsX2_readSome := fun w h => List.mem_cons_of_mem _ (List.mem_append_left _ (List.mem_append_right _ (h)))
  have ha9 := hr.2.2.2.2.2.1
  have hb9 := hr.2.2.2.2.2.2
  have ht9 := ht.2.2.2
  have hm1 : min n (b - a) ≤ n := Nat.min_le_left _ _
  have hm2 : min n (b - a) ≤ b - a := Nat.min_le_right _ _
  refine lv_aload_n X.1 X.2.1 dX2_readSome_0 rfl (lv_at hl 0 rfl) ?_
  refine cg_2_place X hin2 hW (hr.1) (hr.2.1) (hr.2.2.2.1) (X.2.2.2.2 (.fieldLink RX2 18 "Strandbook$SignReader" "place" "I") (List.mem_cons_of_mem _ (List.mem_append_left _ (List.mem_append_left _ (List.mem_append_left _ (List.mem_of_getElem? (i := 0) rfl)))))) dX2_readSome_1 ?_
  refine lv_aload_n X.1 X.2.1 dX2_readSome_4 rfl (lv_at hl 0 rfl) ?_
  refine cg_2_end X hin2 hW (hr.1) (hr.2.1) (hr.2.2.2.2.1) (X.2.2.2.2 (.fieldLink RX2 32 "Strandbook$SignReader" "end" "I") (List.mem_cons_of_mem _ (List.mem_append_left _ (List.mem_append_left _ (List.mem_append_left _ (List.mem_of_getElem? (i := 1) rfl)))))) dX2_readSome_5 ?_
  refine n_icmp_lt_t (tgt := 13) X.1 X.2.1 dX2_readSome_8 (by decide) (by omega) (by omega) (by omega) ?_
  refine lv_iload_n X.1 X.2.1 dX2_readSome_13 rfl (lv_at hl 3 rfl) ?_
  refine lv_aload_n X.1 X.2.1 dX2_readSome_14 rfl (lv_at hl 0 rfl) ?_
  refine cg_2_end X hin2 hW (hr.1) (hr.2.1) (hr.2.2.2.2.1) (X.2.2.2.2 (.fieldLink RX2 32 "Strandbook$SignReader" "end" "I") (List.mem_cons_of_mem _ (List.mem_append_left _ (List.mem_append_left _ (List.mem_append_left _ (List.mem_of_getElem? (i := 1) rfl)))))) dX2_readSome_15 ?_
  refine lv_aload_n X.1 X.2.1 dX2_readSome_18 rfl (lv_at hl 0 rfl) ?_
  refine cg_2_place X hin2 hW (hr.1) (hr.2.1) (hr.2.2.2.1) (X.2.2.2.2 (.fieldLink RX2 18 "Strandbook$SignReader" "place" "I") (List.mem_cons_of_mem _ (List.mem_append_left _ (List.mem_append_left _ (List.mem_append_left _ (List.mem_of_getElem? (i := 0) rfl)))))) dX2_readSome_19 ?_
  refine n_isub X.1 X.2.1 (by omega) dX2_readSome_22 ?_
  refine va_mmin X.1 X.2.1 (X.2.2.1.trans hl.1.symm) X.2.2.2.1 (X.2.2.2.2 (.methodLink RX2 26 Lib.Math.min.name) (List.mem_cons_of_mem _ (List.mem_append_left _ (List.mem_append_left _ (List.mem_append_left _ (List.mem_of_getElem? (i := 2) rfl)))))) (X.2.2.2.2 (.static Lib.Math.min.name) (List.mem_cons_of_mem _ (List.mem_append_left _ (List.mem_append_left _ (List.mem_append_left _ (List.mem_of_getElem? (i := 3) rfl)))))) (X.2.2.2.2 (.initialized "java/lang/Math") (List.mem_cons_of_mem _ (List.mem_append_left _ (List.mem_append_left _ (List.mem_append_left _ (List.mem_of_getElem? (i := 4) rfl)))))) (X.2.2.2.2 (.code Lib.Math.min.name Lib.Math.min.code 2 (some .int)) (List.mem_cons_of_mem _ (List.mem_append_left _ (List.mem_append_left _ (List.mem_append_left _ (List.mem_of_getElem? (i := 5) rfl)))))) (Nat.le_of_ble_eq_true rfl) (Nat.le_of_ble_eq_true rfl) (Nat.zero_le _) (Nat.zero_le _) dX2_readSome_23 ?_
  refine n_cv (y := nI (min n (b - a))) (min_nI (by omega) (by omega)) ?_
  refine lv_istore (lv' := [(4, .int (nI (min n (b - a)))), (0, .ref (th)), (1, .ref (ta)), (2, .int (nI (f))), (3, .int (nI (n)))]) X.1 X.2.1 dX2_readSome_26 hl (by decide) rfl (fun ls hl => ?_)
  refine lv_iconst (v := nI 0) X.1 X.2.1 dX2_readSome_28 (by decide) ?_
  refine lv_istore (lv' := [(5, .int (nI (0))), (4, .int (nI (min n (b - a)))), (0, .ref (th)), (1, .ref (ta)), (2, .int (nI (f))), (3, .int (nI (n)))]) X.1 X.2.1 dX2_readSome_29 hl (by decide) rfl (fun ls hl => ?_)
  have loop31 : ∀ (n31 k31 : Nat), k31 + n31 = min n (b - a) → ∀ (H : Heap) (locs : List Loc), cH G kT L L K (R) (I) (cpF A ta f (fun i => A sr (a + i)) k31) (Q) N s H locs → ∀ ls : Array Slot, lv_has ls 6 [(0, .ref (th)), (1, .ref (ta)), (2, .int (nI (f))), (3, .int (nI (n))), (4, .int (nI (min n (b - a)))), (5, .int (nI (k31)))] → W p l e ({ frames := 1, cells := 0, slots := 0, locals := 21 } : Room) s m args below meth c H locs 0 0 Z (F0 m 31 ls []) := by
    intro n31
    induction n31 with
    | zero =>
      intro k31 hk31  H locs hW ls hl
      obtain rfl : min n (b - a) = k31 := by omega
      refine lv_iload X.1 X.2.1 dX2_readSome_31 (lv_at hl 5 rfl) ?_
      refine lv_iload X.1 X.2.1 dX2_readSome_33 (lv_at hl 4 rfl) ?_
      refine n_icmp_ge_t (tgt := 65) X.1 X.2.1 dX2_readSome_35 (by decide) (by omega) (by omega) (by omega) ?_
      refine lv_aload_n X.1 X.2.1 dX2_readSome_65 rfl (lv_at hl 0 rfl) ?_
      refine lv_dup X.1 X.2.1 dX2_readSome_66 rfl ?_
      refine cg_2_place X hin2 hW (hr.1) (hr.2.1) (hr.2.2.2.1) (X.2.2.2.2 (.fieldLink RX2 18 "Strandbook$SignReader" "place" "I") (List.mem_cons_of_mem _ (List.mem_append_left _ (List.mem_append_left _ (List.mem_append_left _ (List.mem_of_getElem? (i := 0) rfl)))))) dX2_readSome_67 ?_
      refine lv_iload X.1 X.2.1 dX2_readSome_70 (lv_at hl 4 rfl) ?_
      refine n_iadd X.1 X.2.1 dX2_readSome_72 ?_
      refine cp_2_place X hin2 hW (hr.1) (hr.2.1) (X.2.2.2.2 (.fieldLink RX2 18 "Strandbook$SignReader" "place" "I") (List.mem_cons_of_mem _ (List.mem_append_left _ (List.mem_append_left _ (List.mem_append_left _ (List.mem_of_getElem? (i := 0) rfl)))))) dX2_readSome_73 (fun H locs hW => ?_)
      refine lv_iload X.1 X.2.1 dX2_readSome_76 (lv_at hl 4 rfl) ?_
      exact hE _ _ _ _ _ (rfl) (fun ty hty => by cases hty; exact rfl) hW dX2_readSome_78
    | succ n31 ih31 =>
      intro k31 hk31  H locs hW ls hl
      refine lv_iload X.1 X.2.1 dX2_readSome_31 (lv_at hl 5 rfl) ?_
      refine lv_iload X.1 X.2.1 dX2_readSome_33 (lv_at hl 4 rfl) ?_
      refine n_icmp_ge_f (tgt := 65) X.1 X.2.1 dX2_readSome_35 (by decide) (by omega) (by omega) (by omega) ?_
      refine lv_aload_n X.1 X.2.1 dX2_readSome_38 rfl (lv_at hl 1 rfl) ?_
      refine lv_iload_n X.1 X.2.1 dX2_readSome_39 rfl (lv_at hl 2 rfl) ?_
      refine lv_iload X.1 X.2.1 dX2_readSome_40 (lv_at hl 5 rfl) ?_
      refine n_iadd X.1 X.2.1 dX2_readSome_42 ?_
      refine lv_aload_n X.1 X.2.1 dX2_readSome_43 rfl (lv_at hl 0 rfl) ?_
      refine cg_2_row X hin2 hW (hr.1) (hr.2.1) (hr.2.2.1) (X.2.2.2.2 (.fieldLink RX2 12 "Strandbook$SignReader" "row" "LStrandbook$SignRow;") (List.mem_cons_of_mem _ (List.mem_append_left _ (List.mem_append_left _ (List.mem_append_left _ (List.mem_of_getElem? (i := 6) rfl)))))) dX2_readSome_44 ?_
      refine cg_3_signs X hin3 hW (hs.1) (hs.2.1) (hs.2.2.1) (X.2.2.2.2 (.fieldLink RX2 22 "Strandbook$SignRow" "signs" "[C") (List.mem_cons_of_mem _ (List.mem_append_left _ (List.mem_append_left _ (List.mem_append_left _ (List.mem_of_getElem? (i := 7) rfl)))))) dX2_readSome_47 ?_
      refine lv_aload_n X.1 X.2.1 dX2_readSome_50 rfl (lv_at hl 0 rfl) ?_
      refine cg_2_place X hin2 hW (hr.1) (hr.2.1) (hr.2.2.2.1) (X.2.2.2.2 (.fieldLink RX2 18 "Strandbook$SignReader" "place" "I") (List.mem_cons_of_mem _ (List.mem_append_left _ (List.mem_append_left _ (List.mem_append_left _ (List.mem_of_getElem? (i := 0) rfl)))))) dX2_readSome_51 ?_
      refine lv_iload X.1 X.2.1 dX2_readSome_54 (lv_at hl 5 rfl) ?_
      refine n_iadd X.1 X.2.1 dX2_readSome_56 ?_
      refine cld_8 X hW (v := A sr (a + k31)) (hs.2.2.2.1) (hs.2.2.2.2.1) (by rw [hs.2.2.2.2.2.1]; omega) (by omega) (congrFun (cpF_ne hne) _) dX2_readSome_57 ?_
      refine cst_8 X hW (ht.1) (ht.2.1) (by rw [ht.2.2.1]; omega) (by omega) (hx _ (by omega)) dX2_readSome_58 (fun H locs hW => ?_)
      refine lv_iinc (v := nI (k31 + 1)) (lv' := [(5, .int (nI (k31 + 1))), (0, .ref (th)), (1, .ref (ta)), (2, .int (nI (f))), (3, .int (nI (n))), (4, .int (nI (min n (b - a))))]) X.1 X.2.1 dX2_readSome_59 hl (k := 5) rfl (nI_1 _) (by decide) rfl (fun ls hl => ?_)
      refine lv_goto (tgt := 31) X.1 X.2.1 dX2_readSome_62 (by decide) ?_
      exact ih31 (k31 + 1) (by omega) _ _ (hW.eq (rfl) (rfl) (cpF_S' rfl rfl) (rfl)) ls (lv_sub hl [1, 2, 3, 4, 5, 0] rfl)
  exact loop31 ((min n (b - a)) - (0)) (0) (by omega) _ _ (hW.eq (rfl) (rfl) (cpF_0.symm) (rfl)) ls (lv_sub hl [2, 3, 4, 5, 1, 0] rfl)
theorem mm_skN (m : Int64) (d : Nat) (hd : d < 2 ^ 31) : (if (if lN d < m then lN d else m) < lN 0 then lN 0 else (if lN d < m then lN d else m)) = lN (skN m d) := by
  by_cases hm : m < 0
  · have h0 : ¬ lN d < m := fun z => by
      have h1 := Int64.lt_iff_toInt_lt.mp z
      have h2 := Int64.lt_iff_toInt_lt.mp hm
      rw [pk_lT (by omega)] at h1
      have h3 : (0 : Int64).toInt = 0 := rfl
      omega
    rw [if_neg h0, skN, if_pos hm, if_pos (show m < lN 0 from hm)]
  · obtain ⟨k, hk, rfl⟩ := pk_lOf hm
    rw [skN, if_neg hm, pk_lT hk, show ((k : Int)).toNat = k from rfl]
    by_cases h1 : d < k
    · rw [if_pos ((pk_lLT (by omega) hk).mpr h1), show min k d = d by omega, if_neg (fun z => absurd ((pk_lLT (by omega) (by decide)).mp z) (Nat.not_lt_zero d))]
    · rw [if_neg (fun z => h1 ((pk_lLT (by omega) hk).mp z)), show min k d = k by omega, if_neg (show ¬ lN k < lN 0 from hm)]
set_option maxHeartbeats 4000000 in
set_option maxRecDepth 100000 in
theorem ct_skipSome (l : Launch) {G : va_G} {kT : Nat → ClassId} {L : List Nat} {K : Nat → Nat} {R : pR} {I : pI} {A : mD} {Q : pR} {N : Nat → Nat} {th ro a b : Nat} {lm : Int64} (hr : isRd L K R I th ro a b) : cMl l yX2_skipSome wsX2_skipSome ({ frames := 1, cells := 0, slots := 0, locals := 23 } : Room) G kT [.ref (th), .long (lm)] L K (R) (I) (A) (Q) N (lN (skN lm (b - a))) (R) (u2 I 5 th (nI (a + skN lm (b - a)))) (A) (Q) := by
  refine cstl (cc := cX2_skipSome) (maxL := 5) (ret := (some .long)) (by decide) rfl rfl (Nat.le_of_ble_eq_true rfl) (fun p e s m args below meth c Z hE X hW ls hl => ?_)
  have X : CallFix p m c cX2_skipSome 5 s args wsX2_skipSome RX2 := X
  have hl : lv_has ls 5 [(0, .ref (th)), (1, .long (lm))] := hl
  have hin2 : ∀ w ∈ wsX20, w ∈ wsX2_skipSome := fun w h => List.mem_cons_of_mem _ (List.mem_append_right _ (h))
  have ha9 := hr.2.2.2.2.2.1
  have hb9 := hr.2.2.2.2.2.2
  refine lv_lconst (v := lN 0) X.1 X.2.1 dX2_skipSome_0 rfl ?_
  refine lv_lload_n X.1 X.2.1 dX2_skipSome_1 rfl (lv_at hl 1 rfl) ?_
  refine lv_aload_n X.1 X.2.1 dX2_skipSome_2 rfl (lv_at hl 0 rfl) ?_
  refine cg_2_end X hin2 hW (hr.1) (hr.2.1) (hr.2.2.2.2.1) (X.2.2.2.2 (.fieldLink RX2 32 "Strandbook$SignReader" "end" "I") (List.mem_cons_of_mem _ (List.mem_append_left _ (List.mem_of_getElem? (i := 0) rfl)))) dX2_skipSome_3 ?_
  refine lv_aload_n X.1 X.2.1 dX2_skipSome_6 rfl (lv_at hl 0 rfl) ?_
  refine cg_2_place X hin2 hW (hr.1) (hr.2.1) (hr.2.2.2.1) (X.2.2.2.2 (.fieldLink RX2 18 "Strandbook$SignReader" "place" "I") (List.mem_cons_of_mem _ (List.mem_append_left _ (List.mem_of_getElem? (i := 1) rfl)))) dX2_skipSome_7 ?_
  refine n_isub X.1 X.2.1 (by omega) dX2_skipSome_10 ?_
  refine lv_i2l (v := lN (b - a)) X.1 X.2.1 dX2_skipSome_11 (nI_l (by omega)) ?_
  refine va_mmin_long X.1 X.2.1 (X.2.2.1.trans hl.1.symm) X.2.2.2.1 (X.2.2.2.2 (.methodLink RX2 45 Lib.MathLoose.min_long.x) (List.mem_cons_of_mem _ (List.mem_append_left _ (List.mem_of_getElem? (i := 2) rfl)))) (X.2.2.2.2 (.static Lib.MathLoose.min_long.x) (List.mem_cons_of_mem _ (List.mem_append_left _ (List.mem_of_getElem? (i := 3) rfl)))) (X.2.2.2.2 (.initialized "java/lang/Math") (List.mem_cons_of_mem _ (List.mem_append_left _ (List.mem_of_getElem? (i := 4) rfl)))) (X.2.2.2.2 (.code Lib.MathLoose.min_long.x Lib.MathLoose.min_long.code 4 (some .long)) (List.mem_cons_of_mem _ (List.mem_append_left _ (List.mem_of_getElem? (i := 5) rfl)))) (Nat.le_of_ble_eq_true rfl) (Nat.le_of_ble_eq_true rfl) (Nat.zero_le _) (Nat.zero_le _) dX2_skipSome_12 ?_
  refine n_cvl (y := if lN (b - a) < lm then lN (b - a) else lm) (rfl) ?_
  refine va_mmax_long X.1 X.2.1 (X.2.2.1.trans hl.1.symm) X.2.2.2.1 (X.2.2.2.2 (.methodLink RX2 48 Lib.MathLoose.max_long.x) (List.mem_cons_of_mem _ (List.mem_append_left _ (List.mem_of_getElem? (i := 6) rfl)))) (X.2.2.2.2 (.static Lib.MathLoose.max_long.x) (List.mem_cons_of_mem _ (List.mem_append_left _ (List.mem_of_getElem? (i := 7) rfl)))) (X.2.2.2.2 (.initialized "java/lang/Math") (List.mem_cons_of_mem _ (List.mem_append_left _ (List.mem_of_getElem? (i := 4) rfl)))) (X.2.2.2.2 (.code Lib.MathLoose.max_long.x Lib.MathLoose.max_long.code 4 (some .long)) (List.mem_cons_of_mem _ (List.mem_append_left _ (List.mem_of_getElem? (i := 8) rfl)))) (Nat.le_of_ble_eq_true rfl) (Nat.le_of_ble_eq_true rfl) (Nat.zero_le _) (Nat.zero_le _) dX2_skipSome_15 ?_
  refine n_cvl (y := lN (skN lm (b - a))) (mm_skN lm (b - a) (by omega)) ?_
  refine lv_lstore_n (lv' := [(3, .long (lN (skN lm (b - a)))), (0, .ref (th)), (1, .long (lm))]) X.1 X.2.1 dX2_skipSome_18 rfl hl (by decide) rfl (fun ls hl => ?_)
  refine lv_aload_n X.1 X.2.1 dX2_skipSome_19 rfl (lv_at hl 1 rfl) ?_
  refine lv_dup X.1 X.2.1 dX2_skipSome_20 rfl ?_
  refine cg_2_place X hin2 hW (hr.1) (hr.2.1) (hr.2.2.2.1) (X.2.2.2.2 (.fieldLink RX2 18 "Strandbook$SignReader" "place" "I") (List.mem_cons_of_mem _ (List.mem_append_left _ (List.mem_of_getElem? (i := 1) rfl)))) dX2_skipSome_21 ?_
  refine lv_lload_n X.1 X.2.1 dX2_skipSome_24 rfl (lv_at hl 0 rfl) ?_
  refine lv_l2i (v := nI (skN lm (b - a))) X.1 X.2.1 dX2_skipSome_25 (lN_i _) ?_
  refine n_iadd X.1 X.2.1 dX2_skipSome_26 ?_
  refine cp_2_place X hin2 hW (hr.1) (hr.2.1) (X.2.2.2.2 (.fieldLink RX2 18 "Strandbook$SignReader" "place" "I") (List.mem_cons_of_mem _ (List.mem_append_left _ (List.mem_of_getElem? (i := 1) rfl)))) dX2_skipSome_27 (fun H locs hW => ?_)
  refine lv_lload_n X.1 X.2.1 dX2_skipSome_30 rfl (lv_at hl 0 rfl) ?_
  exact hE _ _ _ _ _ (rfl) hW dX2_skipSome_31
set_option maxHeartbeats 4000000 in
set_option maxRecDepth 100000 in
theorem ct_openOn (l : Launch) {G : va_G} {kT : Nat → ClassId} {L : List Nat} {K : Nat → Nat} {R : pR} {I : pI} {A : mD} {Q : pR} {N : Nat → Nat} {th ro sr k f n : Nat} (h1 : th ∈ L) (h2 : K th = 2) (hs : isSR L K R N ro sr k) (hf : f ≤ k) (hn : n < 2 ^ 30) : cMv l yX2_openOn wsX2_openOn ({ frames := 1, cells := 0, slots := 0, locals := 21 } : Room) G kT [.ref (th), .ref (ro), .int (nI (f)), .int (nI (n))] L K (R) (I) (A) (Q) N (u2 R 2 th (some ro)) (u2 (u2 (u2 (u2 (u2 I 5 th (nI f)) 6 th (nI (f + min n (k - f)))) 7 th (nI f)) 8 th (nI 1)) 9 th (nI 0)) (A) (Q) := by
  refine cstv (cc := cX2_openOn) (maxL := 4) (ret := none) (by decide) rfl rfl (Nat.le_of_ble_eq_true rfl) (fun p e s m args below meth c Z hE X hW ls hl => ?_)
  have X : CallFix p m c cX2_openOn 4 s args wsX2_openOn RX2 := X
  have hl : lv_has ls 4 [(0, .ref (th)), (1, .ref (ro)), (2, .int (nI (f))), (3, .int (nI (n)))] := hl
  have hin2 : ∀ w ∈ wsX20, w ∈ wsX2_openOn := fun w h => List.mem_cons_of_mem _ (List.mem_append_left _ (List.mem_append_right _ (h)))
  have hin3 : ∀ w ∈ wsX30, w ∈ wsX2_openOn := fun w h => List.mem_cons_of_mem _ (List.mem_append_right _ (h))
  have hk9 := hs.2.2.2.2.2.2
  refine lv_aload_n X.1 X.2.1 dX2_openOn_0 rfl (lv_at hl 0 rfl) ?_
  refine lv_aload_n X.1 X.2.1 dX2_openOn_1 rfl (lv_at hl 1 rfl) ?_
  refine cp_2_row X hin2 hW (h1) (h2) (X.2.2.2.2 (.fieldLink RX2 12 "Strandbook$SignReader" "row" "LStrandbook$SignRow;") (List.mem_cons_of_mem _ (List.mem_append_left _ (List.mem_append_left _ (List.mem_of_getElem? (i := 0) rfl))))) dX2_openOn_2 (fun H locs hW => ?_)
  refine lv_aload_n X.1 X.2.1 dX2_openOn_5 rfl (lv_at hl 0 rfl) ?_
  refine lv_iload_n X.1 X.2.1 dX2_openOn_6 rfl (lv_at hl 2 rfl) ?_
  refine cp_2_place X hin2 hW (h1) (h2) (X.2.2.2.2 (.fieldLink RX2 18 "Strandbook$SignReader" "place" "I") (List.mem_cons_of_mem _ (List.mem_append_left _ (List.mem_append_left _ (List.mem_of_getElem? (i := 1) rfl))))) dX2_openOn_7 (fun H locs hW => ?_)
  refine lv_aload_n X.1 X.2.1 dX2_openOn_10 rfl (lv_at hl 0 rfl) ?_
  refine lv_iload_n X.1 X.2.1 dX2_openOn_11 rfl (lv_at hl 2 rfl) ?_
  refine lv_iload_n X.1 X.2.1 dX2_openOn_12 rfl (lv_at hl 3 rfl) ?_
  refine lv_aload_n X.1 X.2.1 dX2_openOn_13 rfl (lv_at hl 1 rfl) ?_
  refine cg_3_signs X hin3 hW (hs.1) (hs.2.1) ((congrFun (u2_ne (by decide)) _).trans (hs.2.2.1)) (X.2.2.2.2 (.fieldLink RX2 22 "Strandbook$SignRow" "signs" "[C") (List.mem_cons_of_mem _ (List.mem_append_left _ (List.mem_append_left _ (List.mem_of_getElem? (i := 2) rfl))))) dX2_openOn_14 ?_
  refine cln_8 X hW (hs.2.2.2.1) (hs.2.2.2.2.1) (hs.2.2.2.2.2.1) dX2_openOn_17 ?_
  refine lv_iload_n X.1 X.2.1 dX2_openOn_18 rfl (lv_at hl 2 rfl) ?_
  refine n_isub X.1 X.2.1 (by omega) dX2_openOn_19 ?_
  refine va_mmin X.1 X.2.1 (X.2.2.1.trans hl.1.symm) X.2.2.2.1 (X.2.2.2.2 (.methodLink RX2 26 Lib.Math.min.name) (List.mem_cons_of_mem _ (List.mem_append_left _ (List.mem_append_left _ (List.mem_of_getElem? (i := 3) rfl))))) (X.2.2.2.2 (.static Lib.Math.min.name) (List.mem_cons_of_mem _ (List.mem_append_left _ (List.mem_append_left _ (List.mem_of_getElem? (i := 4) rfl))))) (X.2.2.2.2 (.initialized "java/lang/Math") (List.mem_cons_of_mem _ (List.mem_append_left _ (List.mem_append_left _ (List.mem_of_getElem? (i := 5) rfl))))) (X.2.2.2.2 (.code Lib.Math.min.name Lib.Math.min.code 2 (some .int)) (List.mem_cons_of_mem _ (List.mem_append_left _ (List.mem_append_left _ (List.mem_of_getElem? (i := 6) rfl))))) (Nat.le_of_ble_eq_true rfl) (Nat.le_of_ble_eq_true rfl) (Nat.zero_le _) (Nat.zero_le _) dX2_openOn_20 ?_
  refine n_cv (y := nI (min n (k - f))) (min_nI (by omega) (by omega)) ?_
  refine n_iadd X.1 X.2.1 dX2_openOn_23 ?_
  refine cp_2_end X hin2 hW (h1) (h2) (X.2.2.2.2 (.fieldLink RX2 32 "Strandbook$SignReader" "end" "I") (List.mem_cons_of_mem _ (List.mem_append_left _ (List.mem_append_left _ (List.mem_of_getElem? (i := 7) rfl))))) dX2_openOn_24 (fun H locs hW => ?_)
  refine lv_aload_n X.1 X.2.1 dX2_openOn_27 rfl (lv_at hl 0 rfl) ?_
  refine lv_iload_n X.1 X.2.1 dX2_openOn_28 rfl (lv_at hl 2 rfl) ?_
  refine cp_2_marked X hin2 hW (h1) (h2) (X.2.2.2.2 (.fieldLink RX2 35 "Strandbook$SignReader" "marked" "I") (List.mem_cons_of_mem _ (List.mem_append_left _ (List.mem_append_left _ (List.mem_of_getElem? (i := 8) rfl))))) dX2_openOn_29 (fun H locs hW => ?_)
  refine lv_aload_n X.1 X.2.1 dX2_openOn_32 rfl (lv_at hl 0 rfl) ?_
  refine lv_iconst (v := nI 1) X.1 X.2.1 dX2_openOn_33 (by decide) ?_
  refine cp_2_isThere X hin2 hW rfl rfl (h1) (h2) (X.2.2.2.2 (.fieldLink RX2 38 "Strandbook$SignReader" "isThere" "Z") (List.mem_cons_of_mem _ (List.mem_append_left _ (List.mem_append_left _ (List.mem_of_getElem? (i := 9) rfl))))) dX2_openOn_34 (fun H locs hW => ?_)
  refine lv_aload_n X.1 X.2.1 dX2_openOn_37 rfl (lv_at hl 0 rfl) ?_
  refine lv_iconst (v := nI 0) X.1 X.2.1 dX2_openOn_38 (by decide) ?_
  refine cp_2_isShut X hin2 hW rfl rfl (h1) (h2) (X.2.2.2.2 (.fieldLink RX2 42 "Strandbook$SignReader" "isShut" "Z") (List.mem_cons_of_mem _ (List.mem_append_left _ (List.mem_append_left _ (List.mem_of_getElem? (i := 10) rfl))))) dX2_openOn_39 (fun H locs hW => ?_)
  exact hE _ _ _ _ hW dX2_openOn_42
