set_option maxHeartbeats 4000000 in
set_option maxRecDepth 100000 in
theorem mt_one_1 (l : Launch) {G : va_G} {cI cZ : ClassId} {q : Nat → Nat} (hq : mJ q) (T : mT) (D : mD) (th : Int32) {w w2 x : Int32} {t : Nat} (h : oN w 3) : mMi l yX7_one wsX7_one ({ frames := 1, cells := 0, slots := 0, locals := 22 } : Room) G cI cZ q [.int (w), .int (w2), .int (x), .int (nI (t))] (T) (D) (th) (nI 0) (T) (D) (nI 1) := by
  refine mstarti (cc := cX7_one) (maxL := 6) (ret := (some .int)) (by decide) rfl rfl ⟨_, rfl⟩ (Nat.le_of_ble_eq_true rfl) (fun p e s m args below meth c Q hE X hW ls hl => ?_)
  have hl : lv_has ls 6 [(0, .ref (q 0)), (1, .int (w)), (2, .int (w2)), (3, .int (x)), (4, .int (nI (t)))] := hl
  have hin : ∀ w ∈ wsX70, w ∈ wsX7_one := fun w h => List.mem_cons_of_mem _ (List.mem_append_left _ (List.mem_append_right _ (h)))
  refine lv_aload_n X.1 X.2.1 dX7_one_0 rfl (lv_at hl 0 rfl) ?_
  refine lv_aload_n X.1 X.2.1 dX7_one_1 rfl (lv_at hl 0 rfl) ?_
  refine lv_iload_n X.1 X.2.1 dX7_one_2 rfl (lv_at hl 1 rfl) ?_
  refine mcalli hq X hW (mt_isOther_bad l hq (T) (D) (th) (x := w) (h)) (cwV 1 X.2.2.2.2 gX7_one_X7_isOther rfl rfl rfl (by decide +kernel) ⟨Nat.le_of_ble_eq_true rfl, Nat.le_of_ble_eq_true rfl⟩) rfl rfl hl.1 (Nat.le_of_ble_eq_true rfl) dX7_one_3 ⟨Nat.zero_le _, Nat.zero_le _⟩ (fun H locs hW => ?_)
  refine n_if_ne_f (tgt := 13) X.1 X.2.1 dX7_one_6 (by decide) (by decide) (by omega) ?_
  refine lv_iconst (v := nI 1) X.1 X.2.1 dX7_one_9 (by decide) ?_
  refine lv_goto (tgt := 28) X.1 X.2.1 dX7_one_10 (by decide) ?_
  refine mcalli hq X hW (mt_isWrong_s l hq (T) (D) (th) (n := 1) (by decide) (by decide)) (cwV 1 X.2.2.2.2 gX7_one_X7_isWrong rfl rfl rfl (by decide +kernel) ⟨Nat.le_of_ble_eq_true rfl, Nat.le_of_ble_eq_true rfl⟩) rfl rfl hl.1 (Nat.le_of_ble_eq_true rfl) dX7_one_28 ⟨Nat.zero_le _, Nat.zero_le _⟩ (fun H locs hW => ?_)
  refine n_if_eq_f (tgt := 36) X.1 X.2.1 dX7_one_31 (by decide) (by decide) (by omega) ?_
  refine lv_iconst (v := nI 0) X.1 X.2.1 dX7_one_34 (by decide) ?_
  exact hE _ _ _ _ _ (rfl) (fun ty hty => by cases hty; exact rfl) hW dX7_one_35

set_option maxHeartbeats 4000000 in
set_option maxRecDepth 100000 in
theorem mt_one_2 (l : Launch) {G : va_G} {cI cZ : ClassId} {q : Nat → Nat} (hq : mJ q) (T : mT) (D : mD) (th : Int32) (I : mI T) {w a t : Nat} {x : Int32} (hw : w < 3) (ha : a < 6) (h : 256 < T 7 a + t) (ht : t < 3) : mMi l yX7_one wsX7_one ({ frames := 1, cells := 0, slots := 0, locals := 22 } : Room) G cI cZ q [.int (nI (w)), .int (nI (a)), .int (x), .int (nI (t))] (T) (D) (th) (nI 0) (T) (D) (nI 2) := by
  refine mstarti (cc := cX7_one) (maxL := 6) (ret := (some .int)) (by decide) rfl rfl ⟨_, rfl⟩ (Nat.le_of_ble_eq_true rfl) (fun p e s m args below meth c Q hE X hW ls hl => ?_)
  have hl : lv_has ls 6 [(0, .ref (q 0)), (1, .int (nI (w))), (2, .int (nI (a))), (3, .int (x)), (4, .int (nI (t)))] := hl
  have hin : ∀ w ∈ wsX70, w ∈ wsX7_one := fun w h => List.mem_cons_of_mem _ (List.mem_append_left _ (List.mem_append_right _ (h)))
  have I1 := I.wr ha
  refine lv_aload_n X.1 X.2.1 dX7_one_0 rfl (lv_at hl 0 rfl) ?_
  refine lv_aload_n X.1 X.2.1 dX7_one_1 rfl (lv_at hl 0 rfl) ?_
  refine lv_iload_n X.1 X.2.1 dX7_one_2 rfl (lv_at hl 1 rfl) ?_
  refine mcalli hq X hW (mt_isOther_ok l hq (T) (D) (th) (r := w) (by omega)) (cwV 1 X.2.2.2.2 gX7_one_X7_isOther rfl rfl rfl (by decide +kernel) ⟨Nat.le_of_ble_eq_true rfl, Nat.le_of_ble_eq_true rfl⟩) rfl rfl hl.1 (Nat.le_of_ble_eq_true rfl) dX7_one_3 ⟨Nat.zero_le _, Nat.zero_le _⟩ (fun H locs hW => ?_)
  refine n_if_ne_t (tgt := 13) X.1 X.2.1 dX7_one_6 (by decide) (by decide) (by omega) ?_
  refine lv_aload_n X.1 X.2.1 dX7_one_13 rfl (lv_at hl 0 rfl) ?_
  refine lv_iload_n X.1 X.2.1 dX7_one_14 rfl (lv_at hl 2 rfl) ?_
  refine lv_iload X.1 X.2.1 dX7_one_15 (lv_at hl 4 rfl) ?_
  refine mcalli hq X hW (mt_isFull_1 l hq (T) (D) (th) (w := a) (n := t) (by omega) (by omega) (by omega)) (cwV 2 X.2.2.2.2 gX7_one_X7_isFull rfl rfl rfl (by decide +kernel) ⟨Nat.le_of_ble_eq_true rfl, Nat.le_of_ble_eq_true rfl⟩) rfl rfl hl.1 (Nat.le_of_ble_eq_true rfl) dX7_one_17 ⟨Nat.zero_le _, Nat.zero_le _⟩ (fun H locs hW => ?_)
  refine n_if_eq_f (tgt := 27) X.1 X.2.1 dX7_one_20 (by decide) (by decide) (by omega) ?_
  refine lv_iconst (v := nI 2) X.1 X.2.1 dX7_one_23 (by decide) ?_
  refine lv_goto (tgt := 28) X.1 X.2.1 dX7_one_24 (by decide) ?_
  refine mcalli hq X hW (mt_isWrong_s l hq (T) (D) (th) (n := 2) (by decide) (by decide)) (cwV 1 X.2.2.2.2 gX7_one_X7_isWrong rfl rfl rfl (by decide +kernel) ⟨Nat.le_of_ble_eq_true rfl, Nat.le_of_ble_eq_true rfl⟩) rfl rfl hl.1 (Nat.le_of_ble_eq_true rfl) dX7_one_28 ⟨Nat.zero_le _, Nat.zero_le _⟩ (fun H locs hW => ?_)
  refine n_if_eq_f (tgt := 36) X.1 X.2.1 dX7_one_31 (by decide) (by decide) (by omega) ?_
  refine lv_iconst (v := nI 0) X.1 X.2.1 dX7_one_34 (by decide) ?_
  exact hE _ _ _ _ _ (rfl) (fun ty hty => by cases hty; exact rfl) hW dX7_one_35

set_option maxHeartbeats 4000000 in
set_option maxRecDepth 100000 in
theorem mt_one (l : Launch) {G : va_G} {cI cZ : ClassId} {q : Nat → Nat} (hq : mJ q) (T : mT) (D : mD) (th : Int32) (I : mI T) {w a t : Nat} {x : Int32} (hw : w < 3) (ha : a < 6) (h : T 7 a + t ≤ 256) (ht : t < 3) : mMi l yX7_one wsX7_one ({ frames := 1, cells := 0, slots := 0, locals := 22 } : Room) G cI cZ q [.int (nI (w)), .int (nI (a)), .int (x), .int (nI (t))] (T) (D) (th) (nI (T 7 a + t)) (adT T a t) (adD T D a (fun _ => x &&& nI 255) t) (nI 0) := by
  refine mstarti (cc := cX7_one) (maxL := 6) (ret := (some .int)) (by decide) rfl rfl ⟨_, rfl⟩ (Nat.le_of_ble_eq_true rfl) (fun p e s m args below meth c Q hE X hW ls hl => ?_)
  have hl : lv_has ls 6 [(0, .ref (q 0)), (1, .int (nI (w))), (2, .int (nI (a))), (3, .int (x)), (4, .int (nI (t)))] := hl
  have hin : ∀ w ∈ wsX70, w ∈ wsX7_one := fun w h => List.mem_cons_of_mem _ (List.mem_append_left _ (List.mem_append_right _ (h)))
  have I1 := I.wr ha
  refine lv_aload_n X.1 X.2.1 dX7_one_0 rfl (lv_at hl 0 rfl) ?_
  refine lv_aload_n X.1 X.2.1 dX7_one_1 rfl (lv_at hl 0 rfl) ?_
  refine lv_iload_n X.1 X.2.1 dX7_one_2 rfl (lv_at hl 1 rfl) ?_
  refine mcalli hq X hW (mt_isOther_ok l hq (T) (D) (th) (r := w) (by omega)) (cwV 1 X.2.2.2.2 gX7_one_X7_isOther rfl rfl rfl (by decide +kernel) ⟨Nat.le_of_ble_eq_true rfl, Nat.le_of_ble_eq_true rfl⟩) rfl rfl hl.1 (Nat.le_of_ble_eq_true rfl) dX7_one_3 ⟨Nat.zero_le _, Nat.zero_le _⟩ (fun H locs hW => ?_)
  refine n_if_ne_t (tgt := 13) X.1 X.2.1 dX7_one_6 (by decide) (by decide) (by omega) ?_
  refine lv_aload_n X.1 X.2.1 dX7_one_13 rfl (lv_at hl 0 rfl) ?_
  refine lv_iload_n X.1 X.2.1 dX7_one_14 rfl (lv_at hl 2 rfl) ?_
  refine lv_iload X.1 X.2.1 dX7_one_15 (lv_at hl 4 rfl) ?_
  refine mcalli hq X hW (mt_isFull_0 l hq (T) (D) (th) (w := a) (n := t) (by omega) (by omega)) (cwV 2 X.2.2.2.2 gX7_one_X7_isFull rfl rfl rfl (by decide +kernel) ⟨Nat.le_of_ble_eq_true rfl, Nat.le_of_ble_eq_true rfl⟩) rfl rfl hl.1 (Nat.le_of_ble_eq_true rfl) dX7_one_17 ⟨Nat.zero_le _, Nat.zero_le _⟩ (fun H locs hW => ?_)
  refine n_if_eq_t (tgt := 27) X.1 X.2.1 dX7_one_20 (by decide) (by decide) (by omega) ?_
  refine lv_iconst (v := nI 0) X.1 X.2.1 dX7_one_27 (by decide) ?_
  refine mcalli hq X hW (mt_isWrong_0 l hq (T) (D) (th)) (cwV 1 X.2.2.2.2 gX7_one_X7_isWrong rfl rfl rfl (by decide +kernel) ⟨Nat.le_of_ble_eq_true rfl, Nat.le_of_ble_eq_true rfl⟩) rfl rfl hl.1 (Nat.le_of_ble_eq_true rfl) dX7_one_28 ⟨Nat.zero_le _, Nat.zero_le _⟩ (fun H locs hW => ?_)
  refine n_if_eq_t (tgt := 36) X.1 X.2.1 dX7_one_31 (by decide) (by decide) (by omega) ?_
  refine lv_iconst (v := nI 0) X.1 X.2.1 dX7_one_36 (by decide) ?_
  refine lv_istore (lv' := [(5, .int (nI (0))), (0, .ref (q 0)), (1, .int (nI (w))), (2, .int (nI (a))), (3, .int (x)), (4, .int (nI (t)))]) X.1 X.2.1 dX7_one_37 hl (by decide) rfl (fun ls hl => ?_)
  have loop39 : ∀ (n39 k39 : Nat), k39 + n39 = t → ∀ (H : Heap) (locs : List Loc), mH G cI cZ q (adT T (a) k39) (adD T D (a) (fun _ => x &&& nI 255) k39) (nI 0) s H locs → ∀ ls : Array Slot, lv_has ls 6 [(0, .ref (q 0)), (1, .int (nI (w))), (2, .int (nI (a))), (3, .int (x)), (4, .int (nI (t))), (5, .int (nI (k39)))] → W p l e ({ frames := 1, cells := 0, slots := 0, locals := 22 } : Room) s m args below meth c H locs 0 0 Q (F0 m 39 ls []) := by
    intro n39
    induction n39 with
    | zero =>
      intro k39 hk39  H locs hW ls hl
      obtain rfl : t = k39 := by omega
      refine lv_iload X.1 X.2.1 dX7_one_39 (lv_at hl 5 rfl) ?_
      refine lv_iload X.1 X.2.1 dX7_one_41 (lv_at hl 4 rfl) ?_
      refine n_icmp_ge_t (tgt := 58) X.1 X.2.1 dX7_one_43 (by decide) (by omega) (by omega) (by omega) ?_
      refine lv_aload_n X.1 X.2.1 dX7_one_58 rfl (lv_at hl 0 rfl) ?_
      refine mget 7 (by decide) rfl X hin hW (X.2.2.2.2 (.fieldLink RX7 31 "StrandbookModel" "sizes" "[I") (List.mem_cons_of_mem _ (List.mem_append_left _ (List.mem_append_left _ (List.mem_of_getElem? (i := 0) rfl))))) dX7_one_59 ?_
      refine lv_iload_n X.1 X.2.1 dX7_one_62 rfl (lv_at hl 2 rfl) ?_
      refine mld7 X hW (by omega) dX7_one_63 ?_
      exact hE _ _ _ _ _ (congrArg nI adT_a) (fun ty hty => by cases hty; exact rfl) hW dX7_one_64
    | succ n39 ih39 =>
      intro k39 hk39  H locs hW ls hl
      refine lv_iload X.1 X.2.1 dX7_one_39 (lv_at hl 5 rfl) ?_
      refine lv_iload X.1 X.2.1 dX7_one_41 (lv_at hl 4 rfl) ?_
      refine n_icmp_ge_f (tgt := 58) X.1 X.2.1 dX7_one_43 (by decide) (by omega) (by omega) (by omega) ?_
      refine lv_aload_n X.1 X.2.1 dX7_one_46 rfl (lv_at hl 0 rfl) ?_
      refine lv_iload_n X.1 X.2.1 dX7_one_47 rfl (lv_at hl 2 rfl) ?_
      refine lv_iload_n X.1 X.2.1 dX7_one_48 rfl (lv_at hl 3 rfl) ?_
      refine mcallv hq X hW (mt_adds l hq (adT T (a) k39) (adD T D (a) (fun _ => x &&& nI 255) k39) (nI 0) (w := a) (x := x) (by omega) (by rw [adT_a]; omega)) (cwV 2 X.2.2.2.2 gX7_one_X7_adds rfl rfl rfl (by decide +kernel) ⟨Nat.le_of_ble_eq_true rfl, Nat.le_of_ble_eq_true rfl⟩) rfl rfl hl.1 (Nat.le_of_ble_eq_true rfl) dX7_one_49 ⟨Nat.zero_le _, Nat.zero_le _⟩ (fun H locs hW => ?_)
      refine lv_iinc (v := nI (k39 + 1)) (lv' := [(5, .int (nI (k39 + 1))), (0, .ref (q 0)), (1, .int (nI (w))), (2, .int (nI (a))), (3, .int (x)), (4, .int (nI (t)))]) X.1 X.2.1 dX7_one_52 hl (k := 5) rfl (nI_1 _) (by decide) rfl (fun ls hl => ?_)
      refine lv_goto (tgt := 39) X.1 X.2.1 dX7_one_55 (by decide) ?_
      exact ih39 (k39 + 1) (by omega) _ _ (hW.eq (adT_S) (adD_S (rfl)) rfl) ls (lv_sub hl [1, 2, 3, 4, 5, 0] rfl)
  exact loop39 ((t) - (0)) (0) (by omega) _ _ (hW.eq (adT_0.symm) (adD_0.symm) rfl) ls (lv_sub hl [1, 2, 3, 4, 5, 0] rfl)

set_option maxHeartbeats 4000000 in
set_option maxRecDepth 100000 in
theorem mt_write_1 (l : Launch) {G : va_G} {cI cZ : ClassId} {q : Nat → Nat} (hq : mJ q) (T : mT) (D : mD) (th : Int32) {w x : Int32} (h : oN w 3) : mMi l yX7_write wsX7_write ({ frames := 2, cells := 0, slots := 0, locals := 47 } : Room) G cI cZ q [.int (w), .int (x)] (T) (D) (th) (nI 0) (T) (D) (nI 1) := by
  refine mstarti (cc := cX7_write) (maxL := 3) (ret := (some .int)) (by decide) rfl rfl ⟨_, rfl⟩ (Nat.le_of_ble_eq_true rfl) (fun p e s m args below meth c Q hE X hW ls hl => ?_)
  have hl : lv_has ls 3 [(0, .ref (q 0)), (1, .int (w)), (2, .int (x))] := hl
  have hin : ∀ w ∈ wsX70, w ∈ wsX7_write := fun w h => List.mem_cons_of_mem _ (List.mem_append_left _ (List.mem_append_right _ (h)))
  refine lv_aload_n X.1 X.2.1 dX7_write_0 rfl (lv_at hl 0 rfl) ?_
  refine lv_iload_n X.1 X.2.1 dX7_write_1 rfl (lv_at hl 1 rfl) ?_
  refine lv_iload_n X.1 X.2.1 dX7_write_2 rfl (lv_at hl 1 rfl) ?_
  refine lv_iload_n X.1 X.2.1 dX7_write_3 rfl (lv_at hl 2 rfl) ?_
  refine lv_iconst (v := nI 1) X.1 X.2.1 dX7_write_4 (by decide) ?_
  refine mcalli hq X hW (mt_one_1 l hq T D th (w := w) (w2 := w) (x := x) (t := 1) h) (cwV 4 X.2.2.2.2 gX7_write_X7_one rfl rfl rfl (by decide +kernel) ⟨Nat.le_of_ble_eq_true rfl, Nat.le_of_ble_eq_true rfl⟩) rfl rfl hl.1 (Nat.le_of_ble_eq_true rfl) dX7_write_5 ⟨Nat.zero_le _, Nat.zero_le _⟩ (fun H locs hW => ?_)
  exact hE _ _ _ _ _ (rfl) (fun ty hty => by cases hty; exact rfl) hW dX7_write_8

set_option maxHeartbeats 4000000 in
set_option maxRecDepth 100000 in
theorem mt_write_2 (l : Launch) {G : va_G} {cI cZ : ClassId} {q : Nat → Nat} (hq : mJ q) (T : mT) (D : mD) (th : Int32) (I : mI T) {w : Nat} {x : Int32} (hw : w < 3) (h : 256 < T 7 (w) + 1) : mMi l yX7_write wsX7_write ({ frames := 2, cells := 0, slots := 0, locals := 47 } : Room) G cI cZ q [.int (nI (w)), .int (x)] (T) (D) (th) (nI 0) (T) (D) (nI 2) := by
  refine mstarti (cc := cX7_write) (maxL := 3) (ret := (some .int)) (by decide) rfl rfl ⟨_, rfl⟩ (Nat.le_of_ble_eq_true rfl) (fun p e s m args below meth c Q hE X hW ls hl => ?_)
  have hl : lv_has ls 3 [(0, .ref (q 0)), (1, .int (nI (w))), (2, .int (x))] := hl
  have hin : ∀ w ∈ wsX70, w ∈ wsX7_write := fun w h => List.mem_cons_of_mem _ (List.mem_append_left _ (List.mem_append_right _ (h)))
  refine lv_aload_n X.1 X.2.1 dX7_write_0 rfl (lv_at hl 0 rfl) ?_
  refine lv_iload_n X.1 X.2.1 dX7_write_1 rfl (lv_at hl 1 rfl) ?_
  refine lv_iload_n X.1 X.2.1 dX7_write_2 rfl (lv_at hl 1 rfl) ?_
  refine lv_iload_n X.1 X.2.1 dX7_write_3 rfl (lv_at hl 2 rfl) ?_
  refine lv_iconst (v := nI 1) X.1 X.2.1 dX7_write_4 (by decide) ?_
  refine mcalli hq X hW (mt_one_2 l hq T D th I (w := w) (a := w) (t := 1) (x := x) hw (by omega) h (by decide)) (cwV 4 X.2.2.2.2 gX7_write_X7_one rfl rfl rfl (by decide +kernel) ⟨Nat.le_of_ble_eq_true rfl, Nat.le_of_ble_eq_true rfl⟩) rfl rfl hl.1 (Nat.le_of_ble_eq_true rfl) dX7_write_5 ⟨Nat.zero_le _, Nat.zero_le _⟩ (fun H locs hW => ?_)
  exact hE _ _ _ _ _ (rfl) (fun ty hty => by cases hty; exact rfl) hW dX7_write_8

set_option maxHeartbeats 4000000 in
set_option maxRecDepth 100000 in
theorem mt_write (l : Launch) {G : va_G} {cI cZ : ClassId} {q : Nat → Nat} (hq : mJ q) (T : mT) (D : mD) (th : Int32) (I : mI T) {w : Nat} {x : Int32} (hw : w < 3) (h : T 7 (w) + 1 ≤ 256) : mMi l yX7_write wsX7_write ({ frames := 2, cells := 0, slots := 0, locals := 47 } : Room) G cI cZ q [.int (nI (w)), .int (x)] (T) (D) (th) (nI (T 7 (w) + 1)) (adT T (w) 1) (adD T D (w) (fun _ => x &&& nI 255) 1) (nI 0) := by
  refine mstarti (cc := cX7_write) (maxL := 3) (ret := (some .int)) (by decide) rfl rfl ⟨_, rfl⟩ (Nat.le_of_ble_eq_true rfl) (fun p e s m args below meth c Q hE X hW ls hl => ?_)
  have hl : lv_has ls 3 [(0, .ref (q 0)), (1, .int (nI (w))), (2, .int (x))] := hl
  have hin : ∀ w ∈ wsX70, w ∈ wsX7_write := fun w h => List.mem_cons_of_mem _ (List.mem_append_left _ (List.mem_append_right _ (h)))
  refine lv_aload_n X.1 X.2.1 dX7_write_0 rfl (lv_at hl 0 rfl) ?_
  refine lv_iload_n X.1 X.2.1 dX7_write_1 rfl (lv_at hl 1 rfl) ?_
  refine lv_iload_n X.1 X.2.1 dX7_write_2 rfl (lv_at hl 1 rfl) ?_
  refine lv_iload_n X.1 X.2.1 dX7_write_3 rfl (lv_at hl 2 rfl) ?_
  refine lv_iconst (v := nI 1) X.1 X.2.1 dX7_write_4 (by decide) ?_
  refine mcalli hq X hW (mt_one l hq T D th I (w := w) (a := w) (t := 1) (x := x) hw (by omega) h (by decide)) (cwV 4 X.2.2.2.2 gX7_write_X7_one rfl rfl rfl (by decide +kernel) ⟨Nat.le_of_ble_eq_true rfl, Nat.le_of_ble_eq_true rfl⟩) rfl rfl hl.1 (Nat.le_of_ble_eq_true rfl) dX7_write_5 ⟨Nat.zero_le _, Nat.zero_le _⟩ (fun H locs hW => ?_)
  exact hE _ _ _ _ _ (rfl) (fun ty hty => by cases hty; exact rfl) hW dX7_write_8

theorem mo_write (l : Launch) {G : va_G} {cI cZ : ClassId} {q : Nat → Nat} (hq : mJ q) (T : mT) (D : mD) (th : Int32) (I : mI T) (J : mJD D) (w x : Int32) : mO l yX7_write wsX7_write ({ frames := 2, cells := 0, slots := 0, locals := 47 } : Room) G cI cZ q [.int w, .int x] T D th (sp_one T D 0 1 w x) := by
  by_cases h1 : oN w 3
  · rw [show sp_one T D 0 1 w x = no T D 1 from if_pos h1]; exact mt_write_1 l hq T D th h1
  · obtain ⟨w, hw, rfl⟩ := oN_in (by decide) h1
    have hc : (nI w).toNatClampNeg = w := nI_clamp (by omega)
    have ea : 0 + w = w := by omega
    by_cases h2 : 256 < T 7 (w) + 1
    · rw [show sp_one T D 0 1 (nI w) x = no T D 2 from (if_neg h1).trans (if_pos (by rw [hc, ea]; exact h2))]; exact mt_write_2 l hq T D th I hw h2
    · rw [show sp_one T D 0 1 (nI w) x = sk_one T D (w) 1 x from (if_neg h1).trans ((if_neg (by rw [hc, ea]; exact h2)).trans (by rw [hc, ea]))]
      exact mt_write l hq T D th I hw (Nat.not_lt.mp h2)

set_option maxHeartbeats 4000000 in
set_option maxRecDepth 100000 in
theorem mt_append_1 (l : Launch) {G : va_G} {cI cZ : ClassId} {q : Nat → Nat} (hq : mJ q) (T : mT) (D : mD) (th : Int32) {w x : Int32} (h : oN w 3) : mMi l yX7_append wsX7_append ({ frames := 2, cells := 0, slots := 0, locals := 47 } : Room) G cI cZ q [.int (w), .int (x)] (T) (D) (th) (nI 0) (T) (D) (nI 1) := by
  refine mstarti (cc := cX7_append) (maxL := 3) (ret := (some .int)) (by decide) rfl rfl ⟨_, rfl⟩ (Nat.le_of_ble_eq_true rfl) (fun p e s m args below meth c Q hE X hW ls hl => ?_)
  have hl : lv_has ls 3 [(0, .ref (q 0)), (1, .int (w)), (2, .int (x))] := hl
  have hin : ∀ w ∈ wsX70, w ∈ wsX7_append := fun w h => List.mem_cons_of_mem _ (List.mem_append_left _ (List.mem_append_right _ (h)))
  refine lv_aload_n X.1 X.2.1 dX7_append_0 rfl (lv_at hl 0 rfl) ?_
  refine lv_iload_n X.1 X.2.1 dX7_append_1 rfl (lv_at hl 1 rfl) ?_
  refine lv_iload_n X.1 X.2.1 dX7_append_2 rfl (lv_at hl 1 rfl) ?_
  refine lv_iload_n X.1 X.2.1 dX7_append_3 rfl (lv_at hl 2 rfl) ?_
  refine lv_iconst (v := nI 2) X.1 X.2.1 dX7_append_4 (by decide) ?_
  refine mcalli hq X hW (mt_one_1 l hq T D th (w := w) (w2 := w) (x := x) (t := 2) h) (cwV 4 X.2.2.2.2 gX7_append_X7_one rfl rfl rfl (by decide +kernel) ⟨Nat.le_of_ble_eq_true rfl, Nat.le_of_ble_eq_true rfl⟩) rfl rfl hl.1 (Nat.le_of_ble_eq_true rfl) dX7_append_5 ⟨Nat.zero_le _, Nat.zero_le _⟩ (fun H locs hW => ?_)
  exact hE _ _ _ _ _ (rfl) (fun ty hty => by cases hty; exact rfl) hW dX7_append_8

set_option maxHeartbeats 4000000 in
set_option maxRecDepth 100000 in
theorem mt_append_2 (l : Launch) {G : va_G} {cI cZ : ClassId} {q : Nat → Nat} (hq : mJ q) (T : mT) (D : mD) (th : Int32) (I : mI T) {w : Nat} {x : Int32} (hw : w < 3) (h : 256 < T 7 (w) + 2) : mMi l yX7_append wsX7_append ({ frames := 2, cells := 0, slots := 0, locals := 47 } : Room) G cI cZ q [.int (nI (w)), .int (x)] (T) (D) (th) (nI 0) (T) (D) (nI 2) := by
  refine mstarti (cc := cX7_append) (maxL := 3) (ret := (some .int)) (by decide) rfl rfl ⟨_, rfl⟩ (Nat.le_of_ble_eq_true rfl) (fun p e s m args below meth c Q hE X hW ls hl => ?_)
  have hl : lv_has ls 3 [(0, .ref (q 0)), (1, .int (nI (w))), (2, .int (x))] := hl
  have hin : ∀ w ∈ wsX70, w ∈ wsX7_append := fun w h => List.mem_cons_of_mem _ (List.mem_append_left _ (List.mem_append_right _ (h)))
  refine lv_aload_n X.1 X.2.1 dX7_append_0 rfl (lv_at hl 0 rfl) ?_
  refine lv_iload_n X.1 X.2.1 dX7_append_1 rfl (lv_at hl 1 rfl) ?_
  refine lv_iload_n X.1 X.2.1 dX7_append_2 rfl (lv_at hl 1 rfl) ?_
  refine lv_iload_n X.1 X.2.1 dX7_append_3 rfl (lv_at hl 2 rfl) ?_
  refine lv_iconst (v := nI 2) X.1 X.2.1 dX7_append_4 (by decide) ?_
  refine mcalli hq X hW (mt_one_2 l hq T D th I (w := w) (a := w) (t := 2) (x := x) hw (by omega) h (by decide)) (cwV 4 X.2.2.2.2 gX7_append_X7_one rfl rfl rfl (by decide +kernel) ⟨Nat.le_of_ble_eq_true rfl, Nat.le_of_ble_eq_true rfl⟩) rfl rfl hl.1 (Nat.le_of_ble_eq_true rfl) dX7_append_5 ⟨Nat.zero_le _, Nat.zero_le _⟩ (fun H locs hW => ?_)
  exact hE _ _ _ _ _ (rfl) (fun ty hty => by cases hty; exact rfl) hW dX7_append_8

set_option maxHeartbeats 4000000 in
set_option maxRecDepth 100000 in
theorem mt_append (l : Launch) {G : va_G} {cI cZ : ClassId} {q : Nat → Nat} (hq : mJ q) (T : mT) (D : mD) (th : Int32) (I : mI T) {w : Nat} {x : Int32} (hw : w < 3) (h : T 7 (w) + 2 ≤ 256) : mMi l yX7_append wsX7_append ({ frames := 2, cells := 0, slots := 0, locals := 47 } : Room) G cI cZ q [.int (nI (w)), .int (x)] (T) (D) (th) (nI (T 7 (w) + 2)) (adT T (w) 2) (adD T D (w) (fun _ => x &&& nI 255) 2) (nI 0) := by
  refine mstarti (cc := cX7_append) (maxL := 3) (ret := (some .int)) (by decide) rfl rfl ⟨_, rfl⟩ (Nat.le_of_ble_eq_true rfl) (fun p e s m args below meth c Q hE X hW ls hl => ?_)
  have hl : lv_has ls 3 [(0, .ref (q 0)), (1, .int (nI (w))), (2, .int (x))] := hl
  have hin : ∀ w ∈ wsX70, w ∈ wsX7_append := fun w h => List.mem_cons_of_mem _ (List.mem_append_left _ (List.mem_append_right _ (h)))
  refine lv_aload_n X.1 X.2.1 dX7_append_0 rfl (lv_at hl 0 rfl) ?_
  refine lv_iload_n X.1 X.2.1 dX7_append_1 rfl (lv_at hl 1 rfl) ?_
  refine lv_iload_n X.1 X.2.1 dX7_append_2 rfl (lv_at hl 1 rfl) ?_
  refine lv_iload_n X.1 X.2.1 dX7_append_3 rfl (lv_at hl 2 rfl) ?_
  refine lv_iconst (v := nI 2) X.1 X.2.1 dX7_append_4 (by decide) ?_
  refine mcalli hq X hW (mt_one l hq T D th I (w := w) (a := w) (t := 2) (x := x) hw (by omega) h (by decide)) (cwV 4 X.2.2.2.2 gX7_append_X7_one rfl rfl rfl (by decide +kernel) ⟨Nat.le_of_ble_eq_true rfl, Nat.le_of_ble_eq_true rfl⟩) rfl rfl hl.1 (Nat.le_of_ble_eq_true rfl) dX7_append_5 ⟨Nat.zero_le _, Nat.zero_le _⟩ (fun H locs hW => ?_)
  exact hE _ _ _ _ _ (rfl) (fun ty hty => by cases hty; exact rfl) hW dX7_append_8

theorem mo_append (l : Launch) {G : va_G} {cI cZ : ClassId} {q : Nat → Nat} (hq : mJ q) (T : mT) (D : mD) (th : Int32) (I : mI T) (J : mJD D) (w x : Int32) : mO l yX7_append wsX7_append ({ frames := 2, cells := 0, slots := 0, locals := 47 } : Room) G cI cZ q [.int w, .int x] T D th (sp_one T D 0 2 w x) := by
  by_cases h1 : oN w 3
  · rw [show sp_one T D 0 2 w x = no T D 1 from if_pos h1]; exact mt_append_1 l hq T D th h1
  · obtain ⟨w, hw, rfl⟩ := oN_in (by decide) h1
    have hc : (nI w).toNatClampNeg = w := nI_clamp (by omega)
    have ea : 0 + w = w := by omega
    by_cases h2 : 256 < T 7 (w) + 2
    · rw [show sp_one T D 0 2 (nI w) x = no T D 2 from (if_neg h1).trans (if_pos (by rw [hc, ea]; exact h2))]; exact mt_append_2 l hq T D th I hw h2
    · rw [show sp_one T D 0 2 (nI w) x = sk_one T D (w) 2 x from (if_neg h1).trans ((if_neg (by rw [hc, ea]; exact h2)).trans (by rw [hc, ea]))]
      exact mt_append l hq T D th I hw (Nat.not_lt.mp h2)

set_option maxHeartbeats 4000000 in
set_option maxRecDepth 100000 in
theorem mt_arrayWrite_1 (l : Launch) {G : va_G} {cI cZ : ClassId} {q : Nat → Nat} (hq : mJ q) (T : mT) (D : mD) (th : Int32) {w x : Int32} (h : oN w 3) : mMi l yX7_arrayWrite wsX7_arrayWrite ({ frames := 2, cells := 0, slots := 0, locals := 47 } : Room) G cI cZ q [.int (w), .int (x)] (T) (D) (th) (nI 0) (T) (D) (nI 1) := by
  refine mstarti (cc := cX7_arrayWrite) (maxL := 3) (ret := (some .int)) (by decide) rfl rfl ⟨_, rfl⟩ (Nat.le_of_ble_eq_true rfl) (fun p e s m args below meth c Q hE X hW ls hl => ?_)
  have hl : lv_has ls 3 [(0, .ref (q 0)), (1, .int (w)), (2, .int (x))] := hl
  have hin : ∀ w ∈ wsX70, w ∈ wsX7_arrayWrite := fun w h => List.mem_cons_of_mem _ (List.mem_append_left _ (List.mem_append_right _ (h)))
  refine lv_aload_n X.1 X.2.1 dX7_arrayWrite_0 rfl (lv_at hl 0 rfl) ?_
  refine lv_iload_n X.1 X.2.1 dX7_arrayWrite_1 rfl (lv_at hl 1 rfl) ?_
  refine lv_iconst (v := nI 3) X.1 X.2.1 dX7_arrayWrite_2 (by decide) ?_
  refine lv_iload_n X.1 X.2.1 dX7_arrayWrite_3 rfl (lv_at hl 1 rfl) ?_
  refine lv_iadd X.1 X.2.1 dX7_arrayWrite_4 ?_
  refine lv_iload_n X.1 X.2.1 dX7_arrayWrite_5 rfl (lv_at hl 2 rfl) ?_
  refine lv_iconst (v := nI 1) X.1 X.2.1 dX7_arrayWrite_6 (by decide) ?_
  refine mcalli hq X hW (mt_one_1 l hq T D th (w := w) (w2 := (nI 3 + w)) (x := x) (t := 1) h) (cwV 4 X.2.2.2.2 gX7_arrayWrite_X7_one rfl rfl rfl (by decide +kernel) ⟨Nat.le_of_ble_eq_true rfl, Nat.le_of_ble_eq_true rfl⟩) rfl rfl hl.1 (Nat.le_of_ble_eq_true rfl) dX7_arrayWrite_7 ⟨Nat.zero_le _, Nat.zero_le _⟩ (fun H locs hW => ?_)
  exact hE _ _ _ _ _ (rfl) (fun ty hty => by cases hty; exact rfl) hW dX7_arrayWrite_10

set_option maxHeartbeats 4000000 in
set_option maxRecDepth 100000 in
theorem mt_arrayWrite_2 (l : Launch) {G : va_G} {cI cZ : ClassId} {q : Nat → Nat} (hq : mJ q) (T : mT) (D : mD) (th : Int32) (I : mI T) {w : Nat} {x : Int32} (hw : w < 3) (h : 256 < T 7 (3 + w) + 1) : mMi l yX7_arrayWrite wsX7_arrayWrite ({ frames := 2, cells := 0, slots := 0, locals := 47 } : Room) G cI cZ q [.int (nI (w)), .int (x)] (T) (D) (th) (nI 0) (T) (D) (nI 2) := by
  refine mstarti (cc := cX7_arrayWrite) (maxL := 3) (ret := (some .int)) (by decide) rfl rfl ⟨_, rfl⟩ (Nat.le_of_ble_eq_true rfl) (fun p e s m args below meth c Q hE X hW ls hl => ?_)
  have hl : lv_has ls 3 [(0, .ref (q 0)), (1, .int (nI (w))), (2, .int (x))] := hl
  have hin : ∀ w ∈ wsX70, w ∈ wsX7_arrayWrite := fun w h => List.mem_cons_of_mem _ (List.mem_append_left _ (List.mem_append_right _ (h)))
  refine lv_aload_n X.1 X.2.1 dX7_arrayWrite_0 rfl (lv_at hl 0 rfl) ?_
  refine lv_iload_n X.1 X.2.1 dX7_arrayWrite_1 rfl (lv_at hl 1 rfl) ?_
  refine lv_iconst (v := nI 3) X.1 X.2.1 dX7_arrayWrite_2 (by decide) ?_
  refine lv_iload_n X.1 X.2.1 dX7_arrayWrite_3 rfl (lv_at hl 1 rfl) ?_
  refine n_iadd X.1 X.2.1 dX7_arrayWrite_4 ?_
  refine lv_iload_n X.1 X.2.1 dX7_arrayWrite_5 rfl (lv_at hl 2 rfl) ?_
  refine lv_iconst (v := nI 1) X.1 X.2.1 dX7_arrayWrite_6 (by decide) ?_
  refine mcalli hq X hW (mt_one_2 l hq T D th I (w := w) (a := 3 + w) (t := 1) (x := x) hw (by omega) h (by decide)) (cwV 4 X.2.2.2.2 gX7_arrayWrite_X7_one rfl rfl rfl (by decide +kernel) ⟨Nat.le_of_ble_eq_true rfl, Nat.le_of_ble_eq_true rfl⟩) rfl rfl hl.1 (Nat.le_of_ble_eq_true rfl) dX7_arrayWrite_7 ⟨Nat.zero_le _, Nat.zero_le _⟩ (fun H locs hW => ?_)
  exact hE _ _ _ _ _ (rfl) (fun ty hty => by cases hty; exact rfl) hW dX7_arrayWrite_10

set_option maxHeartbeats 4000000 in
set_option maxRecDepth 100000 in
theorem mt_arrayWrite (l : Launch) {G : va_G} {cI cZ : ClassId} {q : Nat → Nat} (hq : mJ q) (T : mT) (D : mD) (th : Int32) (I : mI T) {w : Nat} {x : Int32} (hw : w < 3) (h : T 7 (3 + w) + 1 ≤ 256) : mMi l yX7_arrayWrite wsX7_arrayWrite ({ frames := 2, cells := 0, slots := 0, locals := 47 } : Room) G cI cZ q [.int (nI (w)), .int (x)] (T) (D) (th) (nI (T 7 (3 + w) + 1)) (adT T (3 + w) 1) (adD T D (3 + w) (fun _ => x &&& nI 255) 1) (nI 0) := by
  refine mstarti (cc := cX7_arrayWrite) (maxL := 3) (ret := (some .int)) (by decide) rfl rfl ⟨_, rfl⟩ (Nat.le_of_ble_eq_true rfl) (fun p e s m args below meth c Q hE X hW ls hl => ?_)
  have hl : lv_has ls 3 [(0, .ref (q 0)), (1, .int (nI (w))), (2, .int (x))] := hl
  have hin : ∀ w ∈ wsX70, w ∈ wsX7_arrayWrite := fun w h => List.mem_cons_of_mem _ (List.mem_append_left _ (List.mem_append_right _ (h)))
  refine lv_aload_n X.1 X.2.1 dX7_arrayWrite_0 rfl (lv_at hl 0 rfl) ?_
  refine lv_iload_n X.1 X.2.1 dX7_arrayWrite_1 rfl (lv_at hl 1 rfl) ?_
  refine lv_iconst (v := nI 3) X.1 X.2.1 dX7_arrayWrite_2 (by decide) ?_
  refine lv_iload_n X.1 X.2.1 dX7_arrayWrite_3 rfl (lv_at hl 1 rfl) ?_
  refine n_iadd X.1 X.2.1 dX7_arrayWrite_4 ?_
  refine lv_iload_n X.1 X.2.1 dX7_arrayWrite_5 rfl (lv_at hl 2 rfl) ?_
  refine lv_iconst (v := nI 1) X.1 X.2.1 dX7_arrayWrite_6 (by decide) ?_
  refine mcalli hq X hW (mt_one l hq T D th I (w := w) (a := 3 + w) (t := 1) (x := x) hw (by omega) h (by decide)) (cwV 4 X.2.2.2.2 gX7_arrayWrite_X7_one rfl rfl rfl (by decide +kernel) ⟨Nat.le_of_ble_eq_true rfl, Nat.le_of_ble_eq_true rfl⟩) rfl rfl hl.1 (Nat.le_of_ble_eq_true rfl) dX7_arrayWrite_7 ⟨Nat.zero_le _, Nat.zero_le _⟩ (fun H locs hW => ?_)
  exact hE _ _ _ _ _ (rfl) (fun ty hty => by cases hty; exact rfl) hW dX7_arrayWrite_10

theorem mo_arrayWrite (l : Launch) {G : va_G} {cI cZ : ClassId} {q : Nat → Nat} (hq : mJ q) (T : mT) (D : mD) (th : Int32) (I : mI T) (J : mJD D) (w x : Int32) : mO l yX7_arrayWrite wsX7_arrayWrite ({ frames := 2, cells := 0, slots := 0, locals := 47 } : Room) G cI cZ q [.int w, .int x] T D th (sp_one T D 3 1 w x) := by
  by_cases h1 : oN w 3
  · rw [show sp_one T D 3 1 w x = no T D 1 from if_pos h1]; exact mt_arrayWrite_1 l hq T D th h1
  · obtain ⟨w, hw, rfl⟩ := oN_in (by decide) h1
    have hc : (nI w).toNatClampNeg = w := nI_clamp (by omega)
    have ea : 3 + w = 3 + w := by omega
    by_cases h2 : 256 < T 7 (3 + w) + 1
    · rw [show sp_one T D 3 1 (nI w) x = no T D 2 from (if_neg h1).trans (if_pos (by rw [hc, ea]; exact h2))]; exact mt_arrayWrite_2 l hq T D th I hw h2
    · rw [show sp_one T D 3 1 (nI w) x = sk_one T D (3 + w) 1 x from (if_neg h1).trans ((if_neg (by rw [hc, ea]; exact h2)).trans (by rw [hc, ea]))]
      exact mt_arrayWrite l hq T D th I hw (Nat.not_lt.mp h2)

set_option maxHeartbeats 4000000 in
set_option maxRecDepth 100000 in
theorem mt_arrayAppend_1 (l : Launch) {G : va_G} {cI cZ : ClassId} {q : Nat → Nat} (hq : mJ q) (T : mT) (D : mD) (th : Int32) {w x : Int32} (h : oN w 3) : mMi l yX7_arrayAppend wsX7_arrayAppend ({ frames := 2, cells := 0, slots := 0, locals := 47 } : Room) G cI cZ q [.int (w), .int (x)] (T) (D) (th) (nI 0) (T) (D) (nI 1) := by
  refine mstarti (cc := cX7_arrayAppend) (maxL := 3) (ret := (some .int)) (by decide) rfl rfl ⟨_, rfl⟩ (Nat.le_of_ble_eq_true rfl) (fun p e s m args below meth c Q hE X hW ls hl => ?_)
  have hl : lv_has ls 3 [(0, .ref (q 0)), (1, .int (w)), (2, .int (x))] := hl
  have hin : ∀ w ∈ wsX70, w ∈ wsX7_arrayAppend := fun w h => List.mem_cons_of_mem _ (List.mem_append_left _ (List.mem_append_right _ (h)))
  refine lv_aload_n X.1 X.2.1 dX7_arrayAppend_0 rfl (lv_at hl 0 rfl) ?_
  refine lv_iload_n X.1 X.2.1 dX7_arrayAppend_1 rfl (lv_at hl 1 rfl) ?_
  refine lv_iconst (v := nI 3) X.1 X.2.1 dX7_arrayAppend_2 (by decide) ?_
  refine lv_iload_n X.1 X.2.1 dX7_arrayAppend_3 rfl (lv_at hl 1 rfl) ?_
  refine lv_iadd X.1 X.2.1 dX7_arrayAppend_4 ?_
  refine lv_iload_n X.1 X.2.1 dX7_arrayAppend_5 rfl (lv_at hl 2 rfl) ?_
  refine lv_iconst (v := nI 2) X.1 X.2.1 dX7_arrayAppend_6 (by decide) ?_
  refine mcalli hq X hW (mt_one_1 l hq T D th (w := w) (w2 := (nI 3 + w)) (x := x) (t := 2) h) (cwV 4 X.2.2.2.2 gX7_arrayAppend_X7_one rfl rfl rfl (by decide +kernel) ⟨Nat.le_of_ble_eq_true rfl, Nat.le_of_ble_eq_true rfl⟩) rfl rfl hl.1 (Nat.le_of_ble_eq_true rfl) dX7_arrayAppend_7 ⟨Nat.zero_le _, Nat.zero_le _⟩ (fun H locs hW => ?_)
  exact hE _ _ _ _ _ (rfl) (fun ty hty => by cases hty; exact rfl) hW dX7_arrayAppend_10

set_option maxHeartbeats 4000000 in
set_option maxRecDepth 100000 in
theorem mt_arrayAppend_2 (l : Launch) {G : va_G} {cI cZ : ClassId} {q : Nat → Nat} (hq : mJ q) (T : mT) (D : mD) (th : Int32) (I : mI T) {w : Nat} {x : Int32} (hw : w < 3) (h : 256 < T 7 (3 + w) + 2) : mMi l yX7_arrayAppend wsX7_arrayAppend ({ frames := 2, cells := 0, slots := 0, locals := 47 } : Room) G cI cZ q [.int (nI (w)), .int (x)] (T) (D) (th) (nI 0) (T) (D) (nI 2) := by
  refine mstarti (cc := cX7_arrayAppend) (maxL := 3) (ret := (some .int)) (by decide) rfl rfl ⟨_, rfl⟩ (Nat.le_of_ble_eq_true rfl) (fun p e s m args below meth c Q hE X hW ls hl => ?_)
  have hl : lv_has ls 3 [(0, .ref (q 0)), (1, .int (nI (w))), (2, .int (x))] := hl
  have hin : ∀ w ∈ wsX70, w ∈ wsX7_arrayAppend := fun w h => List.mem_cons_of_mem _ (List.mem_append_left _ (List.mem_append_right _ (h)))
  refine lv_aload_n X.1 X.2.1 dX7_arrayAppend_0 rfl (lv_at hl 0 rfl) ?_
  refine lv_iload_n X.1 X.2.1 dX7_arrayAppend_1 rfl (lv_at hl 1 rfl) ?_
  refine lv_iconst (v := nI 3) X.1 X.2.1 dX7_arrayAppend_2 (by decide) ?_
  refine lv_iload_n X.1 X.2.1 dX7_arrayAppend_3 rfl (lv_at hl 1 rfl) ?_
  refine n_iadd X.1 X.2.1 dX7_arrayAppend_4 ?_
  refine lv_iload_n X.1 X.2.1 dX7_arrayAppend_5 rfl (lv_at hl 2 rfl) ?_
  refine lv_iconst (v := nI 2) X.1 X.2.1 dX7_arrayAppend_6 (by decide) ?_
  refine mcalli hq X hW (mt_one_2 l hq T D th I (w := w) (a := 3 + w) (t := 2) (x := x) hw (by omega) h (by decide)) (cwV 4 X.2.2.2.2 gX7_arrayAppend_X7_one rfl rfl rfl (by decide +kernel) ⟨Nat.le_of_ble_eq_true rfl, Nat.le_of_ble_eq_true rfl⟩) rfl rfl hl.1 (Nat.le_of_ble_eq_true rfl) dX7_arrayAppend_7 ⟨Nat.zero_le _, Nat.zero_le _⟩ (fun H locs hW => ?_)
  exact hE _ _ _ _ _ (rfl) (fun ty hty => by cases hty; exact rfl) hW dX7_arrayAppend_10

set_option maxHeartbeats 4000000 in
set_option maxRecDepth 100000 in
theorem mt_arrayAppend (l : Launch) {G : va_G} {cI cZ : ClassId} {q : Nat → Nat} (hq : mJ q) (T : mT) (D : mD) (th : Int32) (I : mI T) {w : Nat} {x : Int32} (hw : w < 3) (h : T 7 (3 + w) + 2 ≤ 256) : mMi l yX7_arrayAppend wsX7_arrayAppend ({ frames := 2, cells := 0, slots := 0, locals := 47 } : Room) G cI cZ q [.int (nI (w)), .int (x)] (T) (D) (th) (nI (T 7 (3 + w) + 2)) (adT T (3 + w) 2) (adD T D (3 + w) (fun _ => x &&& nI 255) 2) (nI 0) := by
  refine mstarti (cc := cX7_arrayAppend) (maxL := 3) (ret := (some .int)) (by decide) rfl rfl ⟨_, rfl⟩ (Nat.le_of_ble_eq_true rfl) (fun p e s m args below meth c Q hE X hW ls hl => ?_)
  have hl : lv_has ls 3 [(0, .ref (q 0)), (1, .int (nI (w))), (2, .int (x))] := hl
  have hin : ∀ w ∈ wsX70, w ∈ wsX7_arrayAppend := fun w h => List.mem_cons_of_mem _ (List.mem_append_left _ (List.mem_append_right _ (h)))
  refine lv_aload_n X.1 X.2.1 dX7_arrayAppend_0 rfl (lv_at hl 0 rfl) ?_
  refine lv_iload_n X.1 X.2.1 dX7_arrayAppend_1 rfl (lv_at hl 1 rfl) ?_
  refine lv_iconst (v := nI 3) X.1 X.2.1 dX7_arrayAppend_2 (by decide) ?_
  refine lv_iload_n X.1 X.2.1 dX7_arrayAppend_3 rfl (lv_at hl 1 rfl) ?_
  refine n_iadd X.1 X.2.1 dX7_arrayAppend_4 ?_
  refine lv_iload_n X.1 X.2.1 dX7_arrayAppend_5 rfl (lv_at hl 2 rfl) ?_
  refine lv_iconst (v := nI 2) X.1 X.2.1 dX7_arrayAppend_6 (by decide) ?_
  refine mcalli hq X hW (mt_one l hq T D th I (w := w) (a := 3 + w) (t := 2) (x := x) hw (by omega) h (by decide)) (cwV 4 X.2.2.2.2 gX7_arrayAppend_X7_one rfl rfl rfl (by decide +kernel) ⟨Nat.le_of_ble_eq_true rfl, Nat.le_of_ble_eq_true rfl⟩) rfl rfl hl.1 (Nat.le_of_ble_eq_true rfl) dX7_arrayAppend_7 ⟨Nat.zero_le _, Nat.zero_le _⟩ (fun H locs hW => ?_)
  exact hE _ _ _ _ _ (rfl) (fun ty hty => by cases hty; exact rfl) hW dX7_arrayAppend_10

theorem mo_arrayAppend (l : Launch) {G : va_G} {cI cZ : ClassId} {q : Nat → Nat} (hq : mJ q) (T : mT) (D : mD) (th : Int32) (I : mI T) (J : mJD D) (w x : Int32) : mO l yX7_arrayAppend wsX7_arrayAppend ({ frames := 2, cells := 0, slots := 0, locals := 47 } : Room) G cI cZ q [.int w, .int x] T D th (sp_one T D 3 2 w x) := by
  by_cases h1 : oN w 3
  · rw [show sp_one T D 3 2 w x = no T D 1 from if_pos h1]; exact mt_arrayAppend_1 l hq T D th h1
  · obtain ⟨w, hw, rfl⟩ := oN_in (by decide) h1
    have hc : (nI w).toNatClampNeg = w := nI_clamp (by omega)
    have ea : 3 + w = 3 + w := by omega
    by_cases h2 : 256 < T 7 (3 + w) + 2
    · rw [show sp_one T D 3 2 (nI w) x = no T D 2 from (if_neg h1).trans (if_pos (by rw [hc, ea]; exact h2))]; exact mt_arrayAppend_2 l hq T D th I hw h2
    · rw [show sp_one T D 3 2 (nI w) x = sk_one T D (3 + w) 2 x from (if_neg h1).trans ((if_neg (by rw [hc, ea]; exact h2)).trans (by rw [hc, ea]))]
      exact mt_arrayAppend l hq T D th I hw (Nat.not_lt.mp h2)

set_option maxHeartbeats 4000000 in
set_option maxRecDepth 100000 in
theorem mt_part_1a (l : Launch) {G : va_G} {cI cZ : ClassId} {q : Nat → Nat} (hq : mJ q) (T : mT) (D : mD) (th : Int32) {w w2 row f n : Int32} (h : oN w 3) : mMi l yX7_part wsX7_part ({ frames := 2, cells := 0, slots := 0, locals := 44 } : Room) G cI cZ q [.int (w), .int (w2), .int (row), .int (f), .int (n)] (T) (D) (th) (nI 0) (T) (D) (nI 1) := by
  refine mstarti (cc := cX7_part) (maxL := 7) (ret := (some .int)) (by decide) rfl rfl ⟨_, rfl⟩ (Nat.le_of_ble_eq_true rfl) (fun p e s m args below meth c Q hE X hW ls hl => ?_)
  have hl : lv_has ls 7 [(0, .ref (q 0)), (1, .int (w)), (2, .int (w2)), (3, .int (row)), (4, .int (f)), (5, .int (n))] := hl
  have hin : ∀ w ∈ wsX70, w ∈ wsX7_part := fun w h => List.mem_cons_of_mem _ (List.mem_append_left _ (List.mem_append_right _ (h)))
  refine lv_aload_n X.1 X.2.1 dX7_part_0 rfl (lv_at hl 0 rfl) ?_
  refine lv_aload_n X.1 X.2.1 dX7_part_1 rfl (lv_at hl 0 rfl) ?_
  refine lv_iload_n X.1 X.2.1 dX7_part_2 rfl (lv_at hl 1 rfl) ?_
  refine mcalli hq X hW (mt_isOther_bad l hq (T) (D) (th) (x := w) (h)) (cwV 1 X.2.2.2.2 gX7_part_X7_isOther rfl rfl rfl (by decide +kernel) ⟨Nat.le_of_ble_eq_true rfl, Nat.le_of_ble_eq_true rfl⟩) rfl rfl hl.1 (Nat.le_of_ble_eq_true rfl) dX7_part_3 ⟨Nat.zero_le _, Nat.zero_le _⟩ (fun H locs hW => ?_)
  refine n_if_eq_t (tgt := 21) X.1 X.2.1 dX7_part_6 (by decide) (by decide) (by omega) ?_
  refine lv_iconst (v := nI 1) X.1 X.2.1 dX7_part_21 (by decide) ?_
  refine lv_goto (tgt := 40) X.1 X.2.1 dX7_part_22 (by decide) ?_
  refine mcalli hq X hW (mt_isWrong_s l hq (T) (D) (th) (n := 1) (by decide) (by decide)) (cwV 1 X.2.2.2.2 gX7_part_X7_isWrong rfl rfl rfl (by decide +kernel) ⟨Nat.le_of_ble_eq_true rfl, Nat.le_of_ble_eq_true rfl⟩) rfl rfl hl.1 (Nat.le_of_ble_eq_true rfl) dX7_part_40 ⟨Nat.zero_le _, Nat.zero_le _⟩ (fun H locs hW => ?_)
  refine n_if_eq_f (tgt := 48) X.1 X.2.1 dX7_part_43 (by decide) (by decide) (by omega) ?_
  refine lv_iconst (v := nI 0) X.1 X.2.1 dX7_part_46 (by decide) ?_
  exact hE _ _ _ _ _ (rfl) (fun ty hty => by cases hty; exact rfl) hW dX7_part_47

set_option maxHeartbeats 4000000 in
set_option maxRecDepth 100000 in
theorem mt_part_1b (l : Launch) {G : va_G} {cI cZ : ClassId} {q : Nat → Nat} (hq : mJ q) (T : mT) (D : mD) (th : Int32) {w a : Nat} {row f n : Int32} (hw : w < 3) (h : oN row 4) : mMi l yX7_part wsX7_part ({ frames := 2, cells := 0, slots := 0, locals := 44 } : Room) G cI cZ q [.int (nI (w)), .int (nI (a)), .int (row), .int (f), .int (n)] (T) (D) (th) (nI 0) (T) (D) (nI 1) := by
  refine mstarti (cc := cX7_part) (maxL := 7) (ret := (some .int)) (by decide) rfl rfl ⟨_, rfl⟩ (Nat.le_of_ble_eq_true rfl) (fun p e s m args below meth c Q hE X hW ls hl => ?_)
  have hl : lv_has ls 7 [(0, .ref (q 0)), (1, .int (nI (w))), (2, .int (nI (a))), (3, .int (row)), (4, .int (f)), (5, .int (n))] := hl
  have hin : ∀ w ∈ wsX70, w ∈ wsX7_part := fun w h => List.mem_cons_of_mem _ (List.mem_append_left _ (List.mem_append_right _ (h)))
  refine lv_aload_n X.1 X.2.1 dX7_part_0 rfl (lv_at hl 0 rfl) ?_
  refine lv_aload_n X.1 X.2.1 dX7_part_1 rfl (lv_at hl 0 rfl) ?_
  refine lv_iload_n X.1 X.2.1 dX7_part_2 rfl (lv_at hl 1 rfl) ?_
  refine mcalli hq X hW (mt_isOther_ok l hq (T) (D) (th) (r := w) (by omega)) (cwV 1 X.2.2.2.2 gX7_part_X7_isOther rfl rfl rfl (by decide +kernel) ⟨Nat.le_of_ble_eq_true rfl, Nat.le_of_ble_eq_true rfl⟩) rfl rfl hl.1 (Nat.le_of_ble_eq_true rfl) dX7_part_3 ⟨Nat.zero_le _, Nat.zero_le _⟩ (fun H locs hW => ?_)
  refine n_if_eq_f (tgt := 21) X.1 X.2.1 dX7_part_6 (by decide) (by decide) (by omega) ?_
  refine lv_aload_n X.1 X.2.1 dX7_part_9 rfl (lv_at hl 0 rfl) ?_
  refine lv_iload_n X.1 X.2.1 dX7_part_10 rfl (lv_at hl 3 rfl) ?_
  refine lv_iload X.1 X.2.1 dX7_part_11 (lv_at hl 4 rfl) ?_
  refine lv_iload X.1 X.2.1 dX7_part_13 (lv_at hl 5 rfl) ?_
  refine mcalli hq X hW (mt_isPart_b0 l hq (T) (D) (th) (x := row) (h)) (cwV 3 X.2.2.2.2 gX7_part_X7_isPart rfl rfl rfl (by decide +kernel) ⟨Nat.le_of_ble_eq_true rfl, Nat.le_of_ble_eq_true rfl⟩) rfl rfl hl.1 (Nat.le_of_ble_eq_true rfl) dX7_part_15 ⟨Nat.zero_le _, Nat.zero_le _⟩ (fun H locs hW => ?_)
  refine n_if_ne_f (tgt := 25) X.1 X.2.1 dX7_part_18 (by decide) (by decide) (by omega) ?_
  refine lv_iconst (v := nI 1) X.1 X.2.1 dX7_part_21 (by decide) ?_
  refine lv_goto (tgt := 40) X.1 X.2.1 dX7_part_22 (by decide) ?_
  refine mcalli hq X hW (mt_isWrong_s l hq (T) (D) (th) (n := 1) (by decide) (by decide)) (cwV 1 X.2.2.2.2 gX7_part_X7_isWrong rfl rfl rfl (by decide +kernel) ⟨Nat.le_of_ble_eq_true rfl, Nat.le_of_ble_eq_true rfl⟩) rfl rfl hl.1 (Nat.le_of_ble_eq_true rfl) dX7_part_40 ⟨Nat.zero_le _, Nat.zero_le _⟩ (fun H locs hW => ?_)
  refine n_if_eq_f (tgt := 48) X.1 X.2.1 dX7_part_43 (by decide) (by decide) (by omega) ?_
  refine lv_iconst (v := nI 0) X.1 X.2.1 dX7_part_46 (by decide) ?_
  exact hE _ _ _ _ _ (rfl) (fun ty hty => by cases hty; exact rfl) hW dX7_part_47

set_option maxHeartbeats 4000000 in
set_option maxRecDepth 100000 in
theorem mt_part_1c (l : Launch) {G : va_G} {cI cZ : ClassId} {q : Nat → Nat} (hq : mJ q) (T : mT) (D : mD) (th : Int32) (I : mI T) {w a r : Nat} {f n : Int32} (hw : w < 3) (hr : r < 4) (h : oP (T 1 (T 2 r)) f n) : mMi l yX7_part wsX7_part ({ frames := 2, cells := 0, slots := 0, locals := 44 } : Room) G cI cZ q [.int (nI (w)), .int (nI (a)), .int (nI (r)), .int (f), .int (n)] (T) (D) (th) (nI 0) (T) (D) (nI 1) := by
  refine mstarti (cc := cX7_part) (maxL := 7) (ret := (some .int)) (by decide) rfl rfl ⟨_, rfl⟩ (Nat.le_of_ble_eq_true rfl) (fun p e s m args below meth c Q hE X hW ls hl => ?_)
  have hl : lv_has ls 7 [(0, .ref (q 0)), (1, .int (nI (w))), (2, .int (nI (a))), (3, .int (nI (r))), (4, .int (f)), (5, .int (n))] := hl
  have hin : ∀ w ∈ wsX70, w ∈ wsX7_part := fun w h => List.mem_cons_of_mem _ (List.mem_append_left _ (List.mem_append_right _ (h)))
  refine lv_aload_n X.1 X.2.1 dX7_part_0 rfl (lv_at hl 0 rfl) ?_
  refine lv_aload_n X.1 X.2.1 dX7_part_1 rfl (lv_at hl 0 rfl) ?_
  refine lv_iload_n X.1 X.2.1 dX7_part_2 rfl (lv_at hl 1 rfl) ?_
  refine mcalli hq X hW (mt_isOther_ok l hq (T) (D) (th) (r := w) (by omega)) (cwV 1 X.2.2.2.2 gX7_part_X7_isOther rfl rfl rfl (by decide +kernel) ⟨Nat.le_of_ble_eq_true rfl, Nat.le_of_ble_eq_true rfl⟩) rfl rfl hl.1 (Nat.le_of_ble_eq_true rfl) dX7_part_3 ⟨Nat.zero_le _, Nat.zero_le _⟩ (fun H locs hW => ?_)
  refine n_if_eq_f (tgt := 21) X.1 X.2.1 dX7_part_6 (by decide) (by decide) (by omega) ?_
  refine lv_aload_n X.1 X.2.1 dX7_part_9 rfl (lv_at hl 0 rfl) ?_
  refine lv_iload_n X.1 X.2.1 dX7_part_10 rfl (lv_at hl 3 rfl) ?_
  refine lv_iload X.1 X.2.1 dX7_part_11 (lv_at hl 4 rfl) ?_
  refine lv_iload X.1 X.2.1 dX7_part_13 (lv_at hl 5 rfl) ?_
  refine mcalli hq X hW (mt_isPart_bad l hq (T) (D) (th) I (r := r) (by omega) (h)) (cwV 3 X.2.2.2.2 gX7_part_X7_isPart rfl rfl rfl (by decide +kernel) ⟨Nat.le_of_ble_eq_true rfl, Nat.le_of_ble_eq_true rfl⟩) rfl rfl hl.1 (Nat.le_of_ble_eq_true rfl) dX7_part_15 ⟨Nat.zero_le _, Nat.zero_le _⟩ (fun H locs hW => ?_)
  refine n_if_ne_f (tgt := 25) X.1 X.2.1 dX7_part_18 (by decide) (by decide) (by omega) ?_
  refine lv_iconst (v := nI 1) X.1 X.2.1 dX7_part_21 (by decide) ?_
  refine lv_goto (tgt := 40) X.1 X.2.1 dX7_part_22 (by decide) ?_
  refine mcalli hq X hW (mt_isWrong_s l hq (T) (D) (th) (n := 1) (by decide) (by decide)) (cwV 1 X.2.2.2.2 gX7_part_X7_isWrong rfl rfl rfl (by decide +kernel) ⟨Nat.le_of_ble_eq_true rfl, Nat.le_of_ble_eq_true rfl⟩) rfl rfl hl.1 (Nat.le_of_ble_eq_true rfl) dX7_part_40 ⟨Nat.zero_le _, Nat.zero_le _⟩ (fun H locs hW => ?_)
  refine n_if_eq_f (tgt := 48) X.1 X.2.1 dX7_part_43 (by decide) (by decide) (by omega) ?_
  refine lv_iconst (v := nI 0) X.1 X.2.1 dX7_part_46 (by decide) ?_
  exact hE _ _ _ _ _ (rfl) (fun ty hty => by cases hty; exact rfl) hW dX7_part_47

set_option maxHeartbeats 4000000 in
set_option maxRecDepth 100000 in
theorem mt_part_2 (l : Launch) {G : va_G} {cI cZ : ClassId} {q : Nat → Nat} (hq : mJ q) (T : mT) (D : mD) (th : Int32) (I : mI T) {w a r f n : Nat} (hw : w < 3) (ha : a < 6) (hr : r < 4) (h : f + n ≤ T 1 (T 2 r)) (h2 : 256 < T 7 a + n) : mMi l yX7_part wsX7_part ({ frames := 2, cells := 0, slots := 0, locals := 44 } : Room) G cI cZ q [.int (nI (w)), .int (nI (a)), .int (nI (r)), .int (nI (f)), .int (nI (n))] (T) (D) (th) (nI 0) (T) (D) (nI 2) := by
  refine mstarti (cc := cX7_part) (maxL := 7) (ret := (some .int)) (by decide) rfl rfl ⟨_, rfl⟩ (Nat.le_of_ble_eq_true rfl) (fun p e s m args below meth c Q hE X hW ls hl => ?_)
  have hl : lv_has ls 7 [(0, .ref (q 0)), (1, .int (nI (w))), (2, .int (nI (a))), (3, .int (nI (r))), (4, .int (nI (f))), (5, .int (nI (n)))] := hl
  have hin : ∀ w ∈ wsX70, w ∈ wsX7_part := fun w h => List.mem_cons_of_mem _ (List.mem_append_left _ (List.mem_append_right _ (h)))
  have I1 := I.wr ha
  have I2 := I.sr hr
  have I3 := I.sl I2
  refine lv_aload_n X.1 X.2.1 dX7_part_0 rfl (lv_at hl 0 rfl) ?_
  refine lv_aload_n X.1 X.2.1 dX7_part_1 rfl (lv_at hl 0 rfl) ?_
  refine lv_iload_n X.1 X.2.1 dX7_part_2 rfl (lv_at hl 1 rfl) ?_
  refine mcalli hq X hW (mt_isOther_ok l hq (T) (D) (th) (r := w) (by omega)) (cwV 1 X.2.2.2.2 gX7_part_X7_isOther rfl rfl rfl (by decide +kernel) ⟨Nat.le_of_ble_eq_true rfl, Nat.le_of_ble_eq_true rfl⟩) rfl rfl hl.1 (Nat.le_of_ble_eq_true rfl) dX7_part_3 ⟨Nat.zero_le _, Nat.zero_le _⟩ (fun H locs hW => ?_)
  refine n_if_eq_f (tgt := 21) X.1 X.2.1 dX7_part_6 (by decide) (by decide) (by omega) ?_
  refine lv_aload_n X.1 X.2.1 dX7_part_9 rfl (lv_at hl 0 rfl) ?_
  refine lv_iload_n X.1 X.2.1 dX7_part_10 rfl (lv_at hl 3 rfl) ?_
  refine lv_iload X.1 X.2.1 dX7_part_11 (lv_at hl 4 rfl) ?_
  refine lv_iload X.1 X.2.1 dX7_part_13 (lv_at hl 5 rfl) ?_
  refine mcalli hq X hW (mt_isPart_ok l hq (T) (D) (th) I (r := r) (f := f) (n := n) (by omega) (by omega)) (cwV 3 X.2.2.2.2 gX7_part_X7_isPart rfl rfl rfl (by decide +kernel) ⟨Nat.le_of_ble_eq_true rfl, Nat.le_of_ble_eq_true rfl⟩) rfl rfl hl.1 (Nat.le_of_ble_eq_true rfl) dX7_part_15 ⟨Nat.zero_le _, Nat.zero_le _⟩ (fun H locs hW => ?_)
  refine n_if_ne_t (tgt := 25) X.1 X.2.1 dX7_part_18 (by decide) (by decide) (by omega) ?_
  refine lv_aload_n X.1 X.2.1 dX7_part_25 rfl (lv_at hl 0 rfl) ?_
  refine lv_iload_n X.1 X.2.1 dX7_part_26 rfl (lv_at hl 2 rfl) ?_
  refine lv_iload X.1 X.2.1 dX7_part_27 (lv_at hl 5 rfl) ?_
  refine mcalli hq X hW (mt_isFull_1 l hq (T) (D) (th) (w := a) (n := n) (by omega) (by omega) (by omega)) (cwV 2 X.2.2.2.2 gX7_part_X7_isFull rfl rfl rfl (by decide +kernel) ⟨Nat.le_of_ble_eq_true rfl, Nat.le_of_ble_eq_true rfl⟩) rfl rfl hl.1 (Nat.le_of_ble_eq_true rfl) dX7_part_29 ⟨Nat.zero_le _, Nat.zero_le _⟩ (fun H locs hW => ?_)
  refine n_if_eq_f (tgt := 39) X.1 X.2.1 dX7_part_32 (by decide) (by decide) (by omega) ?_
  refine lv_iconst (v := nI 2) X.1 X.2.1 dX7_part_35 (by decide) ?_
  refine lv_goto (tgt := 40) X.1 X.2.1 dX7_part_36 (by decide) ?_
  refine mcalli hq X hW (mt_isWrong_s l hq (T) (D) (th) (n := 2) (by decide) (by decide)) (cwV 1 X.2.2.2.2 gX7_part_X7_isWrong rfl rfl rfl (by decide +kernel) ⟨Nat.le_of_ble_eq_true rfl, Nat.le_of_ble_eq_true rfl⟩) rfl rfl hl.1 (Nat.le_of_ble_eq_true rfl) dX7_part_40 ⟨Nat.zero_le _, Nat.zero_le _⟩ (fun H locs hW => ?_)
  refine n_if_eq_f (tgt := 48) X.1 X.2.1 dX7_part_43 (by decide) (by decide) (by omega) ?_
  refine lv_iconst (v := nI 0) X.1 X.2.1 dX7_part_46 (by decide) ?_
  exact hE _ _ _ _ _ (rfl) (fun ty hty => by cases hty; exact rfl) hW dX7_part_47

set_option maxHeartbeats 4000000 in
set_option maxRecDepth 100000 in
theorem mt_part (l : Launch) {G : va_G} {cI cZ : ClassId} {q : Nat → Nat} (hq : mJ q) (T : mT) (D : mD) (th : Int32) (I : mI T) {w a r f n : Nat} (hw : w < 3) (ha : a < 6) (hr : r < 4) (h : f + n ≤ T 1 (T 2 r)) (h2 : T 7 a + n ≤ 256) : mMi l yX7_part wsX7_part ({ frames := 2, cells := 0, slots := 0, locals := 44 } : Room) G cI cZ q [.int (nI (w)), .int (nI (a)), .int (nI (r)), .int (nI (f)), .int (nI (n))] (T) (D) (th) (nI (T 7 a + n)) (adT T a n) (adD T D a (fun i => D 0 (256 * T 2 r + f + i) &&& nI 255) n) (nI 0) := by
  refine mstarti (cc := cX7_part) (maxL := 7) (ret := (some .int)) (by decide) rfl rfl ⟨_, rfl⟩ (Nat.le_of_ble_eq_true rfl) (fun p e s m args below meth c Q hE X hW ls hl => ?_)
  have hl : lv_has ls 7 [(0, .ref (q 0)), (1, .int (nI (w))), (2, .int (nI (a))), (3, .int (nI (r))), (4, .int (nI (f))), (5, .int (nI (n)))] := hl
  have hin : ∀ w ∈ wsX70, w ∈ wsX7_part := fun w h => List.mem_cons_of_mem _ (List.mem_append_left _ (List.mem_append_right _ (h)))
  have I1 := I.wr ha
  have I2 := I.sr hr
  have I3 := I.sl I2
  refine lv_aload_n X.1 X.2.1 dX7_part_0 rfl (lv_at hl 0 rfl) ?_
  refine lv_aload_n X.1 X.2.1 dX7_part_1 rfl (lv_at hl 0 rfl) ?_
  refine lv_iload_n X.1 X.2.1 dX7_part_2 rfl (lv_at hl 1 rfl) ?_
  refine mcalli hq X hW (mt_isOther_ok l hq (T) (D) (th) (r := w) (by omega)) (cwV 1 X.2.2.2.2 gX7_part_X7_isOther rfl rfl rfl (by decide +kernel) ⟨Nat.le_of_ble_eq_true rfl, Nat.le_of_ble_eq_true rfl⟩) rfl rfl hl.1 (Nat.le_of_ble_eq_true rfl) dX7_part_3 ⟨Nat.zero_le _, Nat.zero_le _⟩ (fun H locs hW => ?_)
  refine n_if_eq_f (tgt := 21) X.1 X.2.1 dX7_part_6 (by decide) (by decide) (by omega) ?_
  refine lv_aload_n X.1 X.2.1 dX7_part_9 rfl (lv_at hl 0 rfl) ?_
  refine lv_iload_n X.1 X.2.1 dX7_part_10 rfl (lv_at hl 3 rfl) ?_
  refine lv_iload X.1 X.2.1 dX7_part_11 (lv_at hl 4 rfl) ?_
  refine lv_iload X.1 X.2.1 dX7_part_13 (lv_at hl 5 rfl) ?_
  refine mcalli hq X hW (mt_isPart_ok l hq (T) (D) (th) I (r := r) (f := f) (n := n) (by omega) (by omega)) (cwV 3 X.2.2.2.2 gX7_part_X7_isPart rfl rfl rfl (by decide +kernel) ⟨Nat.le_of_ble_eq_true rfl, Nat.le_of_ble_eq_true rfl⟩) rfl rfl hl.1 (Nat.le_of_ble_eq_true rfl) dX7_part_15 ⟨Nat.zero_le _, Nat.zero_le _⟩ (fun H locs hW => ?_)
  refine n_if_ne_t (tgt := 25) X.1 X.2.1 dX7_part_18 (by decide) (by decide) (by omega) ?_
  refine lv_aload_n X.1 X.2.1 dX7_part_25 rfl (lv_at hl 0 rfl) ?_
  refine lv_iload_n X.1 X.2.1 dX7_part_26 rfl (lv_at hl 2 rfl) ?_
  refine lv_iload X.1 X.2.1 dX7_part_27 (lv_at hl 5 rfl) ?_
  refine mcalli hq X hW (mt_isFull_0 l hq (T) (D) (th) (w := a) (n := n) (by omega) (by omega)) (cwV 2 X.2.2.2.2 gX7_part_X7_isFull rfl rfl rfl (by decide +kernel) ⟨Nat.le_of_ble_eq_true rfl, Nat.le_of_ble_eq_true rfl⟩) rfl rfl hl.1 (Nat.le_of_ble_eq_true rfl) dX7_part_29 ⟨Nat.zero_le _, Nat.zero_le _⟩ (fun H locs hW => ?_)
  refine n_if_eq_t (tgt := 39) X.1 X.2.1 dX7_part_32 (by decide) (by decide) (by omega) ?_
  refine lv_iconst (v := nI 0) X.1 X.2.1 dX7_part_39 (by decide) ?_
  refine mcalli hq X hW (mt_isWrong_0 l hq (T) (D) (th)) (cwV 1 X.2.2.2.2 gX7_part_X7_isWrong rfl rfl rfl (by decide +kernel) ⟨Nat.le_of_ble_eq_true rfl, Nat.le_of_ble_eq_true rfl⟩) rfl rfl hl.1 (Nat.le_of_ble_eq_true rfl) dX7_part_40 ⟨Nat.zero_le _, Nat.zero_le _⟩ (fun H locs hW => ?_)
  refine n_if_eq_t (tgt := 48) X.1 X.2.1 dX7_part_43 (by decide) (by decide) (by omega) ?_
  refine lv_iconst (v := nI 0) X.1 X.2.1 dX7_part_48 (by decide) ?_
  refine lv_istore (lv' := [(6, .int (nI (0))), (0, .ref (q 0)), (1, .int (nI (w))), (2, .int (nI (a))), (3, .int (nI (r))), (4, .int (nI (f))), (5, .int (nI (n)))]) X.1 X.2.1 dX7_part_49 hl (by decide) rfl (fun ls hl => ?_)
  have loop51 : ∀ (n51 k51 : Nat), k51 + n51 = n → ∀ (H : Heap) (locs : List Loc), mH G cI cZ q (adT T (a) k51) (adD T D (a) (fun i => D 0 (256 * T 2 r + f + i) &&& nI 255) k51) (nI 0) s H locs → ∀ ls : Array Slot, lv_has ls 7 [(0, .ref (q 0)), (1, .int (nI (w))), (2, .int (nI (a))), (3, .int (nI (r))), (4, .int (nI (f))), (5, .int (nI (n))), (6, .int (nI (k51)))] → W p l e ({ frames := 2, cells := 0, slots := 0, locals := 44 } : Room) s m args below meth c H locs 0 0 Q (F0 m 51 ls []) := by
    intro n51
    induction n51 with
    | zero =>
      intro k51 hk51  H locs hW ls hl
      obtain rfl : n = k51 := by omega
      refine lv_iload X.1 X.2.1 dX7_part_51 (lv_at hl 6 rfl) ?_
      refine lv_iload X.1 X.2.1 dX7_part_53 (lv_at hl 5 rfl) ?_
      refine n_icmp_ge_t (tgt := 90) X.1 X.2.1 dX7_part_55 (by decide) (by omega) (by omega) (by omega) ?_
      refine lv_aload_n X.1 X.2.1 dX7_part_90 rfl (lv_at hl 0 rfl) ?_
      refine mget 7 (by decide) rfl X hin hW (X.2.2.2.2 (.fieldLink RX7 31 "StrandbookModel" "sizes" "[I") (List.mem_cons_of_mem _ (List.mem_append_left _ (List.mem_append_left _ (List.mem_append_left _ (List.mem_of_getElem? (i := 2) rfl)))))) dX7_part_91 ?_
      refine lv_iload_n X.1 X.2.1 dX7_part_94 rfl (lv_at hl 2 rfl) ?_
      refine mld7 X hW (by omega) dX7_part_95 ?_
      exact hE _ _ _ _ _ (congrArg nI adT_a) (fun ty hty => by cases hty; exact rfl) hW dX7_part_96
    | succ n51 ih51 =>
      intro k51 hk51  H locs hW ls hl
      have eR : adT T a k51 2 r = T 2 r := congrFun (u2_ne (by decide)) _
      refine lv_iload X.1 X.2.1 dX7_part_51 (lv_at hl 6 rfl) ?_
      refine lv_iload X.1 X.2.1 dX7_part_53 (lv_at hl 5 rfl) ?_
      refine n_icmp_ge_f (tgt := 90) X.1 X.2.1 dX7_part_55 (by decide) (by omega) (by omega) (by omega) ?_
      refine lv_aload_n X.1 X.2.1 dX7_part_58 rfl (lv_at hl 0 rfl) ?_
      refine lv_iload_n X.1 X.2.1 dX7_part_59 rfl (lv_at hl 2 rfl) ?_
      refine lv_aload_n X.1 X.2.1 dX7_part_60 rfl (lv_at hl 0 rfl) ?_
      refine mget 0 (by decide) rfl X hin hW (X.2.2.2.2 (.fieldLink RX7 7 "StrandbookModel" "signs" "[I") (List.mem_cons_of_mem _ (List.mem_append_left _ (List.mem_append_left _ (List.mem_append_left _ (List.mem_of_getElem? (i := 0) rfl)))))) dX7_part_61 ?_
      refine lv_sipush (v := nI 256) X.1 X.2.1 dX7_part_64 (by decide) ?_
      refine lv_aload_n X.1 X.2.1 dX7_part_67 rfl (lv_at hl 0 rfl) ?_
      refine mget 2 (by decide) rfl X hin hW (X.2.2.2.2 (.fieldLink RX7 16 "StrandbookModel" "signRooms" "[I") (List.mem_cons_of_mem _ (List.mem_append_left _ (List.mem_append_left _ (List.mem_append_left _ (List.mem_of_getElem? (i := 1) rfl)))))) dX7_part_68 ?_
      refine lv_iload_n X.1 X.2.1 dX7_part_71 rfl (lv_at hl 3 rfl) ?_
      refine mld2 X hW (by omega) dX7_part_72 ?_
      refine n_imul X.1 X.2.1 dX7_part_73 ?_
      refine lv_iload X.1 X.2.1 dX7_part_74 (lv_at hl 4 rfl) ?_
      refine n_iadd X.1 X.2.1 dX7_part_76 ?_
      refine lv_iload X.1 X.2.1 dX7_part_77 (lv_at hl 6 rfl) ?_
      refine n_iadd X.1 X.2.1 dX7_part_79 ?_
      refine mld0 X hW (by omega) dX7_part_80 ?_
      refine n_cv (y := D 0 (256 * T 2 r + f + k51)) (congrFun (cpF_ne (by decide)) _) ?_
      refine mcallv hq X hW (mt_adds l hq (adT T (a) k51) (adD T D (a) (fun i => D 0 (256 * T 2 r + f + i) &&& nI 255) k51) (nI 0) (w := a) (x := (D 0 (256 * T 2 r + f + k51))) (by omega) (by rw [adT_a]; omega)) (cwV 2 X.2.2.2.2 gX7_part_X7_adds rfl rfl rfl (by decide +kernel) ⟨Nat.le_of_ble_eq_true rfl, Nat.le_of_ble_eq_true rfl⟩) rfl rfl hl.1 (Nat.le_of_ble_eq_true rfl) dX7_part_81 ⟨Nat.zero_le _, Nat.zero_le _⟩ (fun H locs hW => ?_)
      refine lv_iinc (v := nI (k51 + 1)) (lv' := [(6, .int (nI (k51 + 1))), (0, .ref (q 0)), (1, .int (nI (w))), (2, .int (nI (a))), (3, .int (nI (r))), (4, .int (nI (f))), (5, .int (nI (n)))]) X.1 X.2.1 dX7_part_84 hl (k := 6) rfl (nI_1 _) (by decide) rfl (fun ls hl => ?_)
      refine lv_goto (tgt := 51) X.1 X.2.1 dX7_part_87 (by decide) ?_
      exact ih51 (k51 + 1) (by omega) _ _ (hW.eq (adT_S) (adD_S (rfl)) rfl) ls (lv_sub hl [1, 2, 3, 4, 5, 6, 0] rfl)
  exact loop51 ((n) - (0)) (0) (by omega) _ _ (hW.eq (adT_0.symm) (adD_0.symm) rfl) ls (lv_sub hl [1, 2, 3, 4, 5, 6, 0] rfl)

set_option maxHeartbeats 4000000 in
set_option maxRecDepth 100000 in
theorem mt_writeText_1a (l : Launch) {G : va_G} {cI cZ : ClassId} {q : Nat → Nat} (hq : mJ q) (T : mT) (D : mD) (th : Int32) {w row f n : Int32} (h : oN w 3) : mMi l yX7_writeText wsX7_writeText ({ frames := 3, cells := 0, slots := 0, locals := 70 } : Room) G cI cZ q [.int (w), .int (row), .int (f), .int (n)] (T) (D) (th) (nI 0) (T) (D) (nI 1) := by
  refine mstarti (cc := cX7_writeText) (maxL := 5) (ret := (some .int)) (by decide) rfl rfl ⟨_, rfl⟩ (Nat.le_of_ble_eq_true rfl) (fun p e s m args below meth c Q hE X hW ls hl => ?_)
  have hl : lv_has ls 5 [(0, .ref (q 0)), (1, .int (w)), (2, .int (row)), (3, .int (f)), (4, .int (n))] := hl
  have hin : ∀ w ∈ wsX70, w ∈ wsX7_writeText := fun w h => List.mem_cons_of_mem _ (List.mem_append_left _ (List.mem_append_right _ (h)))
  refine lv_aload_n X.1 X.2.1 dX7_writeText_0 rfl (lv_at hl 0 rfl) ?_
  refine lv_iload_n X.1 X.2.1 dX7_writeText_1 rfl (lv_at hl 1 rfl) ?_
  refine lv_iload_n X.1 X.2.1 dX7_writeText_2 rfl (lv_at hl 1 rfl) ?_
  refine lv_iload_n X.1 X.2.1 dX7_writeText_3 rfl (lv_at hl 2 rfl) ?_
  refine lv_iload_n X.1 X.2.1 dX7_writeText_4 rfl (lv_at hl 3 rfl) ?_
  refine lv_iload X.1 X.2.1 dX7_writeText_5 (lv_at hl 4 rfl) ?_
  refine mcalli hq X hW (mt_part_1a l hq T D th (w := w) (w2 := w) (row := row) (f := f) (n := n) h) (cwV 5 X.2.2.2.2 gX7_writeText_X7_part rfl rfl rfl (by decide +kernel) ⟨Nat.le_of_ble_eq_true rfl, Nat.le_of_ble_eq_true rfl⟩) rfl rfl hl.1 (Nat.le_of_ble_eq_true rfl) dX7_writeText_7 ⟨Nat.zero_le _, Nat.zero_le _⟩ (fun H locs hW => ?_)
  exact hE _ _ _ _ _ (rfl) (fun ty hty => by cases hty; exact rfl) hW dX7_writeText_10

set_option maxHeartbeats 4000000 in
set_option maxRecDepth 100000 in
theorem mt_writeText_1b (l : Launch) {G : va_G} {cI cZ : ClassId} {q : Nat → Nat} (hq : mJ q) (T : mT) (D : mD) (th : Int32) {w : Nat} {row f n : Int32} (hw : w < 3) (h : oN row 4) : mMi l yX7_writeText wsX7_writeText ({ frames := 3, cells := 0, slots := 0, locals := 70 } : Room) G cI cZ q [.int (nI (w)), .int (row), .int (f), .int (n)] (T) (D) (th) (nI 0) (T) (D) (nI 1) := by
  refine mstarti (cc := cX7_writeText) (maxL := 5) (ret := (some .int)) (by decide) rfl rfl ⟨_, rfl⟩ (Nat.le_of_ble_eq_true rfl) (fun p e s m args below meth c Q hE X hW ls hl => ?_)
  have hl : lv_has ls 5 [(0, .ref (q 0)), (1, .int (nI (w))), (2, .int (row)), (3, .int (f)), (4, .int (n))] := hl
  have hin : ∀ w ∈ wsX70, w ∈ wsX7_writeText := fun w h => List.mem_cons_of_mem _ (List.mem_append_left _ (List.mem_append_right _ (h)))
  refine lv_aload_n X.1 X.2.1 dX7_writeText_0 rfl (lv_at hl 0 rfl) ?_
  refine lv_iload_n X.1 X.2.1 dX7_writeText_1 rfl (lv_at hl 1 rfl) ?_
  refine lv_iload_n X.1 X.2.1 dX7_writeText_2 rfl (lv_at hl 1 rfl) ?_
  refine lv_iload_n X.1 X.2.1 dX7_writeText_3 rfl (lv_at hl 2 rfl) ?_
  refine lv_iload_n X.1 X.2.1 dX7_writeText_4 rfl (lv_at hl 3 rfl) ?_
  refine lv_iload X.1 X.2.1 dX7_writeText_5 (lv_at hl 4 rfl) ?_
  refine mcalli hq X hW (mt_part_1b l hq T D th (w := w) (a := w) (row := row) (f := f) (n := n) hw h) (cwV 5 X.2.2.2.2 gX7_writeText_X7_part rfl rfl rfl (by decide +kernel) ⟨Nat.le_of_ble_eq_true rfl, Nat.le_of_ble_eq_true rfl⟩) rfl rfl hl.1 (Nat.le_of_ble_eq_true rfl) dX7_writeText_7 ⟨Nat.zero_le _, Nat.zero_le _⟩ (fun H locs hW => ?_)
  exact hE _ _ _ _ _ (rfl) (fun ty hty => by cases hty; exact rfl) hW dX7_writeText_10

set_option maxHeartbeats 4000000 in
set_option maxRecDepth 100000 in
theorem mt_writeText_1c (l : Launch) {G : va_G} {cI cZ : ClassId} {q : Nat → Nat} (hq : mJ q) (T : mT) (D : mD) (th : Int32) (I : mI T) {w r : Nat} {f n : Int32} (hw : w < 3) (hr : r < 4) (h : oP (T 1 (T 2 r)) f n) : mMi l yX7_writeText wsX7_writeText ({ frames := 3, cells := 0, slots := 0, locals := 70 } : Room) G cI cZ q [.int (nI (w)), .int (nI (r)), .int (f), .int (n)] (T) (D) (th) (nI 0) (T) (D) (nI 1) := by
  refine mstarti (cc := cX7_writeText) (maxL := 5) (ret := (some .int)) (by decide) rfl rfl ⟨_, rfl⟩ (Nat.le_of_ble_eq_true rfl) (fun p e s m args below meth c Q hE X hW ls hl => ?_)
  have hl : lv_has ls 5 [(0, .ref (q 0)), (1, .int (nI (w))), (2, .int (nI (r))), (3, .int (f)), (4, .int (n))] := hl
  have hin : ∀ w ∈ wsX70, w ∈ wsX7_writeText := fun w h => List.mem_cons_of_mem _ (List.mem_append_left _ (List.mem_append_right _ (h)))
  refine lv_aload_n X.1 X.2.1 dX7_writeText_0 rfl (lv_at hl 0 rfl) ?_
  refine lv_iload_n X.1 X.2.1 dX7_writeText_1 rfl (lv_at hl 1 rfl) ?_
  refine lv_iload_n X.1 X.2.1 dX7_writeText_2 rfl (lv_at hl 1 rfl) ?_
  refine lv_iload_n X.1 X.2.1 dX7_writeText_3 rfl (lv_at hl 2 rfl) ?_
  refine lv_iload_n X.1 X.2.1 dX7_writeText_4 rfl (lv_at hl 3 rfl) ?_
  refine lv_iload X.1 X.2.1 dX7_writeText_5 (lv_at hl 4 rfl) ?_
  refine mcalli hq X hW (mt_part_1c l hq T D th I (w := w) (a := w) (r := r) (f := f) (n := n) hw hr h) (cwV 5 X.2.2.2.2 gX7_writeText_X7_part rfl rfl rfl (by decide +kernel) ⟨Nat.le_of_ble_eq_true rfl, Nat.le_of_ble_eq_true rfl⟩) rfl rfl hl.1 (Nat.le_of_ble_eq_true rfl) dX7_writeText_7 ⟨Nat.zero_le _, Nat.zero_le _⟩ (fun H locs hW => ?_)
  exact hE _ _ _ _ _ (rfl) (fun ty hty => by cases hty; exact rfl) hW dX7_writeText_10

set_option maxHeartbeats 4000000 in
set_option maxRecDepth 100000 in
theorem mt_writeText_2 (l : Launch) {G : va_G} {cI cZ : ClassId} {q : Nat → Nat} (hq : mJ q) (T : mT) (D : mD) (th : Int32) (I : mI T) {w r f n : Nat} (hw : w < 3) (hr : r < 4) (h : f + n ≤ T 1 (T 2 r)) (h2 : 256 < T 7 (w) + n) : mMi l yX7_writeText wsX7_writeText ({ frames := 3, cells := 0, slots := 0, locals := 70 } : Room) G cI cZ q [.int (nI (w)), .int (nI (r)), .int (nI (f)), .int (nI (n))] (T) (D) (th) (nI 0) (T) (D) (nI 2) := by
  refine mstarti (cc := cX7_writeText) (maxL := 5) (ret := (some .int)) (by decide) rfl rfl ⟨_, rfl⟩ (Nat.le_of_ble_eq_true rfl) (fun p e s m args below meth c Q hE X hW ls hl => ?_)
  have hl : lv_has ls 5 [(0, .ref (q 0)), (1, .int (nI (w))), (2, .int (nI (r))), (3, .int (nI (f))), (4, .int (nI (n)))] := hl
  have hin : ∀ w ∈ wsX70, w ∈ wsX7_writeText := fun w h => List.mem_cons_of_mem _ (List.mem_append_left _ (List.mem_append_right _ (h)))
  refine lv_aload_n X.1 X.2.1 dX7_writeText_0 rfl (lv_at hl 0 rfl) ?_
  refine lv_iload_n X.1 X.2.1 dX7_writeText_1 rfl (lv_at hl 1 rfl) ?_
  refine lv_iload_n X.1 X.2.1 dX7_writeText_2 rfl (lv_at hl 1 rfl) ?_
  refine lv_iload_n X.1 X.2.1 dX7_writeText_3 rfl (lv_at hl 2 rfl) ?_
  refine lv_iload_n X.1 X.2.1 dX7_writeText_4 rfl (lv_at hl 3 rfl) ?_
  refine lv_iload X.1 X.2.1 dX7_writeText_5 (lv_at hl 4 rfl) ?_
  refine mcalli hq X hW (mt_part_2 l hq T D th I (w := w) (a := w) (r := r) (f := f) (n := n) hw (by omega) hr h h2) (cwV 5 X.2.2.2.2 gX7_writeText_X7_part rfl rfl rfl (by decide +kernel) ⟨Nat.le_of_ble_eq_true rfl, Nat.le_of_ble_eq_true rfl⟩) rfl rfl hl.1 (Nat.le_of_ble_eq_true rfl) dX7_writeText_7 ⟨Nat.zero_le _, Nat.zero_le _⟩ (fun H locs hW => ?_)
  exact hE _ _ _ _ _ (rfl) (fun ty hty => by cases hty; exact rfl) hW dX7_writeText_10

set_option maxHeartbeats 4000000 in
set_option maxRecDepth 100000 in
theorem mt_writeText (l : Launch) {G : va_G} {cI cZ : ClassId} {q : Nat → Nat} (hq : mJ q) (T : mT) (D : mD) (th : Int32) (I : mI T) {w r f n : Nat} (hw : w < 3) (hr : r < 4) (h : f + n ≤ T 1 (T 2 r)) (h2 : T 7 (w) + n ≤ 256) : mMi l yX7_writeText wsX7_writeText ({ frames := 3, cells := 0, slots := 0, locals := 70 } : Room) G cI cZ q [.int (nI (w)), .int (nI (r)), .int (nI (f)), .int (nI (n))] (T) (D) (th) (nI (T 7 (w) + n)) (adT T (w) n) (adD T D (w) (fun i => D 0 (256 * T 2 r + f + i) &&& nI 255) n) (nI 0) := by
  refine mstarti (cc := cX7_writeText) (maxL := 5) (ret := (some .int)) (by decide) rfl rfl ⟨_, rfl⟩ (Nat.le_of_ble_eq_true rfl) (fun p e s m args below meth c Q hE X hW ls hl => ?_)
  have hl : lv_has ls 5 [(0, .ref (q 0)), (1, .int (nI (w))), (2, .int (nI (r))), (3, .int (nI (f))), (4, .int (nI (n)))] := hl
  have hin : ∀ w ∈ wsX70, w ∈ wsX7_writeText := fun w h => List.mem_cons_of_mem _ (List.mem_append_left _ (List.mem_append_right _ (h)))
  refine lv_aload_n X.1 X.2.1 dX7_writeText_0 rfl (lv_at hl 0 rfl) ?_
  refine lv_iload_n X.1 X.2.1 dX7_writeText_1 rfl (lv_at hl 1 rfl) ?_
  refine lv_iload_n X.1 X.2.1 dX7_writeText_2 rfl (lv_at hl 1 rfl) ?_
  refine lv_iload_n X.1 X.2.1 dX7_writeText_3 rfl (lv_at hl 2 rfl) ?_
  refine lv_iload_n X.1 X.2.1 dX7_writeText_4 rfl (lv_at hl 3 rfl) ?_
  refine lv_iload X.1 X.2.1 dX7_writeText_5 (lv_at hl 4 rfl) ?_
  refine mcalli hq X hW (mt_part l hq T D th I (w := w) (a := w) (r := r) (f := f) (n := n) hw (by omega) hr h h2) (cwV 5 X.2.2.2.2 gX7_writeText_X7_part rfl rfl rfl (by decide +kernel) ⟨Nat.le_of_ble_eq_true rfl, Nat.le_of_ble_eq_true rfl⟩) rfl rfl hl.1 (Nat.le_of_ble_eq_true rfl) dX7_writeText_7 ⟨Nat.zero_le _, Nat.zero_le _⟩ (fun H locs hW => ?_)
  exact hE _ _ _ _ _ (rfl) (fun ty hty => by cases hty; exact rfl) hW dX7_writeText_10

theorem mo_writeText (l : Launch) {G : va_G} {cI cZ : ClassId} {q : Nat → Nat} (hq : mJ q) (T : mT) (D : mD) (th : Int32) (I : mI T) (J : mJD D) (w row f n : Int32) : mO l yX7_writeText wsX7_writeText ({ frames := 3, cells := 0, slots := 0, locals := 70 } : Room) G cI cZ q [.int w, .int row, .int f, .int n] T D th (sp_part T D 0 w row f n) := by
  by_cases h1 : oN w 3
  · rw [show sp_part T D 0 w row f n = no T D 1 from if_pos (Or.inl h1)]; exact mt_writeText_1a l hq T D th h1
  · obtain ⟨w, hw, rfl⟩ := oN_in (by decide) h1
    by_cases h2 : oN row 4
    · rw [show sp_part T D 0 (nI w) row f n = no T D 1 from if_pos (Or.inr (Or.inl h2))]; exact mt_writeText_1b l hq T D th hw h2
    · obtain ⟨r, hr, rfl⟩ := oN_in (by decide) h2
      have hl : rI T (nI r) = T 1 (T 2 r) := by simp only [rI, nI_clamp (show r < 2 ^ 31 by omega)]
      by_cases h3 : oP (T 1 (T 2 r)) f n
      · rw [show sp_part T D 0 (nI w) (nI r) f n = no T D 1 from if_pos (Or.inr (Or.inr (by rw [hl]; exact h3)))]
        exact mt_writeText_1c l hq T D th I hw hr h3
      · have I2 := I.sr hr
        have I3 := I.sl I2
        obtain ⟨f0, hf, rfl⟩ := nI_of (fun z => h3 (Or.inl z))
        obtain ⟨n0, hn, rfl⟩ := nI_of (fun z => h3 (Or.inr (Or.inl z)))
        have h4 : f0 + n0 ≤ T 1 (T 2 r) := Nat.not_lt.mp (fun z => h3 (Or.inr (Or.inr (by rw [nI_clamp hf, nI_clamp hn]; exact z))))
        have hc : (nI w).toNatClampNeg = w := nI_clamp (by omega)
        have hc2 : (nI r).toNatClampNeg = r := nI_clamp (by omega)
        have ea : 0 + w = w := by omega
        have hno : ¬ (oN (nI w) 3 ∨ oN (nI r) 4 ∨ oP (rI T (nI r)) (nI f0) (nI n0)) := by rw [hl]; exact fun z => z.elim h1 (fun z => z.elim h2 h3)
        by_cases h5 : 256 < T 7 (w) + n0
        · rw [show sp_part T D 0 (nI w) (nI r) (nI f0) (nI n0) = no T D 2 from (if_neg hno).trans (if_pos (by rw [hc, nI_clamp hn, ea]; exact h5))]
          exact mt_writeText_2 l hq T D th I hw hr h4 h5
        · rw [show sp_part T D 0 (nI w) (nI r) (nI f0) (nI n0) = sk_part T D (w) r f0 n0 from (if_neg hno).trans ((if_neg (by rw [hc, nI_clamp hn, ea]; exact h5)).trans (by rw [hc, hc2, nI_clamp hf, nI_clamp hn, ea]))]
          exact mt_writeText l hq T D th I hw hr h4 (Nat.not_lt.mp h5)

set_option maxHeartbeats 4000000 in
set_option maxRecDepth 100000 in
theorem mt_writeSigns_1a (l : Launch) {G : va_G} {cI cZ : ClassId} {q : Nat → Nat} (hq : mJ q) (T : mT) (D : mD) (th : Int32) {w row f n : Int32} (h : oN w 3) : mMi l yX7_writeSigns wsX7_writeSigns ({ frames := 3, cells := 0, slots := 0, locals := 70 } : Room) G cI cZ q [.int (w), .int (row), .int (f), .int (n)] (T) (D) (th) (nI 0) (T) (D) (nI 1) := by
  refine mstarti (cc := cX7_writeSigns) (maxL := 5) (ret := (some .int)) (by decide) rfl rfl ⟨_, rfl⟩ (Nat.le_of_ble_eq_true rfl) (fun p e s m args below meth c Q hE X hW ls hl => ?_)
  have hl : lv_has ls 5 [(0, .ref (q 0)), (1, .int (w)), (2, .int (row)), (3, .int (f)), (4, .int (n))] := hl
  have hin : ∀ w ∈ wsX70, w ∈ wsX7_writeSigns := fun w h => List.mem_cons_of_mem _ (List.mem_append_left _ (List.mem_append_right _ (h)))
  refine lv_aload_n X.1 X.2.1 dX7_writeSigns_0 rfl (lv_at hl 0 rfl) ?_
  refine lv_iload_n X.1 X.2.1 dX7_writeSigns_1 rfl (lv_at hl 1 rfl) ?_
  refine lv_iload_n X.1 X.2.1 dX7_writeSigns_2 rfl (lv_at hl 1 rfl) ?_
  refine lv_iload_n X.1 X.2.1 dX7_writeSigns_3 rfl (lv_at hl 2 rfl) ?_
  refine lv_iload_n X.1 X.2.1 dX7_writeSigns_4 rfl (lv_at hl 3 rfl) ?_
  refine lv_iload X.1 X.2.1 dX7_writeSigns_5 (lv_at hl 4 rfl) ?_
  refine mcalli hq X hW (mt_part_1a l hq T D th (w := w) (w2 := w) (row := row) (f := f) (n := n) h) (cwV 5 X.2.2.2.2 gX7_writeSigns_X7_part rfl rfl rfl (by decide +kernel) ⟨Nat.le_of_ble_eq_true rfl, Nat.le_of_ble_eq_true rfl⟩) rfl rfl hl.1 (Nat.le_of_ble_eq_true rfl) dX7_writeSigns_7 ⟨Nat.zero_le _, Nat.zero_le _⟩ (fun H locs hW => ?_)
  exact hE _ _ _ _ _ (rfl) (fun ty hty => by cases hty; exact rfl) hW dX7_writeSigns_10

set_option maxHeartbeats 4000000 in
set_option maxRecDepth 100000 in
theorem mt_writeSigns_1b (l : Launch) {G : va_G} {cI cZ : ClassId} {q : Nat → Nat} (hq : mJ q) (T : mT) (D : mD) (th : Int32) {w : Nat} {row f n : Int32} (hw : w < 3) (h : oN row 4) : mMi l yX7_writeSigns wsX7_writeSigns ({ frames := 3, cells := 0, slots := 0, locals := 70 } : Room) G cI cZ q [.int (nI (w)), .int (row), .int (f), .int (n)] (T) (D) (th) (nI 0) (T) (D) (nI 1) := by
  refine mstarti (cc := cX7_writeSigns) (maxL := 5) (ret := (some .int)) (by decide) rfl rfl ⟨_, rfl⟩ (Nat.le_of_ble_eq_true rfl) (fun p e s m args below meth c Q hE X hW ls hl => ?_)
  have hl : lv_has ls 5 [(0, .ref (q 0)), (1, .int (nI (w))), (2, .int (row)), (3, .int (f)), (4, .int (n))] := hl
  have hin : ∀ w ∈ wsX70, w ∈ wsX7_writeSigns := fun w h => List.mem_cons_of_mem _ (List.mem_append_left _ (List.mem_append_right _ (h)))
  refine lv_aload_n X.1 X.2.1 dX7_writeSigns_0 rfl (lv_at hl 0 rfl) ?_
  refine lv_iload_n X.1 X.2.1 dX7_writeSigns_1 rfl (lv_at hl 1 rfl) ?_
  refine lv_iload_n X.1 X.2.1 dX7_writeSigns_2 rfl (lv_at hl 1 rfl) ?_
  refine lv_iload_n X.1 X.2.1 dX7_writeSigns_3 rfl (lv_at hl 2 rfl) ?_
  refine lv_iload_n X.1 X.2.1 dX7_writeSigns_4 rfl (lv_at hl 3 rfl) ?_
  refine lv_iload X.1 X.2.1 dX7_writeSigns_5 (lv_at hl 4 rfl) ?_
  refine mcalli hq X hW (mt_part_1b l hq T D th (w := w) (a := w) (row := row) (f := f) (n := n) hw h) (cwV 5 X.2.2.2.2 gX7_writeSigns_X7_part rfl rfl rfl (by decide +kernel) ⟨Nat.le_of_ble_eq_true rfl, Nat.le_of_ble_eq_true rfl⟩) rfl rfl hl.1 (Nat.le_of_ble_eq_true rfl) dX7_writeSigns_7 ⟨Nat.zero_le _, Nat.zero_le _⟩ (fun H locs hW => ?_)
  exact hE _ _ _ _ _ (rfl) (fun ty hty => by cases hty; exact rfl) hW dX7_writeSigns_10

set_option maxHeartbeats 4000000 in
set_option maxRecDepth 100000 in
theorem mt_writeSigns_1c (l : Launch) {G : va_G} {cI cZ : ClassId} {q : Nat → Nat} (hq : mJ q) (T : mT) (D : mD) (th : Int32) (I : mI T) {w r : Nat} {f n : Int32} (hw : w < 3) (hr : r < 4) (h : oP (T 1 (T 2 r)) f n) : mMi l yX7_writeSigns wsX7_writeSigns ({ frames := 3, cells := 0, slots := 0, locals := 70 } : Room) G cI cZ q [.int (nI (w)), .int (nI (r)), .int (f), .int (n)] (T) (D) (th) (nI 0) (T) (D) (nI 1) := by
  refine mstarti (cc := cX7_writeSigns) (maxL := 5) (ret := (some .int)) (by decide) rfl rfl ⟨_, rfl⟩ (Nat.le_of_ble_eq_true rfl) (fun p e s m args below meth c Q hE X hW ls hl => ?_)
  have hl : lv_has ls 5 [(0, .ref (q 0)), (1, .int (nI (w))), (2, .int (nI (r))), (3, .int (f)), (4, .int (n))] := hl
  have hin : ∀ w ∈ wsX70, w ∈ wsX7_writeSigns := fun w h => List.mem_cons_of_mem _ (List.mem_append_left _ (List.mem_append_right _ (h)))
  refine lv_aload_n X.1 X.2.1 dX7_writeSigns_0 rfl (lv_at hl 0 rfl) ?_
  refine lv_iload_n X.1 X.2.1 dX7_writeSigns_1 rfl (lv_at hl 1 rfl) ?_
  refine lv_iload_n X.1 X.2.1 dX7_writeSigns_2 rfl (lv_at hl 1 rfl) ?_
  refine lv_iload_n X.1 X.2.1 dX7_writeSigns_3 rfl (lv_at hl 2 rfl) ?_
  refine lv_iload_n X.1 X.2.1 dX7_writeSigns_4 rfl (lv_at hl 3 rfl) ?_
  refine lv_iload X.1 X.2.1 dX7_writeSigns_5 (lv_at hl 4 rfl) ?_
  refine mcalli hq X hW (mt_part_1c l hq T D th I (w := w) (a := w) (r := r) (f := f) (n := n) hw hr h) (cwV 5 X.2.2.2.2 gX7_writeSigns_X7_part rfl rfl rfl (by decide +kernel) ⟨Nat.le_of_ble_eq_true rfl, Nat.le_of_ble_eq_true rfl⟩) rfl rfl hl.1 (Nat.le_of_ble_eq_true rfl) dX7_writeSigns_7 ⟨Nat.zero_le _, Nat.zero_le _⟩ (fun H locs hW => ?_)
  exact hE _ _ _ _ _ (rfl) (fun ty hty => by cases hty; exact rfl) hW dX7_writeSigns_10

set_option maxHeartbeats 4000000 in
set_option maxRecDepth 100000 in
theorem mt_writeSigns_2 (l : Launch) {G : va_G} {cI cZ : ClassId} {q : Nat → Nat} (hq : mJ q) (T : mT) (D : mD) (th : Int32) (I : mI T) {w r f n : Nat} (hw : w < 3) (hr : r < 4) (h : f + n ≤ T 1 (T 2 r)) (h2 : 256 < T 7 (w) + n) : mMi l yX7_writeSigns wsX7_writeSigns ({ frames := 3, cells := 0, slots := 0, locals := 70 } : Room) G cI cZ q [.int (nI (w)), .int (nI (r)), .int (nI (f)), .int (nI (n))] (T) (D) (th) (nI 0) (T) (D) (nI 2) := by
  refine mstarti (cc := cX7_writeSigns) (maxL := 5) (ret := (some .int)) (by decide) rfl rfl ⟨_, rfl⟩ (Nat.le_of_ble_eq_true rfl) (fun p e s m args below meth c Q hE X hW ls hl => ?_)
  have hl : lv_has ls 5 [(0, .ref (q 0)), (1, .int (nI (w))), (2, .int (nI (r))), (3, .int (nI (f))), (4, .int (nI (n)))] := hl
  have hin : ∀ w ∈ wsX70, w ∈ wsX7_writeSigns := fun w h => List.mem_cons_of_mem _ (List.mem_append_left _ (List.mem_append_right _ (h)))
  refine lv_aload_n X.1 X.2.1 dX7_writeSigns_0 rfl (lv_at hl 0 rfl) ?_
  refine lv_iload_n X.1 X.2.1 dX7_writeSigns_1 rfl (lv_at hl 1 rfl) ?_
  refine lv_iload_n X.1 X.2.1 dX7_writeSigns_2 rfl (lv_at hl 1 rfl) ?_
  refine lv_iload_n X.1 X.2.1 dX7_writeSigns_3 rfl (lv_at hl 2 rfl) ?_
  refine lv_iload_n X.1 X.2.1 dX7_writeSigns_4 rfl (lv_at hl 3 rfl) ?_
  refine lv_iload X.1 X.2.1 dX7_writeSigns_5 (lv_at hl 4 rfl) ?_
  refine mcalli hq X hW (mt_part_2 l hq T D th I (w := w) (a := w) (r := r) (f := f) (n := n) hw (by omega) hr h h2) (cwV 5 X.2.2.2.2 gX7_writeSigns_X7_part rfl rfl rfl (by decide +kernel) ⟨Nat.le_of_ble_eq_true rfl, Nat.le_of_ble_eq_true rfl⟩) rfl rfl hl.1 (Nat.le_of_ble_eq_true rfl) dX7_writeSigns_7 ⟨Nat.zero_le _, Nat.zero_le _⟩ (fun H locs hW => ?_)
  exact hE _ _ _ _ _ (rfl) (fun ty hty => by cases hty; exact rfl) hW dX7_writeSigns_10

set_option maxHeartbeats 4000000 in
set_option maxRecDepth 100000 in
theorem mt_writeSigns (l : Launch) {G : va_G} {cI cZ : ClassId} {q : Nat → Nat} (hq : mJ q) (T : mT) (D : mD) (th : Int32) (I : mI T) {w r f n : Nat} (hw : w < 3) (hr : r < 4) (h : f + n ≤ T 1 (T 2 r)) (h2 : T 7 (w) + n ≤ 256) : mMi l yX7_writeSigns wsX7_writeSigns ({ frames := 3, cells := 0, slots := 0, locals := 70 } : Room) G cI cZ q [.int (nI (w)), .int (nI (r)), .int (nI (f)), .int (nI (n))] (T) (D) (th) (nI (T 7 (w) + n)) (adT T (w) n) (adD T D (w) (fun i => D 0 (256 * T 2 r + f + i) &&& nI 255) n) (nI 0) := by
  refine mstarti (cc := cX7_writeSigns) (maxL := 5) (ret := (some .int)) (by decide) rfl rfl ⟨_, rfl⟩ (Nat.le_of_ble_eq_true rfl) (fun p e s m args below meth c Q hE X hW ls hl => ?_)
  have hl : lv_has ls 5 [(0, .ref (q 0)), (1, .int (nI (w))), (2, .int (nI (r))), (3, .int (nI (f))), (4, .int (nI (n)))] := hl
  have hin : ∀ w ∈ wsX70, w ∈ wsX7_writeSigns := fun w h => List.mem_cons_of_mem _ (List.mem_append_left _ (List.mem_append_right _ (h)))
  refine lv_aload_n X.1 X.2.1 dX7_writeSigns_0 rfl (lv_at hl 0 rfl) ?_
  refine lv_iload_n X.1 X.2.1 dX7_writeSigns_1 rfl (lv_at hl 1 rfl) ?_
  refine lv_iload_n X.1 X.2.1 dX7_writeSigns_2 rfl (lv_at hl 1 rfl) ?_
  refine lv_iload_n X.1 X.2.1 dX7_writeSigns_3 rfl (lv_at hl 2 rfl) ?_
  refine lv_iload_n X.1 X.2.1 dX7_writeSigns_4 rfl (lv_at hl 3 rfl) ?_
  refine lv_iload X.1 X.2.1 dX7_writeSigns_5 (lv_at hl 4 rfl) ?_
  refine mcalli hq X hW (mt_part l hq T D th I (w := w) (a := w) (r := r) (f := f) (n := n) hw (by omega) hr h h2) (cwV 5 X.2.2.2.2 gX7_writeSigns_X7_part rfl rfl rfl (by decide +kernel) ⟨Nat.le_of_ble_eq_true rfl, Nat.le_of_ble_eq_true rfl⟩) rfl rfl hl.1 (Nat.le_of_ble_eq_true rfl) dX7_writeSigns_7 ⟨Nat.zero_le _, Nat.zero_le _⟩ (fun H locs hW => ?_)
  exact hE _ _ _ _ _ (rfl) (fun ty hty => by cases hty; exact rfl) hW dX7_writeSigns_10

theorem mo_writeSigns (l : Launch) {G : va_G} {cI cZ : ClassId} {q : Nat → Nat} (hq : mJ q) (T : mT) (D : mD) (th : Int32) (I : mI T) (J : mJD D) (w row f n : Int32) : mO l yX7_writeSigns wsX7_writeSigns ({ frames := 3, cells := 0, slots := 0, locals := 70 } : Room) G cI cZ q [.int w, .int row, .int f, .int n] T D th (sp_part T D 0 w row f n) := by
  by_cases h1 : oN w 3
  · rw [show sp_part T D 0 w row f n = no T D 1 from if_pos (Or.inl h1)]; exact mt_writeSigns_1a l hq T D th h1
  · obtain ⟨w, hw, rfl⟩ := oN_in (by decide) h1
    by_cases h2 : oN row 4
    · rw [show sp_part T D 0 (nI w) row f n = no T D 1 from if_pos (Or.inr (Or.inl h2))]; exact mt_writeSigns_1b l hq T D th hw h2
    · obtain ⟨r, hr, rfl⟩ := oN_in (by decide) h2
      have hl : rI T (nI r) = T 1 (T 2 r) := by simp only [rI, nI_clamp (show r < 2 ^ 31 by omega)]
      by_cases h3 : oP (T 1 (T 2 r)) f n
      · rw [show sp_part T D 0 (nI w) (nI r) f n = no T D 1 from if_pos (Or.inr (Or.inr (by rw [hl]; exact h3)))]
        exact mt_writeSigns_1c l hq T D th I hw hr h3
      · have I2 := I.sr hr
        have I3 := I.sl I2
        obtain ⟨f0, hf, rfl⟩ := nI_of (fun z => h3 (Or.inl z))
        obtain ⟨n0, hn, rfl⟩ := nI_of (fun z => h3 (Or.inr (Or.inl z)))
        have h4 : f0 + n0 ≤ T 1 (T 2 r) := Nat.not_lt.mp (fun z => h3 (Or.inr (Or.inr (by rw [nI_clamp hf, nI_clamp hn]; exact z))))
        have hc : (nI w).toNatClampNeg = w := nI_clamp (by omega)
        have hc2 : (nI r).toNatClampNeg = r := nI_clamp (by omega)
        have ea : 0 + w = w := by omega
        have hno : ¬ (oN (nI w) 3 ∨ oN (nI r) 4 ∨ oP (rI T (nI r)) (nI f0) (nI n0)) := by rw [hl]; exact fun z => z.elim h1 (fun z => z.elim h2 h3)
        by_cases h5 : 256 < T 7 (w) + n0
        · rw [show sp_part T D 0 (nI w) (nI r) (nI f0) (nI n0) = no T D 2 from (if_neg hno).trans (if_pos (by rw [hc, nI_clamp hn, ea]; exact h5))]
          exact mt_writeSigns_2 l hq T D th I hw hr h4 h5
        · rw [show sp_part T D 0 (nI w) (nI r) (nI f0) (nI n0) = sk_part T D (w) r f0 n0 from (if_neg hno).trans ((if_neg (by rw [hc, nI_clamp hn, ea]; exact h5)).trans (by rw [hc, hc2, nI_clamp hf, nI_clamp hn, ea]))]
          exact mt_writeSigns l hq T D th I hw hr h4 (Nat.not_lt.mp h5)

set_option maxHeartbeats 4000000 in
set_option maxRecDepth 100000 in
theorem mt_arrayText_1a (l : Launch) {G : va_G} {cI cZ : ClassId} {q : Nat → Nat} (hq : mJ q) (T : mT) (D : mD) (th : Int32) {w row f n : Int32} (h : oN w 3) : mMi l yX7_arrayText wsX7_arrayText ({ frames := 3, cells := 0, slots := 0, locals := 70 } : Room) G cI cZ q [.int (w), .int (row), .int (f), .int (n)] (T) (D) (th) (nI 0) (T) (D) (nI 1) := by
  refine mstarti (cc := cX7_arrayText) (maxL := 5) (ret := (some .int)) (by decide) rfl rfl ⟨_, rfl⟩ (Nat.le_of_ble_eq_true rfl) (fun p e s m args below meth c Q hE X hW ls hl => ?_)
  have hl : lv_has ls 5 [(0, .ref (q 0)), (1, .int (w)), (2, .int (row)), (3, .int (f)), (4, .int (n))] := hl
  have hin : ∀ w ∈ wsX70, w ∈ wsX7_arrayText := fun w h => List.mem_cons_of_mem _ (List.mem_append_left _ (List.mem_append_right _ (h)))
  refine lv_aload_n X.1 X.2.1 dX7_arrayText_0 rfl (lv_at hl 0 rfl) ?_
  refine lv_iload_n X.1 X.2.1 dX7_arrayText_1 rfl (lv_at hl 1 rfl) ?_
  refine lv_iconst (v := nI 3) X.1 X.2.1 dX7_arrayText_2 (by decide) ?_
  refine lv_iload_n X.1 X.2.1 dX7_arrayText_3 rfl (lv_at hl 1 rfl) ?_
  refine lv_iadd X.1 X.2.1 dX7_arrayText_4 ?_
  refine lv_iload_n X.1 X.2.1 dX7_arrayText_5 rfl (lv_at hl 2 rfl) ?_
  refine lv_iload_n X.1 X.2.1 dX7_arrayText_6 rfl (lv_at hl 3 rfl) ?_
  refine lv_iload X.1 X.2.1 dX7_arrayText_7 (lv_at hl 4 rfl) ?_
  refine mcalli hq X hW (mt_part_1a l hq T D th (w := w) (w2 := (nI 3 + w)) (row := row) (f := f) (n := n) h) (cwV 5 X.2.2.2.2 gX7_arrayText_X7_part rfl rfl rfl (by decide +kernel) ⟨Nat.le_of_ble_eq_true rfl, Nat.le_of_ble_eq_true rfl⟩) rfl rfl hl.1 (Nat.le_of_ble_eq_true rfl) dX7_arrayText_9 ⟨Nat.zero_le _, Nat.zero_le _⟩ (fun H locs hW => ?_)
  exact hE _ _ _ _ _ (rfl) (fun ty hty => by cases hty; exact rfl) hW dX7_arrayText_12

set_option maxHeartbeats 4000000 in
set_option maxRecDepth 100000 in
theorem mt_arrayText_1b (l : Launch) {G : va_G} {cI cZ : ClassId} {q : Nat → Nat} (hq : mJ q) (T : mT) (D : mD) (th : Int32) {w : Nat} {row f n : Int32} (hw : w < 3) (h : oN row 4) : mMi l yX7_arrayText wsX7_arrayText ({ frames := 3, cells := 0, slots := 0, locals := 70 } : Room) G cI cZ q [.int (nI (w)), .int (row), .int (f), .int (n)] (T) (D) (th) (nI 0) (T) (D) (nI 1) := by
  refine mstarti (cc := cX7_arrayText) (maxL := 5) (ret := (some .int)) (by decide) rfl rfl ⟨_, rfl⟩ (Nat.le_of_ble_eq_true rfl) (fun p e s m args below meth c Q hE X hW ls hl => ?_)
  have hl : lv_has ls 5 [(0, .ref (q 0)), (1, .int (nI (w))), (2, .int (row)), (3, .int (f)), (4, .int (n))] := hl
  have hin : ∀ w ∈ wsX70, w ∈ wsX7_arrayText := fun w h => List.mem_cons_of_mem _ (List.mem_append_left _ (List.mem_append_right _ (h)))
  refine lv_aload_n X.1 X.2.1 dX7_arrayText_0 rfl (lv_at hl 0 rfl) ?_
  refine lv_iload_n X.1 X.2.1 dX7_arrayText_1 rfl (lv_at hl 1 rfl) ?_
  refine lv_iconst (v := nI 3) X.1 X.2.1 dX7_arrayText_2 (by decide) ?_
  refine lv_iload_n X.1 X.2.1 dX7_arrayText_3 rfl (lv_at hl 1 rfl) ?_
  refine n_iadd X.1 X.2.1 dX7_arrayText_4 ?_
  refine lv_iload_n X.1 X.2.1 dX7_arrayText_5 rfl (lv_at hl 2 rfl) ?_
  refine lv_iload_n X.1 X.2.1 dX7_arrayText_6 rfl (lv_at hl 3 rfl) ?_
  refine lv_iload X.1 X.2.1 dX7_arrayText_7 (lv_at hl 4 rfl) ?_
  refine mcalli hq X hW (mt_part_1b l hq T D th (w := w) (a := 3 + w) (row := row) (f := f) (n := n) hw h) (cwV 5 X.2.2.2.2 gX7_arrayText_X7_part rfl rfl rfl (by decide +kernel) ⟨Nat.le_of_ble_eq_true rfl, Nat.le_of_ble_eq_true rfl⟩) rfl rfl hl.1 (Nat.le_of_ble_eq_true rfl) dX7_arrayText_9 ⟨Nat.zero_le _, Nat.zero_le _⟩ (fun H locs hW => ?_)
  exact hE _ _ _ _ _ (rfl) (fun ty hty => by cases hty; exact rfl) hW dX7_arrayText_12

set_option maxHeartbeats 4000000 in
set_option maxRecDepth 100000 in
theorem mt_arrayText_1c (l : Launch) {G : va_G} {cI cZ : ClassId} {q : Nat → Nat} (hq : mJ q) (T : mT) (D : mD) (th : Int32) (I : mI T) {w r : Nat} {f n : Int32} (hw : w < 3) (hr : r < 4) (h : oP (T 1 (T 2 r)) f n) : mMi l yX7_arrayText wsX7_arrayText ({ frames := 3, cells := 0, slots := 0, locals := 70 } : Room) G cI cZ q [.int (nI (w)), .int (nI (r)), .int (f), .int (n)] (T) (D) (th) (nI 0) (T) (D) (nI 1) := by
  refine mstarti (cc := cX7_arrayText) (maxL := 5) (ret := (some .int)) (by decide) rfl rfl ⟨_, rfl⟩ (Nat.le_of_ble_eq_true rfl) (fun p e s m args below meth c Q hE X hW ls hl => ?_)
  have hl : lv_has ls 5 [(0, .ref (q 0)), (1, .int (nI (w))), (2, .int (nI (r))), (3, .int (f)), (4, .int (n))] := hl
  have hin : ∀ w ∈ wsX70, w ∈ wsX7_arrayText := fun w h => List.mem_cons_of_mem _ (List.mem_append_left _ (List.mem_append_right _ (h)))
  refine lv_aload_n X.1 X.2.1 dX7_arrayText_0 rfl (lv_at hl 0 rfl) ?_
  refine lv_iload_n X.1 X.2.1 dX7_arrayText_1 rfl (lv_at hl 1 rfl) ?_
  refine lv_iconst (v := nI 3) X.1 X.2.1 dX7_arrayText_2 (by decide) ?_
  refine lv_iload_n X.1 X.2.1 dX7_arrayText_3 rfl (lv_at hl 1 rfl) ?_
  refine n_iadd X.1 X.2.1 dX7_arrayText_4 ?_
  refine lv_iload_n X.1 X.2.1 dX7_arrayText_5 rfl (lv_at hl 2 rfl) ?_
  refine lv_iload_n X.1 X.2.1 dX7_arrayText_6 rfl (lv_at hl 3 rfl) ?_
  refine lv_iload X.1 X.2.1 dX7_arrayText_7 (lv_at hl 4 rfl) ?_
  refine mcalli hq X hW (mt_part_1c l hq T D th I (w := w) (a := 3 + w) (r := r) (f := f) (n := n) hw hr h) (cwV 5 X.2.2.2.2 gX7_arrayText_X7_part rfl rfl rfl (by decide +kernel) ⟨Nat.le_of_ble_eq_true rfl, Nat.le_of_ble_eq_true rfl⟩) rfl rfl hl.1 (Nat.le_of_ble_eq_true rfl) dX7_arrayText_9 ⟨Nat.zero_le _, Nat.zero_le _⟩ (fun H locs hW => ?_)
  exact hE _ _ _ _ _ (rfl) (fun ty hty => by cases hty; exact rfl) hW dX7_arrayText_12

set_option maxHeartbeats 4000000 in
set_option maxRecDepth 100000 in
theorem mt_arrayText_2 (l : Launch) {G : va_G} {cI cZ : ClassId} {q : Nat → Nat} (hq : mJ q) (T : mT) (D : mD) (th : Int32) (I : mI T) {w r f n : Nat} (hw : w < 3) (hr : r < 4) (h : f + n ≤ T 1 (T 2 r)) (h2 : 256 < T 7 (3 + w) + n) : mMi l yX7_arrayText wsX7_arrayText ({ frames := 3, cells := 0, slots := 0, locals := 70 } : Room) G cI cZ q [.int (nI (w)), .int (nI (r)), .int (nI (f)), .int (nI (n))] (T) (D) (th) (nI 0) (T) (D) (nI 2) := by
  refine mstarti (cc := cX7_arrayText) (maxL := 5) (ret := (some .int)) (by decide) rfl rfl ⟨_, rfl⟩ (Nat.le_of_ble_eq_true rfl) (fun p e s m args below meth c Q hE X hW ls hl => ?_)
  have hl : lv_has ls 5 [(0, .ref (q 0)), (1, .int (nI (w))), (2, .int (nI (r))), (3, .int (nI (f))), (4, .int (nI (n)))] := hl
  have hin : ∀ w ∈ wsX70, w ∈ wsX7_arrayText := fun w h => List.mem_cons_of_mem _ (List.mem_append_left _ (List.mem_append_right _ (h)))
  refine lv_aload_n X.1 X.2.1 dX7_arrayText_0 rfl (lv_at hl 0 rfl) ?_
  refine lv_iload_n X.1 X.2.1 dX7_arrayText_1 rfl (lv_at hl 1 rfl) ?_
  refine lv_iconst (v := nI 3) X.1 X.2.1 dX7_arrayText_2 (by decide) ?_
  refine lv_iload_n X.1 X.2.1 dX7_arrayText_3 rfl (lv_at hl 1 rfl) ?_
  refine n_iadd X.1 X.2.1 dX7_arrayText_4 ?_
  refine lv_iload_n X.1 X.2.1 dX7_arrayText_5 rfl (lv_at hl 2 rfl) ?_
  refine lv_iload_n X.1 X.2.1 dX7_arrayText_6 rfl (lv_at hl 3 rfl) ?_
  refine lv_iload X.1 X.2.1 dX7_arrayText_7 (lv_at hl 4 rfl) ?_
  refine mcalli hq X hW (mt_part_2 l hq T D th I (w := w) (a := 3 + w) (r := r) (f := f) (n := n) hw (by omega) hr h h2) (cwV 5 X.2.2.2.2 gX7_arrayText_X7_part rfl rfl rfl (by decide +kernel) ⟨Nat.le_of_ble_eq_true rfl, Nat.le_of_ble_eq_true rfl⟩) rfl rfl hl.1 (Nat.le_of_ble_eq_true rfl) dX7_arrayText_9 ⟨Nat.zero_le _, Nat.zero_le _⟩ (fun H locs hW => ?_)
  exact hE _ _ _ _ _ (rfl) (fun ty hty => by cases hty; exact rfl) hW dX7_arrayText_12

set_option maxHeartbeats 4000000 in
set_option maxRecDepth 100000 in
theorem mt_arrayText (l : Launch) {G : va_G} {cI cZ : ClassId} {q : Nat → Nat} (hq : mJ q) (T : mT) (D : mD) (th : Int32) (I : mI T) {w r f n : Nat} (hw : w < 3) (hr : r < 4) (h : f + n ≤ T 1 (T 2 r)) (h2 : T 7 (3 + w) + n ≤ 256) : mMi l yX7_arrayText wsX7_arrayText ({ frames := 3, cells := 0, slots := 0, locals := 70 } : Room) G cI cZ q [.int (nI (w)), .int (nI (r)), .int (nI (f)), .int (nI (n))] (T) (D) (th) (nI (T 7 (3 + w) + n)) (adT T (3 + w) n) (adD T D (3 + w) (fun i => D 0 (256 * T 2 r + f + i) &&& nI 255) n) (nI 0) := by
  refine mstarti (cc := cX7_arrayText) (maxL := 5) (ret := (some .int)) (by decide) rfl rfl ⟨_, rfl⟩ (Nat.le_of_ble_eq_true rfl) (fun p e s m args below meth c Q hE X hW ls hl => ?_)
  have hl : lv_has ls 5 [(0, .ref (q 0)), (1, .int (nI (w))), (2, .int (nI (r))), (3, .int (nI (f))), (4, .int (nI (n)))] := hl
  have hin : ∀ w ∈ wsX70, w ∈ wsX7_arrayText := fun w h => List.mem_cons_of_mem _ (List.mem_append_left _ (List.mem_append_right _ (h)))
  refine lv_aload_n X.1 X.2.1 dX7_arrayText_0 rfl (lv_at hl 0 rfl) ?_
  refine lv_iload_n X.1 X.2.1 dX7_arrayText_1 rfl (lv_at hl 1 rfl) ?_
  refine lv_iconst (v := nI 3) X.1 X.2.1 dX7_arrayText_2 (by decide) ?_
  refine lv_iload_n X.1 X.2.1 dX7_arrayText_3 rfl (lv_at hl 1 rfl) ?_
  refine n_iadd X.1 X.2.1 dX7_arrayText_4 ?_
  refine lv_iload_n X.1 X.2.1 dX7_arrayText_5 rfl (lv_at hl 2 rfl) ?_
  refine lv_iload_n X.1 X.2.1 dX7_arrayText_6 rfl (lv_at hl 3 rfl) ?_
  refine lv_iload X.1 X.2.1 dX7_arrayText_7 (lv_at hl 4 rfl) ?_
  refine mcalli hq X hW (mt_part l hq T D th I (w := w) (a := 3 + w) (r := r) (f := f) (n := n) hw (by omega) hr h h2) (cwV 5 X.2.2.2.2 gX7_arrayText_X7_part rfl rfl rfl (by decide +kernel) ⟨Nat.le_of_ble_eq_true rfl, Nat.le_of_ble_eq_true rfl⟩) rfl rfl hl.1 (Nat.le_of_ble_eq_true rfl) dX7_arrayText_9 ⟨Nat.zero_le _, Nat.zero_le _⟩ (fun H locs hW => ?_)
  exact hE _ _ _ _ _ (rfl) (fun ty hty => by cases hty; exact rfl) hW dX7_arrayText_12

theorem mo_arrayText (l : Launch) {G : va_G} {cI cZ : ClassId} {q : Nat → Nat} (hq : mJ q) (T : mT) (D : mD) (th : Int32) (I : mI T) (J : mJD D) (w row f n : Int32) : mO l yX7_arrayText wsX7_arrayText ({ frames := 3, cells := 0, slots := 0, locals := 70 } : Room) G cI cZ q [.int w, .int row, .int f, .int n] T D th (sp_part T D 3 w row f n) := by
  by_cases h1 : oN w 3
  · rw [show sp_part T D 3 w row f n = no T D 1 from if_pos (Or.inl h1)]; exact mt_arrayText_1a l hq T D th h1
  · obtain ⟨w, hw, rfl⟩ := oN_in (by decide) h1
    by_cases h2 : oN row 4
    · rw [show sp_part T D 3 (nI w) row f n = no T D 1 from if_pos (Or.inr (Or.inl h2))]; exact mt_arrayText_1b l hq T D th hw h2
    · obtain ⟨r, hr, rfl⟩ := oN_in (by decide) h2
      have hl : rI T (nI r) = T 1 (T 2 r) := by simp only [rI, nI_clamp (show r < 2 ^ 31 by omega)]
      by_cases h3 : oP (T 1 (T 2 r)) f n
      · rw [show sp_part T D 3 (nI w) (nI r) f n = no T D 1 from if_pos (Or.inr (Or.inr (by rw [hl]; exact h3)))]
        exact mt_arrayText_1c l hq T D th I hw hr h3
      · have I2 := I.sr hr
        have I3 := I.sl I2
        obtain ⟨f0, hf, rfl⟩ := nI_of (fun z => h3 (Or.inl z))
        obtain ⟨n0, hn, rfl⟩ := nI_of (fun z => h3 (Or.inr (Or.inl z)))
        have h4 : f0 + n0 ≤ T 1 (T 2 r) := Nat.not_lt.mp (fun z => h3 (Or.inr (Or.inr (by rw [nI_clamp hf, nI_clamp hn]; exact z))))
        have hc : (nI w).toNatClampNeg = w := nI_clamp (by omega)
        have hc2 : (nI r).toNatClampNeg = r := nI_clamp (by omega)
        have ea : 3 + w = 3 + w := by omega
        have hno : ¬ (oN (nI w) 3 ∨ oN (nI r) 4 ∨ oP (rI T (nI r)) (nI f0) (nI n0)) := by rw [hl]; exact fun z => z.elim h1 (fun z => z.elim h2 h3)
        by_cases h5 : 256 < T 7 (3 + w) + n0
        · rw [show sp_part T D 3 (nI w) (nI r) (nI f0) (nI n0) = no T D 2 from (if_neg hno).trans (if_pos (by rw [hc, nI_clamp hn, ea]; exact h5))]
          exact mt_arrayText_2 l hq T D th I hw hr h4 h5
        · rw [show sp_part T D 3 (nI w) (nI r) (nI f0) (nI n0) = sk_part T D (3 + w) r f0 n0 from (if_neg hno).trans ((if_neg (by rw [hc, nI_clamp hn, ea]; exact h5)).trans (by rw [hc, hc2, nI_clamp hf, nI_clamp hn, ea]))]
          exact mt_arrayText l hq T D th I hw hr h4 (Nat.not_lt.mp h5)

set_option maxHeartbeats 4000000 in
set_option maxRecDepth 100000 in
theorem mt_arraySigns_1a (l : Launch) {G : va_G} {cI cZ : ClassId} {q : Nat → Nat} (hq : mJ q) (T : mT) (D : mD) (th : Int32) {w row f n : Int32} (h : oN w 3) : mMi l yX7_arraySigns wsX7_arraySigns ({ frames := 3, cells := 0, slots := 0, locals := 70 } : Room) G cI cZ q [.int (w), .int (row), .int (f), .int (n)] (T) (D) (th) (nI 0) (T) (D) (nI 1) := by
  refine mstarti (cc := cX7_arraySigns) (maxL := 5) (ret := (some .int)) (by decide) rfl rfl ⟨_, rfl⟩ (Nat.le_of_ble_eq_true rfl) (fun p e s m args below meth c Q hE X hW ls hl => ?_)
  have hl : lv_has ls 5 [(0, .ref (q 0)), (1, .int (w)), (2, .int (row)), (3, .int (f)), (4, .int (n))] := hl
  have hin : ∀ w ∈ wsX70, w ∈ wsX7_arraySigns := fun w h => List.mem_cons_of_mem _ (List.mem_append_left _ (List.mem_append_right _ (h)))
  refine lv_aload_n X.1 X.2.1 dX7_arraySigns_0 rfl (lv_at hl 0 rfl) ?_
  refine lv_iload_n X.1 X.2.1 dX7_arraySigns_1 rfl (lv_at hl 1 rfl) ?_
  refine lv_iconst (v := nI 3) X.1 X.2.1 dX7_arraySigns_2 (by decide) ?_
  refine lv_iload_n X.1 X.2.1 dX7_arraySigns_3 rfl (lv_at hl 1 rfl) ?_
  refine lv_iadd X.1 X.2.1 dX7_arraySigns_4 ?_
  refine lv_iload_n X.1 X.2.1 dX7_arraySigns_5 rfl (lv_at hl 2 rfl) ?_
  refine lv_iload_n X.1 X.2.1 dX7_arraySigns_6 rfl (lv_at hl 3 rfl) ?_
  refine lv_iload X.1 X.2.1 dX7_arraySigns_7 (lv_at hl 4 rfl) ?_
  refine mcalli hq X hW (mt_part_1a l hq T D th (w := w) (w2 := (nI 3 + w)) (row := row) (f := f) (n := n) h) (cwV 5 X.2.2.2.2 gX7_arraySigns_X7_part rfl rfl rfl (by decide +kernel) ⟨Nat.le_of_ble_eq_true rfl, Nat.le_of_ble_eq_true rfl⟩) rfl rfl hl.1 (Nat.le_of_ble_eq_true rfl) dX7_arraySigns_9 ⟨Nat.zero_le _, Nat.zero_le _⟩ (fun H locs hW => ?_)
  exact hE _ _ _ _ _ (rfl) (fun ty hty => by cases hty; exact rfl) hW dX7_arraySigns_12

set_option maxHeartbeats 4000000 in
set_option maxRecDepth 100000 in
theorem mt_arraySigns_1b (l : Launch) {G : va_G} {cI cZ : ClassId} {q : Nat → Nat} (hq : mJ q) (T : mT) (D : mD) (th : Int32) {w : Nat} {row f n : Int32} (hw : w < 3) (h : oN row 4) : mMi l yX7_arraySigns wsX7_arraySigns ({ frames := 3, cells := 0, slots := 0, locals := 70 } : Room) G cI cZ q [.int (nI (w)), .int (row), .int (f), .int (n)] (T) (D) (th) (nI 0) (T) (D) (nI 1) := by
  refine mstarti (cc := cX7_arraySigns) (maxL := 5) (ret := (some .int)) (by decide) rfl rfl ⟨_, rfl⟩ (Nat.le_of_ble_eq_true rfl) (fun p e s m args below meth c Q hE X hW ls hl => ?_)
  have hl : lv_has ls 5 [(0, .ref (q 0)), (1, .int (nI (w))), (2, .int (row)), (3, .int (f)), (4, .int (n))] := hl
  have hin : ∀ w ∈ wsX70, w ∈ wsX7_arraySigns := fun w h => List.mem_cons_of_mem _ (List.mem_append_left _ (List.mem_append_right _ (h)))
  refine lv_aload_n X.1 X.2.1 dX7_arraySigns_0 rfl (lv_at hl 0 rfl) ?_
  refine lv_iload_n X.1 X.2.1 dX7_arraySigns_1 rfl (lv_at hl 1 rfl) ?_
  refine lv_iconst (v := nI 3) X.1 X.2.1 dX7_arraySigns_2 (by decide) ?_
  refine lv_iload_n X.1 X.2.1 dX7_arraySigns_3 rfl (lv_at hl 1 rfl) ?_
  refine n_iadd X.1 X.2.1 dX7_arraySigns_4 ?_
  refine lv_iload_n X.1 X.2.1 dX7_arraySigns_5 rfl (lv_at hl 2 rfl) ?_
  refine lv_iload_n X.1 X.2.1 dX7_arraySigns_6 rfl (lv_at hl 3 rfl) ?_
  refine lv_iload X.1 X.2.1 dX7_arraySigns_7 (lv_at hl 4 rfl) ?_
  refine mcalli hq X hW (mt_part_1b l hq T D th (w := w) (a := 3 + w) (row := row) (f := f) (n := n) hw h) (cwV 5 X.2.2.2.2 gX7_arraySigns_X7_part rfl rfl rfl (by decide +kernel) ⟨Nat.le_of_ble_eq_true rfl, Nat.le_of_ble_eq_true rfl⟩) rfl rfl hl.1 (Nat.le_of_ble_eq_true rfl) dX7_arraySigns_9 ⟨Nat.zero_le _, Nat.zero_le _⟩ (fun H locs hW => ?_)
  exact hE _ _ _ _ _ (rfl) (fun ty hty => by cases hty; exact rfl) hW dX7_arraySigns_12

set_option maxHeartbeats 4000000 in
set_option maxRecDepth 100000 in
theorem mt_arraySigns_1c (l : Launch) {G : va_G} {cI cZ : ClassId} {q : Nat → Nat} (hq : mJ q) (T : mT) (D : mD) (th : Int32) (I : mI T) {w r : Nat} {f n : Int32} (hw : w < 3) (hr : r < 4) (h : oP (T 1 (T 2 r)) f n) : mMi l yX7_arraySigns wsX7_arraySigns ({ frames := 3, cells := 0, slots := 0, locals := 70 } : Room) G cI cZ q [.int (nI (w)), .int (nI (r)), .int (f), .int (n)] (T) (D) (th) (nI 0) (T) (D) (nI 1) := by
  refine mstarti (cc := cX7_arraySigns) (maxL := 5) (ret := (some .int)) (by decide) rfl rfl ⟨_, rfl⟩ (Nat.le_of_ble_eq_true rfl) (fun p e s m args below meth c Q hE X hW ls hl => ?_)
  have hl : lv_has ls 5 [(0, .ref (q 0)), (1, .int (nI (w))), (2, .int (nI (r))), (3, .int (f)), (4, .int (n))] := hl
  have hin : ∀ w ∈ wsX70, w ∈ wsX7_arraySigns := fun w h => List.mem_cons_of_mem _ (List.mem_append_left _ (List.mem_append_right _ (h)))
  refine lv_aload_n X.1 X.2.1 dX7_arraySigns_0 rfl (lv_at hl 0 rfl) ?_
  refine lv_iload_n X.1 X.2.1 dX7_arraySigns_1 rfl (lv_at hl 1 rfl) ?_
  refine lv_iconst (v := nI 3) X.1 X.2.1 dX7_arraySigns_2 (by decide) ?_
  refine lv_iload_n X.1 X.2.1 dX7_arraySigns_3 rfl (lv_at hl 1 rfl) ?_
  refine n_iadd X.1 X.2.1 dX7_arraySigns_4 ?_
  refine lv_iload_n X.1 X.2.1 dX7_arraySigns_5 rfl (lv_at hl 2 rfl) ?_
  refine lv_iload_n X.1 X.2.1 dX7_arraySigns_6 rfl (lv_at hl 3 rfl) ?_
  refine lv_iload X.1 X.2.1 dX7_arraySigns_7 (lv_at hl 4 rfl) ?_
  refine mcalli hq X hW (mt_part_1c l hq T D th I (w := w) (a := 3 + w) (r := r) (f := f) (n := n) hw hr h) (cwV 5 X.2.2.2.2 gX7_arraySigns_X7_part rfl rfl rfl (by decide +kernel) ⟨Nat.le_of_ble_eq_true rfl, Nat.le_of_ble_eq_true rfl⟩) rfl rfl hl.1 (Nat.le_of_ble_eq_true rfl) dX7_arraySigns_9 ⟨Nat.zero_le _, Nat.zero_le _⟩ (fun H locs hW => ?_)
  exact hE _ _ _ _ _ (rfl) (fun ty hty => by cases hty; exact rfl) hW dX7_arraySigns_12

set_option maxHeartbeats 4000000 in
set_option maxRecDepth 100000 in
theorem mt_arraySigns_2 (l : Launch) {G : va_G} {cI cZ : ClassId} {q : Nat → Nat} (hq : mJ q) (T : mT) (D : mD) (th : Int32) (I : mI T) {w r f n : Nat} (hw : w < 3) (hr : r < 4) (h : f + n ≤ T 1 (T 2 r)) (h2 : 256 < T 7 (3 + w) + n) : mMi l yX7_arraySigns wsX7_arraySigns ({ frames := 3, cells := 0, slots := 0, locals := 70 } : Room) G cI cZ q [.int (nI (w)), .int (nI (r)), .int (nI (f)), .int (nI (n))] (T) (D) (th) (nI 0) (T) (D) (nI 2) := by
  refine mstarti (cc := cX7_arraySigns) (maxL := 5) (ret := (some .int)) (by decide) rfl rfl ⟨_, rfl⟩ (Nat.le_of_ble_eq_true rfl) (fun p e s m args below meth c Q hE X hW ls hl => ?_)
  have hl : lv_has ls 5 [(0, .ref (q 0)), (1, .int (nI (w))), (2, .int (nI (r))), (3, .int (nI (f))), (4, .int (nI (n)))] := hl
  have hin : ∀ w ∈ wsX70, w ∈ wsX7_arraySigns := fun w h => List.mem_cons_of_mem _ (List.mem_append_left _ (List.mem_append_right _ (h)))
  refine lv_aload_n X.1 X.2.1 dX7_arraySigns_0 rfl (lv_at hl 0 rfl) ?_
  refine lv_iload_n X.1 X.2.1 dX7_arraySigns_1 rfl (lv_at hl 1 rfl) ?_
  refine lv_iconst (v := nI 3) X.1 X.2.1 dX7_arraySigns_2 (by decide) ?_
  refine lv_iload_n X.1 X.2.1 dX7_arraySigns_3 rfl (lv_at hl 1 rfl) ?_
  refine n_iadd X.1 X.2.1 dX7_arraySigns_4 ?_
  refine lv_iload_n X.1 X.2.1 dX7_arraySigns_5 rfl (lv_at hl 2 rfl) ?_
  refine lv_iload_n X.1 X.2.1 dX7_arraySigns_6 rfl (lv_at hl 3 rfl) ?_
  refine lv_iload X.1 X.2.1 dX7_arraySigns_7 (lv_at hl 4 rfl) ?_
  refine mcalli hq X hW (mt_part_2 l hq T D th I (w := w) (a := 3 + w) (r := r) (f := f) (n := n) hw (by omega) hr h h2) (cwV 5 X.2.2.2.2 gX7_arraySigns_X7_part rfl rfl rfl (by decide +kernel) ⟨Nat.le_of_ble_eq_true rfl, Nat.le_of_ble_eq_true rfl⟩) rfl rfl hl.1 (Nat.le_of_ble_eq_true rfl) dX7_arraySigns_9 ⟨Nat.zero_le _, Nat.zero_le _⟩ (fun H locs hW => ?_)
  exact hE _ _ _ _ _ (rfl) (fun ty hty => by cases hty; exact rfl) hW dX7_arraySigns_12

set_option maxHeartbeats 4000000 in
set_option maxRecDepth 100000 in
theorem mt_arraySigns (l : Launch) {G : va_G} {cI cZ : ClassId} {q : Nat → Nat} (hq : mJ q) (T : mT) (D : mD) (th : Int32) (I : mI T) {w r f n : Nat} (hw : w < 3) (hr : r < 4) (h : f + n ≤ T 1 (T 2 r)) (h2 : T 7 (3 + w) + n ≤ 256) : mMi l yX7_arraySigns wsX7_arraySigns ({ frames := 3, cells := 0, slots := 0, locals := 70 } : Room) G cI cZ q [.int (nI (w)), .int (nI (r)), .int (nI (f)), .int (nI (n))] (T) (D) (th) (nI (T 7 (3 + w) + n)) (adT T (3 + w) n) (adD T D (3 + w) (fun i => D 0 (256 * T 2 r + f + i) &&& nI 255) n) (nI 0) := by
  refine mstarti (cc := cX7_arraySigns) (maxL := 5) (ret := (some .int)) (by decide) rfl rfl ⟨_, rfl⟩ (Nat.le_of_ble_eq_true rfl) (fun p e s m args below meth c Q hE X hW ls hl => ?_)
  have hl : lv_has ls 5 [(0, .ref (q 0)), (1, .int (nI (w))), (2, .int (nI (r))), (3, .int (nI (f))), (4, .int (nI (n)))] := hl
  have hin : ∀ w ∈ wsX70, w ∈ wsX7_arraySigns := fun w h => List.mem_cons_of_mem _ (List.mem_append_left _ (List.mem_append_right _ (h)))
  refine lv_aload_n X.1 X.2.1 dX7_arraySigns_0 rfl (lv_at hl 0 rfl) ?_
  refine lv_iload_n X.1 X.2.1 dX7_arraySigns_1 rfl (lv_at hl 1 rfl) ?_
  refine lv_iconst (v := nI 3) X.1 X.2.1 dX7_arraySigns_2 (by decide) ?_
  refine lv_iload_n X.1 X.2.1 dX7_arraySigns_3 rfl (lv_at hl 1 rfl) ?_
  refine n_iadd X.1 X.2.1 dX7_arraySigns_4 ?_
  refine lv_iload_n X.1 X.2.1 dX7_arraySigns_5 rfl (lv_at hl 2 rfl) ?_
  refine lv_iload_n X.1 X.2.1 dX7_arraySigns_6 rfl (lv_at hl 3 rfl) ?_
  refine lv_iload X.1 X.2.1 dX7_arraySigns_7 (lv_at hl 4 rfl) ?_
  refine mcalli hq X hW (mt_part l hq T D th I (w := w) (a := 3 + w) (r := r) (f := f) (n := n) hw (by omega) hr h h2) (cwV 5 X.2.2.2.2 gX7_arraySigns_X7_part rfl rfl rfl (by decide +kernel) ⟨Nat.le_of_ble_eq_true rfl, Nat.le_of_ble_eq_true rfl⟩) rfl rfl hl.1 (Nat.le_of_ble_eq_true rfl) dX7_arraySigns_9 ⟨Nat.zero_le _, Nat.zero_le _⟩ (fun H locs hW => ?_)
  exact hE _ _ _ _ _ (rfl) (fun ty hty => by cases hty; exact rfl) hW dX7_arraySigns_12

theorem mo_arraySigns (l : Launch) {G : va_G} {cI cZ : ClassId} {q : Nat → Nat} (hq : mJ q) (T : mT) (D : mD) (th : Int32) (I : mI T) (J : mJD D) (w row f n : Int32) : mO l yX7_arraySigns wsX7_arraySigns ({ frames := 3, cells := 0, slots := 0, locals := 70 } : Room) G cI cZ q [.int w, .int row, .int f, .int n] T D th (sp_part T D 3 w row f n) := by
  by_cases h1 : oN w 3
  · rw [show sp_part T D 3 w row f n = no T D 1 from if_pos (Or.inl h1)]; exact mt_arraySigns_1a l hq T D th h1
  · obtain ⟨w, hw, rfl⟩ := oN_in (by decide) h1
    by_cases h2 : oN row 4
    · rw [show sp_part T D 3 (nI w) row f n = no T D 1 from if_pos (Or.inr (Or.inl h2))]; exact mt_arraySigns_1b l hq T D th hw h2
    · obtain ⟨r, hr, rfl⟩ := oN_in (by decide) h2
      have hl : rI T (nI r) = T 1 (T 2 r) := by simp only [rI, nI_clamp (show r < 2 ^ 31 by omega)]
      by_cases h3 : oP (T 1 (T 2 r)) f n
      · rw [show sp_part T D 3 (nI w) (nI r) f n = no T D 1 from if_pos (Or.inr (Or.inr (by rw [hl]; exact h3)))]
        exact mt_arraySigns_1c l hq T D th I hw hr h3
      · have I2 := I.sr hr
        have I3 := I.sl I2
        obtain ⟨f0, hf, rfl⟩ := nI_of (fun z => h3 (Or.inl z))
        obtain ⟨n0, hn, rfl⟩ := nI_of (fun z => h3 (Or.inr (Or.inl z)))
        have h4 : f0 + n0 ≤ T 1 (T 2 r) := Nat.not_lt.mp (fun z => h3 (Or.inr (Or.inr (by rw [nI_clamp hf, nI_clamp hn]; exact z))))
        have hc : (nI w).toNatClampNeg = w := nI_clamp (by omega)
        have hc2 : (nI r).toNatClampNeg = r := nI_clamp (by omega)
        have ea : 3 + w = 3 + w := by omega
        have hno : ¬ (oN (nI w) 3 ∨ oN (nI r) 4 ∨ oP (rI T (nI r)) (nI f0) (nI n0)) := by rw [hl]; exact fun z => z.elim h1 (fun z => z.elim h2 h3)
        by_cases h5 : 256 < T 7 (3 + w) + n0
        · rw [show sp_part T D 3 (nI w) (nI r) (nI f0) (nI n0) = no T D 2 from (if_neg hno).trans (if_pos (by rw [hc, nI_clamp hn, ea]; exact h5))]
          exact mt_arraySigns_2 l hq T D th I hw hr h4 h5
        · rw [show sp_part T D 3 (nI w) (nI r) (nI f0) (nI n0) = sk_part T D (3 + w) r f0 n0 from (if_neg hno).trans ((if_neg (by rw [hc, nI_clamp hn, ea]; exact h5)).trans (by rw [hc, hc2, nI_clamp hf, nI_clamp hn, ea]))]
          exact mt_arraySigns l hq T D th I hw hr h4 (Nat.not_lt.mp h5)

set_option maxHeartbeats 4000000 in
set_option maxRecDepth 100000 in
theorem mt_taken_1a (l : Launch) {G : va_G} {cI cZ : ClassId} {q : Nat → Nat} (hq : mJ q) (T : mT) (D : mD) (th : Int32) {w w2 row : Int32} (h : oN w 3) : mMi l yX7_taken wsX7_taken ({ frames := 2, cells := 0, slots := 0, locals := 47 } : Room) G cI cZ q [.int (w), .int (w2), .int (row)] (T) (D) (th) (nI 0) (T) (D) (nI 1) := by
  refine mstarti (cc := cX7_taken) (maxL := 5) (ret := (some .int)) (by decide) rfl rfl ⟨_, rfl⟩ (Nat.le_of_ble_eq_true rfl) (fun p e s m args below meth c Q hE X hW ls hl => ?_)
  have hl : lv_has ls 5 [(0, .ref (q 0)), (1, .int (w)), (2, .int (w2)), (3, .int (row))] := hl
  have hin : ∀ w ∈ wsX70, w ∈ wsX7_taken := fun w h => List.mem_cons_of_mem _ (List.mem_append_left _ (List.mem_append_right _ (h)))
  refine lv_aload_n X.1 X.2.1 dX7_taken_0 rfl (lv_at hl 0 rfl) ?_
  refine lv_aload_n X.1 X.2.1 dX7_taken_1 rfl (lv_at hl 0 rfl) ?_
  refine lv_iload_n X.1 X.2.1 dX7_taken_2 rfl (lv_at hl 1 rfl) ?_
  refine mcalli hq X hW (mt_isOther_bad l hq (T) (D) (th) (x := w) (h)) (cwV 1 X.2.2.2.2 gX7_taken_X7_isOther rfl rfl rfl (by decide +kernel) ⟨Nat.le_of_ble_eq_true rfl, Nat.le_of_ble_eq_true rfl⟩) rfl rfl hl.1 (Nat.le_of_ble_eq_true rfl) dX7_taken_3 ⟨Nat.zero_le _, Nat.zero_le _⟩ (fun H locs hW => ?_)
  refine n_if_eq_t (tgt := 21) X.1 X.2.1 dX7_taken_6 (by decide) (by decide) (by omega) ?_
  refine lv_iconst (v := nI 1) X.1 X.2.1 dX7_taken_21 (by decide) ?_
  refine mcalli hq X hW (mt_isWrong_s l hq (T) (D) (th) (n := 1) (by decide) (by decide)) (cwV 1 X.2.2.2.2 gX7_taken_X7_isWrong rfl rfl rfl (by decide +kernel) ⟨Nat.le_of_ble_eq_true rfl, Nat.le_of_ble_eq_true rfl⟩) rfl rfl hl.1 (Nat.le_of_ble_eq_true rfl) dX7_taken_22 ⟨Nat.zero_le _, Nat.zero_le _⟩ (fun H locs hW => ?_)
  refine n_if_eq_f (tgt := 30) X.1 X.2.1 dX7_taken_25 (by decide) (by decide) (by omega) ?_
  refine lv_iconst (v := nI 0) X.1 X.2.1 dX7_taken_28 (by decide) ?_
  exact hE _ _ _ _ _ (rfl) (fun ty hty => by cases hty; exact rfl) hW dX7_taken_29

set_option maxHeartbeats 4000000 in
set_option maxRecDepth 100000 in
theorem mt_taken_1b (l : Launch) {G : va_G} {cI cZ : ClassId} {q : Nat → Nat} (hq : mJ q) (T : mT) (D : mD) (th : Int32) {w a : Nat} {row : Int32} (hw : w < 3) (h : oN row 4) : mMi l yX7_taken wsX7_taken ({ frames := 2, cells := 0, slots := 0, locals := 47 } : Room) G cI cZ q [.int (nI (w)), .int (nI (a)), .int (row)] (T) (D) (th) (nI 0) (T) (D) (nI 1) := by
  refine mstarti (cc := cX7_taken) (maxL := 5) (ret := (some .int)) (by decide) rfl rfl ⟨_, rfl⟩ (Nat.le_of_ble_eq_true rfl) (fun p e s m args below meth c Q hE X hW ls hl => ?_)
  have hl : lv_has ls 5 [(0, .ref (q 0)), (1, .int (nI (w))), (2, .int (nI (a))), (3, .int (row))] := hl
  have hin : ∀ w ∈ wsX70, w ∈ wsX7_taken := fun w h => List.mem_cons_of_mem _ (List.mem_append_left _ (List.mem_append_right _ (h)))
  refine lv_aload_n X.1 X.2.1 dX7_taken_0 rfl (lv_at hl 0 rfl) ?_
  refine lv_aload_n X.1 X.2.1 dX7_taken_1 rfl (lv_at hl 0 rfl) ?_
  refine lv_iload_n X.1 X.2.1 dX7_taken_2 rfl (lv_at hl 1 rfl) ?_
  refine mcalli hq X hW (mt_isOther_ok l hq (T) (D) (th) (r := w) (by omega)) (cwV 1 X.2.2.2.2 gX7_taken_X7_isOther rfl rfl rfl (by decide +kernel) ⟨Nat.le_of_ble_eq_true rfl, Nat.le_of_ble_eq_true rfl⟩) rfl rfl hl.1 (Nat.le_of_ble_eq_true rfl) dX7_taken_3 ⟨Nat.zero_le _, Nat.zero_le _⟩ (fun H locs hW => ?_)
  refine n_if_eq_f (tgt := 21) X.1 X.2.1 dX7_taken_6 (by decide) (by decide) (by omega) ?_
  refine lv_aload_n X.1 X.2.1 dX7_taken_9 rfl (lv_at hl 0 rfl) ?_
  refine lv_iload_n X.1 X.2.1 dX7_taken_10 rfl (lv_at hl 3 rfl) ?_
  refine mcalli hq X hW (mt_isRow_bad l hq (T) (D) (th) (x := row) (h)) (cwV 1 X.2.2.2.2 gX7_taken_X7_isRow rfl rfl rfl (by decide +kernel) ⟨Nat.le_of_ble_eq_true rfl, Nat.le_of_ble_eq_true rfl⟩) rfl rfl hl.1 (Nat.le_of_ble_eq_true rfl) dX7_taken_11 ⟨Nat.zero_le _, Nat.zero_le _⟩ (fun H locs hW => ?_)
  refine n_if_eq_t (tgt := 21) X.1 X.2.1 dX7_taken_14 (by decide) (by decide) (by omega) ?_
  refine lv_iconst (v := nI 1) X.1 X.2.1 dX7_taken_21 (by decide) ?_
  refine mcalli hq X hW (mt_isWrong_s l hq (T) (D) (th) (n := 1) (by decide) (by decide)) (cwV 1 X.2.2.2.2 gX7_taken_X7_isWrong rfl rfl rfl (by decide +kernel) ⟨Nat.le_of_ble_eq_true rfl, Nat.le_of_ble_eq_true rfl⟩) rfl rfl hl.1 (Nat.le_of_ble_eq_true rfl) dX7_taken_22 ⟨Nat.zero_le _, Nat.zero_le _⟩ (fun H locs hW => ?_)
  refine n_if_eq_f (tgt := 30) X.1 X.2.1 dX7_taken_25 (by decide) (by decide) (by omega) ?_
  refine lv_iconst (v := nI 0) X.1 X.2.1 dX7_taken_28 (by decide) ?_
  exact hE _ _ _ _ _ (rfl) (fun ty hty => by cases hty; exact rfl) hW dX7_taken_29

set_option maxHeartbeats 4000000 in
set_option maxRecDepth 100000 in
theorem mt_taken (l : Launch) {G : va_G} {cI cZ : ClassId} {q : Nat → Nat} (hq : mJ q) (T : mT) (D : mD) (th : Int32) (I : mI T) {w a r : Nat} (hw : w < 3) (ha : a < 6) (hr : r < 4) : mMi l yX7_taken wsX7_taken ({ frames := 2, cells := 0, slots := 0, locals := 47 } : Room) G cI cZ q [.int (nI (w)), .int (nI (a)), .int (nI (r))] (T) (D) (th) (nI (T 7 a)) (beT T r (T 7 a)) (beD T (cpF D 19 0 (fun i => D 6 (256 * a + i)) (T 7 a)) (T 7 a)) (nI 0) := by
  refine mstarti (cc := cX7_taken) (maxL := 5) (ret := (some .int)) (by decide) rfl rfl ⟨_, rfl⟩ (Nat.le_of_ble_eq_true rfl) (fun p e s m args below meth c Q hE X hW ls hl => ?_)
  have hl : lv_has ls 5 [(0, .ref (q 0)), (1, .int (nI (w))), (2, .int (nI (a))), (3, .int (nI (r)))] := hl
  have hin : ∀ w ∈ wsX70, w ∈ wsX7_taken := fun w h => List.mem_cons_of_mem _ (List.mem_append_left _ (List.mem_append_right _ (h)))
  have I1 := I.wr ha
  refine lv_aload_n X.1 X.2.1 dX7_taken_0 rfl (lv_at hl 0 rfl) ?_
  refine lv_aload_n X.1 X.2.1 dX7_taken_1 rfl (lv_at hl 0 rfl) ?_
  refine lv_iload_n X.1 X.2.1 dX7_taken_2 rfl (lv_at hl 1 rfl) ?_
  refine mcalli hq X hW (mt_isOther_ok l hq (T) (D) (th) (r := w) (by omega)) (cwV 1 X.2.2.2.2 gX7_taken_X7_isOther rfl rfl rfl (by decide +kernel) ⟨Nat.le_of_ble_eq_true rfl, Nat.le_of_ble_eq_true rfl⟩) rfl rfl hl.1 (Nat.le_of_ble_eq_true rfl) dX7_taken_3 ⟨Nat.zero_le _, Nat.zero_le _⟩ (fun H locs hW => ?_)
  refine n_if_eq_f (tgt := 21) X.1 X.2.1 dX7_taken_6 (by decide) (by decide) (by omega) ?_
  refine lv_aload_n X.1 X.2.1 dX7_taken_9 rfl (lv_at hl 0 rfl) ?_
  refine lv_iload_n X.1 X.2.1 dX7_taken_10 rfl (lv_at hl 3 rfl) ?_
  refine mcalli hq X hW (mt_isRow_ok l hq (T) (D) (th) (r := r) (by omega)) (cwV 1 X.2.2.2.2 gX7_taken_X7_isRow rfl rfl rfl (by decide +kernel) ⟨Nat.le_of_ble_eq_true rfl, Nat.le_of_ble_eq_true rfl⟩) rfl rfl hl.1 (Nat.le_of_ble_eq_true rfl) dX7_taken_11 ⟨Nat.zero_le _, Nat.zero_le _⟩ (fun H locs hW => ?_)
  refine n_if_eq_f (tgt := 21) X.1 X.2.1 dX7_taken_14 (by decide) (by decide) (by omega) ?_
  refine lv_iconst (v := nI 0) X.1 X.2.1 dX7_taken_17 (by decide) ?_
  refine lv_goto (tgt := 22) X.1 X.2.1 dX7_taken_18 (by decide) ?_
  refine mcalli hq X hW (mt_isWrong_0 l hq (T) (D) (th)) (cwV 1 X.2.2.2.2 gX7_taken_X7_isWrong rfl rfl rfl (by decide +kernel) ⟨Nat.le_of_ble_eq_true rfl, Nat.le_of_ble_eq_true rfl⟩) rfl rfl hl.1 (Nat.le_of_ble_eq_true rfl) dX7_taken_22 ⟨Nat.zero_le _, Nat.zero_le _⟩ (fun H locs hW => ?_)
  refine n_if_eq_t (tgt := 30) X.1 X.2.1 dX7_taken_25 (by decide) (by decide) (by omega) ?_
  refine lv_iconst (v := nI 0) X.1 X.2.1 dX7_taken_30 (by decide) ?_
  refine lv_istore (lv' := [(4, .int (nI (0))), (0, .ref (q 0)), (1, .int (nI (w))), (2, .int (nI (a))), (3, .int (nI (r)))]) X.1 X.2.1 dX7_taken_31 hl (by decide) rfl (fun ls hl => ?_)
  have loop33 : ∀ (n33 k33 : Nat), k33 + n33 = T 7 a → ∀ (H : Heap) (locs : List Loc), mH G cI cZ q (T) (cpF D 19 0 (fun i => D 6 (256 * a + i)) k33) (nI 0) s H locs → ∀ ls : Array Slot, lv_has ls 5 [(0, .ref (q 0)), (1, .int (nI (w))), (2, .int (nI (a))), (3, .int (nI (r))), (4, .int (nI (k33)))] → W p l e ({ frames := 2, cells := 0, slots := 0, locals := 47 } : Room) s m args below meth c H locs 0 0 Q (F0 m 33 ls []) := by
    intro n33
    induction n33 with
    | zero =>
      intro k33 hk33  H locs hW ls hl
      obtain rfl : T 7 a = k33 := by omega
      refine lv_iload X.1 X.2.1 dX7_taken_33 (lv_at hl 4 rfl) ?_
      refine lv_aload_n X.1 X.2.1 dX7_taken_35 rfl (lv_at hl 0 rfl) ?_
      refine mget 7 (by decide) rfl X hin hW (X.2.2.2.2 (.fieldLink RX7 31 "StrandbookModel" "sizes" "[I") (List.mem_cons_of_mem _ (List.mem_append_left _ (List.mem_append_left _ (List.mem_append_left _ (List.mem_of_getElem? (i := 0) rfl)))))) dX7_taken_36 ?_
      refine lv_iload_n X.1 X.2.1 dX7_taken_39 rfl (lv_at hl 2 rfl) ?_
      refine mld7 X hW (by omega) dX7_taken_40 ?_
      refine n_icmp_ge_t (tgt := 70) X.1 X.2.1 dX7_taken_41 (by decide) (by omega) (by omega) (by omega) ?_
      refine lv_aload_n X.1 X.2.1 dX7_taken_70 rfl (lv_at hl 0 rfl) ?_
      refine lv_iload_n X.1 X.2.1 dX7_taken_71 rfl (lv_at hl 3 rfl) ?_
      refine lv_aload_n X.1 X.2.1 dX7_taken_72 rfl (lv_at hl 0 rfl) ?_
      refine mget 7 (by decide) rfl X hin hW (X.2.2.2.2 (.fieldLink RX7 31 "StrandbookModel" "sizes" "[I") (List.mem_cons_of_mem _ (List.mem_append_left _ (List.mem_append_left _ (List.mem_append_left _ (List.mem_of_getElem? (i := 0) rfl)))))) dX7_taken_73 ?_
      refine lv_iload_n X.1 X.2.1 dX7_taken_76 rfl (lv_at hl 2 rfl) ?_
      refine mld7 X hW (by omega) dX7_taken_77 ?_
      refine mcallv hq X hW (mt_becomes l hq (T) (cpF D 19 0 (fun i => D 6 (256 * a + i)) (T 7 a)) (nI 0) I (r := r) (n := T 7 (a)) (by omega) (by omega)) (cwV 2 X.2.2.2.2 gX7_taken_X7_becomes rfl rfl rfl (by decide +kernel) ⟨Nat.le_of_ble_eq_true rfl, Nat.le_of_ble_eq_true rfl⟩) rfl rfl hl.1 (Nat.le_of_ble_eq_true rfl) dX7_taken_78 ⟨Nat.zero_le _, Nat.zero_le _⟩ (fun H locs hW => ?_)
      refine lv_aload_n X.1 X.2.1 dX7_taken_81 rfl (lv_at hl 0 rfl) ?_
      refine mget 7 (by decide) rfl X hin hW (X.2.2.2.2 (.fieldLink RX7 31 "StrandbookModel" "sizes" "[I") (List.mem_cons_of_mem _ (List.mem_append_left _ (List.mem_append_left _ (List.mem_append_left _ (List.mem_of_getElem? (i := 0) rfl)))))) dX7_taken_82 ?_
      refine lv_iload_n X.1 X.2.1 dX7_taken_85 rfl (lv_at hl 2 rfl) ?_
      refine mld7 X hW (by omega) dX7_taken_86 ?_
      refine n_cv (y := nI (T 7 a)) (congrArg nI ((congrFun (u2_ne (by decide)) _).trans (congrFun (u2_ne (by decide)) _))) ?_
      exact hE _ _ _ _ _ (rfl) (fun ty hty => by cases hty; exact rfl) hW dX7_taken_87
    | succ n33 ih33 =>
      intro k33 hk33  H locs hW ls hl
      refine lv_iload X.1 X.2.1 dX7_taken_33 (lv_at hl 4 rfl) ?_
      refine lv_aload_n X.1 X.2.1 dX7_taken_35 rfl (lv_at hl 0 rfl) ?_
      refine mget 7 (by decide) rfl X hin hW (X.2.2.2.2 (.fieldLink RX7 31 "StrandbookModel" "sizes" "[I") (List.mem_cons_of_mem _ (List.mem_append_left _ (List.mem_append_left _ (List.mem_append_left _ (List.mem_of_getElem? (i := 0) rfl)))))) dX7_taken_36 ?_
      refine lv_iload_n X.1 X.2.1 dX7_taken_39 rfl (lv_at hl 2 rfl) ?_
      refine mld7 X hW (by omega) dX7_taken_40 ?_
      refine n_icmp_ge_f (tgt := 70) X.1 X.2.1 dX7_taken_41 (by decide) (by omega) (by omega) (by omega) ?_
      refine lv_aload_n X.1 X.2.1 dX7_taken_44 rfl (lv_at hl 0 rfl) ?_
      refine mget 19 (by decide) rfl X hin hW (X.2.2.2.2 (.fieldLink RX7 68 "StrandbookModel" "kept" "[I") (List.mem_cons_of_mem _ (List.mem_append_left _ (List.mem_append_left _ (List.mem_append_left _ (List.mem_of_getElem? (i := 1) rfl)))))) dX7_taken_45 ?_
      refine lv_iload X.1 X.2.1 dX7_taken_48 (lv_at hl 4 rfl) ?_
      refine lv_aload_n X.1 X.2.1 dX7_taken_50 rfl (lv_at hl 0 rfl) ?_
      refine mget 6 (by decide) rfl X hin hW (X.2.2.2.2 (.fieldLink RX7 28 "StrandbookModel" "written" "[I") (List.mem_cons_of_mem _ (List.mem_append_left _ (List.mem_append_left _ (List.mem_append_left _ (List.mem_of_getElem? (i := 2) rfl)))))) dX7_taken_51 ?_
      refine lv_sipush (v := nI 256) X.1 X.2.1 dX7_taken_54 (by decide) ?_
      refine lv_iload_n X.1 X.2.1 dX7_taken_57 rfl (lv_at hl 2 rfl) ?_
      refine n_imul X.1 X.2.1 dX7_taken_58 ?_
      refine lv_iload X.1 X.2.1 dX7_taken_59 (lv_at hl 4 rfl) ?_
      refine n_iadd X.1 X.2.1 dX7_taken_61 ?_
      refine mld6 X hW (by omega) dX7_taken_62 ?_
      refine n_cv (y := D 6 (256 * a + k33)) (congrFun (cpF_ne (by decide)) _) ?_
      refine mst19 hq X hW (by omega) dX7_taken_63 (fun H locs hW => ?_)
      refine lv_iinc (v := nI (k33 + 1)) (lv' := [(4, .int (nI (k33 + 1))), (0, .ref (q 0)), (1, .int (nI (w))), (2, .int (nI (a))), (3, .int (nI (r)))]) X.1 X.2.1 dX7_taken_64 hl (k := 4) rfl (nI_1 _) (by decide) rfl (fun ls hl => ?_)
      refine lv_goto (tgt := 33) X.1 X.2.1 dX7_taken_67 (by decide) ?_
      exact ih33 (k33 + 1) (by omega) _ _ (hW.eq (rfl) (cpF_S' (by omega) rfl) rfl) ls (lv_sub hl [1, 2, 3, 4, 0] rfl)
  exact loop33 ((T 7 a) - (0)) (0) (by omega) _ _ (hW.eq (rfl) (cpF_0.symm) rfl) ls (lv_sub hl [1, 2, 3, 4, 0] rfl)

set_option maxHeartbeats 4000000 in
set_option maxRecDepth 100000 in
theorem mt_take_1a (l : Launch) {G : va_G} {cI cZ : ClassId} {q : Nat → Nat} (hq : mJ q) (T : mT) (D : mD) (th : Int32) {w row : Int32} (h : oN w 3) : mMi l yX7_take wsX7_take ({ frames := 3, cells := 0, slots := 0, locals := 71 } : Room) G cI cZ q [.int (w), .int (row)] (T) (D) (th) (nI 0) (T) (D) (nI 1) := by
  refine mstarti (cc := cX7_take) (maxL := 3) (ret := (some .int)) (by decide) rfl rfl ⟨_, rfl⟩ (Nat.le_of_ble_eq_true rfl) (fun p e s m args below meth c Q hE X hW ls hl => ?_)
  have hl : lv_has ls 3 [(0, .ref (q 0)), (1, .int (w)), (2, .int (row))] := hl
  have hin : ∀ w ∈ wsX70, w ∈ wsX7_take := fun w h => List.mem_cons_of_mem _ (List.mem_append_left _ (List.mem_append_right _ (h)))
  refine lv_aload_n X.1 X.2.1 dX7_take_0 rfl (lv_at hl 0 rfl) ?_
  refine lv_iload_n X.1 X.2.1 dX7_take_1 rfl (lv_at hl 1 rfl) ?_
  refine lv_iload_n X.1 X.2.1 dX7_take_2 rfl (lv_at hl 1 rfl) ?_
  refine lv_iload_n X.1 X.2.1 dX7_take_3 rfl (lv_at hl 2 rfl) ?_
  refine mcalli hq X hW (mt_taken_1a l hq T D th (w := w) (w2 := w) (row := row) h) (cwV 3 X.2.2.2.2 gX7_take_X7_taken rfl rfl rfl (by decide +kernel) ⟨Nat.le_of_ble_eq_true rfl, Nat.le_of_ble_eq_true rfl⟩) rfl rfl hl.1 (Nat.le_of_ble_eq_true rfl) dX7_take_4 ⟨Nat.zero_le _, Nat.zero_le _⟩ (fun H locs hW => ?_)
  exact hE _ _ _ _ _ (rfl) (fun ty hty => by cases hty; exact rfl) hW dX7_take_7

set_option maxHeartbeats 4000000 in
set_option maxRecDepth 100000 in
theorem mt_take_1b (l : Launch) {G : va_G} {cI cZ : ClassId} {q : Nat → Nat} (hq : mJ q) (T : mT) (D : mD) (th : Int32) {w : Nat} {row : Int32} (hw : w < 3) (h : oN row 4) : mMi l yX7_take wsX7_take ({ frames := 3, cells := 0, slots := 0, locals := 71 } : Room) G cI cZ q [.int (nI (w)), .int (row)] (T) (D) (th) (nI 0) (T) (D) (nI 1) := by
  refine mstarti (cc := cX7_take) (maxL := 3) (ret := (some .int)) (by decide) rfl rfl ⟨_, rfl⟩ (Nat.le_of_ble_eq_true rfl) (fun p e s m args below meth c Q hE X hW ls hl => ?_)
  have hl : lv_has ls 3 [(0, .ref (q 0)), (1, .int (nI (w))), (2, .int (row))] := hl
  have hin : ∀ w ∈ wsX70, w ∈ wsX7_take := fun w h => List.mem_cons_of_mem _ (List.mem_append_left _ (List.mem_append_right _ (h)))
  refine lv_aload_n X.1 X.2.1 dX7_take_0 rfl (lv_at hl 0 rfl) ?_
  refine lv_iload_n X.1 X.2.1 dX7_take_1 rfl (lv_at hl 1 rfl) ?_
  refine lv_iload_n X.1 X.2.1 dX7_take_2 rfl (lv_at hl 1 rfl) ?_
  refine lv_iload_n X.1 X.2.1 dX7_take_3 rfl (lv_at hl 2 rfl) ?_
  refine mcalli hq X hW (mt_taken_1b l hq T D th (w := w) (a := w) (row := row) hw h) (cwV 3 X.2.2.2.2 gX7_take_X7_taken rfl rfl rfl (by decide +kernel) ⟨Nat.le_of_ble_eq_true rfl, Nat.le_of_ble_eq_true rfl⟩) rfl rfl hl.1 (Nat.le_of_ble_eq_true rfl) dX7_take_4 ⟨Nat.zero_le _, Nat.zero_le _⟩ (fun H locs hW => ?_)
  exact hE _ _ _ _ _ (rfl) (fun ty hty => by cases hty; exact rfl) hW dX7_take_7

set_option maxHeartbeats 4000000 in
set_option maxRecDepth 100000 in
theorem mt_take (l : Launch) {G : va_G} {cI cZ : ClassId} {q : Nat → Nat} (hq : mJ q) (T : mT) (D : mD) (th : Int32) (I : mI T) {w r : Nat} (hw : w < 3) (hr : r < 4) : mMi l yX7_take wsX7_take ({ frames := 3, cells := 0, slots := 0, locals := 71 } : Room) G cI cZ q [.int (nI (w)), .int (nI (r))] (T) (D) (th) (nI (T 7 (w))) (beT T r (T 7 (w))) (beD T (cpF D 19 0 (fun i => D 6 (256 * (w) + i)) (T 7 (w))) (T 7 (w))) (nI 0) := by
  refine mstarti (cc := cX7_take) (maxL := 3) (ret := (some .int)) (by decide) rfl rfl ⟨_, rfl⟩ (Nat.le_of_ble_eq_true rfl) (fun p e s m args below meth c Q hE X hW ls hl => ?_)
  have hl : lv_has ls 3 [(0, .ref (q 0)), (1, .int (nI (w))), (2, .int (nI (r)))] := hl
  have hin : ∀ w ∈ wsX70, w ∈ wsX7_take := fun w h => List.mem_cons_of_mem _ (List.mem_append_left _ (List.mem_append_right _ (h)))
  refine lv_aload_n X.1 X.2.1 dX7_take_0 rfl (lv_at hl 0 rfl) ?_
  refine lv_iload_n X.1 X.2.1 dX7_take_1 rfl (lv_at hl 1 rfl) ?_
  refine lv_iload_n X.1 X.2.1 dX7_take_2 rfl (lv_at hl 1 rfl) ?_
  refine lv_iload_n X.1 X.2.1 dX7_take_3 rfl (lv_at hl 2 rfl) ?_
  refine mcalli hq X hW (mt_taken l hq T D th I (w := w) (a := w) (r := r) hw (by omega) hr) (cwV 3 X.2.2.2.2 gX7_take_X7_taken rfl rfl rfl (by decide +kernel) ⟨Nat.le_of_ble_eq_true rfl, Nat.le_of_ble_eq_true rfl⟩) rfl rfl hl.1 (Nat.le_of_ble_eq_true rfl) dX7_take_4 ⟨Nat.zero_le _, Nat.zero_le _⟩ (fun H locs hW => ?_)
  exact hE _ _ _ _ _ (rfl) (fun ty hty => by cases hty; exact rfl) hW dX7_take_7

theorem mo_take (l : Launch) {G : va_G} {cI cZ : ClassId} {q : Nat → Nat} (hq : mJ q) (T : mT) (D : mD) (th : Int32) (I : mI T) (J : mJD D) (w row : Int32) : mO l yX7_take wsX7_take ({ frames := 3, cells := 0, slots := 0, locals := 71 } : Room) G cI cZ q [.int w, .int row] T D th (sp_taken T D 0 w row) := by
  by_cases h1 : oN w 3
  · rw [show sp_taken T D 0 w row = no T D 1 from if_pos (Or.inl h1)]; exact mt_take_1a l hq T D th h1
  · obtain ⟨w, hw, rfl⟩ := oN_in (by decide) h1
    by_cases h2 : oN row 4
    · rw [show sp_taken T D 0 (nI w) row = no T D 1 from if_pos (Or.inr h2)]; exact mt_take_1b l hq T D th hw h2
    · obtain ⟨r, hr, rfl⟩ := oN_in (by decide) h2
      rw [show sp_taken T D 0 (nI w) (nI r) = sk_taken T D (w) r from (if_neg (fun z => z.elim h1 h2)).trans (by rw [nI_clamp (by omega), nI_clamp (by omega), show 0 + w = w by omega])]
      exact mt_take l hq T D th I hw hr

set_option maxHeartbeats 4000000 in
set_option maxRecDepth 100000 in
theorem mt_arrayTake_1a (l : Launch) {G : va_G} {cI cZ : ClassId} {q : Nat → Nat} (hq : mJ q) (T : mT) (D : mD) (th : Int32) {w row : Int32} (h : oN w 3) : mMi l yX7_arrayTake wsX7_arrayTake ({ frames := 3, cells := 0, slots := 0, locals := 71 } : Room) G cI cZ q [.int (w), .int (row)] (T) (D) (th) (nI 0) (T) (D) (nI 1) := by
  refine mstarti (cc := cX7_arrayTake) (maxL := 3) (ret := (some .int)) (by decide) rfl rfl ⟨_, rfl⟩ (Nat.le_of_ble_eq_true rfl) (fun p e s m args below meth c Q hE X hW ls hl => ?_)
  have hl : lv_has ls 3 [(0, .ref (q 0)), (1, .int (w)), (2, .int (row))] := hl
  have hin : ∀ w ∈ wsX70, w ∈ wsX7_arrayTake := fun w h => List.mem_cons_of_mem _ (List.mem_append_left _ (List.mem_append_right _ (h)))
  refine lv_aload_n X.1 X.2.1 dX7_arrayTake_0 rfl (lv_at hl 0 rfl) ?_
  refine lv_iload_n X.1 X.2.1 dX7_arrayTake_1 rfl (lv_at hl 1 rfl) ?_
  refine lv_iconst (v := nI 3) X.1 X.2.1 dX7_arrayTake_2 (by decide) ?_
  refine lv_iload_n X.1 X.2.1 dX7_arrayTake_3 rfl (lv_at hl 1 rfl) ?_
  refine lv_iadd X.1 X.2.1 dX7_arrayTake_4 ?_
  refine lv_iload_n X.1 X.2.1 dX7_arrayTake_5 rfl (lv_at hl 2 rfl) ?_
  refine mcalli hq X hW (mt_taken_1a l hq T D th (w := w) (w2 := (nI 3 + w)) (row := row) h) (cwV 3 X.2.2.2.2 gX7_arrayTake_X7_taken rfl rfl rfl (by decide +kernel) ⟨Nat.le_of_ble_eq_true rfl, Nat.le_of_ble_eq_true rfl⟩) rfl rfl hl.1 (Nat.le_of_ble_eq_true rfl) dX7_arrayTake_6 ⟨Nat.zero_le _, Nat.zero_le _⟩ (fun H locs hW => ?_)
  exact hE _ _ _ _ _ (rfl) (fun ty hty => by cases hty; exact rfl) hW dX7_arrayTake_9

set_option maxHeartbeats 4000000 in
set_option maxRecDepth 100000 in
theorem mt_arrayTake_1b (l : Launch) {G : va_G} {cI cZ : ClassId} {q : Nat → Nat} (hq : mJ q) (T : mT) (D : mD) (th : Int32) {w : Nat} {row : Int32} (hw : w < 3) (h : oN row 4) : mMi l yX7_arrayTake wsX7_arrayTake ({ frames := 3, cells := 0, slots := 0, locals := 71 } : Room) G cI cZ q [.int (nI (w)), .int (row)] (T) (D) (th) (nI 0) (T) (D) (nI 1) := by
  refine mstarti (cc := cX7_arrayTake) (maxL := 3) (ret := (some .int)) (by decide) rfl rfl ⟨_, rfl⟩ (Nat.le_of_ble_eq_true rfl) (fun p e s m args below meth c Q hE X hW ls hl => ?_)
  have hl : lv_has ls 3 [(0, .ref (q 0)), (1, .int (nI (w))), (2, .int (row))] := hl
  have hin : ∀ w ∈ wsX70, w ∈ wsX7_arrayTake := fun w h => List.mem_cons_of_mem _ (List.mem_append_left _ (List.mem_append_right _ (h)))
  refine lv_aload_n X.1 X.2.1 dX7_arrayTake_0 rfl (lv_at hl 0 rfl) ?_
  refine lv_iload_n X.1 X.2.1 dX7_arrayTake_1 rfl (lv_at hl 1 rfl) ?_
  refine lv_iconst (v := nI 3) X.1 X.2.1 dX7_arrayTake_2 (by decide) ?_
  refine lv_iload_n X.1 X.2.1 dX7_arrayTake_3 rfl (lv_at hl 1 rfl) ?_
  refine n_iadd X.1 X.2.1 dX7_arrayTake_4 ?_
  refine lv_iload_n X.1 X.2.1 dX7_arrayTake_5 rfl (lv_at hl 2 rfl) ?_
  refine mcalli hq X hW (mt_taken_1b l hq T D th (w := w) (a := 3 + w) (row := row) hw h) (cwV 3 X.2.2.2.2 gX7_arrayTake_X7_taken rfl rfl rfl (by decide +kernel) ⟨Nat.le_of_ble_eq_true rfl, Nat.le_of_ble_eq_true rfl⟩) rfl rfl hl.1 (Nat.le_of_ble_eq_true rfl) dX7_arrayTake_6 ⟨Nat.zero_le _, Nat.zero_le _⟩ (fun H locs hW => ?_)
  exact hE _ _ _ _ _ (rfl) (fun ty hty => by cases hty; exact rfl) hW dX7_arrayTake_9

set_option maxHeartbeats 4000000 in
set_option maxRecDepth 100000 in
theorem mt_arrayTake (l : Launch) {G : va_G} {cI cZ : ClassId} {q : Nat → Nat} (hq : mJ q) (T : mT) (D : mD) (th : Int32) (I : mI T) {w r : Nat} (hw : w < 3) (hr : r < 4) : mMi l yX7_arrayTake wsX7_arrayTake ({ frames := 3, cells := 0, slots := 0, locals := 71 } : Room) G cI cZ q [.int (nI (w)), .int (nI (r))] (T) (D) (th) (nI (T 7 (3 + w))) (beT T r (T 7 (3 + w))) (beD T (cpF D 19 0 (fun i => D 6 (256 * (3 + w) + i)) (T 7 (3 + w))) (T 7 (3 + w))) (nI 0) := by
  refine mstarti (cc := cX7_arrayTake) (maxL := 3) (ret := (some .int)) (by decide) rfl rfl ⟨_, rfl⟩ (Nat.le_of_ble_eq_true rfl) (fun p e s m args below meth c Q hE X hW ls hl => ?_)
  have hl : lv_has ls 3 [(0, .ref (q 0)), (1, .int (nI (w))), (2, .int (nI (r)))] := hl
  have hin : ∀ w ∈ wsX70, w ∈ wsX7_arrayTake := fun w h => List.mem_cons_of_mem _ (List.mem_append_left _ (List.mem_append_right _ (h)))
  refine lv_aload_n X.1 X.2.1 dX7_arrayTake_0 rfl (lv_at hl 0 rfl) ?_
  refine lv_iload_n X.1 X.2.1 dX7_arrayTake_1 rfl (lv_at hl 1 rfl) ?_
  refine lv_iconst (v := nI 3) X.1 X.2.1 dX7_arrayTake_2 (by decide) ?_
  refine lv_iload_n X.1 X.2.1 dX7_arrayTake_3 rfl (lv_at hl 1 rfl) ?_
  refine n_iadd X.1 X.2.1 dX7_arrayTake_4 ?_
  refine lv_iload_n X.1 X.2.1 dX7_arrayTake_5 rfl (lv_at hl 2 rfl) ?_
  refine mcalli hq X hW (mt_taken l hq T D th I (w := w) (a := 3 + w) (r := r) hw (by omega) hr) (cwV 3 X.2.2.2.2 gX7_arrayTake_X7_taken rfl rfl rfl (by decide +kernel) ⟨Nat.le_of_ble_eq_true rfl, Nat.le_of_ble_eq_true rfl⟩) rfl rfl hl.1 (Nat.le_of_ble_eq_true rfl) dX7_arrayTake_6 ⟨Nat.zero_le _, Nat.zero_le _⟩ (fun H locs hW => ?_)
  exact hE _ _ _ _ _ (rfl) (fun ty hty => by cases hty; exact rfl) hW dX7_arrayTake_9

theorem mo_arrayTake (l : Launch) {G : va_G} {cI cZ : ClassId} {q : Nat → Nat} (hq : mJ q) (T : mT) (D : mD) (th : Int32) (I : mI T) (J : mJD D) (w row : Int32) : mO l yX7_arrayTake wsX7_arrayTake ({ frames := 3, cells := 0, slots := 0, locals := 71 } : Room) G cI cZ q [.int w, .int row] T D th (sp_taken T D 3 w row) := by
  by_cases h1 : oN w 3
  · rw [show sp_taken T D 3 w row = no T D 1 from if_pos (Or.inl h1)]; exact mt_arrayTake_1a l hq T D th h1
  · obtain ⟨w, hw, rfl⟩ := oN_in (by decide) h1
    by_cases h2 : oN row 4
    · rw [show sp_taken T D 3 (nI w) row = no T D 1 from if_pos (Or.inr h2)]; exact mt_arrayTake_1b l hq T D th hw h2
    · obtain ⟨r, hr, rfl⟩ := oN_in (by decide) h2
      rw [show sp_taken T D 3 (nI w) (nI r) = sk_taken T D (3 + w) r from (if_neg (fun z => z.elim h1 h2)).trans (by rw [nI_clamp (by omega), nI_clamp (by omega), show 3 + w = 3 + w by omega])]
      exact mt_arrayTake l hq T D th I hw hr

set_option maxHeartbeats 4000000 in
set_option maxRecDepth 100000 in
theorem mt_begin_1 (l : Launch) {G : va_G} {cI cZ : ClassId} {q : Nat → Nat} (hq : mJ q) (T : mT) (D : mD) (th : Int32) {w : Int32} (h : oN w 3) : mMi l yX7_begin wsX7_begin ({ frames := 1, cells := 0, slots := 0, locals := 22 } : Room) G cI cZ q [.int (w)] (T) (D) (th) (nI 0) (T) (D) (nI 1) := by
  refine mstarti (cc := cX7_begin) (maxL := 2) (ret := (some .int)) (by decide) rfl rfl ⟨_, rfl⟩ (Nat.le_of_ble_eq_true rfl) (fun p e s m args below meth c Q hE X hW ls hl => ?_)
  have hl : lv_has ls 2 [(0, .ref (q 0)), (1, .int (w))] := hl
  have hin : ∀ w ∈ wsX70, w ∈ wsX7_begin := fun w h => List.mem_cons_of_mem _ (List.mem_append_left _ (List.mem_append_right _ (h)))
  refine lv_aload_n X.1 X.2.1 dX7_begin_0 rfl (lv_at hl 0 rfl) ?_
  refine lv_aload_n X.1 X.2.1 dX7_begin_1 rfl (lv_at hl 0 rfl) ?_
  refine lv_iload_n X.1 X.2.1 dX7_begin_2 rfl (lv_at hl 1 rfl) ?_
  refine mcalli hq X hW (mt_isOther_bad l hq (T) (D) (th) (x := w) (h)) (cwV 1 X.2.2.2.2 gX7_begin_X7_isOther rfl rfl rfl (by decide +kernel) ⟨Nat.le_of_ble_eq_true rfl, Nat.le_of_ble_eq_true rfl⟩) rfl rfl hl.1 (Nat.le_of_ble_eq_true rfl) dX7_begin_3 ⟨Nat.zero_le _, Nat.zero_le _⟩ (fun H locs hW => ?_)
  refine n_if_eq_t (tgt := 13) X.1 X.2.1 dX7_begin_6 (by decide) (by decide) (by omega) ?_
  refine lv_iconst (v := nI 1) X.1 X.2.1 dX7_begin_13 (by decide) ?_
  refine mcalli hq X hW (mt_isWrong_s l hq (T) (D) (th) (n := 1) (by decide) (by decide)) (cwV 1 X.2.2.2.2 gX7_begin_X7_isWrong rfl rfl rfl (by decide +kernel) ⟨Nat.le_of_ble_eq_true rfl, Nat.le_of_ble_eq_true rfl⟩) rfl rfl hl.1 (Nat.le_of_ble_eq_true rfl) dX7_begin_14 ⟨Nat.zero_le _, Nat.zero_le _⟩ (fun H locs hW => ?_)
  refine n_if_eq_f (tgt := 24) X.1 X.2.1 dX7_begin_17 (by decide) (by decide) (by omega) ?_
  refine lv_iconst (v := nI 0) X.1 X.2.1 dX7_begin_20 (by decide) ?_
  refine lv_goto (tgt := 29) X.1 X.2.1 dX7_begin_21 (by decide) ?_
  exact hE _ _ _ _ _ (rfl) (fun ty hty => by cases hty; exact rfl) hW dX7_begin_29

set_option maxHeartbeats 4000000 in
set_option maxRecDepth 100000 in
theorem mt_begin (l : Launch) {G : va_G} {cI cZ : ClassId} {q : Nat → Nat} (hq : mJ q) (T : mT) (D : mD) (th : Int32) {w : Nat} (hw : w < 3) : mMi l yX7_begin wsX7_begin ({ frames := 1, cells := 0, slots := 0, locals := 22 } : Room) G cI cZ q [.int (nI (w))] (T) (D) (th) (nI (T 7 (w))) (u2 T 7 (w) 0) (D) (nI 0) := by
  refine mstarti (cc := cX7_begin) (maxL := 2) (ret := (some .int)) (by decide) rfl rfl ⟨_, rfl⟩ (Nat.le_of_ble_eq_true rfl) (fun p e s m args below meth c Q hE X hW ls hl => ?_)
  have hl : lv_has ls 2 [(0, .ref (q 0)), (1, .int (nI (w)))] := hl
  have hin : ∀ w ∈ wsX70, w ∈ wsX7_begin := fun w h => List.mem_cons_of_mem _ (List.mem_append_left _ (List.mem_append_right _ (h)))
  refine lv_aload_n X.1 X.2.1 dX7_begin_0 rfl (lv_at hl 0 rfl) ?_
  refine lv_aload_n X.1 X.2.1 dX7_begin_1 rfl (lv_at hl 0 rfl) ?_
  refine lv_iload_n X.1 X.2.1 dX7_begin_2 rfl (lv_at hl 1 rfl) ?_
  refine mcalli hq X hW (mt_isOther_ok l hq (T) (D) (th) (r := w) (by omega)) (cwV 1 X.2.2.2.2 gX7_begin_X7_isOther rfl rfl rfl (by decide +kernel) ⟨Nat.le_of_ble_eq_true rfl, Nat.le_of_ble_eq_true rfl⟩) rfl rfl hl.1 (Nat.le_of_ble_eq_true rfl) dX7_begin_3 ⟨Nat.zero_le _, Nat.zero_le _⟩ (fun H locs hW => ?_)
  refine n_if_eq_f (tgt := 13) X.1 X.2.1 dX7_begin_6 (by decide) (by decide) (by omega) ?_
  refine lv_iconst (v := nI 0) X.1 X.2.1 dX7_begin_9 (by decide) ?_
  refine lv_goto (tgt := 14) X.1 X.2.1 dX7_begin_10 (by decide) ?_
  refine mcalli hq X hW (mt_isWrong_0 l hq (T) (D) (th)) (cwV 1 X.2.2.2.2 gX7_begin_X7_isWrong rfl rfl rfl (by decide +kernel) ⟨Nat.le_of_ble_eq_true rfl, Nat.le_of_ble_eq_true rfl⟩) rfl rfl hl.1 (Nat.le_of_ble_eq_true rfl) dX7_begin_14 ⟨Nat.zero_le _, Nat.zero_le _⟩ (fun H locs hW => ?_)
  refine n_if_eq_t (tgt := 24) X.1 X.2.1 dX7_begin_17 (by decide) (by decide) (by omega) ?_
  refine lv_aload_n X.1 X.2.1 dX7_begin_24 rfl (lv_at hl 0 rfl) ?_
  refine lv_iload_n X.1 X.2.1 dX7_begin_25 rfl (lv_at hl 1 rfl) ?_
  refine mcalli hq X hW (mt_emptied l hq (T) (D) (nI 0) (w := w) (by omega)) (cwV 1 X.2.2.2.2 gX7_begin_X7_emptied rfl rfl rfl (by decide +kernel) ⟨Nat.le_of_ble_eq_true rfl, Nat.le_of_ble_eq_true rfl⟩) rfl rfl hl.1 (Nat.le_of_ble_eq_true rfl) dX7_begin_26 ⟨Nat.zero_le _, Nat.zero_le _⟩ (fun H locs hW => ?_)
  exact hE _ _ _ _ _ (rfl) (fun ty hty => by cases hty; exact rfl) hW dX7_begin_29

theorem mo_begin (l : Launch) {G : va_G} {cI cZ : ClassId} {q : Nat → Nat} (hq : mJ q) (T : mT) (D : mD) (th : Int32) (I : mI T) (J : mJD D) (w : Int32) : mO l yX7_begin wsX7_begin ({ frames := 1, cells := 0, slots := 0, locals := 22 } : Room) G cI cZ q [.int w] T D th (sp_begin T D 0 w) := by
  by_cases h1 : oN w 3
  · rw [show sp_begin T D 0 w = no T D 1 from if_pos h1]; exact mt_begin_1 l hq T D th h1
  · obtain ⟨w, hw, rfl⟩ := oN_in (by decide) h1
    rw [show sp_begin T D 0 (nI w) = (0, nI (T 7 (w)), u2 T 7 (w) 0, D) from (if_neg h1).trans (by rw [nI_clamp (by omega), show 0 + w = w by omega])]
    exact mt_begin l hq T D th hw

set_option maxHeartbeats 4000000 in
set_option maxRecDepth 100000 in
theorem mt_empty_1 (l : Launch) {G : va_G} {cI cZ : ClassId} {q : Nat → Nat} (hq : mJ q) (T : mT) (D : mD) (th : Int32) {w : Int32} (h : oN w 3) : mMi l yX7_empty wsX7_empty ({ frames := 1, cells := 0, slots := 0, locals := 22 } : Room) G cI cZ q [.int (w)] (T) (D) (th) (nI 0) (T) (D) (nI 1) := by
  refine mstarti (cc := cX7_empty) (maxL := 2) (ret := (some .int)) (by decide) rfl rfl ⟨_, rfl⟩ (Nat.le_of_ble_eq_true rfl) (fun p e s m args below meth c Q hE X hW ls hl => ?_)
  have hl : lv_has ls 2 [(0, .ref (q 0)), (1, .int (w))] := hl
  have hin : ∀ w ∈ wsX70, w ∈ wsX7_empty := fun w h => List.mem_cons_of_mem _ (List.mem_append_left _ (List.mem_append_right _ (h)))
  refine lv_aload_n X.1 X.2.1 dX7_empty_0 rfl (lv_at hl 0 rfl) ?_
  refine lv_aload_n X.1 X.2.1 dX7_empty_1 rfl (lv_at hl 0 rfl) ?_
  refine lv_iload_n X.1 X.2.1 dX7_empty_2 rfl (lv_at hl 1 rfl) ?_
  refine mcalli hq X hW (mt_isOther_bad l hq (T) (D) (th) (x := w) (h)) (cwV 1 X.2.2.2.2 gX7_empty_X7_isOther rfl rfl rfl (by decide +kernel) ⟨Nat.le_of_ble_eq_true rfl, Nat.le_of_ble_eq_true rfl⟩) rfl rfl hl.1 (Nat.le_of_ble_eq_true rfl) dX7_empty_3 ⟨Nat.zero_le _, Nat.zero_le _⟩ (fun H locs hW => ?_)
  refine n_if_eq_t (tgt := 13) X.1 X.2.1 dX7_empty_6 (by decide) (by decide) (by omega) ?_
  refine lv_iconst (v := nI 1) X.1 X.2.1 dX7_empty_13 (by decide) ?_
  refine mcalli hq X hW (mt_isWrong_s l hq (T) (D) (th) (n := 1) (by decide) (by decide)) (cwV 1 X.2.2.2.2 gX7_empty_X7_isWrong rfl rfl rfl (by decide +kernel) ⟨Nat.le_of_ble_eq_true rfl, Nat.le_of_ble_eq_true rfl⟩) rfl rfl hl.1 (Nat.le_of_ble_eq_true rfl) dX7_empty_14 ⟨Nat.zero_le _, Nat.zero_le _⟩ (fun H locs hW => ?_)
  refine n_if_eq_f (tgt := 24) X.1 X.2.1 dX7_empty_17 (by decide) (by decide) (by omega) ?_
  refine lv_iconst (v := nI 0) X.1 X.2.1 dX7_empty_20 (by decide) ?_
  refine lv_goto (tgt := 31) X.1 X.2.1 dX7_empty_21 (by decide) ?_
  exact hE _ _ _ _ _ (rfl) (fun ty hty => by cases hty; exact rfl) hW dX7_empty_31

set_option maxHeartbeats 4000000 in
set_option maxRecDepth 100000 in
theorem mt_empty (l : Launch) {G : va_G} {cI cZ : ClassId} {q : Nat → Nat} (hq : mJ q) (T : mT) (D : mD) (th : Int32) {w : Nat} (hw : w < 3) : mMi l yX7_empty wsX7_empty ({ frames := 1, cells := 0, slots := 0, locals := 22 } : Room) G cI cZ q [.int (nI (w))] (T) (D) (th) (nI (T 7 (3 + w))) (u2 T 7 (3 + w) 0) (D) (nI 0) := by
  refine mstarti (cc := cX7_empty) (maxL := 2) (ret := (some .int)) (by decide) rfl rfl ⟨_, rfl⟩ (Nat.le_of_ble_eq_true rfl) (fun p e s m args below meth c Q hE X hW ls hl => ?_)
  have hl : lv_has ls 2 [(0, .ref (q 0)), (1, .int (nI (w)))] := hl
  have hin : ∀ w ∈ wsX70, w ∈ wsX7_empty := fun w h => List.mem_cons_of_mem _ (List.mem_append_left _ (List.mem_append_right _ (h)))
  refine lv_aload_n X.1 X.2.1 dX7_empty_0 rfl (lv_at hl 0 rfl) ?_
  refine lv_aload_n X.1 X.2.1 dX7_empty_1 rfl (lv_at hl 0 rfl) ?_
  refine lv_iload_n X.1 X.2.1 dX7_empty_2 rfl (lv_at hl 1 rfl) ?_
  refine mcalli hq X hW (mt_isOther_ok l hq (T) (D) (th) (r := w) (by omega)) (cwV 1 X.2.2.2.2 gX7_empty_X7_isOther rfl rfl rfl (by decide +kernel) ⟨Nat.le_of_ble_eq_true rfl, Nat.le_of_ble_eq_true rfl⟩) rfl rfl hl.1 (Nat.le_of_ble_eq_true rfl) dX7_empty_3 ⟨Nat.zero_le _, Nat.zero_le _⟩ (fun H locs hW => ?_)
  refine n_if_eq_f (tgt := 13) X.1 X.2.1 dX7_empty_6 (by decide) (by decide) (by omega) ?_
  refine lv_iconst (v := nI 0) X.1 X.2.1 dX7_empty_9 (by decide) ?_
  refine lv_goto (tgt := 14) X.1 X.2.1 dX7_empty_10 (by decide) ?_
  refine mcalli hq X hW (mt_isWrong_0 l hq (T) (D) (th)) (cwV 1 X.2.2.2.2 gX7_empty_X7_isWrong rfl rfl rfl (by decide +kernel) ⟨Nat.le_of_ble_eq_true rfl, Nat.le_of_ble_eq_true rfl⟩) rfl rfl hl.1 (Nat.le_of_ble_eq_true rfl) dX7_empty_14 ⟨Nat.zero_le _, Nat.zero_le _⟩ (fun H locs hW => ?_)
  refine n_if_eq_t (tgt := 24) X.1 X.2.1 dX7_empty_17 (by decide) (by decide) (by omega) ?_
  refine lv_aload_n X.1 X.2.1 dX7_empty_24 rfl (lv_at hl 0 rfl) ?_
  refine lv_iconst (v := nI 3) X.1 X.2.1 dX7_empty_25 (by decide) ?_
  refine lv_iload_n X.1 X.2.1 dX7_empty_26 rfl (lv_at hl 1 rfl) ?_
  refine n_iadd X.1 X.2.1 dX7_empty_27 ?_
  refine mcalli hq X hW (mt_emptied l hq (T) (D) (nI 0) (w := 3 + w) (by omega)) (cwV 1 X.2.2.2.2 gX7_empty_X7_emptied rfl rfl rfl (by decide +kernel) ⟨Nat.le_of_ble_eq_true rfl, Nat.le_of_ble_eq_true rfl⟩) rfl rfl hl.1 (Nat.le_of_ble_eq_true rfl) dX7_empty_28 ⟨Nat.zero_le _, Nat.zero_le _⟩ (fun H locs hW => ?_)
  exact hE _ _ _ _ _ (rfl) (fun ty hty => by cases hty; exact rfl) hW dX7_empty_31

theorem mo_empty (l : Launch) {G : va_G} {cI cZ : ClassId} {q : Nat → Nat} (hq : mJ q) (T : mT) (D : mD) (th : Int32) (I : mI T) (J : mJD D) (w : Int32) : mO l yX7_empty wsX7_empty ({ frames := 1, cells := 0, slots := 0, locals := 22 } : Room) G cI cZ q [.int w] T D th (sp_begin T D 3 w) := by
  by_cases h1 : oN w 3
  · rw [show sp_begin T D 3 w = no T D 1 from if_pos h1]; exact mt_empty_1 l hq T D th h1
  · obtain ⟨w, hw, rfl⟩ := oN_in (by decide) h1
    rw [show sp_begin T D 3 (nI w) = (0, nI (T 7 (3 + w)), u2 T 7 (3 + w) 0, D) from (if_neg h1).trans (by rw [nI_clamp (by omega), show 3 + w = 3 + w by omega])]
    exact mt_empty l hq T D th hw

set_option maxHeartbeats 4000000 in
set_option maxRecDepth 100000 in
theorem mt_size_1 (l : Launch) {G : va_G} {cI cZ : ClassId} {q : Nat → Nat} (hq : mJ q) (T : mT) (D : mD) (th : Int32) {w : Int32} (h : oN w 3) : mMi l yX7_size wsX7_size ({ frames := 1, cells := 0, slots := 0, locals := 21 } : Room) G cI cZ q [.int (w)] (T) (D) (th) (nI 0) (T) (D) (nI 1) := by
  refine mstarti (cc := cX7_size) (maxL := 2) (ret := (some .int)) (by decide) rfl rfl ⟨_, rfl⟩ (Nat.le_of_ble_eq_true rfl) (fun p e s m args below meth c Q hE X hW ls hl => ?_)
  have hl : lv_has ls 2 [(0, .ref (q 0)), (1, .int (w))] := hl
  have hin : ∀ w ∈ wsX70, w ∈ wsX7_size := fun w h => List.mem_cons_of_mem _ (List.mem_append_left _ (List.mem_append_right _ (h)))
  refine lv_aload_n X.1 X.2.1 dX7_size_0 rfl (lv_at hl 0 rfl) ?_
  refine lv_aload_n X.1 X.2.1 dX7_size_1 rfl (lv_at hl 0 rfl) ?_
  refine lv_iload_n X.1 X.2.1 dX7_size_2 rfl (lv_at hl 1 rfl) ?_
  refine mcalli hq X hW (mt_isOther_bad l hq (T) (D) (th) (x := w) (h)) (cwV 1 X.2.2.2.2 gX7_size_X7_isOther rfl rfl rfl (by decide +kernel) ⟨Nat.le_of_ble_eq_true rfl, Nat.le_of_ble_eq_true rfl⟩) rfl rfl hl.1 (Nat.le_of_ble_eq_true rfl) dX7_size_3 ⟨Nat.zero_le _, Nat.zero_le _⟩ (fun H locs hW => ?_)
  refine n_if_eq_t (tgt := 13) X.1 X.2.1 dX7_size_6 (by decide) (by decide) (by omega) ?_
  refine lv_iconst (v := nI 1) X.1 X.2.1 dX7_size_13 (by decide) ?_
  refine mcalli hq X hW (mt_isWrong_s l hq (T) (D) (th) (n := 1) (by decide) (by decide)) (cwV 1 X.2.2.2.2 gX7_size_X7_isWrong rfl rfl rfl (by decide +kernel) ⟨Nat.le_of_ble_eq_true rfl, Nat.le_of_ble_eq_true rfl⟩) rfl rfl hl.1 (Nat.le_of_ble_eq_true rfl) dX7_size_14 ⟨Nat.zero_le _, Nat.zero_le _⟩ (fun H locs hW => ?_)
  refine n_if_eq_f (tgt := 24) X.1 X.2.1 dX7_size_17 (by decide) (by decide) (by omega) ?_
  refine lv_iconst (v := nI 0) X.1 X.2.1 dX7_size_20 (by decide) ?_
  refine lv_goto (tgt := 30) X.1 X.2.1 dX7_size_21 (by decide) ?_
  exact hE _ _ _ _ _ (rfl) (fun ty hty => by cases hty; exact rfl) hW dX7_size_30

set_option maxHeartbeats 4000000 in
set_option maxRecDepth 100000 in
theorem mt_size (l : Launch) {G : va_G} {cI cZ : ClassId} {q : Nat → Nat} (hq : mJ q) (T : mT) (D : mD) (th : Int32) {w : Nat} (hw : w < 3) : mMi l yX7_size wsX7_size ({ frames := 1, cells := 0, slots := 0, locals := 21 } : Room) G cI cZ q [.int (nI (w))] (T) (D) (th) (nI (T 7 (w))) (T) (D) (nI 0) := by
  refine mstarti (cc := cX7_size) (maxL := 2) (ret := (some .int)) (by decide) rfl rfl ⟨_, rfl⟩ (Nat.le_of_ble_eq_true rfl) (fun p e s m args below meth c Q hE X hW ls hl => ?_)
  have hl : lv_has ls 2 [(0, .ref (q 0)), (1, .int (nI (w)))] := hl
  have hin : ∀ w ∈ wsX70, w ∈ wsX7_size := fun w h => List.mem_cons_of_mem _ (List.mem_append_left _ (List.mem_append_right _ (h)))
  refine lv_aload_n X.1 X.2.1 dX7_size_0 rfl (lv_at hl 0 rfl) ?_
  refine lv_aload_n X.1 X.2.1 dX7_size_1 rfl (lv_at hl 0 rfl) ?_
  refine lv_iload_n X.1 X.2.1 dX7_size_2 rfl (lv_at hl 1 rfl) ?_
  refine mcalli hq X hW (mt_isOther_ok l hq (T) (D) (th) (r := w) (by omega)) (cwV 1 X.2.2.2.2 gX7_size_X7_isOther rfl rfl rfl (by decide +kernel) ⟨Nat.le_of_ble_eq_true rfl, Nat.le_of_ble_eq_true rfl⟩) rfl rfl hl.1 (Nat.le_of_ble_eq_true rfl) dX7_size_3 ⟨Nat.zero_le _, Nat.zero_le _⟩ (fun H locs hW => ?_)
  refine n_if_eq_f (tgt := 13) X.1 X.2.1 dX7_size_6 (by decide) (by decide) (by omega) ?_
  refine lv_iconst (v := nI 0) X.1 X.2.1 dX7_size_9 (by decide) ?_
  refine lv_goto (tgt := 14) X.1 X.2.1 dX7_size_10 (by decide) ?_
  refine mcalli hq X hW (mt_isWrong_0 l hq (T) (D) (th)) (cwV 1 X.2.2.2.2 gX7_size_X7_isWrong rfl rfl rfl (by decide +kernel) ⟨Nat.le_of_ble_eq_true rfl, Nat.le_of_ble_eq_true rfl⟩) rfl rfl hl.1 (Nat.le_of_ble_eq_true rfl) dX7_size_14 ⟨Nat.zero_le _, Nat.zero_le _⟩ (fun H locs hW => ?_)
  refine n_if_eq_t (tgt := 24) X.1 X.2.1 dX7_size_17 (by decide) (by decide) (by omega) ?_
  refine lv_aload_n X.1 X.2.1 dX7_size_24 rfl (lv_at hl 0 rfl) ?_
  refine mget 7 (by decide) rfl X hin hW (X.2.2.2.2 (.fieldLink RX7 31 "StrandbookModel" "sizes" "[I") (List.mem_cons_of_mem _ (List.mem_append_left _ (List.mem_append_left _ (List.mem_of_getElem? (i := 0) rfl))))) dX7_size_25 ?_
  refine lv_iload_n X.1 X.2.1 dX7_size_28 rfl (lv_at hl 1 rfl) ?_
  refine mld7 X hW (by omega) dX7_size_29 ?_
  exact hE _ _ _ _ _ (rfl) (fun ty hty => by cases hty; exact rfl) hW dX7_size_30

theorem mo_size (l : Launch) {G : va_G} {cI cZ : ClassId} {q : Nat → Nat} (hq : mJ q) (T : mT) (D : mD) (th : Int32) (I : mI T) (J : mJD D) (w : Int32) : mO l yX7_size wsX7_size ({ frames := 1, cells := 0, slots := 0, locals := 21 } : Room) G cI cZ q [.int w] T D th (sp_size T D 0 w) := by
  by_cases h1 : oN w 3
  · rw [show sp_size T D 0 w = no T D 1 from if_pos h1]; exact mt_size_1 l hq T D th h1
  · obtain ⟨w, hw, rfl⟩ := oN_in (by decide) h1
    rw [show sp_size T D 0 (nI w) = (0, nI (T 7 (w)), T, D) from (if_neg h1).trans (by rw [nI_clamp (by omega), show 0 + w = w by omega])]
    exact mt_size l hq T D th hw

set_option maxHeartbeats 4000000 in
set_option maxRecDepth 100000 in
theorem mt_arraySize_1 (l : Launch) {G : va_G} {cI cZ : ClassId} {q : Nat → Nat} (hq : mJ q) (T : mT) (D : mD) (th : Int32) {w : Int32} (h : oN w 3) : mMi l yX7_arraySize wsX7_arraySize ({ frames := 1, cells := 0, slots := 0, locals := 21 } : Room) G cI cZ q [.int (w)] (T) (D) (th) (nI 0) (T) (D) (nI 1) := by
  refine mstarti (cc := cX7_arraySize) (maxL := 2) (ret := (some .int)) (by decide) rfl rfl ⟨_, rfl⟩ (Nat.le_of_ble_eq_true rfl) (fun p e s m args below meth c Q hE X hW ls hl => ?_)
  have hl : lv_has ls 2 [(0, .ref (q 0)), (1, .int (w))] := hl
  have hin : ∀ w ∈ wsX70, w ∈ wsX7_arraySize := fun w h => List.mem_cons_of_mem _ (List.mem_append_left _ (List.mem_append_right _ (h)))
  refine lv_aload_n X.1 X.2.1 dX7_arraySize_0 rfl (lv_at hl 0 rfl) ?_
  refine lv_aload_n X.1 X.2.1 dX7_arraySize_1 rfl (lv_at hl 0 rfl) ?_
  refine lv_iload_n X.1 X.2.1 dX7_arraySize_2 rfl (lv_at hl 1 rfl) ?_
  refine mcalli hq X hW (mt_isOther_bad l hq (T) (D) (th) (x := w) (h)) (cwV 1 X.2.2.2.2 gX7_arraySize_X7_isOther rfl rfl rfl (by decide +kernel) ⟨Nat.le_of_ble_eq_true rfl, Nat.le_of_ble_eq_true rfl⟩) rfl rfl hl.1 (Nat.le_of_ble_eq_true rfl) dX7_arraySize_3 ⟨Nat.zero_le _, Nat.zero_le _⟩ (fun H locs hW => ?_)
  refine n_if_eq_t (tgt := 13) X.1 X.2.1 dX7_arraySize_6 (by decide) (by decide) (by omega) ?_
  refine lv_iconst (v := nI 1) X.1 X.2.1 dX7_arraySize_13 (by decide) ?_
  refine mcalli hq X hW (mt_isWrong_s l hq (T) (D) (th) (n := 1) (by decide) (by decide)) (cwV 1 X.2.2.2.2 gX7_arraySize_X7_isWrong rfl rfl rfl (by decide +kernel) ⟨Nat.le_of_ble_eq_true rfl, Nat.le_of_ble_eq_true rfl⟩) rfl rfl hl.1 (Nat.le_of_ble_eq_true rfl) dX7_arraySize_14 ⟨Nat.zero_le _, Nat.zero_le _⟩ (fun H locs hW => ?_)
  refine n_if_eq_f (tgt := 24) X.1 X.2.1 dX7_arraySize_17 (by decide) (by decide) (by omega) ?_
  refine lv_iconst (v := nI 0) X.1 X.2.1 dX7_arraySize_20 (by decide) ?_
  refine lv_goto (tgt := 32) X.1 X.2.1 dX7_arraySize_21 (by decide) ?_
  exact hE _ _ _ _ _ (rfl) (fun ty hty => by cases hty; exact rfl) hW dX7_arraySize_32

set_option maxHeartbeats 4000000 in
set_option maxRecDepth 100000 in
theorem mt_arraySize (l : Launch) {G : va_G} {cI cZ : ClassId} {q : Nat → Nat} (hq : mJ q) (T : mT) (D : mD) (th : Int32) {w : Nat} (hw : w < 3) : mMi l yX7_arraySize wsX7_arraySize ({ frames := 1, cells := 0, slots := 0, locals := 21 } : Room) G cI cZ q [.int (nI (w))] (T) (D) (th) (nI (T 7 (3 + w))) (T) (D) (nI 0) := by
  refine mstarti (cc := cX7_arraySize) (maxL := 2) (ret := (some .int)) (by decide) rfl rfl ⟨_, rfl⟩ (Nat.le_of_ble_eq_true rfl) (fun p e s m args below meth c Q hE X hW ls hl => ?_)
  have hl : lv_has ls 2 [(0, .ref (q 0)), (1, .int (nI (w)))] := hl
  have hin : ∀ w ∈ wsX70, w ∈ wsX7_arraySize := fun w h => List.mem_cons_of_mem _ (List.mem_append_left _ (List.mem_append_right _ (h)))
  refine lv_aload_n X.1 X.2.1 dX7_arraySize_0 rfl (lv_at hl 0 rfl) ?_
  refine lv_aload_n X.1 X.2.1 dX7_arraySize_1 rfl (lv_at hl 0 rfl) ?_
  refine lv_iload_n X.1 X.2.1 dX7_arraySize_2 rfl (lv_at hl 1 rfl) ?_
  refine mcalli hq X hW (mt_isOther_ok l hq (T) (D) (th) (r := w) (by omega)) (cwV 1 X.2.2.2.2 gX7_arraySize_X7_isOther rfl rfl rfl (by decide +kernel) ⟨Nat.le_of_ble_eq_true rfl, Nat.le_of_ble_eq_true rfl⟩) rfl rfl hl.1 (Nat.le_of_ble_eq_true rfl) dX7_arraySize_3 ⟨Nat.zero_le _, Nat.zero_le _⟩ (fun H locs hW => ?_)
  refine n_if_eq_f (tgt := 13) X.1 X.2.1 dX7_arraySize_6 (by decide) (by decide) (by omega) ?_
  refine lv_iconst (v := nI 0) X.1 X.2.1 dX7_arraySize_9 (by decide) ?_
  refine lv_goto (tgt := 14) X.1 X.2.1 dX7_arraySize_10 (by decide) ?_
  refine mcalli hq X hW (mt_isWrong_0 l hq (T) (D) (th)) (cwV 1 X.2.2.2.2 gX7_arraySize_X7_isWrong rfl rfl rfl (by decide +kernel) ⟨Nat.le_of_ble_eq_true rfl, Nat.le_of_ble_eq_true rfl⟩) rfl rfl hl.1 (Nat.le_of_ble_eq_true rfl) dX7_arraySize_14 ⟨Nat.zero_le _, Nat.zero_le _⟩ (fun H locs hW => ?_)
  refine n_if_eq_t (tgt := 24) X.1 X.2.1 dX7_arraySize_17 (by decide) (by decide) (by omega) ?_
  refine lv_aload_n X.1 X.2.1 dX7_arraySize_24 rfl (lv_at hl 0 rfl) ?_
  refine mget 7 (by decide) rfl X hin hW (X.2.2.2.2 (.fieldLink RX7 31 "StrandbookModel" "sizes" "[I") (List.mem_cons_of_mem _ (List.mem_append_left _ (List.mem_append_left _ (List.mem_of_getElem? (i := 0) rfl))))) dX7_arraySize_25 ?_
  refine lv_iconst (v := nI 3) X.1 X.2.1 dX7_arraySize_28 (by decide) ?_
  refine lv_iload_n X.1 X.2.1 dX7_arraySize_29 rfl (lv_at hl 1 rfl) ?_
  refine n_iadd X.1 X.2.1 dX7_arraySize_30 ?_
  refine mld7 X hW (by omega) dX7_arraySize_31 ?_
  exact hE _ _ _ _ _ (rfl) (fun ty hty => by cases hty; exact rfl) hW dX7_arraySize_32

theorem mo_arraySize (l : Launch) {G : va_G} {cI cZ : ClassId} {q : Nat → Nat} (hq : mJ q) (T : mT) (D : mD) (th : Int32) (I : mI T) (J : mJD D) (w : Int32) : mO l yX7_arraySize wsX7_arraySize ({ frames := 1, cells := 0, slots := 0, locals := 21 } : Room) G cI cZ q [.int w] T D th (sp_size T D 3 w) := by
  by_cases h1 : oN w 3
  · rw [show sp_size T D 3 w = no T D 1 from if_pos h1]; exact mt_arraySize_1 l hq T D th h1
  · obtain ⟨w, hw, rfl⟩ := oN_in (by decide) h1
    rw [show sp_size T D 3 (nI w) = (0, nI (T 7 (3 + w)), T, D) from (if_neg h1).trans (by rw [nI_clamp (by omega), show 3 + w = 3 + w by omega])]
    exact mt_arraySize l hq T D th hw

set_option maxHeartbeats 4000000 in
set_option maxRecDepth 100000 in
theorem mt_poured (l : Launch) {G : va_G} {cI cZ : ClassId} {q : Nat → Nat} (hq : mJ q) (T : mT) (D : mD) (th : Int32) (I : mI T) {a b : Nat} (ha : a < 6) (hb : b < 6) (hab : a ≠ b) (h : T 7 b + T 7 a ≤ 256) : mMi l yX7_poured wsX7_poured ({ frames := 1, cells := 0, slots := 0, locals := 22 } : Room) G cI cZ q [.int (nI (a)), .int (nI (b))] (T) (D) (th) (nI (T 7 b + T 7 a)) (adT T b (T 7 a)) (adD T D b (fun i => D 6 (256 * a + i) &&& nI 255) (T 7 a)) (th) := by
  refine mstarti (cc := cX7_poured) (maxL := 5) (ret := (some .int)) (by decide) rfl rfl ⟨_, rfl⟩ (Nat.le_of_ble_eq_true rfl) (fun p e s m args below meth c Q hE X hW ls hl => ?_)
  have hl : lv_has ls 5 [(0, .ref (q 0)), (1, .int (nI (a))), (2, .int (nI (b)))] := hl
  have hin : ∀ w ∈ wsX70, w ∈ wsX7_poured := fun w h => List.mem_cons_of_mem _ (List.mem_append_left _ (List.mem_append_right _ (h)))
  have I1 := I.wr ha
  have I2 := I.wr hb
  refine lv_aload_n X.1 X.2.1 dX7_poured_0 rfl (lv_at hl 0 rfl) ?_
  refine mget 7 (by decide) rfl X hin hW (X.2.2.2.2 (.fieldLink RX7 31 "StrandbookModel" "sizes" "[I") (List.mem_cons_of_mem _ (List.mem_append_left _ (List.mem_append_left _ (List.mem_of_getElem? (i := 0) rfl))))) dX7_poured_1 ?_
  refine lv_iload_n X.1 X.2.1 dX7_poured_4 rfl (lv_at hl 1 rfl) ?_
  refine mld7 X hW (by omega) dX7_poured_5 ?_
  refine lv_istore_n (lv' := [(3, .int (nI (T 7 (a)))), (0, .ref (q 0)), (1, .int (nI (a))), (2, .int (nI (b)))]) X.1 X.2.1 dX7_poured_6 rfl hl (by decide) rfl (fun ls hl => ?_)
  refine lv_iconst (v := nI 0) X.1 X.2.1 dX7_poured_7 (by decide) ?_
  refine lv_istore (lv' := [(4, .int (nI (0))), (3, .int (nI (T 7 (a)))), (0, .ref (q 0)), (1, .int (nI (a))), (2, .int (nI (b)))]) X.1 X.2.1 dX7_poured_8 hl (by decide) rfl (fun ls hl => ?_)
  have loop10 : ∀ (n10 k10 : Nat), k10 + n10 = T 7 a → ∀ (H : Heap) (locs : List Loc), mH G cI cZ q (adT T (b) k10) (adD T D (b) (fun i => D 6 (256 * a + i) &&& nI 255) k10) (th) s H locs → ∀ ls : Array Slot, lv_has ls 5 [(0, .ref (q 0)), (1, .int (nI (a))), (2, .int (nI (b))), (3, .int (nI (T 7 (a)))), (4, .int (nI (k10)))] → W p l e ({ frames := 1, cells := 0, slots := 0, locals := 22 } : Room) s m args below meth c H locs 0 0 Q (F0 m 10 ls []) := by
    intro n10
    induction n10 with
    | zero =>
      intro k10 hk10  H locs hW ls hl
      obtain rfl : T 7 a = k10 := by omega
      refine lv_iload X.1 X.2.1 dX7_poured_10 (lv_at hl 4 rfl) ?_
      refine lv_iload_n X.1 X.2.1 dX7_poured_12 rfl (lv_at hl 3 rfl) ?_
      refine n_icmp_ge_t (tgt := 40) X.1 X.2.1 dX7_poured_13 (by decide) (by omega) (by omega) (by omega) ?_
      refine lv_aload_n X.1 X.2.1 dX7_poured_40 rfl (lv_at hl 0 rfl) ?_
      refine mget 7 (by decide) rfl X hin hW (X.2.2.2.2 (.fieldLink RX7 31 "StrandbookModel" "sizes" "[I") (List.mem_cons_of_mem _ (List.mem_append_left _ (List.mem_append_left _ (List.mem_of_getElem? (i := 0) rfl))))) dX7_poured_41 ?_
      refine lv_iload_n X.1 X.2.1 dX7_poured_44 rfl (lv_at hl 2 rfl) ?_
      refine mld7 X hW (by omega) dX7_poured_45 ?_
      exact hE _ _ _ _ _ (congrArg nI adT_a) (fun ty hty => by cases hty; exact rfl) hW dX7_poured_46
    | succ n10 ih10 =>
      intro k10 hk10  H locs hW ls hl
      refine lv_iload X.1 X.2.1 dX7_poured_10 (lv_at hl 4 rfl) ?_
      refine lv_iload_n X.1 X.2.1 dX7_poured_12 rfl (lv_at hl 3 rfl) ?_
      refine n_icmp_ge_f (tgt := 40) X.1 X.2.1 dX7_poured_13 (by decide) (by omega) (by omega) (by omega) ?_
      refine lv_aload_n X.1 X.2.1 dX7_poured_16 rfl (lv_at hl 0 rfl) ?_
      refine lv_iload_n X.1 X.2.1 dX7_poured_17 rfl (lv_at hl 2 rfl) ?_
      refine lv_aload_n X.1 X.2.1 dX7_poured_18 rfl (lv_at hl 0 rfl) ?_
      refine mget 6 (by decide) rfl X hin hW (X.2.2.2.2 (.fieldLink RX7 28 "StrandbookModel" "written" "[I") (List.mem_cons_of_mem _ (List.mem_append_left _ (List.mem_append_left _ (List.mem_of_getElem? (i := 1) rfl))))) dX7_poured_19 ?_
      refine lv_sipush (v := nI 256) X.1 X.2.1 dX7_poured_22 (by decide) ?_
      refine lv_iload_n X.1 X.2.1 dX7_poured_25 rfl (lv_at hl 1 rfl) ?_
      refine n_imul X.1 X.2.1 dX7_poured_26 ?_
      refine lv_iload X.1 X.2.1 dX7_poured_27 (lv_at hl 4 rfl) ?_
      refine n_iadd X.1 X.2.1 dX7_poured_29 ?_
      refine mld6 X hW (by omega) dX7_poured_30 ?_
      refine n_cv (y := D 6 (256 * a + k10)) (cpF_out (by omega)) ?_
      refine mcallv hq X hW (mt_adds l hq (adT T (b) k10) (adD T D (b) (fun i => D 6 (256 * a + i) &&& nI 255) k10) (th) (w := b) (x := (D 6 (256 * a + k10))) (by omega) (by rw [adT_a]; omega)) (cwV 2 X.2.2.2.2 gX7_poured_X7_adds rfl rfl rfl (by decide +kernel) ⟨Nat.le_of_ble_eq_true rfl, Nat.le_of_ble_eq_true rfl⟩) rfl rfl hl.1 (Nat.le_of_ble_eq_true rfl) dX7_poured_31 ⟨Nat.zero_le _, Nat.zero_le _⟩ (fun H locs hW => ?_)
      refine lv_iinc (v := nI (k10 + 1)) (lv' := [(4, .int (nI (k10 + 1))), (0, .ref (q 0)), (1, .int (nI (a))), (2, .int (nI (b))), (3, .int (nI (T 7 (a))))]) X.1 X.2.1 dX7_poured_34 hl (k := 4) rfl (nI_1 _) (by decide) rfl (fun ls hl => ?_)
      refine lv_goto (tgt := 10) X.1 X.2.1 dX7_poured_37 (by decide) ?_
      exact ih10 (k10 + 1) (by omega) _ _ (hW.eq (adT_S) (adD_S (rfl)) rfl) ls (lv_sub hl [1, 2, 3, 4, 0] rfl)
  exact loop10 ((T 7 a) - (0)) (0) (by omega) _ _ (hW.eq (adT_0.symm) (adD_0.symm) rfl) ls (lv_sub hl [2, 3, 4, 1, 0] rfl)

set_option maxHeartbeats 4000000 in
set_option maxRecDepth 100000 in
theorem mt_pour_1a (l : Launch) {G : va_G} {cI cZ : ClassId} {q : Nat → Nat} (hq : mJ q) (T : mT) (D : mD) (th : Int32) {w v : Int32} (h : oN w 3) : mMi l yX7_pour wsX7_pour ({ frames := 2, cells := 0, slots := 0, locals := 46 } : Room) G cI cZ q [.int (w), .int (v)] (T) (D) (th) (nI 0) (T) (D) (nI 1) := by
  refine mstarti (cc := cX7_pour) (maxL := 3) (ret := (some .int)) (by decide) rfl rfl ⟨_, rfl⟩ (Nat.le_of_ble_eq_true rfl) (fun p e s m args below meth c Q hE X hW ls hl => ?_)
  have hl : lv_has ls 3 [(0, .ref (q 0)), (1, .int (w)), (2, .int (v))] := hl
  have hin : ∀ w ∈ wsX70, w ∈ wsX7_pour := fun w h => List.mem_cons_of_mem _ (List.mem_append_left _ (List.mem_append_right _ (h)))
  refine lv_aload_n X.1 X.2.1 dX7_pour_0 rfl (lv_at hl 0 rfl) ?_
  refine lv_aload_n X.1 X.2.1 dX7_pour_1 rfl (lv_at hl 0 rfl) ?_
  refine lv_iload_n X.1 X.2.1 dX7_pour_2 rfl (lv_at hl 1 rfl) ?_
  refine mcalli hq X hW (mt_isOther_bad l hq (T) (D) (th) (x := w) (h)) (cwV 1 X.2.2.2.2 gX7_pour_X7_isOther rfl rfl rfl (by decide +kernel) ⟨Nat.le_of_ble_eq_true rfl, Nat.le_of_ble_eq_true rfl⟩) rfl rfl hl.1 (Nat.le_of_ble_eq_true rfl) dX7_pour_3 ⟨Nat.zero_le _, Nat.zero_le _⟩ (fun H locs hW => ?_)
  refine n_if_eq_t (tgt := 17) X.1 X.2.1 dX7_pour_6 (by decide) (by decide) (by omega) ?_
  refine lv_iconst (v := nI 1) X.1 X.2.1 dX7_pour_17 (by decide) ?_
  refine lv_goto (tgt := 42) X.1 X.2.1 dX7_pour_18 (by decide) ?_
  refine mcalli hq X hW (mt_isWrong_s l hq (T) (D) (th) (n := 1) (by decide) (by decide)) (cwV 1 X.2.2.2.2 gX7_pour_X7_isWrong rfl rfl rfl (by decide +kernel) ⟨Nat.le_of_ble_eq_true rfl, Nat.le_of_ble_eq_true rfl⟩) rfl rfl hl.1 (Nat.le_of_ble_eq_true rfl) dX7_pour_42 ⟨Nat.zero_le _, Nat.zero_le _⟩ (fun H locs hW => ?_)
  refine n_if_eq_f (tgt := 50) X.1 X.2.1 dX7_pour_45 (by decide) (by decide) (by omega) ?_
  refine lv_iconst (v := nI 0) X.1 X.2.1 dX7_pour_48 (by decide) ?_
  exact hE _ _ _ _ _ (rfl) (fun ty hty => by cases hty; exact rfl) hW dX7_pour_49

set_option maxHeartbeats 4000000 in
set_option maxRecDepth 100000 in
theorem mt_pour_1b (l : Launch) {G : va_G} {cI cZ : ClassId} {q : Nat → Nat} (hq : mJ q) (T : mT) (D : mD) (th : Int32) {w : Nat} {v : Int32} (hw : w < 3) (h : oN v 3) : mMi l yX7_pour wsX7_pour ({ frames := 2, cells := 0, slots := 0, locals := 46 } : Room) G cI cZ q [.int (nI (w)), .int (v)] (T) (D) (th) (nI 0) (T) (D) (nI 1) := by
  refine mstarti (cc := cX7_pour) (maxL := 3) (ret := (some .int)) (by decide) rfl rfl ⟨_, rfl⟩ (Nat.le_of_ble_eq_true rfl) (fun p e s m args below meth c Q hE X hW ls hl => ?_)
  have hl : lv_has ls 3 [(0, .ref (q 0)), (1, .int (nI (w))), (2, .int (v))] := hl
  have hin : ∀ w ∈ wsX70, w ∈ wsX7_pour := fun w h => List.mem_cons_of_mem _ (List.mem_append_left _ (List.mem_append_right _ (h)))
  refine lv_aload_n X.1 X.2.1 dX7_pour_0 rfl (lv_at hl 0 rfl) ?_
  refine lv_aload_n X.1 X.2.1 dX7_pour_1 rfl (lv_at hl 0 rfl) ?_
  refine lv_iload_n X.1 X.2.1 dX7_pour_2 rfl (lv_at hl 1 rfl) ?_
  refine mcalli hq X hW (mt_isOther_ok l hq (T) (D) (th) (r := w) (by omega)) (cwV 1 X.2.2.2.2 gX7_pour_X7_isOther rfl rfl rfl (by decide +kernel) ⟨Nat.le_of_ble_eq_true rfl, Nat.le_of_ble_eq_true rfl⟩) rfl rfl hl.1 (Nat.le_of_ble_eq_true rfl) dX7_pour_3 ⟨Nat.zero_le _, Nat.zero_le _⟩ (fun H locs hW => ?_)
  refine n_if_eq_f (tgt := 17) X.1 X.2.1 dX7_pour_6 (by decide) (by decide) (by omega) ?_
  refine lv_aload_n X.1 X.2.1 dX7_pour_9 rfl (lv_at hl 0 rfl) ?_
  refine lv_iload_n X.1 X.2.1 dX7_pour_10 rfl (lv_at hl 2 rfl) ?_
  refine mcalli hq X hW (mt_isOther_bad l hq (T) (D) (th) (x := v) (h)) (cwV 1 X.2.2.2.2 gX7_pour_X7_isOther rfl rfl rfl (by decide +kernel) ⟨Nat.le_of_ble_eq_true rfl, Nat.le_of_ble_eq_true rfl⟩) rfl rfl hl.1 (Nat.le_of_ble_eq_true rfl) dX7_pour_11 ⟨Nat.zero_le _, Nat.zero_le _⟩ (fun H locs hW => ?_)
  refine n_if_ne_f (tgt := 21) X.1 X.2.1 dX7_pour_14 (by decide) (by decide) (by omega) ?_
  refine lv_iconst (v := nI 1) X.1 X.2.1 dX7_pour_17 (by decide) ?_
  refine lv_goto (tgt := 42) X.1 X.2.1 dX7_pour_18 (by decide) ?_
  refine mcalli hq X hW (mt_isWrong_s l hq (T) (D) (th) (n := 1) (by decide) (by decide)) (cwV 1 X.2.2.2.2 gX7_pour_X7_isWrong rfl rfl rfl (by decide +kernel) ⟨Nat.le_of_ble_eq_true rfl, Nat.le_of_ble_eq_true rfl⟩) rfl rfl hl.1 (Nat.le_of_ble_eq_true rfl) dX7_pour_42 ⟨Nat.zero_le _, Nat.zero_le _⟩ (fun H locs hW => ?_)
  refine n_if_eq_f (tgt := 50) X.1 X.2.1 dX7_pour_45 (by decide) (by decide) (by omega) ?_
  refine lv_iconst (v := nI 0) X.1 X.2.1 dX7_pour_48 (by decide) ?_
  exact hE _ _ _ _ _ (rfl) (fun ty hty => by cases hty; exact rfl) hW dX7_pour_49

set_option maxHeartbeats 4000000 in
set_option maxRecDepth 100000 in
theorem mt_pour_3 (l : Launch) {G : va_G} {cI cZ : ClassId} {q : Nat → Nat} (hq : mJ q) (T : mT) (D : mD) (th : Int32) (I : mI T) {w v : Nat} (hw : w < 3) (hv : v < 3) (h : 256 < T 7 (v) + T 7 (3 + w)) : mMi l yX7_pour wsX7_pour ({ frames := 2, cells := 0, slots := 0, locals := 46 } : Room) G cI cZ q [.int (nI (w)), .int (nI (v))] (T) (D) (th) (nI 0) (T) (D) (nI 2) := by
  refine mstarti (cc := cX7_pour) (maxL := 3) (ret := (some .int)) (by decide) rfl rfl ⟨_, rfl⟩ (Nat.le_of_ble_eq_true rfl) (fun p e s m args below meth c Q hE X hW ls hl => ?_)
  have hl : lv_has ls 3 [(0, .ref (q 0)), (1, .int (nI (w))), (2, .int (nI (v)))] := hl
  have hin : ∀ w ∈ wsX70, w ∈ wsX7_pour := fun w h => List.mem_cons_of_mem _ (List.mem_append_left _ (List.mem_append_right _ (h)))
  have I1 := I.wr (show 3 + w < 6 by omega)
  have I2 := I.wr (show v < 6 by omega)
  refine lv_aload_n X.1 X.2.1 dX7_pour_0 rfl (lv_at hl 0 rfl) ?_
  refine lv_aload_n X.1 X.2.1 dX7_pour_1 rfl (lv_at hl 0 rfl) ?_
  refine lv_iload_n X.1 X.2.1 dX7_pour_2 rfl (lv_at hl 1 rfl) ?_
  refine mcalli hq X hW (mt_isOther_ok l hq (T) (D) (th) (r := w) (by omega)) (cwV 1 X.2.2.2.2 gX7_pour_X7_isOther rfl rfl rfl (by decide +kernel) ⟨Nat.le_of_ble_eq_true rfl, Nat.le_of_ble_eq_true rfl⟩) rfl rfl hl.1 (Nat.le_of_ble_eq_true rfl) dX7_pour_3 ⟨Nat.zero_le _, Nat.zero_le _⟩ (fun H locs hW => ?_)
  refine n_if_eq_f (tgt := 17) X.1 X.2.1 dX7_pour_6 (by decide) (by decide) (by omega) ?_
  refine lv_aload_n X.1 X.2.1 dX7_pour_9 rfl (lv_at hl 0 rfl) ?_
  refine lv_iload_n X.1 X.2.1 dX7_pour_10 rfl (lv_at hl 2 rfl) ?_
  refine mcalli hq X hW (mt_isOther_ok l hq (T) (D) (th) (r := v) (by omega)) (cwV 1 X.2.2.2.2 gX7_pour_X7_isOther rfl rfl rfl (by decide +kernel) ⟨Nat.le_of_ble_eq_true rfl, Nat.le_of_ble_eq_true rfl⟩) rfl rfl hl.1 (Nat.le_of_ble_eq_true rfl) dX7_pour_11 ⟨Nat.zero_le _, Nat.zero_le _⟩ (fun H locs hW => ?_)
  refine n_if_ne_t (tgt := 21) X.1 X.2.1 dX7_pour_14 (by decide) (by decide) (by omega) ?_
  refine lv_aload_n X.1 X.2.1 dX7_pour_21 rfl (lv_at hl 0 rfl) ?_
  refine lv_iload_n X.1 X.2.1 dX7_pour_22 rfl (lv_at hl 2 rfl) ?_
  refine lv_aload_n X.1 X.2.1 dX7_pour_23 rfl (lv_at hl 0 rfl) ?_
  refine mget 7 (by decide) rfl X hin hW (X.2.2.2.2 (.fieldLink RX7 31 "StrandbookModel" "sizes" "[I") (List.mem_cons_of_mem _ (List.mem_append_left _ (List.mem_append_left _ (List.mem_of_getElem? (i := 0) rfl))))) dX7_pour_24 ?_
  refine lv_iconst (v := nI 3) X.1 X.2.1 dX7_pour_27 (by decide) ?_
  refine lv_iload_n X.1 X.2.1 dX7_pour_28 rfl (lv_at hl 1 rfl) ?_
  refine n_iadd X.1 X.2.1 dX7_pour_29 ?_
  refine mld7 X hW (by omega) dX7_pour_30 ?_
  refine mcalli hq X hW (mt_isFull_1 l hq (T) (D) (th) (w := v) (n := T 7 (3 + w)) (by omega) (by omega) (by omega)) (cwV 2 X.2.2.2.2 gX7_pour_X7_isFull rfl rfl rfl (by decide +kernel) ⟨Nat.le_of_ble_eq_true rfl, Nat.le_of_ble_eq_true rfl⟩) rfl rfl hl.1 (Nat.le_of_ble_eq_true rfl) dX7_pour_31 ⟨Nat.zero_le _, Nat.zero_le _⟩ (fun H locs hW => ?_)
  refine n_if_eq_f (tgt := 41) X.1 X.2.1 dX7_pour_34 (by decide) (by decide) (by omega) ?_
  refine lv_iconst (v := nI 2) X.1 X.2.1 dX7_pour_37 (by decide) ?_
  refine lv_goto (tgt := 42) X.1 X.2.1 dX7_pour_38 (by decide) ?_
  refine mcalli hq X hW (mt_isWrong_s l hq (T) (D) (th) (n := 2) (by decide) (by decide)) (cwV 1 X.2.2.2.2 gX7_pour_X7_isWrong rfl rfl rfl (by decide +kernel) ⟨Nat.le_of_ble_eq_true rfl, Nat.le_of_ble_eq_true rfl⟩) rfl rfl hl.1 (Nat.le_of_ble_eq_true rfl) dX7_pour_42 ⟨Nat.zero_le _, Nat.zero_le _⟩ (fun H locs hW => ?_)
  refine n_if_eq_f (tgt := 50) X.1 X.2.1 dX7_pour_45 (by decide) (by decide) (by omega) ?_
  refine lv_iconst (v := nI 0) X.1 X.2.1 dX7_pour_48 (by decide) ?_
  exact hE _ _ _ _ _ (rfl) (fun ty hty => by cases hty; exact rfl) hW dX7_pour_49

set_option maxHeartbeats 4000000 in
set_option maxRecDepth 100000 in
theorem mt_pour (l : Launch) {G : va_G} {cI cZ : ClassId} {q : Nat → Nat} (hq : mJ q) (T : mT) (D : mD) (th : Int32) (I : mI T) {w v : Nat} (hw : w < 3) (hv : v < 3) (h : T 7 (v) + T 7 (3 + w) ≤ 256) : mMi l yX7_pour wsX7_pour ({ frames := 2, cells := 0, slots := 0, locals := 46 } : Room) G cI cZ q [.int (nI (w)), .int (nI (v))] (T) (D) (th) (nI (T 7 (v) + T 7 (3 + w))) (adT T (v) (T 7 (3 + w))) (adD T D (v) (fun i => D 6 (256 * (3 + w) + i) &&& nI 255) (T 7 (3 + w))) (nI 0) := by
  refine mstarti (cc := cX7_pour) (maxL := 3) (ret := (some .int)) (by decide) rfl rfl ⟨_, rfl⟩ (Nat.le_of_ble_eq_true rfl) (fun p e s m args below meth c Q hE X hW ls hl => ?_)
  have hl : lv_has ls 3 [(0, .ref (q 0)), (1, .int (nI (w))), (2, .int (nI (v)))] := hl
  have hin : ∀ w ∈ wsX70, w ∈ wsX7_pour := fun w h => List.mem_cons_of_mem _ (List.mem_append_left _ (List.mem_append_right _ (h)))
  have I1 := I.wr (show 3 + w < 6 by omega)
  have I2 := I.wr (show v < 6 by omega)
  refine lv_aload_n X.1 X.2.1 dX7_pour_0 rfl (lv_at hl 0 rfl) ?_
  refine lv_aload_n X.1 X.2.1 dX7_pour_1 rfl (lv_at hl 0 rfl) ?_
  refine lv_iload_n X.1 X.2.1 dX7_pour_2 rfl (lv_at hl 1 rfl) ?_
  refine mcalli hq X hW (mt_isOther_ok l hq (T) (D) (th) (r := w) (by omega)) (cwV 1 X.2.2.2.2 gX7_pour_X7_isOther rfl rfl rfl (by decide +kernel) ⟨Nat.le_of_ble_eq_true rfl, Nat.le_of_ble_eq_true rfl⟩) rfl rfl hl.1 (Nat.le_of_ble_eq_true rfl) dX7_pour_3 ⟨Nat.zero_le _, Nat.zero_le _⟩ (fun H locs hW => ?_)
  refine n_if_eq_f (tgt := 17) X.1 X.2.1 dX7_pour_6 (by decide) (by decide) (by omega) ?_
  refine lv_aload_n X.1 X.2.1 dX7_pour_9 rfl (lv_at hl 0 rfl) ?_
  refine lv_iload_n X.1 X.2.1 dX7_pour_10 rfl (lv_at hl 2 rfl) ?_
  refine mcalli hq X hW (mt_isOther_ok l hq (T) (D) (th) (r := v) (by omega)) (cwV 1 X.2.2.2.2 gX7_pour_X7_isOther rfl rfl rfl (by decide +kernel) ⟨Nat.le_of_ble_eq_true rfl, Nat.le_of_ble_eq_true rfl⟩) rfl rfl hl.1 (Nat.le_of_ble_eq_true rfl) dX7_pour_11 ⟨Nat.zero_le _, Nat.zero_le _⟩ (fun H locs hW => ?_)
  refine n_if_ne_t (tgt := 21) X.1 X.2.1 dX7_pour_14 (by decide) (by decide) (by omega) ?_
  refine lv_aload_n X.1 X.2.1 dX7_pour_21 rfl (lv_at hl 0 rfl) ?_
  refine lv_iload_n X.1 X.2.1 dX7_pour_22 rfl (lv_at hl 2 rfl) ?_
  refine lv_aload_n X.1 X.2.1 dX7_pour_23 rfl (lv_at hl 0 rfl) ?_
  refine mget 7 (by decide) rfl X hin hW (X.2.2.2.2 (.fieldLink RX7 31 "StrandbookModel" "sizes" "[I") (List.mem_cons_of_mem _ (List.mem_append_left _ (List.mem_append_left _ (List.mem_of_getElem? (i := 0) rfl))))) dX7_pour_24 ?_
  refine lv_iconst (v := nI 3) X.1 X.2.1 dX7_pour_27 (by decide) ?_
  refine lv_iload_n X.1 X.2.1 dX7_pour_28 rfl (lv_at hl 1 rfl) ?_
  refine n_iadd X.1 X.2.1 dX7_pour_29 ?_
  refine mld7 X hW (by omega) dX7_pour_30 ?_
  refine mcalli hq X hW (mt_isFull_0 l hq (T) (D) (th) (w := v) (n := T 7 (3 + w)) (by omega) (by omega)) (cwV 2 X.2.2.2.2 gX7_pour_X7_isFull rfl rfl rfl (by decide +kernel) ⟨Nat.le_of_ble_eq_true rfl, Nat.le_of_ble_eq_true rfl⟩) rfl rfl hl.1 (Nat.le_of_ble_eq_true rfl) dX7_pour_31 ⟨Nat.zero_le _, Nat.zero_le _⟩ (fun H locs hW => ?_)
  refine n_if_eq_t (tgt := 41) X.1 X.2.1 dX7_pour_34 (by decide) (by decide) (by omega) ?_
  refine lv_iconst (v := nI 0) X.1 X.2.1 dX7_pour_41 (by decide) ?_
  refine mcalli hq X hW (mt_isWrong_0 l hq (T) (D) (th)) (cwV 1 X.2.2.2.2 gX7_pour_X7_isWrong rfl rfl rfl (by decide +kernel) ⟨Nat.le_of_ble_eq_true rfl, Nat.le_of_ble_eq_true rfl⟩) rfl rfl hl.1 (Nat.le_of_ble_eq_true rfl) dX7_pour_42 ⟨Nat.zero_le _, Nat.zero_le _⟩ (fun H locs hW => ?_)
  refine n_if_eq_t (tgt := 50) X.1 X.2.1 dX7_pour_45 (by decide) (by decide) (by omega) ?_
  refine lv_aload_n X.1 X.2.1 dX7_pour_50 rfl (lv_at hl 0 rfl) ?_
  refine lv_iconst (v := nI 3) X.1 X.2.1 dX7_pour_51 (by decide) ?_
  refine lv_iload_n X.1 X.2.1 dX7_pour_52 rfl (lv_at hl 1 rfl) ?_
  refine n_iadd X.1 X.2.1 dX7_pour_53 ?_
  refine lv_iload_n X.1 X.2.1 dX7_pour_54 rfl (lv_at hl 2 rfl) ?_
  refine mcalli hq X hW (mt_poured l hq T D (nI 0) I (a := 3 + w) (b := v) (by omega) (by omega) (by omega) h) (cwV 2 X.2.2.2.2 gX7_pour_X7_poured rfl rfl rfl (by decide +kernel) ⟨Nat.le_of_ble_eq_true rfl, Nat.le_of_ble_eq_true rfl⟩) rfl rfl hl.1 (Nat.le_of_ble_eq_true rfl) dX7_pour_55 ⟨Nat.zero_le _, Nat.zero_le _⟩ (fun H locs hW => ?_)
  exact hE _ _ _ _ _ (rfl) (fun ty hty => by cases hty; exact rfl) hW dX7_pour_58

theorem mo_pour (l : Launch) {G : va_G} {cI cZ : ClassId} {q : Nat → Nat} (hq : mJ q) (T : mT) (D : mD) (th : Int32) (I : mI T) (J : mJD D) (w v : Int32) : mO l yX7_pour wsX7_pour ({ frames := 2, cells := 0, slots := 0, locals := 46 } : Room) G cI cZ q [.int w, .int v] T D th (sp_pour T D w v) := by
  by_cases h1 : oN w 3
  · rw [show sp_pour T D w v = no T D 1 from if_pos (Or.inl h1)]; exact mt_pour_1a l hq T D th h1
  · obtain ⟨w, hw, rfl⟩ := oN_in (by decide) h1
    by_cases h2 : oN v 3
    · rw [show sp_pour T D (nI w) v = no T D 1 from if_pos (Or.inr h2)]; exact mt_pour_1b l hq T D th hw h2
    · obtain ⟨v, hv, rfl⟩ := oN_in (by decide) h2
      have hc : (nI w).toNatClampNeg = w := nI_clamp (by omega)
      have hc2 : (nI v).toNatClampNeg = v := nI_clamp (by omega)
      have hno : ¬ (oN (nI w) 3 ∨ oN (nI v) 3) := fun z => z.elim h1 h2
      by_cases h3 : 256 < T 7 (v) + T 7 (3 + w)
      · rw [show sp_pour T D (nI w) (nI v) = no T D 2 from (if_neg hno).trans (if_pos (by rw [hc, hc2]; exact h3))]; exact mt_pour_3 l hq T D th I hw hv h3
      · rw [show sp_pour T D (nI w) (nI v) = sk_pour T D (3 + w) (v) from (if_neg hno).trans ((if_neg (by rw [hc, hc2]; exact h3)).trans (by rw [hc, hc2]))]
        exact mt_pour l hq T D th I hw hv (Nat.not_lt.mp h3)

set_option maxHeartbeats 4000000 in
set_option maxRecDepth 100000 in
theorem mt_pourOver_1a (l : Launch) {G : va_G} {cI cZ : ClassId} {q : Nat → Nat} (hq : mJ q) (T : mT) (D : mD) (th : Int32) {w v : Int32} (h : oN w 3) : mMi l yX7_pourOver wsX7_pourOver ({ frames := 2, cells := 0, slots := 0, locals := 46 } : Room) G cI cZ q [.int (w), .int (v)] (T) (D) (th) (nI 0) (T) (D) (nI 1) := by
  refine mstarti (cc := cX7_pourOver) (maxL := 3) (ret := (some .int)) (by decide) rfl rfl ⟨_, rfl⟩ (Nat.le_of_ble_eq_true rfl) (fun p e s m args below meth c Q hE X hW ls hl => ?_)
  have hl : lv_has ls 3 [(0, .ref (q 0)), (1, .int (w)), (2, .int (v))] := hl
  have hin : ∀ w ∈ wsX70, w ∈ wsX7_pourOver := fun w h => List.mem_cons_of_mem _ (List.mem_append_left _ (List.mem_append_right _ (h)))
  refine lv_aload_n X.1 X.2.1 dX7_pourOver_0 rfl (lv_at hl 0 rfl) ?_
  refine lv_aload_n X.1 X.2.1 dX7_pourOver_1 rfl (lv_at hl 0 rfl) ?_
  refine lv_iload_n X.1 X.2.1 dX7_pourOver_2 rfl (lv_at hl 1 rfl) ?_
  refine mcalli hq X hW (mt_isOther_bad l hq (T) (D) (th) (x := w) (h)) (cwV 1 X.2.2.2.2 gX7_pourOver_X7_isOther rfl rfl rfl (by decide +kernel) ⟨Nat.le_of_ble_eq_true rfl, Nat.le_of_ble_eq_true rfl⟩) rfl rfl hl.1 (Nat.le_of_ble_eq_true rfl) dX7_pourOver_3 ⟨Nat.zero_le _, Nat.zero_le _⟩ (fun H locs hW => ?_)
  refine n_if_eq_t (tgt := 17) X.1 X.2.1 dX7_pourOver_6 (by decide) (by decide) (by omega) ?_
  refine lv_iconst (v := nI 1) X.1 X.2.1 dX7_pourOver_17 (by decide) ?_
  refine lv_goto (tgt := 53) X.1 X.2.1 dX7_pourOver_18 (by decide) ?_
  refine mcalli hq X hW (mt_isWrong_s l hq (T) (D) (th) (n := 1) (by decide) (by decide)) (cwV 1 X.2.2.2.2 gX7_pourOver_X7_isWrong rfl rfl rfl (by decide +kernel) ⟨Nat.le_of_ble_eq_true rfl, Nat.le_of_ble_eq_true rfl⟩) rfl rfl hl.1 (Nat.le_of_ble_eq_true rfl) dX7_pourOver_53 ⟨Nat.zero_le _, Nat.zero_le _⟩ (fun H locs hW => ?_)
  refine n_if_eq_f (tgt := 61) X.1 X.2.1 dX7_pourOver_56 (by decide) (by decide) (by omega) ?_
  refine lv_iconst (v := nI 0) X.1 X.2.1 dX7_pourOver_59 (by decide) ?_
  exact hE _ _ _ _ _ (rfl) (fun ty hty => by cases hty; exact rfl) hW dX7_pourOver_60

set_option maxHeartbeats 4000000 in
set_option maxRecDepth 100000 in
theorem mt_pourOver_1b (l : Launch) {G : va_G} {cI cZ : ClassId} {q : Nat → Nat} (hq : mJ q) (T : mT) (D : mD) (th : Int32) {w : Nat} {v : Int32} (hw : w < 3) (h : oN v 3) : mMi l yX7_pourOver wsX7_pourOver ({ frames := 2, cells := 0, slots := 0, locals := 46 } : Room) G cI cZ q [.int (nI (w)), .int (v)] (T) (D) (th) (nI 0) (T) (D) (nI 1) := by
  refine mstarti (cc := cX7_pourOver) (maxL := 3) (ret := (some .int)) (by decide) rfl rfl ⟨_, rfl⟩ (Nat.le_of_ble_eq_true rfl) (fun p e s m args below meth c Q hE X hW ls hl => ?_)
  have hl : lv_has ls 3 [(0, .ref (q 0)), (1, .int (nI (w))), (2, .int (v))] := hl
  have hin : ∀ w ∈ wsX70, w ∈ wsX7_pourOver := fun w h => List.mem_cons_of_mem _ (List.mem_append_left _ (List.mem_append_right _ (h)))
  refine lv_aload_n X.1 X.2.1 dX7_pourOver_0 rfl (lv_at hl 0 rfl) ?_
  refine lv_aload_n X.1 X.2.1 dX7_pourOver_1 rfl (lv_at hl 0 rfl) ?_
  refine lv_iload_n X.1 X.2.1 dX7_pourOver_2 rfl (lv_at hl 1 rfl) ?_
  refine mcalli hq X hW (mt_isOther_ok l hq (T) (D) (th) (r := w) (by omega)) (cwV 1 X.2.2.2.2 gX7_pourOver_X7_isOther rfl rfl rfl (by decide +kernel) ⟨Nat.le_of_ble_eq_true rfl, Nat.le_of_ble_eq_true rfl⟩) rfl rfl hl.1 (Nat.le_of_ble_eq_true rfl) dX7_pourOver_3 ⟨Nat.zero_le _, Nat.zero_le _⟩ (fun H locs hW => ?_)
  refine n_if_eq_f (tgt := 17) X.1 X.2.1 dX7_pourOver_6 (by decide) (by decide) (by omega) ?_
  refine lv_aload_n X.1 X.2.1 dX7_pourOver_9 rfl (lv_at hl 0 rfl) ?_
  refine lv_iload_n X.1 X.2.1 dX7_pourOver_10 rfl (lv_at hl 2 rfl) ?_
  refine mcalli hq X hW (mt_isOther_bad l hq (T) (D) (th) (x := v) (h)) (cwV 1 X.2.2.2.2 gX7_pourOver_X7_isOther rfl rfl rfl (by decide +kernel) ⟨Nat.le_of_ble_eq_true rfl, Nat.le_of_ble_eq_true rfl⟩) rfl rfl hl.1 (Nat.le_of_ble_eq_true rfl) dX7_pourOver_11 ⟨Nat.zero_le _, Nat.zero_le _⟩ (fun H locs hW => ?_)
  refine n_if_ne_f (tgt := 21) X.1 X.2.1 dX7_pourOver_14 (by decide) (by decide) (by omega) ?_
  refine lv_iconst (v := nI 1) X.1 X.2.1 dX7_pourOver_17 (by decide) ?_
  refine lv_goto (tgt := 53) X.1 X.2.1 dX7_pourOver_18 (by decide) ?_
  refine mcalli hq X hW (mt_isWrong_s l hq (T) (D) (th) (n := 1) (by decide) (by decide)) (cwV 1 X.2.2.2.2 gX7_pourOver_X7_isWrong rfl rfl rfl (by decide +kernel) ⟨Nat.le_of_ble_eq_true rfl, Nat.le_of_ble_eq_true rfl⟩) rfl rfl hl.1 (Nat.le_of_ble_eq_true rfl) dX7_pourOver_53 ⟨Nat.zero_le _, Nat.zero_le _⟩ (fun H locs hW => ?_)
  refine n_if_eq_f (tgt := 61) X.1 X.2.1 dX7_pourOver_56 (by decide) (by decide) (by omega) ?_
  refine lv_iconst (v := nI 0) X.1 X.2.1 dX7_pourOver_59 (by decide) ?_
  exact hE _ _ _ _ _ (rfl) (fun ty hty => by cases hty; exact rfl) hW dX7_pourOver_60

set_option maxHeartbeats 4000000 in
set_option maxRecDepth 100000 in
theorem mt_pourOver_2 (l : Launch) {G : va_G} {cI cZ : ClassId} {q : Nat → Nat} (hq : mJ q) (T : mT) (D : mD) (th : Int32) {w : Nat} (hw : w < 3) : mMi l yX7_pourOver wsX7_pourOver ({ frames := 2, cells := 0, slots := 0, locals := 46 } : Room) G cI cZ q [.int (nI (w)), .int (nI (w))] (T) (D) (th) (nI 0) (T) (D) (nI 2) := by
  refine mstarti (cc := cX7_pourOver) (maxL := 3) (ret := (some .int)) (by decide) rfl rfl ⟨_, rfl⟩ (Nat.le_of_ble_eq_true rfl) (fun p e s m args below meth c Q hE X hW ls hl => ?_)
  have hl : lv_has ls 3 [(0, .ref (q 0)), (1, .int (nI (w))), (2, .int (nI (w)))] := hl
  have hin : ∀ w ∈ wsX70, w ∈ wsX7_pourOver := fun w h => List.mem_cons_of_mem _ (List.mem_append_left _ (List.mem_append_right _ (h)))
  refine lv_aload_n X.1 X.2.1 dX7_pourOver_0 rfl (lv_at hl 0 rfl) ?_
  refine lv_aload_n X.1 X.2.1 dX7_pourOver_1 rfl (lv_at hl 0 rfl) ?_
  refine lv_iload_n X.1 X.2.1 dX7_pourOver_2 rfl (lv_at hl 1 rfl) ?_
  refine mcalli hq X hW (mt_isOther_ok l hq (T) (D) (th) (r := w) (by omega)) (cwV 1 X.2.2.2.2 gX7_pourOver_X7_isOther rfl rfl rfl (by decide +kernel) ⟨Nat.le_of_ble_eq_true rfl, Nat.le_of_ble_eq_true rfl⟩) rfl rfl hl.1 (Nat.le_of_ble_eq_true rfl) dX7_pourOver_3 ⟨Nat.zero_le _, Nat.zero_le _⟩ (fun H locs hW => ?_)
  refine n_if_eq_f (tgt := 17) X.1 X.2.1 dX7_pourOver_6 (by decide) (by decide) (by omega) ?_
  refine lv_aload_n X.1 X.2.1 dX7_pourOver_9 rfl (lv_at hl 0 rfl) ?_
  refine lv_iload_n X.1 X.2.1 dX7_pourOver_10 rfl (lv_at hl 2 rfl) ?_
  refine mcalli hq X hW (mt_isOther_ok l hq (T) (D) (th) (r := w) (by omega)) (cwV 1 X.2.2.2.2 gX7_pourOver_X7_isOther rfl rfl rfl (by decide +kernel) ⟨Nat.le_of_ble_eq_true rfl, Nat.le_of_ble_eq_true rfl⟩) rfl rfl hl.1 (Nat.le_of_ble_eq_true rfl) dX7_pourOver_11 ⟨Nat.zero_le _, Nat.zero_le _⟩ (fun H locs hW => ?_)
  refine n_if_ne_t (tgt := 21) X.1 X.2.1 dX7_pourOver_14 (by decide) (by decide) (by omega) ?_
  refine lv_iload_n X.1 X.2.1 dX7_pourOver_21 rfl (lv_at hl 1 rfl) ?_
  refine lv_iload_n X.1 X.2.1 dX7_pourOver_22 rfl (lv_at hl 2 rfl) ?_
  refine n_icmp_ne_f (tgt := 30) X.1 X.2.1 dX7_pourOver_23 (by decide) (rfl) (by omega) (by omega) ?_
  refine lv_iconst (v := nI 2) X.1 X.2.1 dX7_pourOver_26 (by decide) ?_
  refine lv_goto (tgt := 53) X.1 X.2.1 dX7_pourOver_27 (by decide) ?_
  refine mcalli hq X hW (mt_isWrong_s l hq (T) (D) (th) (n := 2) (by decide) (by decide)) (cwV 1 X.2.2.2.2 gX7_pourOver_X7_isWrong rfl rfl rfl (by decide +kernel) ⟨Nat.le_of_ble_eq_true rfl, Nat.le_of_ble_eq_true rfl⟩) rfl rfl hl.1 (Nat.le_of_ble_eq_true rfl) dX7_pourOver_53 ⟨Nat.zero_le _, Nat.zero_le _⟩ (fun H locs hW => ?_)
  refine n_if_eq_f (tgt := 61) X.1 X.2.1 dX7_pourOver_56 (by decide) (by decide) (by omega) ?_
  refine lv_iconst (v := nI 0) X.1 X.2.1 dX7_pourOver_59 (by decide) ?_
  exact hE _ _ _ _ _ (rfl) (fun ty hty => by cases hty; exact rfl) hW dX7_pourOver_60

set_option maxHeartbeats 4000000 in
set_option maxRecDepth 100000 in
theorem mt_pourOver_3 (l : Launch) {G : va_G} {cI cZ : ClassId} {q : Nat → Nat} (hq : mJ q) (T : mT) (D : mD) (th : Int32) (I : mI T) {w v : Nat} (hw : w < 3) (hv : v < 3) (hwv : w ≠ v) (h : 256 < T 7 (3 + v) + T 7 (3 + w)) : mMi l yX7_pourOver wsX7_pourOver ({ frames := 2, cells := 0, slots := 0, locals := 46 } : Room) G cI cZ q [.int (nI (w)), .int (nI (v))] (T) (D) (th) (nI 0) (T) (D) (nI 3) := by
  refine mstarti (cc := cX7_pourOver) (maxL := 3) (ret := (some .int)) (by decide) rfl rfl ⟨_, rfl⟩ (Nat.le_of_ble_eq_true rfl) (fun p e s m args below meth c Q hE X hW ls hl => ?_)
  have hl : lv_has ls 3 [(0, .ref (q 0)), (1, .int (nI (w))), (2, .int (nI (v)))] := hl
  have hin : ∀ w ∈ wsX70, w ∈ wsX7_pourOver := fun w h => List.mem_cons_of_mem _ (List.mem_append_left _ (List.mem_append_right _ (h)))
  have I1 := I.wr (show 3 + w < 6 by omega)
  have I2 := I.wr (show 3 + v < 6 by omega)
  refine lv_aload_n X.1 X.2.1 dX7_pourOver_0 rfl (lv_at hl 0 rfl) ?_
  refine lv_aload_n X.1 X.2.1 dX7_pourOver_1 rfl (lv_at hl 0 rfl) ?_
  refine lv_iload_n X.1 X.2.1 dX7_pourOver_2 rfl (lv_at hl 1 rfl) ?_
  refine mcalli hq X hW (mt_isOther_ok l hq (T) (D) (th) (r := w) (by omega)) (cwV 1 X.2.2.2.2 gX7_pourOver_X7_isOther rfl rfl rfl (by decide +kernel) ⟨Nat.le_of_ble_eq_true rfl, Nat.le_of_ble_eq_true rfl⟩) rfl rfl hl.1 (Nat.le_of_ble_eq_true rfl) dX7_pourOver_3 ⟨Nat.zero_le _, Nat.zero_le _⟩ (fun H locs hW => ?_)
  refine n_if_eq_f (tgt := 17) X.1 X.2.1 dX7_pourOver_6 (by decide) (by decide) (by omega) ?_
  refine lv_aload_n X.1 X.2.1 dX7_pourOver_9 rfl (lv_at hl 0 rfl) ?_
  refine lv_iload_n X.1 X.2.1 dX7_pourOver_10 rfl (lv_at hl 2 rfl) ?_
  refine mcalli hq X hW (mt_isOther_ok l hq (T) (D) (th) (r := v) (by omega)) (cwV 1 X.2.2.2.2 gX7_pourOver_X7_isOther rfl rfl rfl (by decide +kernel) ⟨Nat.le_of_ble_eq_true rfl, Nat.le_of_ble_eq_true rfl⟩) rfl rfl hl.1 (Nat.le_of_ble_eq_true rfl) dX7_pourOver_11 ⟨Nat.zero_le _, Nat.zero_le _⟩ (fun H locs hW => ?_)
  refine n_if_ne_t (tgt := 21) X.1 X.2.1 dX7_pourOver_14 (by decide) (by decide) (by omega) ?_
  refine lv_iload_n X.1 X.2.1 dX7_pourOver_21 rfl (lv_at hl 1 rfl) ?_
  refine lv_iload_n X.1 X.2.1 dX7_pourOver_22 rfl (lv_at hl 2 rfl) ?_
  refine n_icmp_ne_t (tgt := 30) X.1 X.2.1 dX7_pourOver_23 (by decide) (hwv) (by omega) (by omega) ?_
  refine lv_aload_n X.1 X.2.1 dX7_pourOver_30 rfl (lv_at hl 0 rfl) ?_
  refine lv_iconst (v := nI 3) X.1 X.2.1 dX7_pourOver_31 (by decide) ?_
  refine lv_iload_n X.1 X.2.1 dX7_pourOver_32 rfl (lv_at hl 2 rfl) ?_
  refine n_iadd X.1 X.2.1 dX7_pourOver_33 ?_
  refine lv_aload_n X.1 X.2.1 dX7_pourOver_34 rfl (lv_at hl 0 rfl) ?_
  refine mget 7 (by decide) rfl X hin hW (X.2.2.2.2 (.fieldLink RX7 31 "StrandbookModel" "sizes" "[I") (List.mem_cons_of_mem _ (List.mem_append_left _ (List.mem_append_left _ (List.mem_of_getElem? (i := 0) rfl))))) dX7_pourOver_35 ?_
  refine lv_iconst (v := nI 3) X.1 X.2.1 dX7_pourOver_38 (by decide) ?_
  refine lv_iload_n X.1 X.2.1 dX7_pourOver_39 rfl (lv_at hl 1 rfl) ?_
  refine n_iadd X.1 X.2.1 dX7_pourOver_40 ?_
  refine mld7 X hW (by omega) dX7_pourOver_41 ?_
  refine mcalli hq X hW (mt_isFull_1 l hq (T) (D) (th) (w := 3 + v) (n := T 7 (3 + w)) (by omega) (by omega) (by omega)) (cwV 2 X.2.2.2.2 gX7_pourOver_X7_isFull rfl rfl rfl (by decide +kernel) ⟨Nat.le_of_ble_eq_true rfl, Nat.le_of_ble_eq_true rfl⟩) rfl rfl hl.1 (Nat.le_of_ble_eq_true rfl) dX7_pourOver_42 ⟨Nat.zero_le _, Nat.zero_le _⟩ (fun H locs hW => ?_)
  refine n_if_eq_f (tgt := 52) X.1 X.2.1 dX7_pourOver_45 (by decide) (by decide) (by omega) ?_
  refine lv_iconst (v := nI 3) X.1 X.2.1 dX7_pourOver_48 (by decide) ?_
  refine lv_goto (tgt := 53) X.1 X.2.1 dX7_pourOver_49 (by decide) ?_
  refine mcalli hq X hW (mt_isWrong_s l hq (T) (D) (th) (n := 3) (by decide) (by decide)) (cwV 1 X.2.2.2.2 gX7_pourOver_X7_isWrong rfl rfl rfl (by decide +kernel) ⟨Nat.le_of_ble_eq_true rfl, Nat.le_of_ble_eq_true rfl⟩) rfl rfl hl.1 (Nat.le_of_ble_eq_true rfl) dX7_pourOver_53 ⟨Nat.zero_le _, Nat.zero_le _⟩ (fun H locs hW => ?_)
  refine n_if_eq_f (tgt := 61) X.1 X.2.1 dX7_pourOver_56 (by decide) (by decide) (by omega) ?_
  refine lv_iconst (v := nI 0) X.1 X.2.1 dX7_pourOver_59 (by decide) ?_
  exact hE _ _ _ _ _ (rfl) (fun ty hty => by cases hty; exact rfl) hW dX7_pourOver_60

set_option maxHeartbeats 4000000 in
set_option maxRecDepth 100000 in
theorem mt_pourOver (l : Launch) {G : va_G} {cI cZ : ClassId} {q : Nat → Nat} (hq : mJ q) (T : mT) (D : mD) (th : Int32) (I : mI T) {w v : Nat} (hw : w < 3) (hv : v < 3) (hwv : w ≠ v) (h : T 7 (3 + v) + T 7 (3 + w) ≤ 256) : mMi l yX7_pourOver wsX7_pourOver ({ frames := 2, cells := 0, slots := 0, locals := 46 } : Room) G cI cZ q [.int (nI (w)), .int (nI (v))] (T) (D) (th) (nI (T 7 (3 + v) + T 7 (3 + w))) (adT T (3 + v) (T 7 (3 + w))) (adD T D (3 + v) (fun i => D 6 (256 * (3 + w) + i) &&& nI 255) (T 7 (3 + w))) (nI 0) := by
  refine mstarti (cc := cX7_pourOver) (maxL := 3) (ret := (some .int)) (by decide) rfl rfl ⟨_, rfl⟩ (Nat.le_of_ble_eq_true rfl) (fun p e s m args below meth c Q hE X hW ls hl => ?_)
  have hl : lv_has ls 3 [(0, .ref (q 0)), (1, .int (nI (w))), (2, .int (nI (v)))] := hl
  have hin : ∀ w ∈ wsX70, w ∈ wsX7_pourOver := fun w h => List.mem_cons_of_mem _ (List.mem_append_left _ (List.mem_append_right _ (h)))
  have I1 := I.wr (show 3 + w < 6 by omega)
  have I2 := I.wr (show 3 + v < 6 by omega)
  refine lv_aload_n X.1 X.2.1 dX7_pourOver_0 rfl (lv_at hl 0 rfl) ?_
  refine lv_aload_n X.1 X.2.1 dX7_pourOver_1 rfl (lv_at hl 0 rfl) ?_
  refine lv_iload_n X.1 X.2.1 dX7_pourOver_2 rfl (lv_at hl 1 rfl) ?_
  refine mcalli hq X hW (mt_isOther_ok l hq (T) (D) (th) (r := w) (by omega)) (cwV 1 X.2.2.2.2 gX7_pourOver_X7_isOther rfl rfl rfl (by decide +kernel) ⟨Nat.le_of_ble_eq_true rfl, Nat.le_of_ble_eq_true rfl⟩) rfl rfl hl.1 (Nat.le_of_ble_eq_true rfl) dX7_pourOver_3 ⟨Nat.zero_le _, Nat.zero_le _⟩ (fun H locs hW => ?_)
  refine n_if_eq_f (tgt := 17) X.1 X.2.1 dX7_pourOver_6 (by decide) (by decide) (by omega) ?_
  refine lv_aload_n X.1 X.2.1 dX7_pourOver_9 rfl (lv_at hl 0 rfl) ?_
  refine lv_iload_n X.1 X.2.1 dX7_pourOver_10 rfl (lv_at hl 2 rfl) ?_
  refine mcalli hq X hW (mt_isOther_ok l hq (T) (D) (th) (r := v) (by omega)) (cwV 1 X.2.2.2.2 gX7_pourOver_X7_isOther rfl rfl rfl (by decide +kernel) ⟨Nat.le_of_ble_eq_true rfl, Nat.le_of_ble_eq_true rfl⟩) rfl rfl hl.1 (Nat.le_of_ble_eq_true rfl) dX7_pourOver_11 ⟨Nat.zero_le _, Nat.zero_le _⟩ (fun H locs hW => ?_)
  refine n_if_ne_t (tgt := 21) X.1 X.2.1 dX7_pourOver_14 (by decide) (by decide) (by omega) ?_
  refine lv_iload_n X.1 X.2.1 dX7_pourOver_21 rfl (lv_at hl 1 rfl) ?_
  refine lv_iload_n X.1 X.2.1 dX7_pourOver_22 rfl (lv_at hl 2 rfl) ?_
  refine n_icmp_ne_t (tgt := 30) X.1 X.2.1 dX7_pourOver_23 (by decide) (hwv) (by omega) (by omega) ?_
  refine lv_aload_n X.1 X.2.1 dX7_pourOver_30 rfl (lv_at hl 0 rfl) ?_
  refine lv_iconst (v := nI 3) X.1 X.2.1 dX7_pourOver_31 (by decide) ?_
  refine lv_iload_n X.1 X.2.1 dX7_pourOver_32 rfl (lv_at hl 2 rfl) ?_
  refine n_iadd X.1 X.2.1 dX7_pourOver_33 ?_
  refine lv_aload_n X.1 X.2.1 dX7_pourOver_34 rfl (lv_at hl 0 rfl) ?_
  refine mget 7 (by decide) rfl X hin hW (X.2.2.2.2 (.fieldLink RX7 31 "StrandbookModel" "sizes" "[I") (List.mem_cons_of_mem _ (List.mem_append_left _ (List.mem_append_left _ (List.mem_of_getElem? (i := 0) rfl))))) dX7_pourOver_35 ?_
  refine lv_iconst (v := nI 3) X.1 X.2.1 dX7_pourOver_38 (by decide) ?_
  refine lv_iload_n X.1 X.2.1 dX7_pourOver_39 rfl (lv_at hl 1 rfl) ?_
  refine n_iadd X.1 X.2.1 dX7_pourOver_40 ?_
  refine mld7 X hW (by omega) dX7_pourOver_41 ?_
  refine mcalli hq X hW (mt_isFull_0 l hq (T) (D) (th) (w := 3 + v) (n := T 7 (3 + w)) (by omega) (by omega)) (cwV 2 X.2.2.2.2 gX7_pourOver_X7_isFull rfl rfl rfl (by decide +kernel) ⟨Nat.le_of_ble_eq_true rfl, Nat.le_of_ble_eq_true rfl⟩) rfl rfl hl.1 (Nat.le_of_ble_eq_true rfl) dX7_pourOver_42 ⟨Nat.zero_le _, Nat.zero_le _⟩ (fun H locs hW => ?_)
  refine n_if_eq_t (tgt := 52) X.1 X.2.1 dX7_pourOver_45 (by decide) (by decide) (by omega) ?_
  refine lv_iconst (v := nI 0) X.1 X.2.1 dX7_pourOver_52 (by decide) ?_
  refine mcalli hq X hW (mt_isWrong_0 l hq (T) (D) (th)) (cwV 1 X.2.2.2.2 gX7_pourOver_X7_isWrong rfl rfl rfl (by decide +kernel) ⟨Nat.le_of_ble_eq_true rfl, Nat.le_of_ble_eq_true rfl⟩) rfl rfl hl.1 (Nat.le_of_ble_eq_true rfl) dX7_pourOver_53 ⟨Nat.zero_le _, Nat.zero_le _⟩ (fun H locs hW => ?_)
  refine n_if_eq_t (tgt := 61) X.1 X.2.1 dX7_pourOver_56 (by decide) (by decide) (by omega) ?_
  refine lv_aload_n X.1 X.2.1 dX7_pourOver_61 rfl (lv_at hl 0 rfl) ?_
  refine lv_iconst (v := nI 3) X.1 X.2.1 dX7_pourOver_62 (by decide) ?_
  refine lv_iload_n X.1 X.2.1 dX7_pourOver_63 rfl (lv_at hl 1 rfl) ?_
  refine n_iadd X.1 X.2.1 dX7_pourOver_64 ?_
  refine lv_iconst (v := nI 3) X.1 X.2.1 dX7_pourOver_65 (by decide) ?_
  refine lv_iload_n X.1 X.2.1 dX7_pourOver_66 rfl (lv_at hl 2 rfl) ?_
  refine n_iadd X.1 X.2.1 dX7_pourOver_67 ?_
  refine mcalli hq X hW (mt_poured l hq T D (nI 0) I (a := 3 + w) (b := 3 + v) (by omega) (by omega) (by omega) h) (cwV 2 X.2.2.2.2 gX7_pourOver_X7_poured rfl rfl rfl (by decide +kernel) ⟨Nat.le_of_ble_eq_true rfl, Nat.le_of_ble_eq_true rfl⟩) rfl rfl hl.1 (Nat.le_of_ble_eq_true rfl) dX7_pourOver_68 ⟨Nat.zero_le _, Nat.zero_le _⟩ (fun H locs hW => ?_)
  exact hE _ _ _ _ _ (rfl) (fun ty hty => by cases hty; exact rfl) hW dX7_pourOver_71

theorem mo_pourOver (l : Launch) {G : va_G} {cI cZ : ClassId} {q : Nat → Nat} (hq : mJ q) (T : mT) (D : mD) (th : Int32) (I : mI T) (J : mJD D) (w v : Int32) : mO l yX7_pourOver wsX7_pourOver ({ frames := 2, cells := 0, slots := 0, locals := 46 } : Room) G cI cZ q [.int w, .int v] T D th (sp_pourOver T D w v) := by
  by_cases h1 : oN w 3
  · rw [show sp_pourOver T D w v = no T D 1 from if_pos (Or.inl h1)]; exact mt_pourOver_1a l hq T D th h1
  · obtain ⟨w, hw, rfl⟩ := oN_in (by decide) h1
    by_cases h2 : oN v 3
    · rw [show sp_pourOver T D (nI w) v = no T D 1 from if_pos (Or.inr h2)]; exact mt_pourOver_1b l hq T D th hw h2
    · obtain ⟨v, hv, rfl⟩ := oN_in (by decide) h2
      have hc : (nI w).toNatClampNeg = w := nI_clamp (by omega)
      have hc2 : (nI v).toNatClampNeg = v := nI_clamp (by omega)
      have hno : ¬ (oN (nI w) 3 ∨ oN (nI v) 3) := fun z => z.elim h1 h2
      by_cases h4 : w = v
      · subst h4
        rw [show sp_pourOver T D (nI w) (nI w) = no T D 2 from (if_neg hno).trans (if_pos rfl)]; exact mt_pourOver_2 l hq T D th hw
      have hne : ¬ nI w = nI v := fun z => h4 (nI_inj (by omega) (by omega) z)
      by_cases h3 : 256 < T 7 (3 + v) + T 7 (3 + w)
      · rw [show sp_pourOver T D (nI w) (nI v) = no T D 3 from (if_neg hno).trans ((if_neg hne).trans (if_pos (by rw [hc, hc2]; exact h3)))]; exact mt_pourOver_3 l hq T D th I hw hv h4 h3
      · rw [show sp_pourOver T D (nI w) (nI v) = sk_pour T D (3 + w) (3 + v) from (if_neg hno).trans ((if_neg hne).trans ((if_neg (by rw [hc, hc2]; exact h3)).trans (by rw [hc, hc2])))]
        exact mt_pourOver l hq T D th I hw hv h4 (Nat.not_lt.mp h3)
