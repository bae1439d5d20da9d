set_option maxHeartbeats 4000000 in
set_option maxRecDepth 100000 in
theorem mt_areLike_1a (l : Launch) {G : va_G} {cI cZ : ClassId} {q : Nat → Nat} (hq : mJ q) (T : mT) (D : mD) (th : Int32) {w v : Int32} (h : oN w 3) : mMi l yX7_areLike wsX7_areLike ({ frames := 1, cells := 0, slots := 0, locals := 21 } : Room) G cI cZ q [.int (w), .int (v)] (T) (D) (th) (nI 0) (T) (D) (nI 1) := by
  refine mstarti (cc := cX7_areLike) (maxL := 5) (ret := (some .boolean)) (by decide) rfl rfl ⟨_, rfl⟩ (Nat.le_of_ble_eq_true rfl) (fun p e s m args below meth c Q hE X hW ls hl => ?_)
  have hl : lv_has ls 5 [(0, .ref (q 0)), (1, .int (w)), (2, .int (v))] := hl
  have hin : ∀ w ∈ wsX70, w ∈ wsX7_areLike := fun w h => List.mem_cons_of_mem _ (List.mem_append_left _ (List.mem_append_right _ (h)))
  refine lv_aload_n X.1 X.2.1 dX7_areLike_0 rfl (lv_at hl 0 rfl) ?_
  refine lv_aload_n X.1 X.2.1 dX7_areLike_1 rfl (lv_at hl 0 rfl) ?_
  refine lv_iload_n X.1 X.2.1 dX7_areLike_2 rfl (lv_at hl 1 rfl) ?_
  refine mcalli hq X hW (mt_isOther_bad l hq (T) (D) (th) (x := w) (h)) (cwV 1 X.2.2.2.2 gX7_areLike_X7_isOther rfl rfl rfl (by decide +kernel) ⟨Nat.le_of_ble_eq_true rfl, Nat.le_of_ble_eq_true rfl⟩) rfl rfl hl.1 (Nat.le_of_ble_eq_true rfl) dX7_areLike_3 ⟨Nat.zero_le _, Nat.zero_le _⟩ (fun H locs hW => ?_)
  refine n_if_eq_t (tgt := 21) X.1 X.2.1 dX7_areLike_6 (by decide) (by decide) (by omega) ?_
  refine lv_iconst (v := nI 1) X.1 X.2.1 dX7_areLike_21 (by decide) ?_
  refine mcalli hq X hW (mt_isWrong_s l hq (T) (D) (th) (n := 1) (by decide) (by decide)) (cwV 1 X.2.2.2.2 gX7_areLike_X7_isWrong rfl rfl rfl (by decide +kernel) ⟨Nat.le_of_ble_eq_true rfl, Nat.le_of_ble_eq_true rfl⟩) rfl rfl hl.1 (Nat.le_of_ble_eq_true rfl) dX7_areLike_22 ⟨Nat.zero_le _, Nat.zero_le _⟩ (fun H locs hW => ?_)
  refine n_if_eq_f (tgt := 30) X.1 X.2.1 dX7_areLike_25 (by decide) (by decide) (by omega) ?_
  refine lv_iconst (v := nI 0) X.1 X.2.1 dX7_areLike_28 (by decide) ?_
  exact hE _ _ _ _ _ (rfl) (fun ty hty => by cases hty; exact nI_zb (by omega)) hW dX7_areLike_29

set_option maxHeartbeats 4000000 in
set_option maxRecDepth 100000 in
theorem mt_areLike_1b (l : Launch) {G : va_G} {cI cZ : ClassId} {q : Nat → Nat} (hq : mJ q) (T : mT) (D : mD) (th : Int32) {w : Nat} {v : Int32} (hw : w < 3) (h : oN v 3) : mMi l yX7_areLike wsX7_areLike ({ frames := 1, cells := 0, slots := 0, locals := 21 } : Room) G cI cZ q [.int (nI (w)), .int (v)] (T) (D) (th) (nI 0) (T) (D) (nI 1) := by
  refine mstarti (cc := cX7_areLike) (maxL := 5) (ret := (some .boolean)) (by decide) rfl rfl ⟨_, rfl⟩ (Nat.le_of_ble_eq_true rfl) (fun p e s m args below meth c Q hE X hW ls hl => ?_)
  have hl : lv_has ls 5 [(0, .ref (q 0)), (1, .int (nI (w))), (2, .int (v))] := hl
  have hin : ∀ w ∈ wsX70, w ∈ wsX7_areLike := fun w h => List.mem_cons_of_mem _ (List.mem_append_left _ (List.mem_append_right _ (h)))
  refine lv_aload_n X.1 X.2.1 dX7_areLike_0 rfl (lv_at hl 0 rfl) ?_
  refine lv_aload_n X.1 X.2.1 dX7_areLike_1 rfl (lv_at hl 0 rfl) ?_
  refine lv_iload_n X.1 X.2.1 dX7_areLike_2 rfl (lv_at hl 1 rfl) ?_
  refine mcalli hq X hW (mt_isOther_ok l hq (T) (D) (th) (r := w) (by omega)) (cwV 1 X.2.2.2.2 gX7_areLike_X7_isOther rfl rfl rfl (by decide +kernel) ⟨Nat.le_of_ble_eq_true rfl, Nat.le_of_ble_eq_true rfl⟩) rfl rfl hl.1 (Nat.le_of_ble_eq_true rfl) dX7_areLike_3 ⟨Nat.zero_le _, Nat.zero_le _⟩ (fun H locs hW => ?_)
  refine n_if_eq_f (tgt := 21) X.1 X.2.1 dX7_areLike_6 (by decide) (by decide) (by omega) ?_
  refine lv_aload_n X.1 X.2.1 dX7_areLike_9 rfl (lv_at hl 0 rfl) ?_
  refine lv_iload_n X.1 X.2.1 dX7_areLike_10 rfl (lv_at hl 2 rfl) ?_
  refine mcalli hq X hW (mt_isOther_bad l hq (T) (D) (th) (x := v) (h)) (cwV 1 X.2.2.2.2 gX7_areLike_X7_isOther rfl rfl rfl (by decide +kernel) ⟨Nat.le_of_ble_eq_true rfl, Nat.le_of_ble_eq_true rfl⟩) rfl rfl hl.1 (Nat.le_of_ble_eq_true rfl) dX7_areLike_11 ⟨Nat.zero_le _, Nat.zero_le _⟩ (fun H locs hW => ?_)
  refine n_if_eq_t (tgt := 21) X.1 X.2.1 dX7_areLike_14 (by decide) (by decide) (by omega) ?_
  refine lv_iconst (v := nI 1) X.1 X.2.1 dX7_areLike_21 (by decide) ?_
  refine mcalli hq X hW (mt_isWrong_s l hq (T) (D) (th) (n := 1) (by decide) (by decide)) (cwV 1 X.2.2.2.2 gX7_areLike_X7_isWrong rfl rfl rfl (by decide +kernel) ⟨Nat.le_of_ble_eq_true rfl, Nat.le_of_ble_eq_true rfl⟩) rfl rfl hl.1 (Nat.le_of_ble_eq_true rfl) dX7_areLike_22 ⟨Nat.zero_le _, Nat.zero_le _⟩ (fun H locs hW => ?_)
  refine n_if_eq_f (tgt := 30) X.1 X.2.1 dX7_areLike_25 (by decide) (by decide) (by omega) ?_
  refine lv_iconst (v := nI 0) X.1 X.2.1 dX7_areLike_28 (by decide) ?_
  exact hE _ _ _ _ _ (rfl) (fun ty hty => by cases hty; exact nI_zb (by omega)) hW dX7_areLike_29

set_option maxHeartbeats 4000000 in
set_option maxRecDepth 100000 in
theorem mt_areLike_n (l : Launch) {G : va_G} {cI cZ : ClassId} {q : Nat → Nat} (hq : mJ q) (T : mT) (D : mD) (th : Int32) (I : mI T) {w v : Nat} (hw : w < 3) (hv : v < 3) (h : T 7 w ≠ T 7 (3 + v)) : mMi l yX7_areLike wsX7_areLike ({ frames := 1, cells := 0, slots := 0, locals := 21 } : Room) G cI cZ q [.int (nI (w)), .int (nI (v))] (T) (D) (th) (nI 0) (T) (D) (nI 0) := by
  refine mstarti (cc := cX7_areLike) (maxL := 5) (ret := (some .boolean)) (by decide) rfl rfl ⟨_, rfl⟩ (Nat.le_of_ble_eq_true rfl) (fun p e s m args below meth c Q hE X hW ls hl => ?_)
  have hl : lv_has ls 5 [(0, .ref (q 0)), (1, .int (nI (w))), (2, .int (nI (v)))] := hl
  have hin : ∀ w ∈ wsX70, w ∈ wsX7_areLike := fun w h => List.mem_cons_of_mem _ (List.mem_append_left _ (List.mem_append_right _ (h)))
  have I1 := I.wr (show w < 6 by omega)
  have I2 := I.wr (show 3 + v < 6 by omega)
  refine lv_aload_n X.1 X.2.1 dX7_areLike_0 rfl (lv_at hl 0 rfl) ?_
  refine lv_aload_n X.1 X.2.1 dX7_areLike_1 rfl (lv_at hl 0 rfl) ?_
  refine lv_iload_n X.1 X.2.1 dX7_areLike_2 rfl (lv_at hl 1 rfl) ?_
  refine mcalli hq X hW (mt_isOther_ok l hq (T) (D) (th) (r := w) (by omega)) (cwV 1 X.2.2.2.2 gX7_areLike_X7_isOther rfl rfl rfl (by decide +kernel) ⟨Nat.le_of_ble_eq_true rfl, Nat.le_of_ble_eq_true rfl⟩) rfl rfl hl.1 (Nat.le_of_ble_eq_true rfl) dX7_areLike_3 ⟨Nat.zero_le _, Nat.zero_le _⟩ (fun H locs hW => ?_)
  refine n_if_eq_f (tgt := 21) X.1 X.2.1 dX7_areLike_6 (by decide) (by decide) (by omega) ?_
  refine lv_aload_n X.1 X.2.1 dX7_areLike_9 rfl (lv_at hl 0 rfl) ?_
  refine lv_iload_n X.1 X.2.1 dX7_areLike_10 rfl (lv_at hl 2 rfl) ?_
  refine mcalli hq X hW (mt_isOther_ok l hq (T) (D) (th) (r := v) (by omega)) (cwV 1 X.2.2.2.2 gX7_areLike_X7_isOther rfl rfl rfl (by decide +kernel) ⟨Nat.le_of_ble_eq_true rfl, Nat.le_of_ble_eq_true rfl⟩) rfl rfl hl.1 (Nat.le_of_ble_eq_true rfl) dX7_areLike_11 ⟨Nat.zero_le _, Nat.zero_le _⟩ (fun H locs hW => ?_)
  refine n_if_eq_f (tgt := 21) X.1 X.2.1 dX7_areLike_14 (by decide) (by decide) (by omega) ?_
  refine lv_iconst (v := nI 0) X.1 X.2.1 dX7_areLike_17 (by decide) ?_
  refine lv_goto (tgt := 22) X.1 X.2.1 dX7_areLike_18 (by decide) ?_
  refine mcalli hq X hW (mt_isWrong_0 l hq (T) (D) (th)) (cwV 1 X.2.2.2.2 gX7_areLike_X7_isWrong rfl rfl rfl (by decide +kernel) ⟨Nat.le_of_ble_eq_true rfl, Nat.le_of_ble_eq_true rfl⟩) rfl rfl hl.1 (Nat.le_of_ble_eq_true rfl) dX7_areLike_22 ⟨Nat.zero_le _, Nat.zero_le _⟩ (fun H locs hW => ?_)
  refine n_if_eq_t (tgt := 30) X.1 X.2.1 dX7_areLike_25 (by decide) (by decide) (by omega) ?_
  refine lv_aload_n X.1 X.2.1 dX7_areLike_30 rfl (lv_at hl 0 rfl) ?_
  refine mget 7 (by decide) rfl X hin hW (X.2.2.2.2 (.fieldLink RX7 31 "StrandbookModel" "sizes" "[I") (List.mem_cons_of_mem _ (List.mem_append_left _ (List.mem_append_left _ (List.mem_of_getElem? (i := 0) rfl))))) dX7_areLike_31 ?_
  refine lv_iload_n X.1 X.2.1 dX7_areLike_34 rfl (lv_at hl 1 rfl) ?_
  refine mld7 X hW (by omega) dX7_areLike_35 ?_
  refine lv_aload_n X.1 X.2.1 dX7_areLike_36 rfl (lv_at hl 0 rfl) ?_
  refine mget 7 (by decide) rfl X hin hW (X.2.2.2.2 (.fieldLink RX7 31 "StrandbookModel" "sizes" "[I") (List.mem_cons_of_mem _ (List.mem_append_left _ (List.mem_append_left _ (List.mem_of_getElem? (i := 0) rfl))))) dX7_areLike_37 ?_
  refine lv_iconst (v := nI 3) X.1 X.2.1 dX7_areLike_40 (by decide) ?_
  refine lv_iload_n X.1 X.2.1 dX7_areLike_41 rfl (lv_at hl 2 rfl) ?_
  refine n_iadd X.1 X.2.1 dX7_areLike_42 ?_
  refine mld7 X hW (by omega) dX7_areLike_43 ?_
  refine n_icmp_ne_t (tgt := 51) X.1 X.2.1 dX7_areLike_44 (by decide) (h) (by omega) (by omega) ?_
  refine lv_iconst (v := nI 0) X.1 X.2.1 dX7_areLike_51 (by decide) ?_
  refine lv_istore_n (lv' := [(3, .int (nI (0))), (0, .ref (q 0)), (1, .int (nI (w))), (2, .int (nI (v)))]) X.1 X.2.1 dX7_areLike_52 rfl hl (by decide) rfl (fun ls hl => ?_)
  refine lv_iconst (v := nI 0) X.1 X.2.1 dX7_areLike_53 (by decide) ?_
  refine lv_istore (lv' := [(4, .int (nI (0))), (3, .int (nI (0))), (0, .ref (q 0)), (1, .int (nI (w))), (2, .int (nI (v)))]) X.1 X.2.1 dX7_areLike_54 hl (by decide) rfl (fun ls hl => ?_)
  refine lv_iload_n X.1 X.2.1 dX7_areLike_56 rfl (lv_at hl 1 rfl) ?_
  refine n_if_eq_t (tgt := 116) X.1 X.2.1 dX7_areLike_57 (by decide) (by decide) (by omega) ?_
  refine lv_iload_n X.1 X.2.1 dX7_areLike_116 rfl (lv_at hl 1 rfl) ?_
  exact hE _ _ _ _ _ (rfl) (fun ty hty => by cases hty; exact nI_zb (by omega)) hW dX7_areLike_117

set_option maxHeartbeats 4000000 in
set_option maxRecDepth 100000 in
theorem mt_areLike_e (l : Launch) {G : va_G} {cI cZ : ClassId} {q : Nat → Nat} (hq : mJ q) (T : mT) (D : mD) (th : Int32) (I : mI T) {w v : Nat} (hw : w < 3) (hv : v < 3) (h : T 7 w = T 7 (3 + v)) : mMi l yX7_areLike wsX7_areLike ({ frames := 1, cells := 0, slots := 0, locals := 21 } : Room) G cI cZ q [.int (nI (w)), .int (nI (v))] (T) (D) (th) (nI (lkF (fun i => D 6 (256 * w + i)) (fun i => D 6 (256 * (3 + v) + i)) (T 7 w))) (T) (D) (nI 0) := by
  refine mstarti (cc := cX7_areLike) (maxL := 5) (ret := (some .boolean)) (by decide) rfl rfl ⟨_, rfl⟩ (Nat.le_of_ble_eq_true rfl) (fun p e s m args below meth c Q hE X hW ls hl => ?_)
  have hl : lv_has ls 5 [(0, .ref (q 0)), (1, .int (nI (w))), (2, .int (nI (v)))] := hl
  have hin : ∀ w ∈ wsX70, w ∈ wsX7_areLike := fun w h => List.mem_cons_of_mem _ (List.mem_append_left _ (List.mem_append_right _ (h)))
  have I1 := I.wr (show w < 6 by omega)
  have I2 := I.wr (show 3 + v < 6 by omega)
  refine lv_aload_n X.1 X.2.1 dX7_areLike_0 rfl (lv_at hl 0 rfl) ?_
  refine lv_aload_n X.1 X.2.1 dX7_areLike_1 rfl (lv_at hl 0 rfl) ?_
  refine lv_iload_n X.1 X.2.1 dX7_areLike_2 rfl (lv_at hl 1 rfl) ?_
  refine mcalli hq X hW (mt_isOther_ok l hq (T) (D) (th) (r := w) (by omega)) (cwV 1 X.2.2.2.2 gX7_areLike_X7_isOther rfl rfl rfl (by decide +kernel) ⟨Nat.le_of_ble_eq_true rfl, Nat.le_of_ble_eq_true rfl⟩) rfl rfl hl.1 (Nat.le_of_ble_eq_true rfl) dX7_areLike_3 ⟨Nat.zero_le _, Nat.zero_le _⟩ (fun H locs hW => ?_)
  refine n_if_eq_f (tgt := 21) X.1 X.2.1 dX7_areLike_6 (by decide) (by decide) (by omega) ?_
  refine lv_aload_n X.1 X.2.1 dX7_areLike_9 rfl (lv_at hl 0 rfl) ?_
  refine lv_iload_n X.1 X.2.1 dX7_areLike_10 rfl (lv_at hl 2 rfl) ?_
  refine mcalli hq X hW (mt_isOther_ok l hq (T) (D) (th) (r := v) (by omega)) (cwV 1 X.2.2.2.2 gX7_areLike_X7_isOther rfl rfl rfl (by decide +kernel) ⟨Nat.le_of_ble_eq_true rfl, Nat.le_of_ble_eq_true rfl⟩) rfl rfl hl.1 (Nat.le_of_ble_eq_true rfl) dX7_areLike_11 ⟨Nat.zero_le _, Nat.zero_le _⟩ (fun H locs hW => ?_)
  refine n_if_eq_f (tgt := 21) X.1 X.2.1 dX7_areLike_14 (by decide) (by decide) (by omega) ?_
  refine lv_iconst (v := nI 0) X.1 X.2.1 dX7_areLike_17 (by decide) ?_
  refine lv_goto (tgt := 22) X.1 X.2.1 dX7_areLike_18 (by decide) ?_
  refine mcalli hq X hW (mt_isWrong_0 l hq (T) (D) (th)) (cwV 1 X.2.2.2.2 gX7_areLike_X7_isWrong rfl rfl rfl (by decide +kernel) ⟨Nat.le_of_ble_eq_true rfl, Nat.le_of_ble_eq_true rfl⟩) rfl rfl hl.1 (Nat.le_of_ble_eq_true rfl) dX7_areLike_22 ⟨Nat.zero_le _, Nat.zero_le _⟩ (fun H locs hW => ?_)
  refine n_if_eq_t (tgt := 30) X.1 X.2.1 dX7_areLike_25 (by decide) (by decide) (by omega) ?_
  refine lv_aload_n X.1 X.2.1 dX7_areLike_30 rfl (lv_at hl 0 rfl) ?_
  refine mget 7 (by decide) rfl X hin hW (X.2.2.2.2 (.fieldLink RX7 31 "StrandbookModel" "sizes" "[I") (List.mem_cons_of_mem _ (List.mem_append_left _ (List.mem_append_left _ (List.mem_of_getElem? (i := 0) rfl))))) dX7_areLike_31 ?_
  refine lv_iload_n X.1 X.2.1 dX7_areLike_34 rfl (lv_at hl 1 rfl) ?_
  refine mld7 X hW (by omega) dX7_areLike_35 ?_
  refine lv_aload_n X.1 X.2.1 dX7_areLike_36 rfl (lv_at hl 0 rfl) ?_
  refine mget 7 (by decide) rfl X hin hW (X.2.2.2.2 (.fieldLink RX7 31 "StrandbookModel" "sizes" "[I") (List.mem_cons_of_mem _ (List.mem_append_left _ (List.mem_append_left _ (List.mem_of_getElem? (i := 0) rfl))))) dX7_areLike_37 ?_
  refine lv_iconst (v := nI 3) X.1 X.2.1 dX7_areLike_40 (by decide) ?_
  refine lv_iload_n X.1 X.2.1 dX7_areLike_41 rfl (lv_at hl 2 rfl) ?_
  refine n_iadd X.1 X.2.1 dX7_areLike_42 ?_
  refine mld7 X hW (by omega) dX7_areLike_43 ?_
  refine n_icmp_ne_f (tgt := 51) X.1 X.2.1 dX7_areLike_44 (by decide) (h) (by omega) (by omega) ?_
  refine lv_iconst (v := nI 1) X.1 X.2.1 dX7_areLike_47 (by decide) ?_
  refine lv_goto (tgt := 52) X.1 X.2.1 dX7_areLike_48 (by decide) ?_
  refine lv_istore_n (lv' := [(3, .int (nI (1))), (0, .ref (q 0)), (1, .int (nI (w))), (2, .int (nI (v)))]) X.1 X.2.1 dX7_areLike_52 rfl hl (by decide) rfl (fun ls hl => ?_)
  refine lv_iconst (v := nI 0) X.1 X.2.1 dX7_areLike_53 (by decide) ?_
  refine lv_istore (lv' := [(4, .int (nI (0))), (3, .int (nI (1))), (0, .ref (q 0)), (1, .int (nI (w))), (2, .int (nI (v)))]) X.1 X.2.1 dX7_areLike_54 hl (by decide) rfl (fun ls hl => ?_)
  have loop56 : ∀ (n56 k56 : Nat), k56 + n56 = T 7 w → ∀ (H : Heap) (locs : List Loc), mH G cI cZ q (T) (D) (nI 0) s H locs → ∀ ls : Array Slot, lv_has ls 5 [(0, .ref (q 0)), (1, .int (nI (w))), (2, .int (nI (v))), (3, .int (nI (lkF (fun i => D 6 (256 * w + i)) (fun i => D 6 (256 * (3 + v) + i)) k56))), (4, .int (nI (k56)))] → W p l e ({ frames := 1, cells := 0, slots := 0, locals := 21 } : Room) s m args below meth c H locs 0 0 Q (F0 m 56 ls []) := by
    intro n56
    induction n56 with
    | zero =>
      intro k56 hk56  H locs hW ls hl
      obtain rfl : T 7 w = k56 := by omega
      have L9 := lkF_le (f := (fun i => D 6 (256 * w + i))) (g := (fun i => D 6 (256 * (3 + v) + i))) (T 7 w)
      rcases Decidable.em (lkF (fun i => D 6 (256 * w + i)) (fun i => D 6 (256 * (3 + v) + i)) (T 7 w) = 0) with hs | hs
      · skip
        refine lv_iload_n X.1 X.2.1 dX7_areLike_56 rfl (lv_at hl 3 rfl) ?_
        refine n_if_eq_t (tgt := 116) X.1 X.2.1 dX7_areLike_57 (by decide) (hs) (by omega) ?_
        refine lv_iload_n X.1 X.2.1 dX7_areLike_116 rfl (lv_at hl 3 rfl) ?_
        exact hE _ _ _ _ _ (rfl) (fun ty hty => by cases hty; exact nI_zb (lkF_le _)) hW dX7_areLike_117
      · skip
        refine lv_iload_n X.1 X.2.1 dX7_areLike_56 rfl (lv_at hl 3 rfl) ?_
        refine n_if_eq_f (tgt := 116) X.1 X.2.1 dX7_areLike_57 (by decide) (hs) (by omega) ?_
        refine lv_iload X.1 X.2.1 dX7_areLike_60 (lv_at hl 4 rfl) ?_
        refine lv_aload_n X.1 X.2.1 dX7_areLike_62 rfl (lv_at hl 0 rfl) ?_
        refine mget 7 (by decide) rfl X hin hW (X.2.2.2.2 (.fieldLink RX7 31 "StrandbookModel" "sizes" "[I") (List.mem_cons_of_mem _ (List.mem_append_left _ (List.mem_append_left _ (List.mem_of_getElem? (i := 0) rfl))))) dX7_areLike_63 ?_
        refine lv_iload_n X.1 X.2.1 dX7_areLike_66 rfl (lv_at hl 1 rfl) ?_
        refine mld7 X hW (by omega) dX7_areLike_67 ?_
        refine n_icmp_ge_t (tgt := 116) X.1 X.2.1 dX7_areLike_68 (by decide) (by omega) (by omega) (by omega) ?_
        refine lv_iload_n X.1 X.2.1 dX7_areLike_116 rfl (lv_at hl 3 rfl) ?_
        exact hE _ _ _ _ _ (rfl) (fun ty hty => by cases hty; exact nI_zb (lkF_le _)) hW dX7_areLike_117
    | succ n56 ih56 =>
      intro k56 hk56  H locs hW ls hl
      have L9 := lkF_le (f := (fun i => D 6 (256 * w + i))) (g := (fun i => D 6 (256 * (3 + v) + i))) k56
      rcases Decidable.em (lkF (fun i => D 6 (256 * w + i)) (fun i => D 6 (256 * (3 + v) + i)) k56 = 0) with hs | hs
      · have hz := lkF_0 hs (T 7 w) (by omega)
        refine lv_iload_n X.1 X.2.1 dX7_areLike_56 rfl (lv_at hl 3 rfl) ?_
        refine n_if_eq_t (tgt := 116) X.1 X.2.1 dX7_areLike_57 (by decide) (hs) (by omega) ?_
        refine lv_iload_n X.1 X.2.1 dX7_areLike_116 rfl (lv_at hl 3 rfl) ?_
        exact hE _ _ _ _ _ (by rw [hs, hz]) (fun ty hty => by cases hty; exact nI_zb (lkF_le _)) hW dX7_areLike_117
      · skip
        refine lv_iload_n X.1 X.2.1 dX7_areLike_56 rfl (lv_at hl 3 rfl) ?_
        refine n_if_eq_f (tgt := 116) X.1 X.2.1 dX7_areLike_57 (by decide) (hs) (by omega) ?_
        refine lv_iload X.1 X.2.1 dX7_areLike_60 (lv_at hl 4 rfl) ?_
        refine lv_aload_n X.1 X.2.1 dX7_areLike_62 rfl (lv_at hl 0 rfl) ?_
        refine mget 7 (by decide) rfl X hin hW (X.2.2.2.2 (.fieldLink RX7 31 "StrandbookModel" "sizes" "[I") (List.mem_cons_of_mem _ (List.mem_append_left _ (List.mem_append_left _ (List.mem_of_getElem? (i := 0) rfl))))) dX7_areLike_63 ?_
        refine lv_iload_n X.1 X.2.1 dX7_areLike_66 rfl (lv_at hl 1 rfl) ?_
        refine mld7 X hW (by omega) dX7_areLike_67 ?_
        refine n_icmp_ge_f (tgt := 116) X.1 X.2.1 dX7_areLike_68 (by decide) (by omega) (by omega) (by omega) ?_
        refine lv_aload_n X.1 X.2.1 dX7_areLike_71 rfl (lv_at hl 0 rfl) ?_
        refine mget 6 (by decide) rfl X hin hW (X.2.2.2.2 (.fieldLink RX7 28 "StrandbookModel" "written" "[I") (List.mem_cons_of_mem _ (List.mem_append_left _ (List.mem_append_left _ (List.mem_of_getElem? (i := 1) rfl))))) dX7_areLike_72 ?_
        refine lv_sipush (v := nI 256) X.1 X.2.1 dX7_areLike_75 (by decide) ?_
        refine lv_iload_n X.1 X.2.1 dX7_areLike_78 rfl (lv_at hl 1 rfl) ?_
        refine n_imul X.1 X.2.1 dX7_areLike_79 ?_
        refine lv_iload X.1 X.2.1 dX7_areLike_80 (lv_at hl 4 rfl) ?_
        refine n_iadd X.1 X.2.1 dX7_areLike_82 ?_
        refine mld6 X hW (by omega) dX7_areLike_83 ?_
        refine lv_aload_n X.1 X.2.1 dX7_areLike_84 rfl (lv_at hl 0 rfl) ?_
        refine mget 6 (by decide) rfl X hin hW (X.2.2.2.2 (.fieldLink RX7 28 "StrandbookModel" "written" "[I") (List.mem_cons_of_mem _ (List.mem_append_left _ (List.mem_append_left _ (List.mem_of_getElem? (i := 1) rfl))))) dX7_areLike_85 ?_
        refine lv_sipush (v := nI 768) X.1 X.2.1 dX7_areLike_88 (by decide) ?_
        refine lv_sipush (v := nI 256) X.1 X.2.1 dX7_areLike_91 (by decide) ?_
        refine lv_iload_n X.1 X.2.1 dX7_areLike_94 rfl (lv_at hl 2 rfl) ?_
        refine n_imul X.1 X.2.1 dX7_areLike_95 ?_
        refine n_iadd X.1 X.2.1 dX7_areLike_96 ?_
        refine lv_iload X.1 X.2.1 dX7_areLike_97 (lv_at hl 4 rfl) ?_
        refine n_iadd X.1 X.2.1 dX7_areLike_99 ?_
        refine mld6 X hW (by omega) dX7_areLike_100 ?_
        refine n_cv (y := D 6 (256 * (3 + v) + k56)) (congrArg (D 6) (by omega)) ?_
        rcases Decidable.em (D 6 (256 * w + k56) = D 6 (256 * (3 + v) + k56)) with hq9 | hq9
        · have hfa : lkF (fun i => D 6 (256 * w + i)) (fun i => D 6 (256 * (3 + v) + i)) (k56 + 1) = 1 := (if_pos hq9).trans (by omega)
          refine x_icmp_ne_f (tgt := 108) X.1 X.2.1 dX7_areLike_101 (by decide) (hq9) ?_
          refine lv_iconst (v := nI 1) X.1 X.2.1 dX7_areLike_104 (by decide) ?_
          refine lv_goto (tgt := 109) X.1 X.2.1 dX7_areLike_105 (by decide) ?_
          refine lv_istore_n (lv' := [(3, .int (nI (1))), (0, .ref (q 0)), (1, .int (nI (w))), (2, .int (nI (v))), (4, .int (nI (k56)))]) X.1 X.2.1 dX7_areLike_109 rfl hl (by decide) rfl (fun ls hl => ?_)
          refine lv_iinc (v := nI (k56 + 1)) (lv' := [(4, .int (nI (k56 + 1))), (3, .int (nI (1))), (0, .ref (q 0)), (1, .int (nI (w))), (2, .int (nI (v)))]) X.1 X.2.1 dX7_areLike_110 hl (k := 4) rfl (nI_1 _) (by decide) rfl (fun ls hl => ?_)
          refine lv_goto (tgt := 56) X.1 X.2.1 dX7_areLike_113 (by decide) ?_
          exact ih56 (k56 + 1) (by omega) _ _ (hW.eq (rfl) (rfl) rfl) ls (by have h9 := lv_sub hl [2, 3, 4, 1, 0] rfl; rw [hfa]; exact h9)
        · have hfa : lkF (fun i => D 6 (256 * w + i)) (fun i => D 6 (256 * (3 + v) + i)) (k56 + 1) = 0 := if_neg hq9
          refine x_icmp_ne_t (tgt := 108) X.1 X.2.1 dX7_areLike_101 (by decide) (hq9) ?_
          refine lv_iconst (v := nI 0) X.1 X.2.1 dX7_areLike_108 (by decide) ?_
          refine lv_istore_n (lv' := [(3, .int (nI (0))), (0, .ref (q 0)), (1, .int (nI (w))), (2, .int (nI (v))), (4, .int (nI (k56)))]) X.1 X.2.1 dX7_areLike_109 rfl hl (by decide) rfl (fun ls hl => ?_)
          refine lv_iinc (v := nI (k56 + 1)) (lv' := [(4, .int (nI (k56 + 1))), (3, .int (nI (0))), (0, .ref (q 0)), (1, .int (nI (w))), (2, .int (nI (v)))]) X.1 X.2.1 dX7_areLike_110 hl (k := 4) rfl (nI_1 _) (by decide) rfl (fun ls hl => ?_)
          refine lv_goto (tgt := 56) X.1 X.2.1 dX7_areLike_113 (by decide) ?_
          exact ih56 (k56 + 1) (by omega) _ _ (hW.eq (rfl) (rfl) rfl) ls (by have h9 := lv_sub hl [2, 3, 4, 1, 0] rfl; rw [hfa]; exact h9)
  exact loop56 ((T 7 w) - (0)) (0) (by omega) _ _ (hW.eq (rfl) (rfl) rfl) ls (lv_sub hl [2, 3, 4, 1, 0] rfl)

theorem mo_areLike (l : Launch) {G : va_G} {cI cZ : ClassId} {q : Nat → Nat} (hq : mJ q) (T : mT) (D : mD) (th : Int32) (I : mI T) (J : mJD D) (w v : Int32) : mO l yX7_areLike wsX7_areLike ({ frames := 1, cells := 0, slots := 0, locals := 21 } : Room) G cI cZ q [.int w, .int v] T D th (sp_areLike T D w v) := by
  by_cases h1 : oN w 3
  · rw [show sp_areLike T D w v = no T D 1 from if_pos (Or.inl h1)]; exact mt_areLike_1a l hq T D th h1
  · obtain ⟨w, hw, rfl⟩ := oN_in (by decide) h1
    by_cases h2 : oN v 3
    · rw [show sp_areLike T D (nI w) v = no T D 1 from if_pos (Or.inr h2)]; exact mt_areLike_1b l hq T D th hw h2
    · obtain ⟨v, hv, rfl⟩ := oN_in (by decide) h2
      have hc : (nI w).toNatClampNeg = w := nI_clamp (by omega)
      have hc2 : (nI v).toNatClampNeg = v := nI_clamp (by omega)
      have hno : ¬ (oN (nI w) 3 ∨ oN (nI v) 3) := fun z => z.elim h1 h2
      rw [show sp_areLike T D (nI w) (nI v) = (0, nI (sk_like T D w (3 + v)), T, D) from (if_neg hno).trans (by rw [hc, hc2])]
      by_cases h3 : T 7 w = T 7 (3 + v)
      · rw [show sk_like T D w (3 + v) = lkF (fun i => D 6 (256 * w + i)) (fun i => D 6 (256 * (3 + v) + i)) (T 7 w) from if_pos h3]
        exact mt_areLike_e l hq T D th I hw hv h3
      · rw [show sk_like T D w (3 + v) = 0 from if_neg h3]
        exact mt_areLike_n l hq T D th I hw hv h3
