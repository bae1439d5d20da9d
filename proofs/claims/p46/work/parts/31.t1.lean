set_option maxHeartbeats 4000000 in
set_option maxRecDepth 100000 in
theorem cz_openReaderAt (l : Launch) {G : va_G} {kT : Nat → ClassId} {L : List Nat} {K : Nat → Nat} {R : pR} {I : pI} {A : mD} {Q : pR} {N : Nat → Nat} (hst : l.stackTraces = false) {T : mT} {D : mD} {ad : pD} (HB : Rep T D ad L K R I A Q N) {i : Nat} (hi : i < 3) (h : clo T i) : cMt l yX6_openReaderAt wsX6_openReaderAt ({ frames := 7, cells := 1, slots := 6, locals := 121 } : Room) G kT [.ref (ad 0 0), .int (nI (i))] L K R I A Q N "java/lang/UnsupportedOperationException" := by
  by_cases h8 : T 8 i = 0
  · skip
    refine cstt (cc := cX6_openReaderAt) (maxL := 3) (ret := (some (.object "Strandbook$SignReader"))) hst (by decide) rfl (Nat.le_of_ble_eq_true rfl) (fun p e s m args below meth c Z Y X hW ls hl => ?_)
    have X : CallFix p m c cX6_openReaderAt 3 s args wsX6_openReaderAt RX6 := X
    have hl : lv_has ls 3 [(0, .ref (ad 0 0)), (1, .int (nI (i)))] := hl
    have hin2 : ∀ w ∈ wsX20, w ∈ wsX6_openReaderAt := fun w h => List.mem_cons_of_mem _ (List.mem_append_left _ (List.mem_append_left _ (List.mem_append_left _ (List.mem_append_right _ (h)))))
    have hin6 : ∀ w ∈ wsX60, w ∈ wsX6_openReaderAt := fun w h => List.mem_cons_of_mem _ (List.mem_append_left _ (List.mem_append_left _ (List.mem_append_right _ (h))))
    refine lv_aload_n X.1 X.2.1 dX6_openReaderAt_0 rfl (lv_at hl 0 rfl) ?_
    refine lv_iload_n X.1 X.2.1 dX6_openReaderAt_1 rfl (lv_at hl 1 rfl) ?_
    refine cVr X hW (HB.mem lv_0) (pC_6 (HB.kn lv_0 rfl)) rfl (cg_readerAt l HB (r := i) (by omega)) (cwV 1 X.2.2.2.2 gX6_openReaderAt_X6_readerAt rfl rfl rfl (by decide +kernel) ⟨Nat.le_of_ble_eq_true rfl, Nat.le_of_ble_eq_true rfl⟩) rfl rfl hl.1 (Nat.le_of_ble_eq_true rfl) dX6_openReaderAt_2 ⟨Nat.zero_le _, Nat.zero_le _⟩ (fun H locs hW => ?_)
    refine lv_astore_n (lv' := [(2, .ref (ad 9 i)), (0, .ref (ad 0 0)), (1, .int (nI (i)))]) X.1 X.2.1 dX6_openReaderAt_5 rfl hl (by decide) rfl (fun ls hl => ?_)
    refine lv_aload_n X.1 X.2.1 dX6_openReaderAt_6 rfl (lv_at hl 0 rfl) ?_
    refine cg_2_isThere X hin2 hW (HB.mem (lv_9 (by omega))) (HB.kn (lv_9 (by omega)) rfl) (((HB.rr i hi).1 h8)) (X.2.2.2.2 (.fieldLink RX6 143 "Strandbook$SignReader" "isThere" "Z") (List.mem_cons_of_mem _ (List.mem_append_left _ (List.mem_append_left _ (List.mem_append_left _ (List.mem_append_left _ (List.mem_of_getElem? (i := 2) rfl))))))) dX6_openReaderAt_7 ?_
    refine n_if_eq_t (tgt := 20) X.1 X.2.1 dX6_openReaderAt_10 (by decide) (by decide) (by omega) ?_
    exact cTHw Y X hW (text := "the reader is not there, or was shut") (ik := 147) (is := 273) (ic := 151) (by decide +kernel) (List.mem_cons_of_mem _ (List.mem_append_left _ (List.mem_append_left _ (List.mem_append_left _ (List.mem_append_left _ (List.mem_of_getElem? (i := 0) rfl)))))) (List.mem_cons_of_mem _ (List.mem_append_left _ (List.mem_append_left _ (List.mem_append_left _ (List.mem_append_left _ (List.mem_of_getElem? (i := 1) rfl)))))) (by decide +kernel) (fun w h => List.mem_cons_of_mem _ (List.mem_append_left _ (List.mem_append_right _ (h)))) (by decide +kernel) (by decide +kernel) hl.1 dX6_openReaderAt_20 dX6_openReaderAt_23 dX6_openReaderAt_24 dX6_openReaderAt_27 dX6_openReaderAt_30 (Nat.le_of_ble_eq_true rfl) (Nat.le_of_ble_eq_true rfl) (Nat.le_of_ble_eq_true rfl) (Nat.le_of_ble_eq_true rfl)
  · have h12 := h.resolve_left h8
    have hm9 := HB.mi.rd hi
    refine cstt (cc := cX6_openReaderAt) (maxL := 3) (ret := (some (.object "Strandbook$SignReader"))) hst (by decide) rfl (Nat.le_of_ble_eq_true rfl) (fun p e s m args below meth c Z Y X hW ls hl => ?_)
    have X : CallFix p m c cX6_openReaderAt 3 s args wsX6_openReaderAt RX6 := X
    have hl : lv_has ls 3 [(0, .ref (ad 0 0)), (1, .int (nI (i)))] := hl
    have hin2 : ∀ w ∈ wsX20, w ∈ wsX6_openReaderAt := fun w h => List.mem_cons_of_mem _ (List.mem_append_left _ (List.mem_append_left _ (List.mem_append_left _ (List.mem_append_right _ (h)))))
    have hin6 : ∀ w ∈ wsX60, w ∈ wsX6_openReaderAt := fun w h => List.mem_cons_of_mem _ (List.mem_append_left _ (List.mem_append_left _ (List.mem_append_right _ (h))))
    refine lv_aload_n X.1 X.2.1 dX6_openReaderAt_0 rfl (lv_at hl 0 rfl) ?_
    refine lv_iload_n X.1 X.2.1 dX6_openReaderAt_1 rfl (lv_at hl 1 rfl) ?_
    refine cVr X hW (HB.mem lv_0) (pC_6 (HB.kn lv_0 rfl)) rfl (cg_readerAt l HB (r := i) (by omega)) (cwV 1 X.2.2.2.2 gX6_openReaderAt_X6_readerAt rfl rfl rfl (by decide +kernel) ⟨Nat.le_of_ble_eq_true rfl, Nat.le_of_ble_eq_true rfl⟩) rfl rfl hl.1 (Nat.le_of_ble_eq_true rfl) dX6_openReaderAt_2 ⟨Nat.zero_le _, Nat.zero_le _⟩ (fun H locs hW => ?_)
    refine lv_astore_n (lv' := [(2, .ref (ad 9 i)), (0, .ref (ad 0 0)), (1, .int (nI (i)))]) X.1 X.2.1 dX6_openReaderAt_5 rfl hl (by decide) rfl (fun ls hl => ?_)
    refine lv_aload_n X.1 X.2.1 dX6_openReaderAt_6 rfl (lv_at hl 0 rfl) ?_
    refine cg_2_isThere X hin2 hW (HB.mem (lv_9 (by omega))) (HB.kn (lv_9 (by omega)) rfl) (((HB.rr i hi).2 h8).1) (X.2.2.2.2 (.fieldLink RX6 143 "Strandbook$SignReader" "isThere" "Z") (List.mem_cons_of_mem _ (List.mem_append_left _ (List.mem_append_left _ (List.mem_append_left _ (List.mem_append_left _ (List.mem_of_getElem? (i := 2) rfl))))))) dX6_openReaderAt_7 ?_
    refine n_if_eq_f (tgt := 20) X.1 X.2.1 dX6_openReaderAt_10 (by decide) (by decide) (by omega) ?_
    refine lv_aload_n X.1 X.2.1 dX6_openReaderAt_13 rfl (lv_at hl 0 rfl) ?_
    refine cg_2_isShut X hin2 hW (HB.mem (lv_9 (by omega))) (HB.kn (lv_9 (by omega)) rfl) (((HB.rr i hi).2 h8).2.2.2.2.2) (X.2.2.2.2 (.fieldLink RX6 152 "Strandbook$SignReader" "isShut" "Z") (List.mem_cons_of_mem _ (List.mem_append_left _ (List.mem_append_left _ (List.mem_append_left _ (List.mem_append_left _ (List.mem_of_getElem? (i := 3) rfl))))))) dX6_openReaderAt_14 ?_
    refine n_if_eq_f (tgt := 31) X.1 X.2.1 dX6_openReaderAt_17 (by decide) (h12) (by omega) ?_
    exact cTHw Y X hW (text := "the reader is not there, or was shut") (ik := 147) (is := 273) (ic := 151) (by decide +kernel) (List.mem_cons_of_mem _ (List.mem_append_left _ (List.mem_append_left _ (List.mem_append_left _ (List.mem_append_left _ (List.mem_of_getElem? (i := 0) rfl)))))) (List.mem_cons_of_mem _ (List.mem_append_left _ (List.mem_append_left _ (List.mem_append_left _ (List.mem_append_left _ (List.mem_of_getElem? (i := 1) rfl)))))) (by decide +kernel) (fun w h => List.mem_cons_of_mem _ (List.mem_append_left _ (List.mem_append_right _ (h)))) (by decide +kernel) (by decide +kernel) hl.1 dX6_openReaderAt_20 dX6_openReaderAt_23 dX6_openReaderAt_24 dX6_openReaderAt_27 dX6_openReaderAt_30 (Nat.le_of_ble_eq_true rfl) (Nat.le_of_ble_eq_true rfl) (Nat.le_of_ble_eq_true rfl) (Nat.le_of_ble_eq_true rfl)
