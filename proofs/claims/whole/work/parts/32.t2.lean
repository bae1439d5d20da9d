set_option maxHeartbeats 4000000 in
set_option maxRecDepth 100000 in
theorem cb_make_a (l : Launch) {G : va_G} {kT : Nat → ClassId} {L : List Nat} {K : Nat → Nat} {R : pR} {I : pI} {A : mD} {Q : pR} {N : Nat → Nat} (hst : l.stackTraces = false) {T : mT} {D : mD} {ad : pD} (HB : Rep T D ad L K R I A Q N) {x y : Int32} (h : oN x 4) : cMt l yX6_make wsX6_make ({ frames := 7, cells := 1, slots := 6, locals := 121 } : Room) G kT [.ref (ad 0 0), .int (x), .int (y)] L K R I A Q N "java/lang/IndexOutOfBoundsException" := by
  refine cstt (cc := cX6_make) (maxL := 4) (ret := (some .int)) hst (by decide) rfl (Nat.le_of_ble_eq_true rfl) (fun p e s m args below meth c Z Y X hW ls hl => ?_)
  have X : CallFix p m c cX6_make 4 s args wsX6_make RX6 := X
  have hl : lv_has ls 4 [(0, .ref (ad 0 0)), (1, .int (x)), (2, .int (y))] := hl
  have hin3 : ∀ w ∈ wsX30, w ∈ wsX6_make := fun w h => List.mem_cons_of_mem _ (List.mem_append_left _ (List.mem_append_left _ (List.mem_append_left _ (List.mem_append_right _ (h)))))
  have hin6 : ∀ w ∈ wsX60, w ∈ wsX6_make := fun w h => List.mem_cons_of_mem _ (List.mem_append_left _ (List.mem_append_left _ (List.mem_append_right _ (h))))
  refine lv_aload_n X.1 X.2.1 dX6_make_0 rfl (lv_at hl 0 rfl) ?_
  refine lv_iload_n X.1 X.2.1 dX6_make_1 rfl (lv_at hl 1 rfl) ?_
  exact cXV Y X hW (HB.mem lv_0) (pC_6 (HB.kn lv_0 rfl)) rfl (cz_signRowAt l hst HB h) (cwV 1 X.2.2.2.2 gX6_make_X6_signRowAt rfl rfl rfl (by decide +kernel) ⟨Nat.le_of_ble_eq_true rfl, Nat.le_of_ble_eq_true rfl⟩) rfl rfl hl.1 (Nat.le_of_ble_eq_true rfl) dX6_make_2 ⟨Nat.le_of_ble_eq_true rfl, Nat.le_of_ble_eq_true rfl⟩

set_option maxHeartbeats 4000000 in
set_option maxRecDepth 100000 in
theorem cb_make_b (l : Launch) {G : va_G} {kT : Nat → ClassId} {L : List Nat} {K : Nat → Nat} {R : pR} {I : pI} {A : mD} {Q : pR} {N : Nat → Nat} (hst : l.stackTraces = false) {T : mT} {D : mD} {ad : pD} (HB : Rep T D ad L K R I A Q N) {r : Nat} {x : Int32} (hr : r < 4) (h : oN x 257) : cMt l yX6_make wsX6_make ({ frames := 7, cells := 1, slots := 6, locals := 121 } : Room) G kT [.ref (ad 0 0), .int (nI (r)), .int (x)] L K R I A Q N "java/lang/IllegalArgumentException" := by
  by_cases h0 : x < 0
  · skip
    refine cstt (cc := cX6_make) (maxL := 4) (ret := (some .int)) hst (by decide) rfl (Nat.le_of_ble_eq_true rfl) (fun p e s m args below meth c Z Y X hW ls hl => ?_)
    have X : CallFix p m c cX6_make 4 s args wsX6_make RX6 := X
    have hl : lv_has ls 4 [(0, .ref (ad 0 0)), (1, .int (nI (r))), (2, .int (x))] := hl
    have hin3 : ∀ w ∈ wsX30, w ∈ wsX6_make := fun w h => List.mem_cons_of_mem _ (List.mem_append_left _ (List.mem_append_left _ (List.mem_append_left _ (List.mem_append_right _ (h)))))
    have hin6 : ∀ w ∈ wsX60, w ∈ wsX6_make := fun w h => List.mem_cons_of_mem _ (List.mem_append_left _ (List.mem_append_left _ (List.mem_append_right _ (h))))
    have hu := uS_row (T := T) hr
    have hsr := HB.sr hu
    have hl9 := hsr.2.2.2.2.2.2
    refine lv_aload_n X.1 X.2.1 dX6_make_0 rfl (lv_at hl 0 rfl) ?_
    refine lv_iload_n X.1 X.2.1 dX6_make_1 rfl (lv_at hl 1 rfl) ?_
    refine cVr X hW (HB.mem lv_0) (pC_6 (HB.kn lv_0 rfl)) rfl (cg_signRowAt l HB (r := r) (by omega)) (cwV 1 X.2.2.2.2 gX6_make_X6_signRowAt rfl rfl rfl (by decide +kernel) ⟨Nat.le_of_ble_eq_true rfl, Nat.le_of_ble_eq_true rfl⟩) rfl rfl hl.1 (Nat.le_of_ble_eq_true rfl) dX6_make_2 ⟨Nat.zero_le _, Nat.zero_le _⟩ (fun H locs hW => ?_)
    refine cg_3_signs X hin3 hW (hsr.1) (hsr.2.1) (hsr.2.2.1) (X.2.2.2.2 (.fieldLink RX6 60 "Strandbook$SignRow" "signs" "[C") (List.mem_cons_of_mem _ (List.mem_append_left _ (List.mem_append_left _ (List.mem_append_left _ (List.mem_append_left _ (List.mem_of_getElem? (i := 2) rfl))))))) dX6_make_5 ?_
    refine cln_8 X hW (hsr.2.2.2.1) (hsr.2.2.2.2.1) (hsr.2.2.2.2.2.1) dX6_make_8 ?_
    refine lv_istore_n (lv' := [(3, .int (nI (T 1 (T 2 r)))), (0, .ref (ad 0 0)), (1, .int (nI (r))), (2, .int (x))]) X.1 X.2.1 dX6_make_9 rfl hl (by decide) rfl (fun ls hl => ?_)
    refine lv_iload_n X.1 X.2.1 dX6_make_10 rfl (lv_at hl 3 rfl) ?_
    refine x_if_lt_t (tgt := 21) X.1 X.2.1 dX6_make_11 (by decide) (h0) ?_
    exact cTH Y X hW (text := "the length is out of range") (ik := 64) (is := 66) (ic := 68) (by decide +kernel) (List.mem_cons_of_mem _ (List.mem_append_left _ (List.mem_append_left _ (List.mem_append_left _ (List.mem_append_left _ (List.mem_of_getElem? (i := 0) rfl)))))) (List.mem_cons_of_mem _ (List.mem_append_left _ (List.mem_append_left _ (List.mem_append_left _ (List.mem_append_left _ (List.mem_of_getElem? (i := 1) rfl)))))) (by decide +kernel) (fun w h => List.mem_cons_of_mem _ (List.mem_append_left _ (List.mem_append_right _ (h)))) (by decide +kernel) (by decide +kernel) hl.1 dX6_make_21 dX6_make_24 dX6_make_25 dX6_make_27 dX6_make_30 (Nat.le_of_ble_eq_true rfl) (Nat.le_of_ble_eq_true rfl) (Nat.le_of_ble_eq_true rfl) (Nat.le_of_ble_eq_true rfl)
  · obtain ⟨j, hj, hn, rfl⟩ := oN_ge h h0
    refine cstt (cc := cX6_make) (maxL := 4) (ret := (some .int)) hst (by decide) rfl (Nat.le_of_ble_eq_true rfl) (fun p e s m args below meth c Z Y X hW ls hl => ?_)
    have X : CallFix p m c cX6_make 4 s args wsX6_make RX6 := X
    have hl : lv_has ls 4 [(0, .ref (ad 0 0)), (1, .int (nI (r))), (2, .int (nI (j)))] := hl
    have hin3 : ∀ w ∈ wsX30, w ∈ wsX6_make := fun w h => List.mem_cons_of_mem _ (List.mem_append_left _ (List.mem_append_left _ (List.mem_append_left _ (List.mem_append_right _ (h)))))
    have hin6 : ∀ w ∈ wsX60, w ∈ wsX6_make := fun w h => List.mem_cons_of_mem _ (List.mem_append_left _ (List.mem_append_left _ (List.mem_append_right _ (h))))
    have hu := uS_row (T := T) hr
    have hsr := HB.sr hu
    have hl9 := hsr.2.2.2.2.2.2
    refine lv_aload_n X.1 X.2.1 dX6_make_0 rfl (lv_at hl 0 rfl) ?_
    refine lv_iload_n X.1 X.2.1 dX6_make_1 rfl (lv_at hl 1 rfl) ?_
    refine cVr X hW (HB.mem lv_0) (pC_6 (HB.kn lv_0 rfl)) rfl (cg_signRowAt l HB (r := r) (by omega)) (cwV 1 X.2.2.2.2 gX6_make_X6_signRowAt rfl rfl rfl (by decide +kernel) ⟨Nat.le_of_ble_eq_true rfl, Nat.le_of_ble_eq_true rfl⟩) rfl rfl hl.1 (Nat.le_of_ble_eq_true rfl) dX6_make_2 ⟨Nat.zero_le _, Nat.zero_le _⟩ (fun H locs hW => ?_)
    refine cg_3_signs X hin3 hW (hsr.1) (hsr.2.1) (hsr.2.2.1) (X.2.2.2.2 (.fieldLink RX6 60 "Strandbook$SignRow" "signs" "[C") (List.mem_cons_of_mem _ (List.mem_append_left _ (List.mem_append_left _ (List.mem_append_left _ (List.mem_append_left _ (List.mem_of_getElem? (i := 2) rfl))))))) dX6_make_5 ?_
    refine cln_8 X hW (hsr.2.2.2.1) (hsr.2.2.2.2.1) (hsr.2.2.2.2.2.1) dX6_make_8 ?_
    refine lv_istore_n (lv' := [(3, .int (nI (T 1 (T 2 r)))), (0, .ref (ad 0 0)), (1, .int (nI (r))), (2, .int (nI (j)))]) X.1 X.2.1 dX6_make_9 rfl hl (by decide) rfl (fun ls hl => ?_)
    refine lv_iload_n X.1 X.2.1 dX6_make_10 rfl (lv_at hl 3 rfl) ?_
    refine n_if_lt_f (tgt := 21) X.1 X.2.1 dX6_make_11 (by decide) (by omega) ?_
    refine lv_iload_n X.1 X.2.1 dX6_make_14 rfl (lv_at hl 3 rfl) ?_
    refine lv_sipush (v := nI 256) X.1 X.2.1 dX6_make_15 (by decide) ?_
    refine n_icmp_le_f (tgt := 31) X.1 X.2.1 dX6_make_18 (by decide) (by omega) (by omega) (by omega) ?_
    exact cTH Y X hW (text := "the length is out of range") (ik := 64) (is := 66) (ic := 68) (by decide +kernel) (List.mem_cons_of_mem _ (List.mem_append_left _ (List.mem_append_left _ (List.mem_append_left _ (List.mem_append_left _ (List.mem_of_getElem? (i := 0) rfl)))))) (List.mem_cons_of_mem _ (List.mem_append_left _ (List.mem_append_left _ (List.mem_append_left _ (List.mem_append_left _ (List.mem_of_getElem? (i := 1) rfl)))))) (by decide +kernel) (fun w h => List.mem_cons_of_mem _ (List.mem_append_left _ (List.mem_append_right _ (h)))) (by decide +kernel) (by decide +kernel) hl.1 dX6_make_21 dX6_make_24 dX6_make_25 dX6_make_27 dX6_make_30 (Nat.le_of_ble_eq_true rfl) (Nat.le_of_ble_eq_true rfl) (Nat.le_of_ble_eq_true rfl) (Nat.le_of_ble_eq_true rfl)

set_option maxHeartbeats 4000000 in
set_option maxRecDepth 100000 in
theorem cb_makeBytes_a (l : Launch) {G : va_G} {kT : Nat → ClassId} {L : List Nat} {K : Nat → Nat} {R : pR} {I : pI} {A : mD} {Q : pR} {N : Nat → Nat} (hst : l.stackTraces = false) {T : mT} {D : mD} {ad : pD} (HB : Rep T D ad L K R I A Q N) {x x1 x2 x3 : Int32} (h : oN x 4) : cMt l yX6_makeBytes wsX6_makeBytes ({ frames := 7, cells := 1, slots := 6, locals := 121 } : Room) G kT [.ref (ad 0 0), .int (x), .int (x1), .int (x2), .int (x3)] L K R I A Q N "java/lang/IndexOutOfBoundsException" := by
  refine cstt (cc := cX6_makeBytes) (maxL := 9) (ret := (some .int)) hst (by decide) rfl (Nat.le_of_ble_eq_true rfl) (fun p e s m args below meth c Z Y X hW ls hl => ?_)
  have X : CallFix p m c cX6_makeBytes 9 s args wsX6_makeBytes RX6 := X
  have hl : lv_has ls 9 [(0, .ref (ad 0 0)), (1, .int (x)), (2, .int (x1)), (3, .int (x2)), (4, .int (x3))] := hl
  have hin0 : ∀ w ∈ wsX00, w ∈ wsX6_makeBytes := fun w h => List.mem_cons_of_mem _ (List.mem_append_left _ (List.mem_append_left _ (List.mem_append_left _ (List.mem_append_left _ (List.mem_append_right _ (h))))))
  have hin6 : ∀ w ∈ wsX60, w ∈ wsX6_makeBytes := fun w h => List.mem_cons_of_mem _ (List.mem_append_left _ (List.mem_append_left _ (List.mem_append_left _ (List.mem_append_right _ (h)))))
  refine lv_aload_n X.1 X.2.1 dX6_makeBytes_0 rfl (lv_at hl 0 rfl) ?_
  refine lv_iload_n X.1 X.2.1 dX6_makeBytes_1 rfl (lv_at hl 1 rfl) ?_
  exact cXV Y X hW (HB.mem lv_0) (pC_6 (HB.kn lv_0 rfl)) rfl (cz_byteRowAt l hst HB h) (cwV 1 X.2.2.2.2 gX6_makeBytes_X6_byteRowAt rfl rfl rfl (by decide +kernel) ⟨Nat.le_of_ble_eq_true rfl, Nat.le_of_ble_eq_true rfl⟩) rfl rfl hl.1 (Nat.le_of_ble_eq_true rfl) dX6_makeBytes_2 ⟨Nat.le_of_ble_eq_true rfl, Nat.le_of_ble_eq_true rfl⟩

set_option maxHeartbeats 4000000 in
set_option maxRecDepth 100000 in
theorem cb_makeBytes_b (l : Launch) {G : va_G} {kT : Nat → ClassId} {L : List Nat} {K : Nat → Nat} {R : pR} {I : pI} {A : mD} {Q : pR} {N : Nat → Nat} (hst : l.stackTraces = false) {T : mT} {D : mD} {ad : pD} (HB : Rep T D ad L K R I A Q N) {r : Nat} {x x2 x3 : Int32} (hr : r < 4) (h : oN x 65) : cMt l yX6_makeBytes wsX6_makeBytes ({ frames := 7, cells := 1, slots := 6, locals := 121 } : Room) G kT [.ref (ad 0 0), .int (nI (r)), .int (x), .int (x2), .int (x3)] L K R I A Q N "java/lang/IllegalArgumentException" := by
  by_cases h0 : x < 0
  · skip
    refine cstt (cc := cX6_makeBytes) (maxL := 9) (ret := (some .int)) hst (by decide) rfl (Nat.le_of_ble_eq_true rfl) (fun p e s m args below meth c Z Y X hW ls hl => ?_)
    have X : CallFix p m c cX6_makeBytes 9 s args wsX6_makeBytes RX6 := X
    have hl : lv_has ls 9 [(0, .ref (ad 0 0)), (1, .int (nI (r))), (2, .int (x)), (3, .int (x2)), (4, .int (x3))] := hl
    have hin0 : ∀ w ∈ wsX00, w ∈ wsX6_makeBytes := fun w h => List.mem_cons_of_mem _ (List.mem_append_left _ (List.mem_append_left _ (List.mem_append_left _ (List.mem_append_left _ (List.mem_append_right _ (h))))))
    have hin6 : ∀ w ∈ wsX60, w ∈ wsX6_makeBytes := fun w h => List.mem_cons_of_mem _ (List.mem_append_left _ (List.mem_append_left _ (List.mem_append_left _ (List.mem_append_right _ (h)))))
    have hu := uB_row (T := T) hr
    have hbr := HB.br hu
    have hl9 := hbr.2.2.2.2.2.2
    refine lv_aload_n X.1 X.2.1 dX6_makeBytes_0 rfl (lv_at hl 0 rfl) ?_
    refine lv_iload_n X.1 X.2.1 dX6_makeBytes_1 rfl (lv_at hl 1 rfl) ?_
    refine cVr X hW (HB.mem lv_0) (pC_6 (HB.kn lv_0 rfl)) rfl (cg_byteRowAt l HB (r := r) (by omega)) (cwV 1 X.2.2.2.2 gX6_makeBytes_X6_byteRowAt rfl rfl rfl (by decide +kernel) ⟨Nat.le_of_ble_eq_true rfl, Nat.le_of_ble_eq_true rfl⟩) rfl rfl hl.1 (Nat.le_of_ble_eq_true rfl) dX6_makeBytes_2 ⟨Nat.zero_le _, Nat.zero_le _⟩ (fun H locs hW => ?_)
    refine cg_0_bytes X hin0 hW (hbr.1) (hbr.2.1) (hbr.2.2.1) (X.2.2.2.2 (.fieldLink RX6 87 "Strandbook$ByteRow" "bytes" "[B") (List.mem_cons_of_mem _ (List.mem_append_left _ (List.mem_append_left _ (List.mem_append_left _ (List.mem_append_left _ (List.mem_append_left _ (List.mem_of_getElem? (i := 2) rfl)))))))) dX6_makeBytes_5 ?_
    refine cln_7 X hW (hbr.2.2.2.1) (hbr.2.2.2.2.1) (hbr.2.2.2.2.2.1) dX6_makeBytes_8 ?_
    refine lv_istore (lv' := [(5, .int (nI (T 4 (T 5 r)))), (0, .ref (ad 0 0)), (1, .int (nI (r))), (2, .int (x)), (3, .int (x2)), (4, .int (x3))]) X.1 X.2.1 dX6_makeBytes_9 hl (by decide) rfl (fun ls hl => ?_)
    refine lv_iload_n X.1 X.2.1 dX6_makeBytes_11 rfl (lv_at hl 3 rfl) ?_
    refine x_if_lt_t (tgt := 21) X.1 X.2.1 dX6_makeBytes_12 (by decide) (h0) ?_
    exact cTH Y X hW (text := "the length is out of range") (ik := 64) (is := 66) (ic := 68) (by decide +kernel) (List.mem_cons_of_mem _ (List.mem_append_left _ (List.mem_append_left _ (List.mem_append_left _ (List.mem_append_left _ (List.mem_append_left _ (List.mem_of_getElem? (i := 0) rfl))))))) (List.mem_cons_of_mem _ (List.mem_append_left _ (List.mem_append_left _ (List.mem_append_left _ (List.mem_append_left _ (List.mem_append_left _ (List.mem_of_getElem? (i := 1) rfl))))))) (by decide +kernel) (fun w h => List.mem_cons_of_mem _ (List.mem_append_left _ (List.mem_append_left _ (List.mem_append_right _ (h))))) (by decide +kernel) (by decide +kernel) hl.1 dX6_makeBytes_21 dX6_makeBytes_24 dX6_makeBytes_25 dX6_makeBytes_27 dX6_makeBytes_30 (Nat.le_of_ble_eq_true rfl) (Nat.le_of_ble_eq_true rfl) (Nat.le_of_ble_eq_true rfl) (Nat.le_of_ble_eq_true rfl)
  · obtain ⟨j, hj, hn, rfl⟩ := oN_ge h h0
    refine cstt (cc := cX6_makeBytes) (maxL := 9) (ret := (some .int)) hst (by decide) rfl (Nat.le_of_ble_eq_true rfl) (fun p e s m args below meth c Z Y X hW ls hl => ?_)
    have X : CallFix p m c cX6_makeBytes 9 s args wsX6_makeBytes RX6 := X
    have hl : lv_has ls 9 [(0, .ref (ad 0 0)), (1, .int (nI (r))), (2, .int (nI (j))), (3, .int (x2)), (4, .int (x3))] := hl
    have hin0 : ∀ w ∈ wsX00, w ∈ wsX6_makeBytes := fun w h => List.mem_cons_of_mem _ (List.mem_append_left _ (List.mem_append_left _ (List.mem_append_left _ (List.mem_append_left _ (List.mem_append_right _ (h))))))
    have hin6 : ∀ w ∈ wsX60, w ∈ wsX6_makeBytes := fun w h => List.mem_cons_of_mem _ (List.mem_append_left _ (List.mem_append_left _ (List.mem_append_left _ (List.mem_append_right _ (h)))))
    have hu := uB_row (T := T) hr
    have hbr := HB.br hu
    have hl9 := hbr.2.2.2.2.2.2
    refine lv_aload_n X.1 X.2.1 dX6_makeBytes_0 rfl (lv_at hl 0 rfl) ?_
    refine lv_iload_n X.1 X.2.1 dX6_makeBytes_1 rfl (lv_at hl 1 rfl) ?_
    refine cVr X hW (HB.mem lv_0) (pC_6 (HB.kn lv_0 rfl)) rfl (cg_byteRowAt l HB (r := r) (by omega)) (cwV 1 X.2.2.2.2 gX6_makeBytes_X6_byteRowAt rfl rfl rfl (by decide +kernel) ⟨Nat.le_of_ble_eq_true rfl, Nat.le_of_ble_eq_true rfl⟩) rfl rfl hl.1 (Nat.le_of_ble_eq_true rfl) dX6_makeBytes_2 ⟨Nat.zero_le _, Nat.zero_le _⟩ (fun H locs hW => ?_)
    refine cg_0_bytes X hin0 hW (hbr.1) (hbr.2.1) (hbr.2.2.1) (X.2.2.2.2 (.fieldLink RX6 87 "Strandbook$ByteRow" "bytes" "[B") (List.mem_cons_of_mem _ (List.mem_append_left _ (List.mem_append_left _ (List.mem_append_left _ (List.mem_append_left _ (List.mem_append_left _ (List.mem_of_getElem? (i := 2) rfl)))))))) dX6_makeBytes_5 ?_
    refine cln_7 X hW (hbr.2.2.2.1) (hbr.2.2.2.2.1) (hbr.2.2.2.2.2.1) dX6_makeBytes_8 ?_
    refine lv_istore (lv' := [(5, .int (nI (T 4 (T 5 r)))), (0, .ref (ad 0 0)), (1, .int (nI (r))), (2, .int (nI (j))), (3, .int (x2)), (4, .int (x3))]) X.1 X.2.1 dX6_makeBytes_9 hl (by decide) rfl (fun ls hl => ?_)
    refine lv_iload_n X.1 X.2.1 dX6_makeBytes_11 rfl (lv_at hl 3 rfl) ?_
    refine n_if_lt_f (tgt := 21) X.1 X.2.1 dX6_makeBytes_12 (by decide) (by omega) ?_
    refine lv_iload_n X.1 X.2.1 dX6_makeBytes_15 rfl (lv_at hl 3 rfl) ?_
    refine lv_bipush (v := nI 64) X.1 X.2.1 dX6_makeBytes_16 (by decide) ?_
    refine n_icmp_le_f (tgt := 31) X.1 X.2.1 dX6_makeBytes_18 (by decide) (by omega) (by omega) (by omega) ?_
    exact cTH Y X hW (text := "the length is out of range") (ik := 64) (is := 66) (ic := 68) (by decide +kernel) (List.mem_cons_of_mem _ (List.mem_append_left _ (List.mem_append_left _ (List.mem_append_left _ (List.mem_append_left _ (List.mem_append_left _ (List.mem_of_getElem? (i := 0) rfl))))))) (List.mem_cons_of_mem _ (List.mem_append_left _ (List.mem_append_left _ (List.mem_append_left _ (List.mem_append_left _ (List.mem_append_left _ (List.mem_of_getElem? (i := 1) rfl))))))) (by decide +kernel) (fun w h => List.mem_cons_of_mem _ (List.mem_append_left _ (List.mem_append_left _ (List.mem_append_right _ (h))))) (by decide +kernel) (by decide +kernel) hl.1 dX6_makeBytes_21 dX6_makeBytes_24 dX6_makeBytes_25 dX6_makeBytes_27 dX6_makeBytes_30 (Nat.le_of_ble_eq_true rfl) (Nat.le_of_ble_eq_true rfl) (Nat.le_of_ble_eq_true rfl) (Nat.le_of_ble_eq_true rfl)

set_option maxHeartbeats 4000000 in
set_option maxRecDepth 100000 in
theorem cb_put_a (l : Launch) {G : va_G} {kT : Nat → ClassId} {L : List Nat} {K : Nat → Nat} {R : pR} {I : pI} {A : mD} {Q : pR} {N : Nat → Nat} (hst : l.stackTraces = false) {T : mT} {D : mD} {ad : pD} (HB : Rep T D ad L K R I A Q N) {x x1 x2 : Int32} (h : oN x 4) : cMt l yX6_put wsX6_put ({ frames := 7, cells := 1, slots := 6, locals := 121 } : Room) G kT [.ref (ad 0 0), .int (x), .int (x1), .int (x2)] L K R I A Q N "java/lang/IndexOutOfBoundsException" := by
  refine cstt (cc := cX6_put) (maxL := 6) (ret := (some .char)) hst (by decide) rfl (Nat.le_of_ble_eq_true rfl) (fun p e s m args below meth c Z Y X hW ls hl => ?_)
  have X : CallFix p m c cX6_put 6 s args wsX6_put RX6 := X
  have hl : lv_has ls 6 [(0, .ref (ad 0 0)), (1, .int (x)), (2, .int (x1)), (3, .int (x2))] := hl
  have hin3 : ∀ w ∈ wsX30, w ∈ wsX6_put := fun w h => List.mem_cons_of_mem _ (List.mem_append_left _ (List.mem_append_left _ (List.mem_append_left _ (List.mem_append_right _ (h)))))
  have hin6 : ∀ w ∈ wsX60, w ∈ wsX6_put := fun w h => List.mem_cons_of_mem _ (List.mem_append_left _ (List.mem_append_left _ (List.mem_append_right _ (h))))
  refine lv_aload_n X.1 X.2.1 dX6_put_0 rfl (lv_at hl 0 rfl) ?_
  refine lv_iload_n X.1 X.2.1 dX6_put_1 rfl (lv_at hl 1 rfl) ?_
  exact cXV Y X hW (HB.mem lv_0) (pC_6 (HB.kn lv_0 rfl)) rfl (cz_signRowAt l hst HB h) (cwV 1 X.2.2.2.2 gX6_put_X6_signRowAt rfl rfl rfl (by decide +kernel) ⟨Nat.le_of_ble_eq_true rfl, Nat.le_of_ble_eq_true rfl⟩) rfl rfl hl.1 (Nat.le_of_ble_eq_true rfl) dX6_put_2 ⟨Nat.le_of_ble_eq_true rfl, Nat.le_of_ble_eq_true rfl⟩

set_option maxHeartbeats 4000000 in
set_option maxRecDepth 100000 in
theorem cb_put_b (l : Launch) {G : va_G} {kT : Nat → ClassId} {L : List Nat} {K : Nat → Nat} {R : pR} {I : pI} {A : mD} {Q : pR} {N : Nat → Nat} (hst : l.stackTraces = false) {T : mT} {D : mD} {ad : pD} (HB : Rep T D ad L K R I A Q N) {r : Nat} {x x2 : Int32} (hr : r < 4) (h : oN x (T 1 (T 2 r))) : cMt l yX6_put wsX6_put ({ frames := 7, cells := 1, slots := 6, locals := 121 } : Room) G kT [.ref (ad 0 0), .int (nI (r)), .int (x), .int (x2)] L K R I A Q N "java/lang/IndexOutOfBoundsException" := by
  refine cstt (cc := cX6_put) (maxL := 6) (ret := (some .char)) hst (by decide) rfl (Nat.le_of_ble_eq_true rfl) (fun p e s m args below meth c Z Y X hW ls hl => ?_)
  have X : CallFix p m c cX6_put 6 s args wsX6_put RX6 := X
  have hl : lv_has ls 6 [(0, .ref (ad 0 0)), (1, .int (nI (r))), (2, .int (x)), (3, .int (x2))] := hl
  have hin3 : ∀ w ∈ wsX30, w ∈ wsX6_put := fun w h => List.mem_cons_of_mem _ (List.mem_append_left _ (List.mem_append_left _ (List.mem_append_left _ (List.mem_append_right _ (h)))))
  have hin6 : ∀ w ∈ wsX60, w ∈ wsX6_put := fun w h => List.mem_cons_of_mem _ (List.mem_append_left _ (List.mem_append_left _ (List.mem_append_right _ (h))))
  have hu := uS_row (T := T) hr
  have hsr := HB.sr hu
  have hl9 := hsr.2.2.2.2.2.2
  refine lv_aload_n X.1 X.2.1 dX6_put_0 rfl (lv_at hl 0 rfl) ?_
  refine lv_iload_n X.1 X.2.1 dX6_put_1 rfl (lv_at hl 1 rfl) ?_
  refine cVr X hW (HB.mem lv_0) (pC_6 (HB.kn lv_0 rfl)) rfl (cg_signRowAt l HB (r := r) (by omega)) (cwV 1 X.2.2.2.2 gX6_put_X6_signRowAt rfl rfl rfl (by decide +kernel) ⟨Nat.le_of_ble_eq_true rfl, Nat.le_of_ble_eq_true rfl⟩) rfl rfl hl.1 (Nat.le_of_ble_eq_true rfl) dX6_put_2 ⟨Nat.zero_le _, Nat.zero_le _⟩ (fun H locs hW => ?_)
  refine cg_3_signs X hin3 hW (hsr.1) (hsr.2.1) (hsr.2.2.1) (X.2.2.2.2 (.fieldLink RX6 60 "Strandbook$SignRow" "signs" "[C") (List.mem_cons_of_mem _ (List.mem_append_left _ (List.mem_append_left _ (List.mem_append_left _ (List.mem_append_left _ (List.mem_of_getElem? (i := 0) rfl))))))) dX6_put_5 ?_
  refine lv_astore (lv' := [(4, .ref (ad 4 (T 2 r))), (0, .ref (ad 0 0)), (1, .int (nI (r))), (2, .int (x)), (3, .int (x2))]) X.1 X.2.1 dX6_put_8 hl (by decide) rfl (fun ls hl => ?_)
  refine lv_iload_n X.1 X.2.1 dX6_put_10 rfl (lv_at hl 3 rfl) ?_
  refine lv_aload X.1 X.2.1 dX6_put_11 (lv_at hl 0 rfl) ?_
  refine cln_8 X hW (hsr.2.2.2.1) (hsr.2.2.2.2.1) (hsr.2.2.2.2.2.1) dX6_put_13 ?_
  exact cXS Y X hW (cz_requirePlace l hst (by omega) h) (va_cwS 2 X.2.2.2.2 gX6_put_X6_requirePlace rfl rfl rfl (by decide +kernel) ⟨Nat.le_of_ble_eq_true rfl, Nat.le_of_ble_eq_true rfl⟩) rfl rfl hl.1 (Nat.le_of_ble_eq_true rfl) dX6_put_14 ⟨Nat.le_of_ble_eq_true rfl, Nat.le_of_ble_eq_true rfl⟩

set_option maxHeartbeats 4000000 in
set_option maxRecDepth 100000 in
theorem cb_get_a (l : Launch) {G : va_G} {kT : Nat → ClassId} {L : List Nat} {K : Nat → Nat} {R : pR} {I : pI} {A : mD} {Q : pR} {N : Nat → Nat} (hst : l.stackTraces = false) {T : mT} {D : mD} {ad : pD} (HB : Rep T D ad L K R I A Q N) {x x1 : Int32} (h : oN x 4) : cMt l yX6_get wsX6_get ({ frames := 7, cells := 1, slots := 6, locals := 121 } : Room) G kT [.ref (ad 0 0), .int (x), .int (x1)] L K R I A Q N "java/lang/IndexOutOfBoundsException" := by
  refine cstt (cc := cX6_get) (maxL := 4) (ret := (some .char)) hst (by decide) rfl (Nat.le_of_ble_eq_true rfl) (fun p e s m args below meth c Z Y X hW ls hl => ?_)
  have X : CallFix p m c cX6_get 4 s args wsX6_get RX6 := X
  have hl : lv_has ls 4 [(0, .ref (ad 0 0)), (1, .int (x)), (2, .int (x1))] := hl
  have hin3 : ∀ w ∈ wsX30, w ∈ wsX6_get := fun w h => List.mem_cons_of_mem _ (List.mem_append_left _ (List.mem_append_left _ (List.mem_append_left _ (List.mem_append_right _ (h)))))
  have hin6 : ∀ w ∈ wsX60, w ∈ wsX6_get := fun w h => List.mem_cons_of_mem _ (List.mem_append_left _ (List.mem_append_left _ (List.mem_append_right _ (h))))
  refine lv_aload_n X.1 X.2.1 dX6_get_0 rfl (lv_at hl 0 rfl) ?_
  refine lv_iload_n X.1 X.2.1 dX6_get_1 rfl (lv_at hl 1 rfl) ?_
  exact cXV Y X hW (HB.mem lv_0) (pC_6 (HB.kn lv_0 rfl)) rfl (cz_signRowAt l hst HB h) (cwV 1 X.2.2.2.2 gX6_get_X6_signRowAt rfl rfl rfl (by decide +kernel) ⟨Nat.le_of_ble_eq_true rfl, Nat.le_of_ble_eq_true rfl⟩) rfl rfl hl.1 (Nat.le_of_ble_eq_true rfl) dX6_get_2 ⟨Nat.le_of_ble_eq_true rfl, Nat.le_of_ble_eq_true rfl⟩

set_option maxHeartbeats 4000000 in
set_option maxRecDepth 100000 in
theorem cb_get_b (l : Launch) {G : va_G} {kT : Nat → ClassId} {L : List Nat} {K : Nat → Nat} {R : pR} {I : pI} {A : mD} {Q : pR} {N : Nat → Nat} (hst : l.stackTraces = false) {T : mT} {D : mD} {ad : pD} (HB : Rep T D ad L K R I A Q N) {r : Nat} {x : Int32} (hr : r < 4) (h : oN x (T 1 (T 2 r))) : cMt l yX6_get wsX6_get ({ frames := 7, cells := 1, slots := 6, locals := 121 } : Room) G kT [.ref (ad 0 0), .int (nI (r)), .int (x)] L K R I A Q N "java/lang/IndexOutOfBoundsException" := by
  refine cstt (cc := cX6_get) (maxL := 4) (ret := (some .char)) hst (by decide) rfl (Nat.le_of_ble_eq_true rfl) (fun p e s m args below meth c Z Y X hW ls hl => ?_)
  have X : CallFix p m c cX6_get 4 s args wsX6_get RX6 := X
  have hl : lv_has ls 4 [(0, .ref (ad 0 0)), (1, .int (nI (r))), (2, .int (x))] := hl
  have hin3 : ∀ w ∈ wsX30, w ∈ wsX6_get := fun w h => List.mem_cons_of_mem _ (List.mem_append_left _ (List.mem_append_left _ (List.mem_append_left _ (List.mem_append_right _ (h)))))
  have hin6 : ∀ w ∈ wsX60, w ∈ wsX6_get := fun w h => List.mem_cons_of_mem _ (List.mem_append_left _ (List.mem_append_left _ (List.mem_append_right _ (h))))
  have hu := uS_row (T := T) hr
  have hsr := HB.sr hu
  have hl9 := hsr.2.2.2.2.2.2
  refine lv_aload_n X.1 X.2.1 dX6_get_0 rfl (lv_at hl 0 rfl) ?_
  refine lv_iload_n X.1 X.2.1 dX6_get_1 rfl (lv_at hl 1 rfl) ?_
  refine cVr X hW (HB.mem lv_0) (pC_6 (HB.kn lv_0 rfl)) rfl (cg_signRowAt l HB (r := r) (by omega)) (cwV 1 X.2.2.2.2 gX6_get_X6_signRowAt rfl rfl rfl (by decide +kernel) ⟨Nat.le_of_ble_eq_true rfl, Nat.le_of_ble_eq_true rfl⟩) rfl rfl hl.1 (Nat.le_of_ble_eq_true rfl) dX6_get_2 ⟨Nat.zero_le _, Nat.zero_le _⟩ (fun H locs hW => ?_)
  refine cg_3_signs X hin3 hW (hsr.1) (hsr.2.1) (hsr.2.2.1) (X.2.2.2.2 (.fieldLink RX6 60 "Strandbook$SignRow" "signs" "[C") (List.mem_cons_of_mem _ (List.mem_append_left _ (List.mem_append_left _ (List.mem_append_left _ (List.mem_append_left _ (List.mem_of_getElem? (i := 0) rfl))))))) dX6_get_5 ?_
  refine lv_astore_n (lv' := [(3, .ref (ad 4 (T 2 r))), (0, .ref (ad 0 0)), (1, .int (nI (r))), (2, .int (x))]) X.1 X.2.1 dX6_get_8 rfl hl (by decide) rfl (fun ls hl => ?_)
  refine lv_iload_n X.1 X.2.1 dX6_get_9 rfl (lv_at hl 3 rfl) ?_
  refine lv_aload_n X.1 X.2.1 dX6_get_10 rfl (lv_at hl 0 rfl) ?_
  refine cln_8 X hW (hsr.2.2.2.1) (hsr.2.2.2.2.1) (hsr.2.2.2.2.2.1) dX6_get_11 ?_
  exact cXS Y X hW (cz_requirePlace l hst (by omega) h) (va_cwS 2 X.2.2.2.2 gX6_get_X6_requirePlace rfl rfl rfl (by decide +kernel) ⟨Nat.le_of_ble_eq_true rfl, Nat.le_of_ble_eq_true rfl⟩) rfl rfl hl.1 (Nat.le_of_ble_eq_true rfl) dX6_get_12 ⟨Nat.le_of_ble_eq_true rfl, Nat.le_of_ble_eq_true rfl⟩

set_option maxHeartbeats 4000000 in
set_option maxRecDepth 100000 in
theorem cb_fill_a (l : Launch) {G : va_G} {kT : Nat → ClassId} {L : List Nat} {K : Nat → Nat} {R : pR} {I : pI} {A : mD} {Q : pR} {N : Nat → Nat} (hst : l.stackTraces = false) {T : mT} {D : mD} {ad : pD} (HB : Rep T D ad L K R I A Q N) {x x1 x2 x3 x4 : Int32} (h : oN x 4) : cMt l yX6_fill wsX6_fill ({ frames := 7, cells := 1, slots := 6, locals := 122 } : Room) G kT [.ref (ad 0 0), .int (x), .int (x1), .int (x2), .int (x3), .int (x4)] L K R I A Q N "java/lang/IndexOutOfBoundsException" := by
  refine cstt (cc := cX6_fill) (maxL := 10) (ret := (some .int)) hst (by decide) rfl (Nat.le_of_ble_eq_true rfl) (fun p e s m args below meth c Z Y X hW ls hl => ?_)
  have X : CallFix p m c cX6_fill 10 s args wsX6_fill RX6 := X
  have hl : lv_has ls 10 [(0, .ref (ad 0 0)), (1, .int (x)), (2, .int (x1)), (3, .int (x2)), (4, .int (x3)), (5, .int (x4))] := hl
  have hin3 : ∀ w ∈ wsX30, w ∈ wsX6_fill := fun w h => List.mem_cons_of_mem _ (List.mem_append_left _ (List.mem_append_left _ (List.mem_append_left _ (List.mem_append_right _ (h)))))
  have hin6 : ∀ w ∈ wsX60, w ∈ wsX6_fill := fun w h => List.mem_cons_of_mem _ (List.mem_append_left _ (List.mem_append_left _ (List.mem_append_right _ (h))))
  refine lv_aload_n X.1 X.2.1 dX6_fill_0 rfl (lv_at hl 0 rfl) ?_
  refine lv_iload_n X.1 X.2.1 dX6_fill_1 rfl (lv_at hl 1 rfl) ?_
  exact cXV Y X hW (HB.mem lv_0) (pC_6 (HB.kn lv_0 rfl)) rfl (cz_signRowAt l hst HB h) (cwV 1 X.2.2.2.2 gX6_fill_X6_signRowAt rfl rfl rfl (by decide +kernel) ⟨Nat.le_of_ble_eq_true rfl, Nat.le_of_ble_eq_true rfl⟩) rfl rfl hl.1 (Nat.le_of_ble_eq_true rfl) dX6_fill_2 ⟨Nat.le_of_ble_eq_true rfl, Nat.le_of_ble_eq_true rfl⟩

set_option maxHeartbeats 4000000 in
set_option maxRecDepth 100000 in
theorem cb_fill_b (l : Launch) {G : va_G} {kT : Nat → ClassId} {L : List Nat} {K : Nat → Nat} {R : pR} {I : pI} {A : mD} {Q : pR} {N : Nat → Nat} (hst : l.stackTraces = false) {T : mT} {D : mD} {ad : pD} (HB : Rep T D ad L K R I A Q N) {r : Nat} {x x2 x3 x4 : Int32} (hr : r < 4) (h : oP (T 1 (T 2 r)) x x2) : cMt l yX6_fill wsX6_fill ({ frames := 7, cells := 1, slots := 6, locals := 122 } : Room) G kT [.ref (ad 0 0), .int (nI (r)), .int (x), .int (x2), .int (x3), .int (x4)] L K R I A Q N "java/lang/IndexOutOfBoundsException" := by
  refine cstt (cc := cX6_fill) (maxL := 10) (ret := (some .int)) hst (by decide) rfl (Nat.le_of_ble_eq_true rfl) (fun p e s m args below meth c Z Y X hW ls hl => ?_)
  have X : CallFix p m c cX6_fill 10 s args wsX6_fill RX6 := X
  have hl : lv_has ls 10 [(0, .ref (ad 0 0)), (1, .int (nI (r))), (2, .int (x)), (3, .int (x2)), (4, .int (x3)), (5, .int (x4))] := hl
  have hin3 : ∀ w ∈ wsX30, w ∈ wsX6_fill := fun w h => List.mem_cons_of_mem _ (List.mem_append_left _ (List.mem_append_left _ (List.mem_append_left _ (List.mem_append_right _ (h)))))
  have hin6 : ∀ w ∈ wsX60, w ∈ wsX6_fill := fun w h => List.mem_cons_of_mem _ (List.mem_append_left _ (List.mem_append_left _ (List.mem_append_right _ (h))))
  have hu := uS_row (T := T) hr
  have hsr := HB.sr hu
  have hl9 := hsr.2.2.2.2.2.2
  refine lv_aload_n X.1 X.2.1 dX6_fill_0 rfl (lv_at hl 0 rfl) ?_
  refine lv_iload_n X.1 X.2.1 dX6_fill_1 rfl (lv_at hl 1 rfl) ?_
  refine cVr X hW (HB.mem lv_0) (pC_6 (HB.kn lv_0 rfl)) rfl (cg_signRowAt l HB (r := r) (by omega)) (cwV 1 X.2.2.2.2 gX6_fill_X6_signRowAt rfl rfl rfl (by decide +kernel) ⟨Nat.le_of_ble_eq_true rfl, Nat.le_of_ble_eq_true rfl⟩) rfl rfl hl.1 (Nat.le_of_ble_eq_true rfl) dX6_fill_2 ⟨Nat.zero_le _, Nat.zero_le _⟩ (fun H locs hW => ?_)
  refine cg_3_signs X hin3 hW (hsr.1) (hsr.2.1) (hsr.2.2.1) (X.2.2.2.2 (.fieldLink RX6 60 "Strandbook$SignRow" "signs" "[C") (List.mem_cons_of_mem _ (List.mem_append_left _ (List.mem_append_left _ (List.mem_append_left _ (List.mem_append_left _ (List.mem_of_getElem? (i := 0) rfl))))))) dX6_fill_5 ?_
  refine lv_astore (lv' := [(6, .ref (ad 4 (T 2 r))), (0, .ref (ad 0 0)), (1, .int (nI (r))), (2, .int (x)), (3, .int (x2)), (4, .int (x3)), (5, .int (x4))]) X.1 X.2.1 dX6_fill_8 hl (by decide) rfl (fun ls hl => ?_)
  refine lv_iload_n X.1 X.2.1 dX6_fill_10 rfl (lv_at hl 3 rfl) ?_
  refine lv_iload_n X.1 X.2.1 dX6_fill_11 rfl (lv_at hl 4 rfl) ?_
  refine lv_aload X.1 X.2.1 dX6_fill_12 (lv_at hl 0 rfl) ?_
  refine cln_8 X hW (hsr.2.2.2.1) (hsr.2.2.2.2.1) (hsr.2.2.2.2.2.1) dX6_fill_14 ?_
  exact cXS Y X hW (cz_requirePlaces l hst (by omega) h) (va_cwS 3 X.2.2.2.2 gX6_fill_X6_requirePlaces rfl rfl rfl (by decide +kernel) ⟨Nat.le_of_ble_eq_true rfl, Nat.le_of_ble_eq_true rfl⟩) rfl rfl hl.1 (Nat.le_of_ble_eq_true rfl) dX6_fill_15 ⟨Nat.le_of_ble_eq_true rfl, Nat.le_of_ble_eq_true rfl⟩

set_option maxHeartbeats 4000000 in
set_option maxRecDepth 100000 in
theorem cb_length_a (l : Launch) {G : va_G} {kT : Nat → ClassId} {L : List Nat} {K : Nat → Nat} {R : pR} {I : pI} {A : mD} {Q : pR} {N : Nat → Nat} (hst : l.stackTraces = false) {T : mT} {D : mD} {ad : pD} (HB : Rep T D ad L K R I A Q N) {x : Int32} (h : oN x 4) : cMt l yX6_length wsX6_length ({ frames := 7, cells := 1, slots := 6, locals := 121 } : Room) G kT [.ref (ad 0 0), .int (x)] L K R I A Q N "java/lang/IndexOutOfBoundsException" := by
  refine cstt (cc := cX6_length) (maxL := 2) (ret := (some .int)) hst (by decide) rfl (Nat.le_of_ble_eq_true rfl) (fun p e s m args below meth c Z Y X hW ls hl => ?_)
  have X : CallFix p m c cX6_length 2 s args wsX6_length RX6 := X
  have hl : lv_has ls 2 [(0, .ref (ad 0 0)), (1, .int (x))] := hl
  have hin3 : ∀ w ∈ wsX30, w ∈ wsX6_length := fun w h => List.mem_cons_of_mem _ (List.mem_append_left _ (List.mem_append_left _ (List.mem_append_right _ (h))))
  have hin6 : ∀ w ∈ wsX60, w ∈ wsX6_length := fun w h => List.mem_cons_of_mem _ (List.mem_append_left _ (List.mem_append_right _ (h)))
  refine lv_aload_n X.1 X.2.1 dX6_length_0 rfl (lv_at hl 0 rfl) ?_
  refine lv_iload_n X.1 X.2.1 dX6_length_1 rfl (lv_at hl 1 rfl) ?_
  exact cXV Y X hW (HB.mem lv_0) (pC_6 (HB.kn lv_0 rfl)) rfl (cz_signRowAt l hst HB h) (cwV 1 X.2.2.2.2 gX6_length_X6_signRowAt rfl rfl rfl (by decide +kernel) ⟨Nat.le_of_ble_eq_true rfl, Nat.le_of_ble_eq_true rfl⟩) rfl rfl hl.1 (Nat.le_of_ble_eq_true rfl) dX6_length_2 ⟨Nat.le_of_ble_eq_true rfl, Nat.le_of_ble_eq_true rfl⟩

set_option maxHeartbeats 4000000 in
set_option maxRecDepth 100000 in
theorem cb_putByte_a (l : Launch) {G : va_G} {kT : Nat → ClassId} {L : List Nat} {K : Nat → Nat} {R : pR} {I : pI} {A : mD} {Q : pR} {N : Nat → Nat} (hst : l.stackTraces = false) {T : mT} {D : mD} {ad : pD} (HB : Rep T D ad L K R I A Q N) {x x1 x2 : Int32} (h : oN x 4) : cMt l yX6_putByte wsX6_putByte ({ frames := 7, cells := 1, slots := 6, locals := 121 } : Room) G kT [.ref (ad 0 0), .int (x), .int (x1), .int (x2)] L K R I A Q N "java/lang/IndexOutOfBoundsException" := by
  refine cstt (cc := cX6_putByte) (maxL := 6) (ret := (some .int)) hst (by decide) rfl (Nat.le_of_ble_eq_true rfl) (fun p e s m args below meth c Z Y X hW ls hl => ?_)
  have X : CallFix p m c cX6_putByte 6 s args wsX6_putByte RX6 := X
  have hl : lv_has ls 6 [(0, .ref (ad 0 0)), (1, .int (x)), (2, .int (x1)), (3, .int (x2))] := hl
  have hin0 : ∀ w ∈ wsX00, w ∈ wsX6_putByte := fun w h => List.mem_cons_of_mem _ (List.mem_append_left _ (List.mem_append_left _ (List.mem_append_left _ (List.mem_append_right _ (h)))))
  have hin6 : ∀ w ∈ wsX60, w ∈ wsX6_putByte := fun w h => List.mem_cons_of_mem _ (List.mem_append_left _ (List.mem_append_left _ (List.mem_append_right _ (h))))
  refine lv_aload_n X.1 X.2.1 dX6_putByte_0 rfl (lv_at hl 0 rfl) ?_
  refine lv_iload_n X.1 X.2.1 dX6_putByte_1 rfl (lv_at hl 1 rfl) ?_
  exact cXV Y X hW (HB.mem lv_0) (pC_6 (HB.kn lv_0 rfl)) rfl (cz_byteRowAt l hst HB h) (cwV 1 X.2.2.2.2 gX6_putByte_X6_byteRowAt rfl rfl rfl (by decide +kernel) ⟨Nat.le_of_ble_eq_true rfl, Nat.le_of_ble_eq_true rfl⟩) rfl rfl hl.1 (Nat.le_of_ble_eq_true rfl) dX6_putByte_2 ⟨Nat.le_of_ble_eq_true rfl, Nat.le_of_ble_eq_true rfl⟩

set_option maxHeartbeats 4000000 in
set_option maxRecDepth 100000 in
theorem cb_putByte_b (l : Launch) {G : va_G} {kT : Nat → ClassId} {L : List Nat} {K : Nat → Nat} {R : pR} {I : pI} {A : mD} {Q : pR} {N : Nat → Nat} (hst : l.stackTraces = false) {T : mT} {D : mD} {ad : pD} (HB : Rep T D ad L K R I A Q N) {r : Nat} {x x2 : Int32} (hr : r < 4) (h : oN x (T 4 (T 5 r))) : cMt l yX6_putByte wsX6_putByte ({ frames := 7, cells := 1, slots := 6, locals := 121 } : Room) G kT [.ref (ad 0 0), .int (nI (r)), .int (x), .int (x2)] L K R I A Q N "java/lang/IndexOutOfBoundsException" := by
  refine cstt (cc := cX6_putByte) (maxL := 6) (ret := (some .int)) hst (by decide) rfl (Nat.le_of_ble_eq_true rfl) (fun p e s m args below meth c Z Y X hW ls hl => ?_)
  have X : CallFix p m c cX6_putByte 6 s args wsX6_putByte RX6 := X
  have hl : lv_has ls 6 [(0, .ref (ad 0 0)), (1, .int (nI (r))), (2, .int (x)), (3, .int (x2))] := hl
  have hin0 : ∀ w ∈ wsX00, w ∈ wsX6_putByte := fun w h => List.mem_cons_of_mem _ (List.mem_append_left _ (List.mem_append_left _ (List.mem_append_left _ (List.mem_append_right _ (h)))))
  have hin6 : ∀ w ∈ wsX60, w ∈ wsX6_putByte := fun w h => List.mem_cons_of_mem _ (List.mem_append_left _ (List.mem_append_left _ (List.mem_append_right _ (h))))
  have hu := uB_row (T := T) hr
  have hbr := HB.br hu
  have hl9 := hbr.2.2.2.2.2.2
  refine lv_aload_n X.1 X.2.1 dX6_putByte_0 rfl (lv_at hl 0 rfl) ?_
  refine lv_iload_n X.1 X.2.1 dX6_putByte_1 rfl (lv_at hl 1 rfl) ?_
  refine cVr X hW (HB.mem lv_0) (pC_6 (HB.kn lv_0 rfl)) rfl (cg_byteRowAt l HB (r := r) (by omega)) (cwV 1 X.2.2.2.2 gX6_putByte_X6_byteRowAt rfl rfl rfl (by decide +kernel) ⟨Nat.le_of_ble_eq_true rfl, Nat.le_of_ble_eq_true rfl⟩) rfl rfl hl.1 (Nat.le_of_ble_eq_true rfl) dX6_putByte_2 ⟨Nat.zero_le _, Nat.zero_le _⟩ (fun H locs hW => ?_)
  refine cg_0_bytes X hin0 hW (hbr.1) (hbr.2.1) (hbr.2.2.1) (X.2.2.2.2 (.fieldLink RX6 87 "Strandbook$ByteRow" "bytes" "[B") (List.mem_cons_of_mem _ (List.mem_append_left _ (List.mem_append_left _ (List.mem_append_left _ (List.mem_append_left _ (List.mem_of_getElem? (i := 0) rfl))))))) dX6_putByte_5 ?_
  refine lv_astore (lv' := [(4, .ref (ad 6 (T 5 r))), (0, .ref (ad 0 0)), (1, .int (nI (r))), (2, .int (x)), (3, .int (x2))]) X.1 X.2.1 dX6_putByte_8 hl (by decide) rfl (fun ls hl => ?_)
  refine lv_iload_n X.1 X.2.1 dX6_putByte_10 rfl (lv_at hl 3 rfl) ?_
  refine lv_aload X.1 X.2.1 dX6_putByte_11 (lv_at hl 0 rfl) ?_
  refine cln_7 X hW (hbr.2.2.2.1) (hbr.2.2.2.2.1) (hbr.2.2.2.2.2.1) dX6_putByte_13 ?_
  exact cXS Y X hW (cz_requirePlace l hst (by omega) h) (va_cwS 2 X.2.2.2.2 gX6_putByte_X6_requirePlace rfl rfl rfl (by decide +kernel) ⟨Nat.le_of_ble_eq_true rfl, Nat.le_of_ble_eq_true rfl⟩) rfl rfl hl.1 (Nat.le_of_ble_eq_true rfl) dX6_putByte_14 ⟨Nat.le_of_ble_eq_true rfl, Nat.le_of_ble_eq_true rfl⟩

set_option maxHeartbeats 4000000 in
set_option maxRecDepth 100000 in
theorem cb_getByte_a (l : Launch) {G : va_G} {kT : Nat → ClassId} {L : List Nat} {K : Nat → Nat} {R : pR} {I : pI} {A : mD} {Q : pR} {N : Nat → Nat} (hst : l.stackTraces = false) {T : mT} {D : mD} {ad : pD} (HB : Rep T D ad L K R I A Q N) {x x1 : Int32} (h : oN x 4) : cMt l yX6_getByte wsX6_getByte ({ frames := 7, cells := 1, slots := 6, locals := 121 } : Room) G kT [.ref (ad 0 0), .int (x), .int (x1)] L K R I A Q N "java/lang/IndexOutOfBoundsException" := by
  refine cstt (cc := cX6_getByte) (maxL := 4) (ret := (some .int)) hst (by decide) rfl (Nat.le_of_ble_eq_true rfl) (fun p e s m args below meth c Z Y X hW ls hl => ?_)
  have X : CallFix p m c cX6_getByte 4 s args wsX6_getByte RX6 := X
  have hl : lv_has ls 4 [(0, .ref (ad 0 0)), (1, .int (x)), (2, .int (x1))] := hl
  have hin0 : ∀ w ∈ wsX00, w ∈ wsX6_getByte := fun w h => List.mem_cons_of_mem _ (List.mem_append_left _ (List.mem_append_left _ (List.mem_append_left _ (List.mem_append_right _ (h)))))
  have hin6 : ∀ w ∈ wsX60, w ∈ wsX6_getByte := fun w h => List.mem_cons_of_mem _ (List.mem_append_left _ (List.mem_append_left _ (List.mem_append_right _ (h))))
  refine lv_aload_n X.1 X.2.1 dX6_getByte_0 rfl (lv_at hl 0 rfl) ?_
  refine lv_iload_n X.1 X.2.1 dX6_getByte_1 rfl (lv_at hl 1 rfl) ?_
  exact cXV Y X hW (HB.mem lv_0) (pC_6 (HB.kn lv_0 rfl)) rfl (cz_byteRowAt l hst HB h) (cwV 1 X.2.2.2.2 gX6_getByte_X6_byteRowAt rfl rfl rfl (by decide +kernel) ⟨Nat.le_of_ble_eq_true rfl, Nat.le_of_ble_eq_true rfl⟩) rfl rfl hl.1 (Nat.le_of_ble_eq_true rfl) dX6_getByte_2 ⟨Nat.le_of_ble_eq_true rfl, Nat.le_of_ble_eq_true rfl⟩

set_option maxHeartbeats 4000000 in
set_option maxRecDepth 100000 in
theorem cb_getByte_b (l : Launch) {G : va_G} {kT : Nat → ClassId} {L : List Nat} {K : Nat → Nat} {R : pR} {I : pI} {A : mD} {Q : pR} {N : Nat → Nat} (hst : l.stackTraces = false) {T : mT} {D : mD} {ad : pD} (HB : Rep T D ad L K R I A Q N) {r : Nat} {x : Int32} (hr : r < 4) (h : oN x (T 4 (T 5 r))) : cMt l yX6_getByte wsX6_getByte ({ frames := 7, cells := 1, slots := 6, locals := 121 } : Room) G kT [.ref (ad 0 0), .int (nI (r)), .int (x)] L K R I A Q N "java/lang/IndexOutOfBoundsException" := by
  refine cstt (cc := cX6_getByte) (maxL := 4) (ret := (some .int)) hst (by decide) rfl (Nat.le_of_ble_eq_true rfl) (fun p e s m args below meth c Z Y X hW ls hl => ?_)
  have X : CallFix p m c cX6_getByte 4 s args wsX6_getByte RX6 := X
  have hl : lv_has ls 4 [(0, .ref (ad 0 0)), (1, .int (nI (r))), (2, .int (x))] := hl
  have hin0 : ∀ w ∈ wsX00, w ∈ wsX6_getByte := fun w h => List.mem_cons_of_mem _ (List.mem_append_left _ (List.mem_append_left _ (List.mem_append_left _ (List.mem_append_right _ (h)))))
  have hin6 : ∀ w ∈ wsX60, w ∈ wsX6_getByte := fun w h => List.mem_cons_of_mem _ (List.mem_append_left _ (List.mem_append_left _ (List.mem_append_right _ (h))))
  have hu := uB_row (T := T) hr
  have hbr := HB.br hu
  have hl9 := hbr.2.2.2.2.2.2
  refine lv_aload_n X.1 X.2.1 dX6_getByte_0 rfl (lv_at hl 0 rfl) ?_
  refine lv_iload_n X.1 X.2.1 dX6_getByte_1 rfl (lv_at hl 1 rfl) ?_
  refine cVr X hW (HB.mem lv_0) (pC_6 (HB.kn lv_0 rfl)) rfl (cg_byteRowAt l HB (r := r) (by omega)) (cwV 1 X.2.2.2.2 gX6_getByte_X6_byteRowAt rfl rfl rfl (by decide +kernel) ⟨Nat.le_of_ble_eq_true rfl, Nat.le_of_ble_eq_true rfl⟩) rfl rfl hl.1 (Nat.le_of_ble_eq_true rfl) dX6_getByte_2 ⟨Nat.zero_le _, Nat.zero_le _⟩ (fun H locs hW => ?_)
  refine cg_0_bytes X hin0 hW (hbr.1) (hbr.2.1) (hbr.2.2.1) (X.2.2.2.2 (.fieldLink RX6 87 "Strandbook$ByteRow" "bytes" "[B") (List.mem_cons_of_mem _ (List.mem_append_left _ (List.mem_append_left _ (List.mem_append_left _ (List.mem_append_left _ (List.mem_of_getElem? (i := 0) rfl))))))) dX6_getByte_5 ?_
  refine lv_astore_n (lv' := [(3, .ref (ad 6 (T 5 r))), (0, .ref (ad 0 0)), (1, .int (nI (r))), (2, .int (x))]) X.1 X.2.1 dX6_getByte_8 rfl hl (by decide) rfl (fun ls hl => ?_)
  refine lv_iload_n X.1 X.2.1 dX6_getByte_9 rfl (lv_at hl 3 rfl) ?_
  refine lv_aload_n X.1 X.2.1 dX6_getByte_10 rfl (lv_at hl 0 rfl) ?_
  refine cln_7 X hW (hbr.2.2.2.1) (hbr.2.2.2.2.1) (hbr.2.2.2.2.2.1) dX6_getByte_11 ?_
  exact cXS Y X hW (cz_requirePlace l hst (by omega) h) (va_cwS 2 X.2.2.2.2 gX6_getByte_X6_requirePlace rfl rfl rfl (by decide +kernel) ⟨Nat.le_of_ble_eq_true rfl, Nat.le_of_ble_eq_true rfl⟩) rfl rfl hl.1 (Nat.le_of_ble_eq_true rfl) dX6_getByte_12 ⟨Nat.le_of_ble_eq_true rfl, Nat.le_of_ble_eq_true rfl⟩

set_option maxHeartbeats 4000000 in
set_option maxRecDepth 100000 in
theorem cz_addSigns (l : Launch) {G : va_G} {kT : Nat → ClassId} {L : List Nat} {K : Nat → Nat} {R : pR} {I : pI} {A : mD} {Q : pR} {N : Nat → Nat} (hst : l.stackTraces = false) {th ar n t : Nat} {x : Int32} (hw : isWr L K R I N th ar n) (ht : t ≤ 2) (h : 256 < n + t) : cMt l yX6_addSigns wsX6_addSigns ({ frames := 7, cells := 1, slots := 6, locals := 121 } : Room) G kT [.ref (th), .int (x), .int (nI (t))] L K R I A Q N "java/lang/IllegalStateException" := by
  refine cstt (cc := cX6_addSigns) (maxL := 4) (ret := (some .int)) hst (by decide) rfl (Nat.le_of_ble_eq_true rfl) (fun p e s m args below meth c Z Y X hW ls hl => ?_)
  have X : CallFix p m c cX6_addSigns 4 s args wsX6_addSigns RX6 := X
  have hl : lv_has ls 4 [(0, .ref (th)), (1, .int (x)), (2, .int (nI (t)))] := hl
  have hin4 : ∀ w ∈ wsX40, w ∈ wsX6_addSigns := fun w h => List.mem_cons_of_mem _ (List.mem_append_left _ (List.mem_append_left _ (List.mem_append_right _ (h))))
  refine lv_aload_n X.1 X.2.1 dX6_addSigns_0 rfl (lv_at hl 0 rfl) ?_
  refine lv_iload_n X.1 X.2.1 dX6_addSigns_1 rfl (lv_at hl 2 rfl) ?_
  exact cXS Y X hW (cz_requireRoom l hst hw (by omega) h) (va_cwS 2 X.2.2.2.2 gX6_addSigns_X6_requireRoom rfl rfl rfl (by decide +kernel) ⟨Nat.le_of_ble_eq_true rfl, Nat.le_of_ble_eq_true rfl⟩) rfl rfl hl.1 (Nat.le_of_ble_eq_true rfl) dX6_addSigns_2 ⟨Nat.le_of_ble_eq_true rfl, Nat.le_of_ble_eq_true rfl⟩

set_option maxHeartbeats 4000000 in
set_option maxRecDepth 100000 in
theorem cz_addPart_a (l : Launch) {G : va_G} {kT : Nat → ClassId} {L : List Nat} {K : Nat → Nat} {R : pR} {I : pI} {A : mD} {Q : pR} {N : Nat → Nat} (hst : l.stackTraces = false) {T : mT} {D : mD} {ad : pD} (HB : Rep T D ad L K R I A Q N) {w : Nat} (hw : w < 6) {x x1 x2 : Int32} (h : oN x 4) : cMt l yX6_addPart wsX6_addPart ({ frames := 7, cells := 1, slots := 6, locals := 122 } : Room) G kT [.ref (ad 0 0), .ref (ad 7 w), .int (x), .int (x1), .int (x2)] L K R I A Q N "java/lang/IndexOutOfBoundsException" := by
  refine cstt (cc := cX6_addPart) (maxL := 6) (ret := (some .int)) hst (by decide) rfl (Nat.le_of_ble_eq_true rfl) (fun p e s m args below meth c Z Y X hW ls hl => ?_)
  have X : CallFix p m c cX6_addPart 6 s args wsX6_addPart RX6 := X
  have hl : lv_has ls 6 [(0, .ref (ad 0 0)), (1, .ref (ad 7 w)), (2, .int (x)), (3, .int (x1)), (4, .int (x2))] := hl
  have hin3 : ∀ w ∈ wsX30, w ∈ wsX6_addPart := fun w h => List.mem_cons_of_mem _ (List.mem_append_left _ (List.mem_append_left _ (List.mem_append_left _ (List.mem_append_left _ (List.mem_append_left _ (List.mem_append_right _ (h)))))))
  have hin4 : ∀ w ∈ wsX40, w ∈ wsX6_addPart := fun w h => List.mem_cons_of_mem _ (List.mem_append_left _ (List.mem_append_left _ (List.mem_append_left _ (List.mem_append_left _ (List.mem_append_right _ (h))))))
  have hin6 : ∀ w ∈ wsX60, w ∈ wsX6_addPart := fun w h => List.mem_cons_of_mem _ (List.mem_append_left _ (List.mem_append_left _ (List.mem_append_left _ (List.mem_append_right _ (h)))))
  refine lv_aload_n X.1 X.2.1 dX6_addPart_0 rfl (lv_at hl 0 rfl) ?_
  refine lv_iload_n X.1 X.2.1 dX6_addPart_1 rfl (lv_at hl 2 rfl) ?_
  exact cXV Y X hW (HB.mem lv_0) (pC_6 (HB.kn lv_0 rfl)) rfl (cz_signRowAt l hst HB h) (cwV 1 X.2.2.2.2 gX6_addPart_X6_signRowAt rfl rfl rfl (by decide +kernel) ⟨Nat.le_of_ble_eq_true rfl, Nat.le_of_ble_eq_true rfl⟩) rfl rfl hl.1 (Nat.le_of_ble_eq_true rfl) dX6_addPart_2 ⟨Nat.le_of_ble_eq_true rfl, Nat.le_of_ble_eq_true rfl⟩

set_option maxHeartbeats 4000000 in
set_option maxRecDepth 100000 in
theorem cz_addPart_b (l : Launch) {G : va_G} {kT : Nat → ClassId} {L : List Nat} {K : Nat → Nat} {R : pR} {I : pI} {A : mD} {Q : pR} {N : Nat → Nat} (hst : l.stackTraces = false) {T : mT} {D : mD} {ad : pD} (HB : Rep T D ad L K R I A Q N) {w : Nat} (hw : w < 6) {r : Nat} {x x2 : Int32} (hr : r < 4) (h : oP (T 1 (T 2 r)) x x2) : cMt l yX6_addPart wsX6_addPart ({ frames := 7, cells := 1, slots := 6, locals := 122 } : Room) G kT [.ref (ad 0 0), .ref (ad 7 w), .int (nI (r)), .int (x), .int (x2)] L K R I A Q N "java/lang/IndexOutOfBoundsException" := by
  refine cstt (cc := cX6_addPart) (maxL := 6) (ret := (some .int)) hst (by decide) rfl (Nat.le_of_ble_eq_true rfl) (fun p e s m args below meth c Z Y X hW ls hl => ?_)
  have X : CallFix p m c cX6_addPart 6 s args wsX6_addPart RX6 := X
  have hl : lv_has ls 6 [(0, .ref (ad 0 0)), (1, .ref (ad 7 w)), (2, .int (nI (r))), (3, .int (x)), (4, .int (x2))] := hl
  have hin3 : ∀ w ∈ wsX30, w ∈ wsX6_addPart := fun w h => List.mem_cons_of_mem _ (List.mem_append_left _ (List.mem_append_left _ (List.mem_append_left _ (List.mem_append_left _ (List.mem_append_left _ (List.mem_append_right _ (h)))))))
  have hin4 : ∀ w ∈ wsX40, w ∈ wsX6_addPart := fun w h => List.mem_cons_of_mem _ (List.mem_append_left _ (List.mem_append_left _ (List.mem_append_left _ (List.mem_append_left _ (List.mem_append_right _ (h))))))
  have hin6 : ∀ w ∈ wsX60, w ∈ wsX6_addPart := fun w h => List.mem_cons_of_mem _ (List.mem_append_left _ (List.mem_append_left _ (List.mem_append_left _ (List.mem_append_right _ (h)))))
  have hu := uS_row (T := T) hr
  have hsr := HB.sr hu
  have hl9 := hsr.2.2.2.2.2.2
  refine lv_aload_n X.1 X.2.1 dX6_addPart_0 rfl (lv_at hl 0 rfl) ?_
  refine lv_iload_n X.1 X.2.1 dX6_addPart_1 rfl (lv_at hl 2 rfl) ?_
  refine cVr X hW (HB.mem lv_0) (pC_6 (HB.kn lv_0 rfl)) rfl (cg_signRowAt l HB (r := r) (by omega)) (cwV 1 X.2.2.2.2 gX6_addPart_X6_signRowAt rfl rfl rfl (by decide +kernel) ⟨Nat.le_of_ble_eq_true rfl, Nat.le_of_ble_eq_true rfl⟩) rfl rfl hl.1 (Nat.le_of_ble_eq_true rfl) dX6_addPart_2 ⟨Nat.zero_le _, Nat.zero_le _⟩ (fun H locs hW => ?_)
  refine cg_3_signs X hin3 hW (hsr.1) (hsr.2.1) (hsr.2.2.1) (X.2.2.2.2 (.fieldLink RX6 60 "Strandbook$SignRow" "signs" "[C") (List.mem_cons_of_mem _ (List.mem_append_left _ (List.mem_append_left _ (List.mem_append_left _ (List.mem_append_left _ (List.mem_append_left _ (List.mem_append_left _ (List.mem_append_left _ (List.mem_of_getElem? (i := 0) rfl)))))))))) dX6_addPart_5 ?_
  refine lv_astore (lv' := [(5, .ref (ad 4 (T 2 r))), (0, .ref (ad 0 0)), (1, .ref (ad 7 w)), (2, .int (nI (r))), (3, .int (x)), (4, .int (x2))]) X.1 X.2.1 dX6_addPart_8 hl (by decide) rfl (fun ls hl => ?_)
  refine lv_iload_n X.1 X.2.1 dX6_addPart_10 rfl (lv_at hl 4 rfl) ?_
  refine lv_iload X.1 X.2.1 dX6_addPart_11 (lv_at hl 5 rfl) ?_
  refine lv_aload X.1 X.2.1 dX6_addPart_13 (lv_at hl 0 rfl) ?_
  refine cln_8 X hW (hsr.2.2.2.1) (hsr.2.2.2.2.1) (hsr.2.2.2.2.2.1) dX6_addPart_15 ?_
  exact cXS Y X hW (cz_requirePlaces l hst (by omega) h) (va_cwS 3 X.2.2.2.2 gX6_addPart_X6_requirePlaces rfl rfl rfl (by decide +kernel) ⟨Nat.le_of_ble_eq_true rfl, Nat.le_of_ble_eq_true rfl⟩) rfl rfl hl.1 (Nat.le_of_ble_eq_true rfl) dX6_addPart_16 ⟨Nat.le_of_ble_eq_true rfl, Nat.le_of_ble_eq_true rfl⟩

set_option maxHeartbeats 4000000 in
set_option maxRecDepth 100000 in
theorem cz_addPart_c (l : Launch) {G : va_G} {kT : Nat → ClassId} {L : List Nat} {K : Nat → Nat} {R : pR} {I : pI} {A : mD} {Q : pR} {N : Nat → Nat} (hst : l.stackTraces = false) {T : mT} {D : mD} {ad : pD} (HB : Rep T D ad L K R I A Q N) {w : Nat} (hw : w < 6) {r f j : Nat} (hr : r < 4) (hf : f + j ≤ T 1 (T 2 r)) (h : 256 < T 7 w + j) : cMt l yX6_addPart wsX6_addPart ({ frames := 7, cells := 1, slots := 6, locals := 122 } : Room) G kT [.ref (ad 0 0), .ref (ad 7 w), .int (nI (r)), .int (nI (f)), .int (nI (j))] L K R I A Q N "java/lang/IllegalStateException" := by
  refine cstt (cc := cX6_addPart) (maxL := 6) (ret := (some .int)) hst (by decide) rfl (Nat.le_of_ble_eq_true rfl) (fun p e s m args below meth c Z Y X hW ls hl => ?_)
  have X : CallFix p m c cX6_addPart 6 s args wsX6_addPart RX6 := X
  have hl : lv_has ls 6 [(0, .ref (ad 0 0)), (1, .ref (ad 7 w)), (2, .int (nI (r))), (3, .int (nI (f))), (4, .int (nI (j)))] := hl
  have hin3 : ∀ w ∈ wsX30, w ∈ wsX6_addPart := fun w h => List.mem_cons_of_mem _ (List.mem_append_left _ (List.mem_append_left _ (List.mem_append_left _ (List.mem_append_left _ (List.mem_append_left _ (List.mem_append_right _ (h)))))))
  have hin4 : ∀ w ∈ wsX40, w ∈ wsX6_addPart := fun w h => List.mem_cons_of_mem _ (List.mem_append_left _ (List.mem_append_left _ (List.mem_append_left _ (List.mem_append_left _ (List.mem_append_right _ (h))))))
  have hin6 : ∀ w ∈ wsX60, w ∈ wsX6_addPart := fun w h => List.mem_cons_of_mem _ (List.mem_append_left _ (List.mem_append_left _ (List.mem_append_left _ (List.mem_append_right _ (h)))))
  have hu := uS_row (T := T) hr
  have hsr := HB.sr hu
  have hl9 := hsr.2.2.2.2.2.2
  have hwr := HB.wr hw
  refine lv_aload_n X.1 X.2.1 dX6_addPart_0 rfl (lv_at hl 0 rfl) ?_
  refine lv_iload_n X.1 X.2.1 dX6_addPart_1 rfl (lv_at hl 2 rfl) ?_
  refine cVr X hW (HB.mem lv_0) (pC_6 (HB.kn lv_0 rfl)) rfl (cg_signRowAt l HB (r := r) (by omega)) (cwV 1 X.2.2.2.2 gX6_addPart_X6_signRowAt rfl rfl rfl (by decide +kernel) ⟨Nat.le_of_ble_eq_true rfl, Nat.le_of_ble_eq_true rfl⟩) rfl rfl hl.1 (Nat.le_of_ble_eq_true rfl) dX6_addPart_2 ⟨Nat.zero_le _, Nat.zero_le _⟩ (fun H locs hW => ?_)
  refine cg_3_signs X hin3 hW (hsr.1) (hsr.2.1) (hsr.2.2.1) (X.2.2.2.2 (.fieldLink RX6 60 "Strandbook$SignRow" "signs" "[C") (List.mem_cons_of_mem _ (List.mem_append_left _ (List.mem_append_left _ (List.mem_append_left _ (List.mem_append_left _ (List.mem_append_left _ (List.mem_append_left _ (List.mem_append_left _ (List.mem_of_getElem? (i := 0) rfl)))))))))) dX6_addPart_5 ?_
  refine lv_astore (lv' := [(5, .ref (ad 4 (T 2 r))), (0, .ref (ad 0 0)), (1, .ref (ad 7 w)), (2, .int (nI (r))), (3, .int (nI (f))), (4, .int (nI (j)))]) X.1 X.2.1 dX6_addPart_8 hl (by decide) rfl (fun ls hl => ?_)
  refine lv_iload_n X.1 X.2.1 dX6_addPart_10 rfl (lv_at hl 4 rfl) ?_
  refine lv_iload X.1 X.2.1 dX6_addPart_11 (lv_at hl 5 rfl) ?_
  refine lv_aload X.1 X.2.1 dX6_addPart_13 (lv_at hl 0 rfl) ?_
  refine cln_8 X hW (hsr.2.2.2.1) (hsr.2.2.2.2.1) (hsr.2.2.2.2.2.1) dX6_addPart_15 ?_
  refine cSv X hW (cg_requirePlaces l (f := f) (j := j) (n := T 1 (T 2 r)) (by omega) (by omega)) (va_cwS 3 X.2.2.2.2 gX6_addPart_X6_requirePlaces rfl rfl rfl (by decide +kernel) ⟨Nat.le_of_ble_eq_true rfl, Nat.le_of_ble_eq_true rfl⟩) rfl rfl hl.1 (Nat.le_of_ble_eq_true rfl) dX6_addPart_16 ⟨Nat.zero_le _, Nat.zero_le _⟩ (fun H locs hW => ?_)
  refine lv_aload_n X.1 X.2.1 dX6_addPart_19 rfl (lv_at hl 2 rfl) ?_
  refine lv_iload X.1 X.2.1 dX6_addPart_20 (lv_at hl 5 rfl) ?_
  exact cXS Y X hW (cz_requireRoom l hst hwr (by omega) h) (va_cwS 2 X.2.2.2.2 gX6_addPart_X6_requireRoom rfl rfl rfl (by decide +kernel) ⟨Nat.le_of_ble_eq_true rfl, Nat.le_of_ble_eq_true rfl⟩) rfl rfl hl.1 (Nat.le_of_ble_eq_true rfl) dX6_addPart_22 ⟨Nat.le_of_ble_eq_true rfl, Nat.le_of_ble_eq_true rfl⟩

set_option maxHeartbeats 4000000 in
set_option maxRecDepth 100000 in
theorem cz_takeInto (l : Launch) {G : va_G} {kT : Nat → ClassId} {L : List Nat} {K : Nat → Nat} {R : pR} {I : pI} {A : mD} {Q : pR} {N : Nat → Nat} (hst : l.stackTraces = false) {T : mT} {D : mD} {ad : pD} (HB : Rep T D ad L K R I A Q N) {w : Nat} (hw : w < 6) {x : Int32} (h : oN x 4) : cMt l yX6_takeInto wsX6_takeInto ({ frames := 7, cells := 1, slots := 6, locals := 121 } : Room) G kT [.ref (ad 0 0), .ref (ad 7 w), .int (x)] L K R I A Q N "java/lang/IndexOutOfBoundsException" := by
  refine cstt (cc := cX6_takeInto) (maxL := 4) (ret := (some .int)) hst (by decide) rfl (Nat.le_of_ble_eq_true rfl) (fun p e s m args below meth c Z Y X hW ls hl => ?_)
  have X : CallFix p m c cX6_takeInto 4 s args wsX6_takeInto RX6 := X
  have hl : lv_has ls 4 [(0, .ref (ad 0 0)), (1, .ref (ad 7 w)), (2, .int (x))] := hl
  have hin3 : ∀ w ∈ wsX30, w ∈ wsX6_takeInto := fun w h => List.mem_cons_of_mem _ (List.mem_append_left _ (List.mem_append_left _ (List.mem_append_left _ (List.mem_append_left _ (List.mem_append_right _ (h))))))
  have hin4 : ∀ w ∈ wsX40, w ∈ wsX6_takeInto := fun w h => List.mem_cons_of_mem _ (List.mem_append_left _ (List.mem_append_left _ (List.mem_append_left _ (List.mem_append_right _ (h)))))
  have hin6 : ∀ w ∈ wsX60, w ∈ wsX6_takeInto := fun w h => List.mem_cons_of_mem _ (List.mem_append_left _ (List.mem_append_left _ (List.mem_append_right _ (h))))
  refine lv_aload_n X.1 X.2.1 dX6_takeInto_0 rfl (lv_at hl 0 rfl) ?_
  refine lv_iload_n X.1 X.2.1 dX6_takeInto_1 rfl (lv_at hl 2 rfl) ?_
  exact cXV Y X hW (HB.mem lv_0) (pC_6 (HB.kn lv_0 rfl)) rfl (cz_signRowAt l hst HB h) (cwV 1 X.2.2.2.2 gX6_takeInto_X6_signRowAt rfl rfl rfl (by decide +kernel) ⟨Nat.le_of_ble_eq_true rfl, Nat.le_of_ble_eq_true rfl⟩) rfl rfl hl.1 (Nat.le_of_ble_eq_true rfl) dX6_takeInto_2 ⟨Nat.le_of_ble_eq_true rfl, Nat.le_of_ble_eq_true rfl⟩

set_option maxHeartbeats 4000000 in
set_option maxRecDepth 100000 in
theorem cz_pourInto (l : Launch) {G : va_G} {kT : Nat → ClassId} {L : List Nat} {K : Nat → Nat} {R : pR} {I : pI} {A : mD} {Q : pR} {N : Nat → Nat} (hst : l.stackTraces = false) {T : mT} {D : mD} {ad : pD} (HB : Rep T D ad L K R I A Q N) {v w : Nat} (hv : v < 6) (hw : w < 6) (h : 256 < T 7 w + T 7 v) : cMt l yX6_pourInto wsX6_pourInto ({ frames := 7, cells := 1, slots := 6, locals := 121 } : Room) G kT [.ref (ad 7 v), .ref (ad 7 w)] L K R I A Q N "java/lang/IllegalStateException" := by
  refine cstt (cc := cX6_pourInto) (maxL := 2) (ret := (some .int)) hst (by decide) rfl (Nat.le_of_ble_eq_true rfl) (fun p e s m args below meth c Z Y X hW ls hl => ?_)
  have X : CallFix p m c cX6_pourInto 2 s args wsX6_pourInto RX6 := X
  have hl : lv_has ls 2 [(0, .ref (ad 7 v)), (1, .ref (ad 7 w))] := hl
  have hin4 : ∀ w ∈ wsX40, w ∈ wsX6_pourInto := fun w h => List.mem_cons_of_mem _ (List.mem_append_left _ (List.mem_append_left _ (List.mem_append_right _ (h))))
  have hvr := HB.wr hv
  have hwr := HB.wr hw
  have hv9 := hvr.2.2.2.2.2.2.2
  refine lv_aload_n X.1 X.2.1 dX6_pourInto_0 rfl (lv_at hl 1 rfl) ?_
  refine lv_aload_n X.1 X.2.1 dX6_pourInto_1 rfl (lv_at hl 0 rfl) ?_
  refine cg_4_count X hin4 hW (hvr.1) (hvr.2.1) (hvr.2.2.2.2.2.2.1) (X.2.2.2.2 (.fieldLink RX6 107 "Strandbook$SignWriter" "count" "I") (List.mem_cons_of_mem _ (List.mem_append_left _ (List.mem_append_left _ (List.mem_append_left _ (List.mem_of_getElem? (i := 0) rfl)))))) dX6_pourInto_2 ?_
  exact cXS Y X hW (cz_requireRoom l hst hwr (by omega) h) (va_cwS 2 X.2.2.2.2 gX6_pourInto_X6_requireRoom rfl rfl rfl (by decide +kernel) ⟨Nat.le_of_ble_eq_true rfl, Nat.le_of_ble_eq_true rfl⟩) rfl rfl hl.1 (Nat.le_of_ble_eq_true rfl) dX6_pourInto_5 ⟨Nat.le_of_ble_eq_true rfl, Nat.le_of_ble_eq_true rfl⟩

set_option maxHeartbeats 4000000 in
set_option maxRecDepth 100000 in
theorem cb_write_a (l : Launch) {G : va_G} {kT : Nat → ClassId} {L : List Nat} {K : Nat → Nat} {R : pR} {I : pI} {A : mD} {Q : pR} {N : Nat → Nat} (hst : l.stackTraces = false) {T : mT} {D : mD} {ad : pD} (HB : Rep T D ad L K R I A Q N) {x x1 : Int32} (h : oN x 3) : cMt l yX6_write wsX6_write ({ frames := 8, cells := 1, slots := 6, locals := 144 } : Room) G kT [.ref (ad 0 0), .int (x), .int (x1)] L K R I A Q N "java/lang/IndexOutOfBoundsException" := by
  refine cstt (cc := cX6_write) (maxL := 3) (ret := (some .int)) hst (by decide) rfl (Nat.le_of_ble_eq_true rfl) (fun p e s m args below meth c Z Y X hW ls hl => ?_)
  have X : CallFix p m c cX6_write 3 s args wsX6_write RX6 := X
  have hl : lv_has ls 3 [(0, .ref (ad 0 0)), (1, .int (x)), (2, .int (x1))] := hl
  have hin4 : ∀ w ∈ wsX40, w ∈ wsX6_write := fun w h => List.mem_cons_of_mem _ (List.mem_append_left _ (List.mem_append_left _ (List.mem_append_left _ (List.mem_append_right _ (h)))))
  have hin6 : ∀ w ∈ wsX60, w ∈ wsX6_write := fun w h => List.mem_cons_of_mem _ (List.mem_append_left _ (List.mem_append_left _ (List.mem_append_left _ (List.mem_append_left _ (List.mem_append_right _ (h))))))
  refine lv_aload_n X.1 X.2.1 dX6_write_0 rfl (lv_at hl 0 rfl) ?_
  refine lv_iload_n X.1 X.2.1 dX6_write_1 rfl (lv_at hl 1 rfl) ?_
  exact cXV Y X hW (HB.mem lv_0) (pC_6 (HB.kn lv_0 rfl)) rfl (cz_textWriterAt l hst HB h) (cwV 1 X.2.2.2.2 gX6_write_X6_textWriterAt rfl rfl rfl (by decide +kernel) ⟨Nat.le_of_ble_eq_true rfl, Nat.le_of_ble_eq_true rfl⟩) rfl rfl hl.1 (Nat.le_of_ble_eq_true rfl) dX6_write_2 ⟨Nat.le_of_ble_eq_true rfl, Nat.le_of_ble_eq_true rfl⟩

set_option maxHeartbeats 4000000 in
set_option maxRecDepth 100000 in
theorem cb_write_b (l : Launch) {G : va_G} {kT : Nat → ClassId} {L : List Nat} {K : Nat → Nat} {R : pR} {I : pI} {A : mD} {Q : pR} {N : Nat → Nat} (hst : l.stackTraces = false) {T : mT} {D : mD} {ad : pD} (HB : Rep T D ad L K R I A Q N) {w : Nat} {x : Int32} (hw : w < 3) (h : 256 < T 7 w + 1) : cMt l yX6_write wsX6_write ({ frames := 8, cells := 1, slots := 6, locals := 144 } : Room) G kT [.ref (ad 0 0), .int (nI (w)), .int (x)] L K R I A Q N "java/lang/IllegalStateException" := by
  refine cstt (cc := cX6_write) (maxL := 3) (ret := (some .int)) hst (by decide) rfl (Nat.le_of_ble_eq_true rfl) (fun p e s m args below meth c Z Y X hW ls hl => ?_)
  have X : CallFix p m c cX6_write 3 s args wsX6_write RX6 := X
  have hl : lv_has ls 3 [(0, .ref (ad 0 0)), (1, .int (nI (w))), (2, .int (x))] := hl
  have hin4 : ∀ w ∈ wsX40, w ∈ wsX6_write := fun w h => List.mem_cons_of_mem _ (List.mem_append_left _ (List.mem_append_left _ (List.mem_append_left _ (List.mem_append_right _ (h)))))
  have hin6 : ∀ w ∈ wsX60, w ∈ wsX6_write := fun w h => List.mem_cons_of_mem _ (List.mem_append_left _ (List.mem_append_left _ (List.mem_append_left _ (List.mem_append_left _ (List.mem_append_right _ (h))))))
  have hwr := HB.wr (show w < 6 by omega)
  refine lv_aload_n X.1 X.2.1 dX6_write_0 rfl (lv_at hl 0 rfl) ?_
  refine lv_iload_n X.1 X.2.1 dX6_write_1 rfl (lv_at hl 1 rfl) ?_
  refine cVr X hW (HB.mem lv_0) (pC_6 (HB.kn lv_0 rfl)) rfl (cg_textWriterAt l HB (r := w) (by omega)) (cwV 1 X.2.2.2.2 gX6_write_X6_textWriterAt rfl rfl rfl (by decide +kernel) ⟨Nat.le_of_ble_eq_true rfl, Nat.le_of_ble_eq_true rfl⟩) rfl rfl hl.1 (Nat.le_of_ble_eq_true rfl) dX6_write_2 ⟨Nat.zero_le _, Nat.zero_le _⟩ (fun H locs hW => ?_)
  refine lv_iload_n X.1 X.2.1 dX6_write_5 rfl (lv_at hl 2 rfl) ?_
  refine lv_iconst (v := nI 1) X.1 X.2.1 dX6_write_6 (by decide) ?_
  exact cXS Y X hW (cz_addSigns l hst hwr (by omega) h) (va_cwS 3 X.2.2.2.2 gX6_write_X6_addSigns rfl rfl rfl (by decide +kernel) ⟨Nat.le_of_ble_eq_true rfl, Nat.le_of_ble_eq_true rfl⟩) rfl rfl hl.1 (Nat.le_of_ble_eq_true rfl) dX6_write_7 ⟨Nat.le_of_ble_eq_true rfl, Nat.le_of_ble_eq_true rfl⟩

set_option maxHeartbeats 4000000 in
set_option maxRecDepth 100000 in
theorem cb_append_a (l : Launch) {G : va_G} {kT : Nat → ClassId} {L : List Nat} {K : Nat → Nat} {R : pR} {I : pI} {A : mD} {Q : pR} {N : Nat → Nat} (hst : l.stackTraces = false) {T : mT} {D : mD} {ad : pD} (HB : Rep T D ad L K R I A Q N) {x x1 : Int32} (h : oN x 3) : cMt l yX6_append wsX6_append ({ frames := 8, cells := 1, slots := 6, locals := 144 } : Room) G kT [.ref (ad 0 0), .int (x), .int (x1)] L K R I A Q N "java/lang/IndexOutOfBoundsException" := by
  refine cstt (cc := cX6_append) (maxL := 3) (ret := (some .int)) hst (by decide) rfl (Nat.le_of_ble_eq_true rfl) (fun p e s m args below meth c Z Y X hW ls hl => ?_)
  have X : CallFix p m c cX6_append 3 s args wsX6_append RX6 := X
  have hl : lv_has ls 3 [(0, .ref (ad 0 0)), (1, .int (x)), (2, .int (x1))] := hl
  have hin4 : ∀ w ∈ wsX40, w ∈ wsX6_append := fun w h => List.mem_cons_of_mem _ (List.mem_append_left _ (List.mem_append_left _ (List.mem_append_left _ (List.mem_append_right _ (h)))))
  have hin6 : ∀ w ∈ wsX60, w ∈ wsX6_append := fun w h => List.mem_cons_of_mem _ (List.mem_append_left _ (List.mem_append_left _ (List.mem_append_left _ (List.mem_append_left _ (List.mem_append_right _ (h))))))
  refine lv_aload_n X.1 X.2.1 dX6_append_0 rfl (lv_at hl 0 rfl) ?_
  refine lv_iload_n X.1 X.2.1 dX6_append_1 rfl (lv_at hl 1 rfl) ?_
  exact cXV Y X hW (HB.mem lv_0) (pC_6 (HB.kn lv_0 rfl)) rfl (cz_textWriterAt l hst HB h) (cwV 1 X.2.2.2.2 gX6_append_X6_textWriterAt rfl rfl rfl (by decide +kernel) ⟨Nat.le_of_ble_eq_true rfl, Nat.le_of_ble_eq_true rfl⟩) rfl rfl hl.1 (Nat.le_of_ble_eq_true rfl) dX6_append_2 ⟨Nat.le_of_ble_eq_true rfl, Nat.le_of_ble_eq_true rfl⟩

set_option maxHeartbeats 4000000 in
set_option maxRecDepth 100000 in
theorem cb_append_b (l : Launch) {G : va_G} {kT : Nat → ClassId} {L : List Nat} {K : Nat → Nat} {R : pR} {I : pI} {A : mD} {Q : pR} {N : Nat → Nat} (hst : l.stackTraces = false) {T : mT} {D : mD} {ad : pD} (HB : Rep T D ad L K R I A Q N) {w : Nat} {x : Int32} (hw : w < 3) (h : 256 < T 7 w + 2) : cMt l yX6_append wsX6_append ({ frames := 8, cells := 1, slots := 6, locals := 144 } : Room) G kT [.ref (ad 0 0), .int (nI (w)), .int (x)] L K R I A Q N "java/lang/IllegalStateException" := by
  refine cstt (cc := cX6_append) (maxL := 3) (ret := (some .int)) hst (by decide) rfl (Nat.le_of_ble_eq_true rfl) (fun p e s m args below meth c Z Y X hW ls hl => ?_)
  have X : CallFix p m c cX6_append 3 s args wsX6_append RX6 := X
  have hl : lv_has ls 3 [(0, .ref (ad 0 0)), (1, .int (nI (w))), (2, .int (x))] := hl
  have hin4 : ∀ w ∈ wsX40, w ∈ wsX6_append := fun w h => List.mem_cons_of_mem _ (List.mem_append_left _ (List.mem_append_left _ (List.mem_append_left _ (List.mem_append_right _ (h)))))
  have hin6 : ∀ w ∈ wsX60, w ∈ wsX6_append := fun w h => List.mem_cons_of_mem _ (List.mem_append_left _ (List.mem_append_left _ (List.mem_append_left _ (List.mem_append_left _ (List.mem_append_right _ (h))))))
  have hwr := HB.wr (show w < 6 by omega)
  refine lv_aload_n X.1 X.2.1 dX6_append_0 rfl (lv_at hl 0 rfl) ?_
  refine lv_iload_n X.1 X.2.1 dX6_append_1 rfl (lv_at hl 1 rfl) ?_
  refine cVr X hW (HB.mem lv_0) (pC_6 (HB.kn lv_0 rfl)) rfl (cg_textWriterAt l HB (r := w) (by omega)) (cwV 1 X.2.2.2.2 gX6_append_X6_textWriterAt rfl rfl rfl (by decide +kernel) ⟨Nat.le_of_ble_eq_true rfl, Nat.le_of_ble_eq_true rfl⟩) rfl rfl hl.1 (Nat.le_of_ble_eq_true rfl) dX6_append_2 ⟨Nat.zero_le _, Nat.zero_le _⟩ (fun H locs hW => ?_)
  refine lv_iload_n X.1 X.2.1 dX6_append_5 rfl (lv_at hl 2 rfl) ?_
  refine lv_iconst (v := nI 2) X.1 X.2.1 dX6_append_6 (by decide) ?_
  exact cXS Y X hW (cz_addSigns l hst hwr (by omega) h) (va_cwS 3 X.2.2.2.2 gX6_append_X6_addSigns rfl rfl rfl (by decide +kernel) ⟨Nat.le_of_ble_eq_true rfl, Nat.le_of_ble_eq_true rfl⟩) rfl rfl hl.1 (Nat.le_of_ble_eq_true rfl) dX6_append_7 ⟨Nat.le_of_ble_eq_true rfl, Nat.le_of_ble_eq_true rfl⟩

set_option maxHeartbeats 4000000 in
set_option maxRecDepth 100000 in
theorem cb_arrayWrite_a (l : Launch) {G : va_G} {kT : Nat → ClassId} {L : List Nat} {K : Nat → Nat} {R : pR} {I : pI} {A : mD} {Q : pR} {N : Nat → Nat} (hst : l.stackTraces = false) {T : mT} {D : mD} {ad : pD} (HB : Rep T D ad L K R I A Q N) {x x1 : Int32} (h : oN x 3) : cMt l yX6_arrayWrite wsX6_arrayWrite ({ frames := 8, cells := 1, slots := 6, locals := 144 } : Room) G kT [.ref (ad 0 0), .int (x), .int (x1)] L K R I A Q N "java/lang/IndexOutOfBoundsException" := by
  refine cstt (cc := cX6_arrayWrite) (maxL := 3) (ret := (some .int)) hst (by decide) rfl (Nat.le_of_ble_eq_true rfl) (fun p e s m args below meth c Z Y X hW ls hl => ?_)
  have X : CallFix p m c cX6_arrayWrite 3 s args wsX6_arrayWrite RX6 := X
  have hl : lv_has ls 3 [(0, .ref (ad 0 0)), (1, .int (x)), (2, .int (x1))] := hl
  have hin4 : ∀ w ∈ wsX40, w ∈ wsX6_arrayWrite := fun w h => List.mem_cons_of_mem _ (List.mem_append_left _ (List.mem_append_left _ (List.mem_append_left _ (List.mem_append_right _ (h)))))
  have hin6 : ∀ w ∈ wsX60, w ∈ wsX6_arrayWrite := fun w h => List.mem_cons_of_mem _ (List.mem_append_left _ (List.mem_append_left _ (List.mem_append_left _ (List.mem_append_left _ (List.mem_append_right _ (h))))))
  refine lv_aload_n X.1 X.2.1 dX6_arrayWrite_0 rfl (lv_at hl 0 rfl) ?_
  refine lv_iload_n X.1 X.2.1 dX6_arrayWrite_1 rfl (lv_at hl 1 rfl) ?_
  exact cXV Y X hW (HB.mem lv_0) (pC_6 (HB.kn lv_0 rfl)) rfl (cz_arrayWriterAt l hst HB h) (cwV 1 X.2.2.2.2 gX6_arrayWrite_X6_arrayWriterAt rfl rfl rfl (by decide +kernel) ⟨Nat.le_of_ble_eq_true rfl, Nat.le_of_ble_eq_true rfl⟩) rfl rfl hl.1 (Nat.le_of_ble_eq_true rfl) dX6_arrayWrite_2 ⟨Nat.le_of_ble_eq_true rfl, Nat.le_of_ble_eq_true rfl⟩

set_option maxHeartbeats 4000000 in
set_option maxRecDepth 100000 in
theorem cb_arrayWrite_b (l : Launch) {G : va_G} {kT : Nat → ClassId} {L : List Nat} {K : Nat → Nat} {R : pR} {I : pI} {A : mD} {Q : pR} {N : Nat → Nat} (hst : l.stackTraces = false) {T : mT} {D : mD} {ad : pD} (HB : Rep T D ad L K R I A Q N) {w : Nat} {x : Int32} (hw : w < 3) (h : 256 < T 7 (3 + w) + 1) : cMt l yX6_arrayWrite wsX6_arrayWrite ({ frames := 8, cells := 1, slots := 6, locals := 144 } : Room) G kT [.ref (ad 0 0), .int (nI (w)), .int (x)] L K R I A Q N "java/lang/IllegalStateException" := by
  refine cstt (cc := cX6_arrayWrite) (maxL := 3) (ret := (some .int)) hst (by decide) rfl (Nat.le_of_ble_eq_true rfl) (fun p e s m args below meth c Z Y X hW ls hl => ?_)
  have X : CallFix p m c cX6_arrayWrite 3 s args wsX6_arrayWrite RX6 := X
  have hl : lv_has ls 3 [(0, .ref (ad 0 0)), (1, .int (nI (w))), (2, .int (x))] := hl
  have hin4 : ∀ w ∈ wsX40, w ∈ wsX6_arrayWrite := fun w h => List.mem_cons_of_mem _ (List.mem_append_left _ (List.mem_append_left _ (List.mem_append_left _ (List.mem_append_right _ (h)))))
  have hin6 : ∀ w ∈ wsX60, w ∈ wsX6_arrayWrite := fun w h => List.mem_cons_of_mem _ (List.mem_append_left _ (List.mem_append_left _ (List.mem_append_left _ (List.mem_append_left _ (List.mem_append_right _ (h))))))
  have hwr := HB.wr (show 3 + w < 6 by omega)
  refine lv_aload_n X.1 X.2.1 dX6_arrayWrite_0 rfl (lv_at hl 0 rfl) ?_
  refine lv_iload_n X.1 X.2.1 dX6_arrayWrite_1 rfl (lv_at hl 1 rfl) ?_
  refine cVr X hW (HB.mem lv_0) (pC_6 (HB.kn lv_0 rfl)) rfl (cg_arrayWriterAt l HB (r := w) (by omega)) (cwV 1 X.2.2.2.2 gX6_arrayWrite_X6_arrayWriterAt rfl rfl rfl (by decide +kernel) ⟨Nat.le_of_ble_eq_true rfl, Nat.le_of_ble_eq_true rfl⟩) rfl rfl hl.1 (Nat.le_of_ble_eq_true rfl) dX6_arrayWrite_2 ⟨Nat.zero_le _, Nat.zero_le _⟩ (fun H locs hW => ?_)
  refine lv_iload_n X.1 X.2.1 dX6_arrayWrite_5 rfl (lv_at hl 2 rfl) ?_
  refine lv_iconst (v := nI 1) X.1 X.2.1 dX6_arrayWrite_6 (by decide) ?_
  exact cXS Y X hW (cz_addSigns l hst hwr (by omega) h) (va_cwS 3 X.2.2.2.2 gX6_arrayWrite_X6_addSigns rfl rfl rfl (by decide +kernel) ⟨Nat.le_of_ble_eq_true rfl, Nat.le_of_ble_eq_true rfl⟩) rfl rfl hl.1 (Nat.le_of_ble_eq_true rfl) dX6_arrayWrite_7 ⟨Nat.le_of_ble_eq_true rfl, Nat.le_of_ble_eq_true rfl⟩

set_option maxHeartbeats 4000000 in
set_option maxRecDepth 100000 in
theorem cb_arrayAppend_a (l : Launch) {G : va_G} {kT : Nat → ClassId} {L : List Nat} {K : Nat → Nat} {R : pR} {I : pI} {A : mD} {Q : pR} {N : Nat → Nat} (hst : l.stackTraces = false) {T : mT} {D : mD} {ad : pD} (HB : Rep T D ad L K R I A Q N) {x x1 : Int32} (h : oN x 3) : cMt l yX6_arrayAppend wsX6_arrayAppend ({ frames := 8, cells := 1, slots := 6, locals := 144 } : Room) G kT [.ref (ad 0 0), .int (x), .int (x1)] L K R I A Q N "java/lang/IndexOutOfBoundsException" := by
  refine cstt (cc := cX6_arrayAppend) (maxL := 3) (ret := (some .int)) hst (by decide) rfl (Nat.le_of_ble_eq_true rfl) (fun p e s m args below meth c Z Y X hW ls hl => ?_)
  have X : CallFix p m c cX6_arrayAppend 3 s args wsX6_arrayAppend RX6 := X
  have hl : lv_has ls 3 [(0, .ref (ad 0 0)), (1, .int (x)), (2, .int (x1))] := hl
  have hin4 : ∀ w ∈ wsX40, w ∈ wsX6_arrayAppend := fun w h => List.mem_cons_of_mem _ (List.mem_append_left _ (List.mem_append_left _ (List.mem_append_left _ (List.mem_append_right _ (h)))))
  have hin6 : ∀ w ∈ wsX60, w ∈ wsX6_arrayAppend := fun w h => List.mem_cons_of_mem _ (List.mem_append_left _ (List.mem_append_left _ (List.mem_append_left _ (List.mem_append_left _ (List.mem_append_right _ (h))))))
  refine lv_aload_n X.1 X.2.1 dX6_arrayAppend_0 rfl (lv_at hl 0 rfl) ?_
  refine lv_iload_n X.1 X.2.1 dX6_arrayAppend_1 rfl (lv_at hl 1 rfl) ?_
  exact cXV Y X hW (HB.mem lv_0) (pC_6 (HB.kn lv_0 rfl)) rfl (cz_arrayWriterAt l hst HB h) (cwV 1 X.2.2.2.2 gX6_arrayAppend_X6_arrayWriterAt rfl rfl rfl (by decide +kernel) ⟨Nat.le_of_ble_eq_true rfl, Nat.le_of_ble_eq_true rfl⟩) rfl rfl hl.1 (Nat.le_of_ble_eq_true rfl) dX6_arrayAppend_2 ⟨Nat.le_of_ble_eq_true rfl, Nat.le_of_ble_eq_true rfl⟩

set_option maxHeartbeats 4000000 in
set_option maxRecDepth 100000 in
theorem cb_arrayAppend_b (l : Launch) {G : va_G} {kT : Nat → ClassId} {L : List Nat} {K : Nat → Nat} {R : pR} {I : pI} {A : mD} {Q : pR} {N : Nat → Nat} (hst : l.stackTraces = false) {T : mT} {D : mD} {ad : pD} (HB : Rep T D ad L K R I A Q N) {w : Nat} {x : Int32} (hw : w < 3) (h : 256 < T 7 (3 + w) + 2) : cMt l yX6_arrayAppend wsX6_arrayAppend ({ frames := 8, cells := 1, slots := 6, locals := 144 } : Room) G kT [.ref (ad 0 0), .int (nI (w)), .int (x)] L K R I A Q N "java/lang/IllegalStateException" := by
  refine cstt (cc := cX6_arrayAppend) (maxL := 3) (ret := (some .int)) hst (by decide) rfl (Nat.le_of_ble_eq_true rfl) (fun p e s m args below meth c Z Y X hW ls hl => ?_)
  have X : CallFix p m c cX6_arrayAppend 3 s args wsX6_arrayAppend RX6 := X
  have hl : lv_has ls 3 [(0, .ref (ad 0 0)), (1, .int (nI (w))), (2, .int (x))] := hl
  have hin4 : ∀ w ∈ wsX40, w ∈ wsX6_arrayAppend := fun w h => List.mem_cons_of_mem _ (List.mem_append_left _ (List.mem_append_left _ (List.mem_append_left _ (List.mem_append_right _ (h)))))
  have hin6 : ∀ w ∈ wsX60, w ∈ wsX6_arrayAppend := fun w h => List.mem_cons_of_mem _ (List.mem_append_left _ (List.mem_append_left _ (List.mem_append_left _ (List.mem_append_left _ (List.mem_append_right _ (h))))))
  have hwr := HB.wr (show 3 + w < 6 by omega)
  refine lv_aload_n X.1 X.2.1 dX6_arrayAppend_0 rfl (lv_at hl 0 rfl) ?_
  refine lv_iload_n X.1 X.2.1 dX6_arrayAppend_1 rfl (lv_at hl 1 rfl) ?_
  refine cVr X hW (HB.mem lv_0) (pC_6 (HB.kn lv_0 rfl)) rfl (cg_arrayWriterAt l HB (r := w) (by omega)) (cwV 1 X.2.2.2.2 gX6_arrayAppend_X6_arrayWriterAt rfl rfl rfl (by decide +kernel) ⟨Nat.le_of_ble_eq_true rfl, Nat.le_of_ble_eq_true rfl⟩) rfl rfl hl.1 (Nat.le_of_ble_eq_true rfl) dX6_arrayAppend_2 ⟨Nat.zero_le _, Nat.zero_le _⟩ (fun H locs hW => ?_)
  refine lv_iload_n X.1 X.2.1 dX6_arrayAppend_5 rfl (lv_at hl 2 rfl) ?_
  refine lv_iconst (v := nI 2) X.1 X.2.1 dX6_arrayAppend_6 (by decide) ?_
  exact cXS Y X hW (cz_addSigns l hst hwr (by omega) h) (va_cwS 3 X.2.2.2.2 gX6_arrayAppend_X6_addSigns rfl rfl rfl (by decide +kernel) ⟨Nat.le_of_ble_eq_true rfl, Nat.le_of_ble_eq_true rfl⟩) rfl rfl hl.1 (Nat.le_of_ble_eq_true rfl) dX6_arrayAppend_7 ⟨Nat.le_of_ble_eq_true rfl, Nat.le_of_ble_eq_true rfl⟩

set_option maxHeartbeats 4000000 in
set_option maxRecDepth 100000 in
theorem cb_writeText_a (l : Launch) {G : va_G} {kT : Nat → ClassId} {L : List Nat} {K : Nat → Nat} {R : pR} {I : pI} {A : mD} {Q : pR} {N : Nat → Nat} (hst : l.stackTraces = false) {T : mT} {D : mD} {ad : pD} (HB : Rep T D ad L K R I A Q N) {x x1 x2 x3 : Int32} (h : oN x 3) : cMt l yX6_writeText wsX6_writeText ({ frames := 8, cells := 1, slots := 6, locals := 147 } : Room) G kT [.ref (ad 0 0), .int (x), .int (x1), .int (x2), .int (x3)] L K R I A Q N "java/lang/IndexOutOfBoundsException" := by
  refine cstt (cc := cX6_writeText) (maxL := 5) (ret := (some .int)) hst (by decide) rfl (Nat.le_of_ble_eq_true rfl) (fun p e s m args below meth c Z Y X hW ls hl => ?_)
  have X : CallFix p m c cX6_writeText 5 s args wsX6_writeText RX6 := X
  have hl : lv_has ls 5 [(0, .ref (ad 0 0)), (1, .int (x)), (2, .int (x1)), (3, .int (x2)), (4, .int (x3))] := hl
  have hin3 : ∀ w ∈ wsX30, w ∈ wsX6_writeText := fun w h => List.mem_cons_of_mem _ (List.mem_append_left _ (List.mem_append_left _ (List.mem_append_left _ (List.mem_append_left _ (List.mem_append_right _ (h))))))
  have hin4 : ∀ w ∈ wsX40, w ∈ wsX6_writeText := fun w h => List.mem_cons_of_mem _ (List.mem_append_left _ (List.mem_append_left _ (List.mem_append_left _ (List.mem_append_right _ (h)))))
  have hin6 : ∀ w ∈ wsX60, w ∈ wsX6_writeText := fun w h => List.mem_cons_of_mem _ (List.mem_append_left _ (List.mem_append_left _ (List.mem_append_left _ (List.mem_append_left _ (List.mem_append_left _ (List.mem_append_right _ (h)))))))
  refine lv_aload_n X.1 X.2.1 dX6_writeText_0 rfl (lv_at hl 0 rfl) ?_
  refine lv_aload_n X.1 X.2.1 dX6_writeText_1 rfl (lv_at hl 0 rfl) ?_
  refine lv_iload_n X.1 X.2.1 dX6_writeText_2 rfl (lv_at hl 1 rfl) ?_
  exact cXV Y X hW (HB.mem lv_0) (pC_6 (HB.kn lv_0 rfl)) rfl (cz_textWriterAt l hst HB h) (cwV 1 X.2.2.2.2 gX6_writeText_X6_textWriterAt rfl rfl rfl (by decide +kernel) ⟨Nat.le_of_ble_eq_true rfl, Nat.le_of_ble_eq_true rfl⟩) rfl rfl hl.1 (Nat.le_of_ble_eq_true rfl) dX6_writeText_3 ⟨Nat.le_of_ble_eq_true rfl, Nat.le_of_ble_eq_true rfl⟩

set_option maxHeartbeats 4000000 in
set_option maxRecDepth 100000 in
theorem cb_writeText_b (l : Launch) {G : va_G} {kT : Nat → ClassId} {L : List Nat} {K : Nat → Nat} {R : pR} {I : pI} {A : mD} {Q : pR} {N : Nat → Nat} (hst : l.stackTraces = false) {T : mT} {D : mD} {ad : pD} (HB : Rep T D ad L K R I A Q N) {w : Nat} {x x1 x2 : Int32} (hw : w < 3) (h : oN x 4) : cMt l yX6_writeText wsX6_writeText ({ frames := 8, cells := 1, slots := 6, locals := 147 } : Room) G kT [.ref (ad 0 0), .int (nI (w)), .int (x), .int (x1), .int (x2)] L K R I A Q N "java/lang/IndexOutOfBoundsException" := by
  refine cstt (cc := cX6_writeText) (maxL := 5) (ret := (some .int)) hst (by decide) rfl (Nat.le_of_ble_eq_true rfl) (fun p e s m args below meth c Z Y X hW ls hl => ?_)
  have X : CallFix p m c cX6_writeText 5 s args wsX6_writeText RX6 := X
  have hl : lv_has ls 5 [(0, .ref (ad 0 0)), (1, .int (nI (w))), (2, .int (x)), (3, .int (x1)), (4, .int (x2))] := hl
  have hin3 : ∀ w ∈ wsX30, w ∈ wsX6_writeText := fun w h => List.mem_cons_of_mem _ (List.mem_append_left _ (List.mem_append_left _ (List.mem_append_left _ (List.mem_append_left _ (List.mem_append_right _ (h))))))
  have hin4 : ∀ w ∈ wsX40, w ∈ wsX6_writeText := fun w h => List.mem_cons_of_mem _ (List.mem_append_left _ (List.mem_append_left _ (List.mem_append_left _ (List.mem_append_right _ (h)))))
  have hin6 : ∀ w ∈ wsX60, w ∈ wsX6_writeText := fun w h => List.mem_cons_of_mem _ (List.mem_append_left _ (List.mem_append_left _ (List.mem_append_left _ (List.mem_append_left _ (List.mem_append_left _ (List.mem_append_right _ (h)))))))
  have hwr := HB.wr (show w < 6 by omega)
  refine lv_aload_n X.1 X.2.1 dX6_writeText_0 rfl (lv_at hl 0 rfl) ?_
  refine lv_aload_n X.1 X.2.1 dX6_writeText_1 rfl (lv_at hl 0 rfl) ?_
  refine lv_iload_n X.1 X.2.1 dX6_writeText_2 rfl (lv_at hl 1 rfl) ?_
  refine cVr X hW (HB.mem lv_0) (pC_6 (HB.kn lv_0 rfl)) rfl (cg_textWriterAt l HB (r := w) (by omega)) (cwV 1 X.2.2.2.2 gX6_writeText_X6_textWriterAt rfl rfl rfl (by decide +kernel) ⟨Nat.le_of_ble_eq_true rfl, Nat.le_of_ble_eq_true rfl⟩) rfl rfl hl.1 (Nat.le_of_ble_eq_true rfl) dX6_writeText_3 ⟨Nat.zero_le _, Nat.zero_le _⟩ (fun H locs hW => ?_)
  refine lv_iload_n X.1 X.2.1 dX6_writeText_6 rfl (lv_at hl 2 rfl) ?_
  refine lv_iload_n X.1 X.2.1 dX6_writeText_7 rfl (lv_at hl 3 rfl) ?_
  refine lv_iload X.1 X.2.1 dX6_writeText_8 (lv_at hl 4 rfl) ?_
  exact cXV Y X hW (HB.mem lv_0) (pC_6 (HB.kn lv_0 rfl)) rfl (cz_addPart_a l hst HB (w := w) (by omega) h) (cwV 4 X.2.2.2.2 gX6_writeText_X6_addPart rfl rfl rfl (by decide +kernel) ⟨Nat.le_of_ble_eq_true rfl, Nat.le_of_ble_eq_true rfl⟩) rfl rfl hl.1 (Nat.le_of_ble_eq_true rfl) dX6_writeText_10 ⟨Nat.le_of_ble_eq_true rfl, Nat.le_of_ble_eq_true rfl⟩

set_option maxHeartbeats 4000000 in
set_option maxRecDepth 100000 in
theorem cb_writeText_c (l : Launch) {G : va_G} {kT : Nat → ClassId} {L : List Nat} {K : Nat → Nat} {R : pR} {I : pI} {A : mD} {Q : pR} {N : Nat → Nat} (hst : l.stackTraces = false) {T : mT} {D : mD} {ad : pD} (HB : Rep T D ad L K R I A Q N) {w r : Nat} {x x2 : Int32} (hw : w < 3) (hr : r < 4) (h : oP (T 1 (T 2 r)) x x2) : cMt l yX6_writeText wsX6_writeText ({ frames := 8, cells := 1, slots := 6, locals := 147 } : Room) G kT [.ref (ad 0 0), .int (nI (w)), .int (nI (r)), .int (x), .int (x2)] L K R I A Q N "java/lang/IndexOutOfBoundsException" := by
  refine cstt (cc := cX6_writeText) (maxL := 5) (ret := (some .int)) hst (by decide) rfl (Nat.le_of_ble_eq_true rfl) (fun p e s m args below meth c Z Y X hW ls hl => ?_)
  have X : CallFix p m c cX6_writeText 5 s args wsX6_writeText RX6 := X
  have hl : lv_has ls 5 [(0, .ref (ad 0 0)), (1, .int (nI (w))), (2, .int (nI (r))), (3, .int (x)), (4, .int (x2))] := hl
  have hin3 : ∀ w ∈ wsX30, w ∈ wsX6_writeText := fun w h => List.mem_cons_of_mem _ (List.mem_append_left _ (List.mem_append_left _ (List.mem_append_left _ (List.mem_append_left _ (List.mem_append_right _ (h))))))
  have hin4 : ∀ w ∈ wsX40, w ∈ wsX6_writeText := fun w h => List.mem_cons_of_mem _ (List.mem_append_left _ (List.mem_append_left _ (List.mem_append_left _ (List.mem_append_right _ (h)))))
  have hin6 : ∀ w ∈ wsX60, w ∈ wsX6_writeText := fun w h => List.mem_cons_of_mem _ (List.mem_append_left _ (List.mem_append_left _ (List.mem_append_left _ (List.mem_append_left _ (List.mem_append_left _ (List.mem_append_right _ (h)))))))
  have hwr := HB.wr (show w < 6 by omega)
  refine lv_aload_n X.1 X.2.1 dX6_writeText_0 rfl (lv_at hl 0 rfl) ?_
  refine lv_aload_n X.1 X.2.1 dX6_writeText_1 rfl (lv_at hl 0 rfl) ?_
  refine lv_iload_n X.1 X.2.1 dX6_writeText_2 rfl (lv_at hl 1 rfl) ?_
  refine cVr X hW (HB.mem lv_0) (pC_6 (HB.kn lv_0 rfl)) rfl (cg_textWriterAt l HB (r := w) (by omega)) (cwV 1 X.2.2.2.2 gX6_writeText_X6_textWriterAt rfl rfl rfl (by decide +kernel) ⟨Nat.le_of_ble_eq_true rfl, Nat.le_of_ble_eq_true rfl⟩) rfl rfl hl.1 (Nat.le_of_ble_eq_true rfl) dX6_writeText_3 ⟨Nat.zero_le _, Nat.zero_le _⟩ (fun H locs hW => ?_)
  refine lv_iload_n X.1 X.2.1 dX6_writeText_6 rfl (lv_at hl 2 rfl) ?_
  refine lv_iload_n X.1 X.2.1 dX6_writeText_7 rfl (lv_at hl 3 rfl) ?_
  refine lv_iload X.1 X.2.1 dX6_writeText_8 (lv_at hl 4 rfl) ?_
  exact cXV Y X hW (HB.mem lv_0) (pC_6 (HB.kn lv_0 rfl)) rfl (cz_addPart_b l hst HB (w := w) (by omega) hr h) (cwV 4 X.2.2.2.2 gX6_writeText_X6_addPart rfl rfl rfl (by decide +kernel) ⟨Nat.le_of_ble_eq_true rfl, Nat.le_of_ble_eq_true rfl⟩) rfl rfl hl.1 (Nat.le_of_ble_eq_true rfl) dX6_writeText_10 ⟨Nat.le_of_ble_eq_true rfl, Nat.le_of_ble_eq_true rfl⟩

set_option maxHeartbeats 4000000 in
set_option maxRecDepth 100000 in
theorem cb_writeText_d (l : Launch) {G : va_G} {kT : Nat → ClassId} {L : List Nat} {K : Nat → Nat} {R : pR} {I : pI} {A : mD} {Q : pR} {N : Nat → Nat} (hst : l.stackTraces = false) {T : mT} {D : mD} {ad : pD} (HB : Rep T D ad L K R I A Q N) {w r f j : Nat} (hw : w < 3) (hr : r < 4) (hf : f + j ≤ T 1 (T 2 r)) (h : 256 < T 7 w + j) : cMt l yX6_writeText wsX6_writeText ({ frames := 8, cells := 1, slots := 6, locals := 147 } : Room) G kT [.ref (ad 0 0), .int (nI (w)), .int (nI (r)), .int (nI (f)), .int (nI (j))] L K R I A Q N "java/lang/IllegalStateException" := by
  refine cstt (cc := cX6_writeText) (maxL := 5) (ret := (some .int)) hst (by decide) rfl (Nat.le_of_ble_eq_true rfl) (fun p e s m args below meth c Z Y X hW ls hl => ?_)
  have X : CallFix p m c cX6_writeText 5 s args wsX6_writeText RX6 := X
  have hl : lv_has ls 5 [(0, .ref (ad 0 0)), (1, .int (nI (w))), (2, .int (nI (r))), (3, .int (nI (f))), (4, .int (nI (j)))] := hl
  have hin3 : ∀ w ∈ wsX30, w ∈ wsX6_writeText := fun w h => List.mem_cons_of_mem _ (List.mem_append_left _ (List.mem_append_left _ (List.mem_append_left _ (List.mem_append_left _ (List.mem_append_right _ (h))))))
  have hin4 : ∀ w ∈ wsX40, w ∈ wsX6_writeText := fun w h => List.mem_cons_of_mem _ (List.mem_append_left _ (List.mem_append_left _ (List.mem_append_left _ (List.mem_append_right _ (h)))))
  have hin6 : ∀ w ∈ wsX60, w ∈ wsX6_writeText := fun w h => List.mem_cons_of_mem _ (List.mem_append_left _ (List.mem_append_left _ (List.mem_append_left _ (List.mem_append_left _ (List.mem_append_left _ (List.mem_append_right _ (h)))))))
  have hwr := HB.wr (show w < 6 by omega)
  refine lv_aload_n X.1 X.2.1 dX6_writeText_0 rfl (lv_at hl 0 rfl) ?_
  refine lv_aload_n X.1 X.2.1 dX6_writeText_1 rfl (lv_at hl 0 rfl) ?_
  refine lv_iload_n X.1 X.2.1 dX6_writeText_2 rfl (lv_at hl 1 rfl) ?_
  refine cVr X hW (HB.mem lv_0) (pC_6 (HB.kn lv_0 rfl)) rfl (cg_textWriterAt l HB (r := w) (by omega)) (cwV 1 X.2.2.2.2 gX6_writeText_X6_textWriterAt rfl rfl rfl (by decide +kernel) ⟨Nat.le_of_ble_eq_true rfl, Nat.le_of_ble_eq_true rfl⟩) rfl rfl hl.1 (Nat.le_of_ble_eq_true rfl) dX6_writeText_3 ⟨Nat.zero_le _, Nat.zero_le _⟩ (fun H locs hW => ?_)
  refine lv_iload_n X.1 X.2.1 dX6_writeText_6 rfl (lv_at hl 2 rfl) ?_
  refine lv_iload_n X.1 X.2.1 dX6_writeText_7 rfl (lv_at hl 3 rfl) ?_
  refine lv_iload X.1 X.2.1 dX6_writeText_8 (lv_at hl 4 rfl) ?_
  exact cXV Y X hW (HB.mem lv_0) (pC_6 (HB.kn lv_0 rfl)) rfl (cz_addPart_c l hst HB (w := w) (by omega) hr hf h) (cwV 4 X.2.2.2.2 gX6_writeText_X6_addPart rfl rfl rfl (by decide +kernel) ⟨Nat.le_of_ble_eq_true rfl, Nat.le_of_ble_eq_true rfl⟩) rfl rfl hl.1 (Nat.le_of_ble_eq_true rfl) dX6_writeText_10 ⟨Nat.le_of_ble_eq_true rfl, Nat.le_of_ble_eq_true rfl⟩

set_option maxHeartbeats 4000000 in
set_option maxRecDepth 100000 in
theorem cb_writeSigns_a (l : Launch) {G : va_G} {kT : Nat → ClassId} {L : List Nat} {K : Nat → Nat} {R : pR} {I : pI} {A : mD} {Q : pR} {N : Nat → Nat} (hst : l.stackTraces = false) {T : mT} {D : mD} {ad : pD} (HB : Rep T D ad L K R I A Q N) {x x1 x2 x3 : Int32} (h : oN x 3) : cMt l yX6_writeSigns wsX6_writeSigns ({ frames := 8, cells := 1, slots := 6, locals := 147 } : Room) G kT [.ref (ad 0 0), .int (x), .int (x1), .int (x2), .int (x3)] L K R I A Q N "java/lang/IndexOutOfBoundsException" := by
  refine cstt (cc := cX6_writeSigns) (maxL := 5) (ret := (some .int)) hst (by decide) rfl (Nat.le_of_ble_eq_true rfl) (fun p e s m args below meth c Z Y X hW ls hl => ?_)
  have X : CallFix p m c cX6_writeSigns 5 s args wsX6_writeSigns RX6 := X
  have hl : lv_has ls 5 [(0, .ref (ad 0 0)), (1, .int (x)), (2, .int (x1)), (3, .int (x2)), (4, .int (x3))] := hl
  have hin3 : ∀ w ∈ wsX30, w ∈ wsX6_writeSigns := fun w h => List.mem_cons_of_mem _ (List.mem_append_left _ (List.mem_append_left _ (List.mem_append_left _ (List.mem_append_left _ (List.mem_append_right _ (h))))))
  have hin4 : ∀ w ∈ wsX40, w ∈ wsX6_writeSigns := fun w h => List.mem_cons_of_mem _ (List.mem_append_left _ (List.mem_append_left _ (List.mem_append_left _ (List.mem_append_right _ (h)))))
  have hin6 : ∀ w ∈ wsX60, w ∈ wsX6_writeSigns := fun w h => List.mem_cons_of_mem _ (List.mem_append_left _ (List.mem_append_left _ (List.mem_append_left _ (List.mem_append_left _ (List.mem_append_left _ (List.mem_append_right _ (h)))))))
  refine lv_aload_n X.1 X.2.1 dX6_writeSigns_0 rfl (lv_at hl 0 rfl) ?_
  refine lv_aload_n X.1 X.2.1 dX6_writeSigns_1 rfl (lv_at hl 0 rfl) ?_
  refine lv_iload_n X.1 X.2.1 dX6_writeSigns_2 rfl (lv_at hl 1 rfl) ?_
  exact cXV Y X hW (HB.mem lv_0) (pC_6 (HB.kn lv_0 rfl)) rfl (cz_textWriterAt l hst HB h) (cwV 1 X.2.2.2.2 gX6_writeSigns_X6_textWriterAt rfl rfl rfl (by decide +kernel) ⟨Nat.le_of_ble_eq_true rfl, Nat.le_of_ble_eq_true rfl⟩) rfl rfl hl.1 (Nat.le_of_ble_eq_true rfl) dX6_writeSigns_3 ⟨Nat.le_of_ble_eq_true rfl, Nat.le_of_ble_eq_true rfl⟩

set_option maxHeartbeats 4000000 in
set_option maxRecDepth 100000 in
theorem cb_writeSigns_b (l : Launch) {G : va_G} {kT : Nat → ClassId} {L : List Nat} {K : Nat → Nat} {R : pR} {I : pI} {A : mD} {Q : pR} {N : Nat → Nat} (hst : l.stackTraces = false) {T : mT} {D : mD} {ad : pD} (HB : Rep T D ad L K R I A Q N) {w : Nat} {x x1 x2 : Int32} (hw : w < 3) (h : oN x 4) : cMt l yX6_writeSigns wsX6_writeSigns ({ frames := 8, cells := 1, slots := 6, locals := 147 } : Room) G kT [.ref (ad 0 0), .int (nI (w)), .int (x), .int (x1), .int (x2)] L K R I A Q N "java/lang/IndexOutOfBoundsException" := by
  refine cstt (cc := cX6_writeSigns) (maxL := 5) (ret := (some .int)) hst (by decide) rfl (Nat.le_of_ble_eq_true rfl) (fun p e s m args below meth c Z Y X hW ls hl => ?_)
  have X : CallFix p m c cX6_writeSigns 5 s args wsX6_writeSigns RX6 := X
  have hl : lv_has ls 5 [(0, .ref (ad 0 0)), (1, .int (nI (w))), (2, .int (x)), (3, .int (x1)), (4, .int (x2))] := hl
  have hin3 : ∀ w ∈ wsX30, w ∈ wsX6_writeSigns := fun w h => List.mem_cons_of_mem _ (List.mem_append_left _ (List.mem_append_left _ (List.mem_append_left _ (List.mem_append_left _ (List.mem_append_right _ (h))))))
  have hin4 : ∀ w ∈ wsX40, w ∈ wsX6_writeSigns := fun w h => List.mem_cons_of_mem _ (List.mem_append_left _ (List.mem_append_left _ (List.mem_append_left _ (List.mem_append_right _ (h)))))
  have hin6 : ∀ w ∈ wsX60, w ∈ wsX6_writeSigns := fun w h => List.mem_cons_of_mem _ (List.mem_append_left _ (List.mem_append_left _ (List.mem_append_left _ (List.mem_append_left _ (List.mem_append_left _ (List.mem_append_right _ (h)))))))
  have hwr := HB.wr (show w < 6 by omega)
  refine lv_aload_n X.1 X.2.1 dX6_writeSigns_0 rfl (lv_at hl 0 rfl) ?_
  refine lv_aload_n X.1 X.2.1 dX6_writeSigns_1 rfl (lv_at hl 0 rfl) ?_
  refine lv_iload_n X.1 X.2.1 dX6_writeSigns_2 rfl (lv_at hl 1 rfl) ?_
  refine cVr X hW (HB.mem lv_0) (pC_6 (HB.kn lv_0 rfl)) rfl (cg_textWriterAt l HB (r := w) (by omega)) (cwV 1 X.2.2.2.2 gX6_writeSigns_X6_textWriterAt rfl rfl rfl (by decide +kernel) ⟨Nat.le_of_ble_eq_true rfl, Nat.le_of_ble_eq_true rfl⟩) rfl rfl hl.1 (Nat.le_of_ble_eq_true rfl) dX6_writeSigns_3 ⟨Nat.zero_le _, Nat.zero_le _⟩ (fun H locs hW => ?_)
  refine lv_iload_n X.1 X.2.1 dX6_writeSigns_6 rfl (lv_at hl 2 rfl) ?_
  refine lv_iload_n X.1 X.2.1 dX6_writeSigns_7 rfl (lv_at hl 3 rfl) ?_
  refine lv_iload X.1 X.2.1 dX6_writeSigns_8 (lv_at hl 4 rfl) ?_
  exact cXV Y X hW (HB.mem lv_0) (pC_6 (HB.kn lv_0 rfl)) rfl (cz_addPart_a l hst HB (w := w) (by omega) h) (cwV 4 X.2.2.2.2 gX6_writeSigns_X6_addPart rfl rfl rfl (by decide +kernel) ⟨Nat.le_of_ble_eq_true rfl, Nat.le_of_ble_eq_true rfl⟩) rfl rfl hl.1 (Nat.le_of_ble_eq_true rfl) dX6_writeSigns_10 ⟨Nat.le_of_ble_eq_true rfl, Nat.le_of_ble_eq_true rfl⟩

set_option maxHeartbeats 4000000 in
set_option maxRecDepth 100000 in
theorem cb_writeSigns_c (l : Launch) {G : va_G} {kT : Nat → ClassId} {L : List Nat} {K : Nat → Nat} {R : pR} {I : pI} {A : mD} {Q : pR} {N : Nat → Nat} (hst : l.stackTraces = false) {T : mT} {D : mD} {ad : pD} (HB : Rep T D ad L K R I A Q N) {w r : Nat} {x x2 : Int32} (hw : w < 3) (hr : r < 4) (h : oP (T 1 (T 2 r)) x x2) : cMt l yX6_writeSigns wsX6_writeSigns ({ frames := 8, cells := 1, slots := 6, locals := 147 } : Room) G kT [.ref (ad 0 0), .int (nI (w)), .int (nI (r)), .int (x), .int (x2)] L K R I A Q N "java/lang/IndexOutOfBoundsException" := by
  refine cstt (cc := cX6_writeSigns) (maxL := 5) (ret := (some .int)) hst (by decide) rfl (Nat.le_of_ble_eq_true rfl) (fun p e s m args below meth c Z Y X hW ls hl => ?_)
  have X : CallFix p m c cX6_writeSigns 5 s args wsX6_writeSigns RX6 := X
  have hl : lv_has ls 5 [(0, .ref (ad 0 0)), (1, .int (nI (w))), (2, .int (nI (r))), (3, .int (x)), (4, .int (x2))] := hl
  have hin3 : ∀ w ∈ wsX30, w ∈ wsX6_writeSigns := fun w h => List.mem_cons_of_mem _ (List.mem_append_left _ (List.mem_append_left _ (List.mem_append_left _ (List.mem_append_left _ (List.mem_append_right _ (h))))))
  have hin4 : ∀ w ∈ wsX40, w ∈ wsX6_writeSigns := fun w h => List.mem_cons_of_mem _ (List.mem_append_left _ (List.mem_append_left _ (List.mem_append_left _ (List.mem_append_right _ (h)))))
  have hin6 : ∀ w ∈ wsX60, w ∈ wsX6_writeSigns := fun w h => List.mem_cons_of_mem _ (List.mem_append_left _ (List.mem_append_left _ (List.mem_append_left _ (List.mem_append_left _ (List.mem_append_left _ (List.mem_append_right _ (h)))))))
  have hwr := HB.wr (show w < 6 by omega)
  refine lv_aload_n X.1 X.2.1 dX6_writeSigns_0 rfl (lv_at hl 0 rfl) ?_
  refine lv_aload_n X.1 X.2.1 dX6_writeSigns_1 rfl (lv_at hl 0 rfl) ?_
  refine lv_iload_n X.1 X.2.1 dX6_writeSigns_2 rfl (lv_at hl 1 rfl) ?_
  refine cVr X hW (HB.mem lv_0) (pC_6 (HB.kn lv_0 rfl)) rfl (cg_textWriterAt l HB (r := w) (by omega)) (cwV 1 X.2.2.2.2 gX6_writeSigns_X6_textWriterAt rfl rfl rfl (by decide +kernel) ⟨Nat.le_of_ble_eq_true rfl, Nat.le_of_ble_eq_true rfl⟩) rfl rfl hl.1 (Nat.le_of_ble_eq_true rfl) dX6_writeSigns_3 ⟨Nat.zero_le _, Nat.zero_le _⟩ (fun H locs hW => ?_)
  refine lv_iload_n X.1 X.2.1 dX6_writeSigns_6 rfl (lv_at hl 2 rfl) ?_
  refine lv_iload_n X.1 X.2.1 dX6_writeSigns_7 rfl (lv_at hl 3 rfl) ?_
  refine lv_iload X.1 X.2.1 dX6_writeSigns_8 (lv_at hl 4 rfl) ?_
  exact cXV Y X hW (HB.mem lv_0) (pC_6 (HB.kn lv_0 rfl)) rfl (cz_addPart_b l hst HB (w := w) (by omega) hr h) (cwV 4 X.2.2.2.2 gX6_writeSigns_X6_addPart rfl rfl rfl (by decide +kernel) ⟨Nat.le_of_ble_eq_true rfl, Nat.le_of_ble_eq_true rfl⟩) rfl rfl hl.1 (Nat.le_of_ble_eq_true rfl) dX6_writeSigns_10 ⟨Nat.le_of_ble_eq_true rfl, Nat.le_of_ble_eq_true rfl⟩

set_option maxHeartbeats 4000000 in
set_option maxRecDepth 100000 in
theorem cb_writeSigns_d (l : Launch) {G : va_G} {kT : Nat → ClassId} {L : List Nat} {K : Nat → Nat} {R : pR} {I : pI} {A : mD} {Q : pR} {N : Nat → Nat} (hst : l.stackTraces = false) {T : mT} {D : mD} {ad : pD} (HB : Rep T D ad L K R I A Q N) {w r f j : Nat} (hw : w < 3) (hr : r < 4) (hf : f + j ≤ T 1 (T 2 r)) (h : 256 < T 7 w + j) : cMt l yX6_writeSigns wsX6_writeSigns ({ frames := 8, cells := 1, slots := 6, locals := 147 } : Room) G kT [.ref (ad 0 0), .int (nI (w)), .int (nI (r)), .int (nI (f)), .int (nI (j))] L K R I A Q N "java/lang/IllegalStateException" := by
  refine cstt (cc := cX6_writeSigns) (maxL := 5) (ret := (some .int)) hst (by decide) rfl (Nat.le_of_ble_eq_true rfl) (fun p e s m args below meth c Z Y X hW ls hl => ?_)
  have X : CallFix p m c cX6_writeSigns 5 s args wsX6_writeSigns RX6 := X
  have hl : lv_has ls 5 [(0, .ref (ad 0 0)), (1, .int (nI (w))), (2, .int (nI (r))), (3, .int (nI (f))), (4, .int (nI (j)))] := hl
  have hin3 : ∀ w ∈ wsX30, w ∈ wsX6_writeSigns := fun w h => List.mem_cons_of_mem _ (List.mem_append_left _ (List.mem_append_left _ (List.mem_append_left _ (List.mem_append_left _ (List.mem_append_right _ (h))))))
  have hin4 : ∀ w ∈ wsX40, w ∈ wsX6_writeSigns := fun w h => List.mem_cons_of_mem _ (List.mem_append_left _ (List.mem_append_left _ (List.mem_append_left _ (List.mem_append_right _ (h)))))
  have hin6 : ∀ w ∈ wsX60, w ∈ wsX6_writeSigns := fun w h => List.mem_cons_of_mem _ (List.mem_append_left _ (List.mem_append_left _ (List.mem_append_left _ (List.mem_append_left _ (List.mem_append_left _ (List.mem_append_right _ (h)))))))
  have hwr := HB.wr (show w < 6 by omega)
  refine lv_aload_n X.1 X.2.1 dX6_writeSigns_0 rfl (lv_at hl 0 rfl) ?_
  refine lv_aload_n X.1 X.2.1 dX6_writeSigns_1 rfl (lv_at hl 0 rfl) ?_
  refine lv_iload_n X.1 X.2.1 dX6_writeSigns_2 rfl (lv_at hl 1 rfl) ?_
  refine cVr X hW (HB.mem lv_0) (pC_6 (HB.kn lv_0 rfl)) rfl (cg_textWriterAt l HB (r := w) (by omega)) (cwV 1 X.2.2.2.2 gX6_writeSigns_X6_textWriterAt rfl rfl rfl (by decide +kernel) ⟨Nat.le_of_ble_eq_true rfl, Nat.le_of_ble_eq_true rfl⟩) rfl rfl hl.1 (Nat.le_of_ble_eq_true rfl) dX6_writeSigns_3 ⟨Nat.zero_le _, Nat.zero_le _⟩ (fun H locs hW => ?_)
  refine lv_iload_n X.1 X.2.1 dX6_writeSigns_6 rfl (lv_at hl 2 rfl) ?_
  refine lv_iload_n X.1 X.2.1 dX6_writeSigns_7 rfl (lv_at hl 3 rfl) ?_
  refine lv_iload X.1 X.2.1 dX6_writeSigns_8 (lv_at hl 4 rfl) ?_
  exact cXV Y X hW (HB.mem lv_0) (pC_6 (HB.kn lv_0 rfl)) rfl (cz_addPart_c l hst HB (w := w) (by omega) hr hf h) (cwV 4 X.2.2.2.2 gX6_writeSigns_X6_addPart rfl rfl rfl (by decide +kernel) ⟨Nat.le_of_ble_eq_true rfl, Nat.le_of_ble_eq_true rfl⟩) rfl rfl hl.1 (Nat.le_of_ble_eq_true rfl) dX6_writeSigns_10 ⟨Nat.le_of_ble_eq_true rfl, Nat.le_of_ble_eq_true rfl⟩

set_option maxHeartbeats 4000000 in
set_option maxRecDepth 100000 in
theorem cb_arrayText_a (l : Launch) {G : va_G} {kT : Nat → ClassId} {L : List Nat} {K : Nat → Nat} {R : pR} {I : pI} {A : mD} {Q : pR} {N : Nat → Nat} (hst : l.stackTraces = false) {T : mT} {D : mD} {ad : pD} (HB : Rep T D ad L K R I A Q N) {x x1 x2 x3 : Int32} (h : oN x 3) : cMt l yX6_arrayText wsX6_arrayText ({ frames := 8, cells := 1, slots := 6, locals := 147 } : Room) G kT [.ref (ad 0 0), .int (x), .int (x1), .int (x2), .int (x3)] L K R I A Q N "java/lang/IndexOutOfBoundsException" := by
  refine cstt (cc := cX6_arrayText) (maxL := 5) (ret := (some .int)) hst (by decide) rfl (Nat.le_of_ble_eq_true rfl) (fun p e s m args below meth c Z Y X hW ls hl => ?_)
  have X : CallFix p m c cX6_arrayText 5 s args wsX6_arrayText RX6 := X
  have hl : lv_has ls 5 [(0, .ref (ad 0 0)), (1, .int (x)), (2, .int (x1)), (3, .int (x2)), (4, .int (x3))] := hl
  have hin3 : ∀ w ∈ wsX30, w ∈ wsX6_arrayText := fun w h => List.mem_cons_of_mem _ (List.mem_append_left _ (List.mem_append_left _ (List.mem_append_left _ (List.mem_append_left _ (List.mem_append_right _ (h))))))
  have hin4 : ∀ w ∈ wsX40, w ∈ wsX6_arrayText := fun w h => List.mem_cons_of_mem _ (List.mem_append_left _ (List.mem_append_left _ (List.mem_append_left _ (List.mem_append_right _ (h)))))
  have hin6 : ∀ w ∈ wsX60, w ∈ wsX6_arrayText := fun w h => List.mem_cons_of_mem _ (List.mem_append_left _ (List.mem_append_left _ (List.mem_append_left _ (List.mem_append_left _ (List.mem_append_left _ (List.mem_append_right _ (h)))))))
  refine lv_aload_n X.1 X.2.1 dX6_arrayText_0 rfl (lv_at hl 0 rfl) ?_
  refine lv_aload_n X.1 X.2.1 dX6_arrayText_1 rfl (lv_at hl 0 rfl) ?_
  refine lv_iload_n X.1 X.2.1 dX6_arrayText_2 rfl (lv_at hl 1 rfl) ?_
  exact cXV Y X hW (HB.mem lv_0) (pC_6 (HB.kn lv_0 rfl)) rfl (cz_arrayWriterAt l hst HB h) (cwV 1 X.2.2.2.2 gX6_arrayText_X6_arrayWriterAt rfl rfl rfl (by decide +kernel) ⟨Nat.le_of_ble_eq_true rfl, Nat.le_of_ble_eq_true rfl⟩) rfl rfl hl.1 (Nat.le_of_ble_eq_true rfl) dX6_arrayText_3 ⟨Nat.le_of_ble_eq_true rfl, Nat.le_of_ble_eq_true rfl⟩

set_option maxHeartbeats 4000000 in
set_option maxRecDepth 100000 in
theorem cb_arrayText_b (l : Launch) {G : va_G} {kT : Nat → ClassId} {L : List Nat} {K : Nat → Nat} {R : pR} {I : pI} {A : mD} {Q : pR} {N : Nat → Nat} (hst : l.stackTraces = false) {T : mT} {D : mD} {ad : pD} (HB : Rep T D ad L K R I A Q N) {w : Nat} {x x1 x2 : Int32} (hw : w < 3) (h : oN x 4) : cMt l yX6_arrayText wsX6_arrayText ({ frames := 8, cells := 1, slots := 6, locals := 147 } : Room) G kT [.ref (ad 0 0), .int (nI (w)), .int (x), .int (x1), .int (x2)] L K R I A Q N "java/lang/IndexOutOfBoundsException" := by
  refine cstt (cc := cX6_arrayText) (maxL := 5) (ret := (some .int)) hst (by decide) rfl (Nat.le_of_ble_eq_true rfl) (fun p e s m args below meth c Z Y X hW ls hl => ?_)
  have X : CallFix p m c cX6_arrayText 5 s args wsX6_arrayText RX6 := X
  have hl : lv_has ls 5 [(0, .ref (ad 0 0)), (1, .int (nI (w))), (2, .int (x)), (3, .int (x1)), (4, .int (x2))] := hl
  have hin3 : ∀ w ∈ wsX30, w ∈ wsX6_arrayText := fun w h => List.mem_cons_of_mem _ (List.mem_append_left _ (List.mem_append_left _ (List.mem_append_left _ (List.mem_append_left _ (List.mem_append_right _ (h))))))
  have hin4 : ∀ w ∈ wsX40, w ∈ wsX6_arrayText := fun w h => List.mem_cons_of_mem _ (List.mem_append_left _ (List.mem_append_left _ (List.mem_append_left _ (List.mem_append_right _ (h)))))
  have hin6 : ∀ w ∈ wsX60, w ∈ wsX6_arrayText := fun w h => List.mem_cons_of_mem _ (List.mem_append_left _ (List.mem_append_left _ (List.mem_append_left _ (List.mem_append_left _ (List.mem_append_left _ (List.mem_append_right _ (h)))))))
  have hwr := HB.wr (show 3 + w < 6 by omega)
  refine lv_aload_n X.1 X.2.1 dX6_arrayText_0 rfl (lv_at hl 0 rfl) ?_
  refine lv_aload_n X.1 X.2.1 dX6_arrayText_1 rfl (lv_at hl 0 rfl) ?_
  refine lv_iload_n X.1 X.2.1 dX6_arrayText_2 rfl (lv_at hl 1 rfl) ?_
  refine cVr X hW (HB.mem lv_0) (pC_6 (HB.kn lv_0 rfl)) rfl (cg_arrayWriterAt l HB (r := w) (by omega)) (cwV 1 X.2.2.2.2 gX6_arrayText_X6_arrayWriterAt rfl rfl rfl (by decide +kernel) ⟨Nat.le_of_ble_eq_true rfl, Nat.le_of_ble_eq_true rfl⟩) rfl rfl hl.1 (Nat.le_of_ble_eq_true rfl) dX6_arrayText_3 ⟨Nat.zero_le _, Nat.zero_le _⟩ (fun H locs hW => ?_)
  refine lv_iload_n X.1 X.2.1 dX6_arrayText_6 rfl (lv_at hl 2 rfl) ?_
  refine lv_iload_n X.1 X.2.1 dX6_arrayText_7 rfl (lv_at hl 3 rfl) ?_
  refine lv_iload X.1 X.2.1 dX6_arrayText_8 (lv_at hl 4 rfl) ?_
  exact cXV Y X hW (HB.mem lv_0) (pC_6 (HB.kn lv_0 rfl)) rfl (cz_addPart_a l hst HB (w := 3 + w) (by omega) h) (cwV 4 X.2.2.2.2 gX6_arrayText_X6_addPart rfl rfl rfl (by decide +kernel) ⟨Nat.le_of_ble_eq_true rfl, Nat.le_of_ble_eq_true rfl⟩) rfl rfl hl.1 (Nat.le_of_ble_eq_true rfl) dX6_arrayText_10 ⟨Nat.le_of_ble_eq_true rfl, Nat.le_of_ble_eq_true rfl⟩

set_option maxHeartbeats 4000000 in
set_option maxRecDepth 100000 in
theorem cb_arrayText_c (l : Launch) {G : va_G} {kT : Nat → ClassId} {L : List Nat} {K : Nat → Nat} {R : pR} {I : pI} {A : mD} {Q : pR} {N : Nat → Nat} (hst : l.stackTraces = false) {T : mT} {D : mD} {ad : pD} (HB : Rep T D ad L K R I A Q N) {w r : Nat} {x x2 : Int32} (hw : w < 3) (hr : r < 4) (h : oP (T 1 (T 2 r)) x x2) : cMt l yX6_arrayText wsX6_arrayText ({ frames := 8, cells := 1, slots := 6, locals := 147 } : Room) G kT [.ref (ad 0 0), .int (nI (w)), .int (nI (r)), .int (x), .int (x2)] L K R I A Q N "java/lang/IndexOutOfBoundsException" := by
  refine cstt (cc := cX6_arrayText) (maxL := 5) (ret := (some .int)) hst (by decide) rfl (Nat.le_of_ble_eq_true rfl) (fun p e s m args below meth c Z Y X hW ls hl => ?_)
  have X : CallFix p m c cX6_arrayText 5 s args wsX6_arrayText RX6 := X
  have hl : lv_has ls 5 [(0, .ref (ad 0 0)), (1, .int (nI (w))), (2, .int (nI (r))), (3, .int (x)), (4, .int (x2))] := hl
  have hin3 : ∀ w ∈ wsX30, w ∈ wsX6_arrayText := fun w h => List.mem_cons_of_mem _ (List.mem_append_left _ (List.mem_append_left _ (List.mem_append_left _ (List.mem_append_left _ (List.mem_append_right _ (h))))))
  have hin4 : ∀ w ∈ wsX40, w ∈ wsX6_arrayText := fun w h => List.mem_cons_of_mem _ (List.mem_append_left _ (List.mem_append_left _ (List.mem_append_left _ (List.mem_append_right _ (h)))))
  have hin6 : ∀ w ∈ wsX60, w ∈ wsX6_arrayText := fun w h => List.mem_cons_of_mem _ (List.mem_append_left _ (List.mem_append_left _ (List.mem_append_left _ (List.mem_append_left _ (List.mem_append_left _ (List.mem_append_right _ (h)))))))
  have hwr := HB.wr (show 3 + w < 6 by omega)
  refine lv_aload_n X.1 X.2.1 dX6_arrayText_0 rfl (lv_at hl 0 rfl) ?_
  refine lv_aload_n X.1 X.2.1 dX6_arrayText_1 rfl (lv_at hl 0 rfl) ?_
  refine lv_iload_n X.1 X.2.1 dX6_arrayText_2 rfl (lv_at hl 1 rfl) ?_
  refine cVr X hW (HB.mem lv_0) (pC_6 (HB.kn lv_0 rfl)) rfl (cg_arrayWriterAt l HB (r := w) (by omega)) (cwV 1 X.2.2.2.2 gX6_arrayText_X6_arrayWriterAt rfl rfl rfl (by decide +kernel) ⟨Nat.le_of_ble_eq_true rfl, Nat.le_of_ble_eq_true rfl⟩) rfl rfl hl.1 (Nat.le_of_ble_eq_true rfl) dX6_arrayText_3 ⟨Nat.zero_le _, Nat.zero_le _⟩ (fun H locs hW => ?_)
  refine lv_iload_n X.1 X.2.1 dX6_arrayText_6 rfl (lv_at hl 2 rfl) ?_
  refine lv_iload_n X.1 X.2.1 dX6_arrayText_7 rfl (lv_at hl 3 rfl) ?_
  refine lv_iload X.1 X.2.1 dX6_arrayText_8 (lv_at hl 4 rfl) ?_
  exact cXV Y X hW (HB.mem lv_0) (pC_6 (HB.kn lv_0 rfl)) rfl (cz_addPart_b l hst HB (w := 3 + w) (by omega) hr h) (cwV 4 X.2.2.2.2 gX6_arrayText_X6_addPart rfl rfl rfl (by decide +kernel) ⟨Nat.le_of_ble_eq_true rfl, Nat.le_of_ble_eq_true rfl⟩) rfl rfl hl.1 (Nat.le_of_ble_eq_true rfl) dX6_arrayText_10 ⟨Nat.le_of_ble_eq_true rfl, Nat.le_of_ble_eq_true rfl⟩

set_option maxHeartbeats 4000000 in
set_option maxRecDepth 100000 in
theorem cb_arrayText_d (l : Launch) {G : va_G} {kT : Nat → ClassId} {L : List Nat} {K : Nat → Nat} {R : pR} {I : pI} {A : mD} {Q : pR} {N : Nat → Nat} (hst : l.stackTraces = false) {T : mT} {D : mD} {ad : pD} (HB : Rep T D ad L K R I A Q N) {w r f j : Nat} (hw : w < 3) (hr : r < 4) (hf : f + j ≤ T 1 (T 2 r)) (h : 256 < T 7 (3 + w) + j) : cMt l yX6_arrayText wsX6_arrayText ({ frames := 8, cells := 1, slots := 6, locals := 147 } : Room) G kT [.ref (ad 0 0), .int (nI (w)), .int (nI (r)), .int (nI (f)), .int (nI (j))] L K R I A Q N "java/lang/IllegalStateException" := by
  refine cstt (cc := cX6_arrayText) (maxL := 5) (ret := (some .int)) hst (by decide) rfl (Nat.le_of_ble_eq_true rfl) (fun p e s m args below meth c Z Y X hW ls hl => ?_)
  have X : CallFix p m c cX6_arrayText 5 s args wsX6_arrayText RX6 := X
  have hl : lv_has ls 5 [(0, .ref (ad 0 0)), (1, .int (nI (w))), (2, .int (nI (r))), (3, .int (nI (f))), (4, .int (nI (j)))] := hl
  have hin3 : ∀ w ∈ wsX30, w ∈ wsX6_arrayText := fun w h => List.mem_cons_of_mem _ (List.mem_append_left _ (List.mem_append_left _ (List.mem_append_left _ (List.mem_append_left _ (List.mem_append_right _ (h))))))
  have hin4 : ∀ w ∈ wsX40, w ∈ wsX6_arrayText := fun w h => List.mem_cons_of_mem _ (List.mem_append_left _ (List.mem_append_left _ (List.mem_append_left _ (List.mem_append_right _ (h)))))
  have hin6 : ∀ w ∈ wsX60, w ∈ wsX6_arrayText := fun w h => List.mem_cons_of_mem _ (List.mem_append_left _ (List.mem_append_left _ (List.mem_append_left _ (List.mem_append_left _ (List.mem_append_left _ (List.mem_append_right _ (h)))))))
  have hwr := HB.wr (show 3 + w < 6 by omega)
  refine lv_aload_n X.1 X.2.1 dX6_arrayText_0 rfl (lv_at hl 0 rfl) ?_
  refine lv_aload_n X.1 X.2.1 dX6_arrayText_1 rfl (lv_at hl 0 rfl) ?_
  refine lv_iload_n X.1 X.2.1 dX6_arrayText_2 rfl (lv_at hl 1 rfl) ?_
  refine cVr X hW (HB.mem lv_0) (pC_6 (HB.kn lv_0 rfl)) rfl (cg_arrayWriterAt l HB (r := w) (by omega)) (cwV 1 X.2.2.2.2 gX6_arrayText_X6_arrayWriterAt rfl rfl rfl (by decide +kernel) ⟨Nat.le_of_ble_eq_true rfl, Nat.le_of_ble_eq_true rfl⟩) rfl rfl hl.1 (Nat.le_of_ble_eq_true rfl) dX6_arrayText_3 ⟨Nat.zero_le _, Nat.zero_le _⟩ (fun H locs hW => ?_)
  refine lv_iload_n X.1 X.2.1 dX6_arrayText_6 rfl (lv_at hl 2 rfl) ?_
  refine lv_iload_n X.1 X.2.1 dX6_arrayText_7 rfl (lv_at hl 3 rfl) ?_
  refine lv_iload X.1 X.2.1 dX6_arrayText_8 (lv_at hl 4 rfl) ?_
  exact cXV Y X hW (HB.mem lv_0) (pC_6 (HB.kn lv_0 rfl)) rfl (cz_addPart_c l hst HB (w := 3 + w) (by omega) hr hf h) (cwV 4 X.2.2.2.2 gX6_arrayText_X6_addPart rfl rfl rfl (by decide +kernel) ⟨Nat.le_of_ble_eq_true rfl, Nat.le_of_ble_eq_true rfl⟩) rfl rfl hl.1 (Nat.le_of_ble_eq_true rfl) dX6_arrayText_10 ⟨Nat.le_of_ble_eq_true rfl, Nat.le_of_ble_eq_true rfl⟩

set_option maxHeartbeats 4000000 in
set_option maxRecDepth 100000 in
theorem cb_arraySigns_a (l : Launch) {G : va_G} {kT : Nat → ClassId} {L : List Nat} {K : Nat → Nat} {R : pR} {I : pI} {A : mD} {Q : pR} {N : Nat → Nat} (hst : l.stackTraces = false) {T : mT} {D : mD} {ad : pD} (HB : Rep T D ad L K R I A Q N) {x x1 x2 x3 : Int32} (h : oN x 3) : cMt l yX6_arraySigns wsX6_arraySigns ({ frames := 8, cells := 1, slots := 6, locals := 147 } : Room) G kT [.ref (ad 0 0), .int (x), .int (x1), .int (x2), .int (x3)] L K R I A Q N "java/lang/IndexOutOfBoundsException" := by
  refine cstt (cc := cX6_arraySigns) (maxL := 5) (ret := (some .int)) hst (by decide) rfl (Nat.le_of_ble_eq_true rfl) (fun p e s m args below meth c Z Y X hW ls hl => ?_)
  have X : CallFix p m c cX6_arraySigns 5 s args wsX6_arraySigns RX6 := X
  have hl : lv_has ls 5 [(0, .ref (ad 0 0)), (1, .int (x)), (2, .int (x1)), (3, .int (x2)), (4, .int (x3))] := hl
  have hin3 : ∀ w ∈ wsX30, w ∈ wsX6_arraySigns := fun w h => List.mem_cons_of_mem _ (List.mem_append_left _ (List.mem_append_left _ (List.mem_append_left _ (List.mem_append_left _ (List.mem_append_right _ (h))))))
  have hin4 : ∀ w ∈ wsX40, w ∈ wsX6_arraySigns := fun w h => List.mem_cons_of_mem _ (List.mem_append_left _ (List.mem_append_left _ (List.mem_append_left _ (List.mem_append_right _ (h)))))
  have hin6 : ∀ w ∈ wsX60, w ∈ wsX6_arraySigns := fun w h => List.mem_cons_of_mem _ (List.mem_append_left _ (List.mem_append_left _ (List.mem_append_left _ (List.mem_append_left _ (List.mem_append_left _ (List.mem_append_right _ (h)))))))
  refine lv_aload_n X.1 X.2.1 dX6_arraySigns_0 rfl (lv_at hl 0 rfl) ?_
  refine lv_aload_n X.1 X.2.1 dX6_arraySigns_1 rfl (lv_at hl 0 rfl) ?_
  refine lv_iload_n X.1 X.2.1 dX6_arraySigns_2 rfl (lv_at hl 1 rfl) ?_
  exact cXV Y X hW (HB.mem lv_0) (pC_6 (HB.kn lv_0 rfl)) rfl (cz_arrayWriterAt l hst HB h) (cwV 1 X.2.2.2.2 gX6_arraySigns_X6_arrayWriterAt rfl rfl rfl (by decide +kernel) ⟨Nat.le_of_ble_eq_true rfl, Nat.le_of_ble_eq_true rfl⟩) rfl rfl hl.1 (Nat.le_of_ble_eq_true rfl) dX6_arraySigns_3 ⟨Nat.le_of_ble_eq_true rfl, Nat.le_of_ble_eq_true rfl⟩

set_option maxHeartbeats 4000000 in
set_option maxRecDepth 100000 in
theorem cb_arraySigns_b (l : Launch) {G : va_G} {kT : Nat → ClassId} {L : List Nat} {K : Nat → Nat} {R : pR} {I : pI} {A : mD} {Q : pR} {N : Nat → Nat} (hst : l.stackTraces = false) {T : mT} {D : mD} {ad : pD} (HB : Rep T D ad L K R I A Q N) {w : Nat} {x x1 x2 : Int32} (hw : w < 3) (h : oN x 4) : cMt l yX6_arraySigns wsX6_arraySigns ({ frames := 8, cells := 1, slots := 6, locals := 147 } : Room) G kT [.ref (ad 0 0), .int (nI (w)), .int (x), .int (x1), .int (x2)] L K R I A Q N "java/lang/IndexOutOfBoundsException" := by
  refine cstt (cc := cX6_arraySigns) (maxL := 5) (ret := (some .int)) hst (by decide) rfl (Nat.le_of_ble_eq_true rfl) (fun p e s m args below meth c Z Y X hW ls hl => ?_)
  have X : CallFix p m c cX6_arraySigns 5 s args wsX6_arraySigns RX6 := X
  have hl : lv_has ls 5 [(0, .ref (ad 0 0)), (1, .int (nI (w))), (2, .int (x)), (3, .int (x1)), (4, .int (x2))] := hl
  have hin3 : ∀ w ∈ wsX30, w ∈ wsX6_arraySigns := fun w h => List.mem_cons_of_mem _ (List.mem_append_left _ (List.mem_append_left _ (List.mem_append_left _ (List.mem_append_left _ (List.mem_append_right _ (h))))))
  have hin4 : ∀ w ∈ wsX40, w ∈ wsX6_arraySigns := fun w h => List.mem_cons_of_mem _ (List.mem_append_left _ (List.mem_append_left _ (List.mem_append_left _ (List.mem_append_right _ (h)))))
  have hin6 : ∀ w ∈ wsX60, w ∈ wsX6_arraySigns := fun w h => List.mem_cons_of_mem _ (List.mem_append_left _ (List.mem_append_left _ (List.mem_append_left _ (List.mem_append_left _ (List.mem_append_left _ (List.mem_append_right _ (h)))))))
  have hwr := HB.wr (show 3 + w < 6 by omega)
  refine lv_aload_n X.1 X.2.1 dX6_arraySigns_0 rfl (lv_at hl 0 rfl) ?_
  refine lv_aload_n X.1 X.2.1 dX6_arraySigns_1 rfl (lv_at hl 0 rfl) ?_
  refine lv_iload_n X.1 X.2.1 dX6_arraySigns_2 rfl (lv_at hl 1 rfl) ?_
  refine cVr X hW (HB.mem lv_0) (pC_6 (HB.kn lv_0 rfl)) rfl (cg_arrayWriterAt l HB (r := w) (by omega)) (cwV 1 X.2.2.2.2 gX6_arraySigns_X6_arrayWriterAt rfl rfl rfl (by decide +kernel) ⟨Nat.le_of_ble_eq_true rfl, Nat.le_of_ble_eq_true rfl⟩) rfl rfl hl.1 (Nat.le_of_ble_eq_true rfl) dX6_arraySigns_3 ⟨Nat.zero_le _, Nat.zero_le _⟩ (fun H locs hW => ?_)
  refine lv_iload_n X.1 X.2.1 dX6_arraySigns_6 rfl (lv_at hl 2 rfl) ?_
  refine lv_iload_n X.1 X.2.1 dX6_arraySigns_7 rfl (lv_at hl 3 rfl) ?_
  refine lv_iload X.1 X.2.1 dX6_arraySigns_8 (lv_at hl 4 rfl) ?_
  exact cXV Y X hW (HB.mem lv_0) (pC_6 (HB.kn lv_0 rfl)) rfl (cz_addPart_a l hst HB (w := 3 + w) (by omega) h) (cwV 4 X.2.2.2.2 gX6_arraySigns_X6_addPart rfl rfl rfl (by decide +kernel) ⟨Nat.le_of_ble_eq_true rfl, Nat.le_of_ble_eq_true rfl⟩) rfl rfl hl.1 (Nat.le_of_ble_eq_true rfl) dX6_arraySigns_10 ⟨Nat.le_of_ble_eq_true rfl, Nat.le_of_ble_eq_true rfl⟩

set_option maxHeartbeats 4000000 in
set_option maxRecDepth 100000 in
theorem cb_arraySigns_c (l : Launch) {G : va_G} {kT : Nat → ClassId} {L : List Nat} {K : Nat → Nat} {R : pR} {I : pI} {A : mD} {Q : pR} {N : Nat → Nat} (hst : l.stackTraces = false) {T : mT} {D : mD} {ad : pD} (HB : Rep T D ad L K R I A Q N) {w r : Nat} {x x2 : Int32} (hw : w < 3) (hr : r < 4) (h : oP (T 1 (T 2 r)) x x2) : cMt l yX6_arraySigns wsX6_arraySigns ({ frames := 8, cells := 1, slots := 6, locals := 147 } : Room) G kT [.ref (ad 0 0), .int (nI (w)), .int (nI (r)), .int (x), .int (x2)] L K R I A Q N "java/lang/IndexOutOfBoundsException" := by
  refine cstt (cc := cX6_arraySigns) (maxL := 5) (ret := (some .int)) hst (by decide) rfl (Nat.le_of_ble_eq_true rfl) (fun p e s m args below meth c Z Y X hW ls hl => ?_)
  have X : CallFix p m c cX6_arraySigns 5 s args wsX6_arraySigns RX6 := X
  have hl : lv_has ls 5 [(0, .ref (ad 0 0)), (1, .int (nI (w))), (2, .int (nI (r))), (3, .int (x)), (4, .int (x2))] := hl
  have hin3 : ∀ w ∈ wsX30, w ∈ wsX6_arraySigns := fun w h => List.mem_cons_of_mem _ (List.mem_append_left _ (List.mem_append_left _ (List.mem_append_left _ (List.mem_append_left _ (List.mem_append_right _ (h))))))
  have hin4 : ∀ w ∈ wsX40, w ∈ wsX6_arraySigns := fun w h => List.mem_cons_of_mem _ (List.mem_append_left _ (List.mem_append_left _ (List.mem_append_left _ (List.mem_append_right _ (h)))))
  have hin6 : ∀ w ∈ wsX60, w ∈ wsX6_arraySigns := fun w h => List.mem_cons_of_mem _ (List.mem_append_left _ (List.mem_append_left _ (List.mem_append_left _ (List.mem_append_left _ (List.mem_append_left _ (List.mem_append_right _ (h)))))))
  have hwr := HB.wr (show 3 + w < 6 by omega)
  refine lv_aload_n X.1 X.2.1 dX6_arraySigns_0 rfl (lv_at hl 0 rfl) ?_
  refine lv_aload_n X.1 X.2.1 dX6_arraySigns_1 rfl (lv_at hl 0 rfl) ?_
  refine lv_iload_n X.1 X.2.1 dX6_arraySigns_2 rfl (lv_at hl 1 rfl) ?_
  refine cVr X hW (HB.mem lv_0) (pC_6 (HB.kn lv_0 rfl)) rfl (cg_arrayWriterAt l HB (r := w) (by omega)) (cwV 1 X.2.2.2.2 gX6_arraySigns_X6_arrayWriterAt rfl rfl rfl (by decide +kernel) ⟨Nat.le_of_ble_eq_true rfl, Nat.le_of_ble_eq_true rfl⟩) rfl rfl hl.1 (Nat.le_of_ble_eq_true rfl) dX6_arraySigns_3 ⟨Nat.zero_le _, Nat.zero_le _⟩ (fun H locs hW => ?_)
  refine lv_iload_n X.1 X.2.1 dX6_arraySigns_6 rfl (lv_at hl 2 rfl) ?_
  refine lv_iload_n X.1 X.2.1 dX6_arraySigns_7 rfl (lv_at hl 3 rfl) ?_
  refine lv_iload X.1 X.2.1 dX6_arraySigns_8 (lv_at hl 4 rfl) ?_
  exact cXV Y X hW (HB.mem lv_0) (pC_6 (HB.kn lv_0 rfl)) rfl (cz_addPart_b l hst HB (w := 3 + w) (by omega) hr h) (cwV 4 X.2.2.2.2 gX6_arraySigns_X6_addPart rfl rfl rfl (by decide +kernel) ⟨Nat.le_of_ble_eq_true rfl, Nat.le_of_ble_eq_true rfl⟩) rfl rfl hl.1 (Nat.le_of_ble_eq_true rfl) dX6_arraySigns_10 ⟨Nat.le_of_ble_eq_true rfl, Nat.le_of_ble_eq_true rfl⟩

set_option maxHeartbeats 4000000 in
set_option maxRecDepth 100000 in
theorem cb_arraySigns_d (l : Launch) {G : va_G} {kT : Nat → ClassId} {L : List Nat} {K : Nat → Nat} {R : pR} {I : pI} {A : mD} {Q : pR} {N : Nat → Nat} (hst : l.stackTraces = false) {T : mT} {D : mD} {ad : pD} (HB : Rep T D ad L K R I A Q N) {w r f j : Nat} (hw : w < 3) (hr : r < 4) (hf : f + j ≤ T 1 (T 2 r)) (h : 256 < T 7 (3 + w) + j) : cMt l yX6_arraySigns wsX6_arraySigns ({ frames := 8, cells := 1, slots := 6, locals := 147 } : Room) G kT [.ref (ad 0 0), .int (nI (w)), .int (nI (r)), .int (nI (f)), .int (nI (j))] L K R I A Q N "java/lang/IllegalStateException" := by
  refine cstt (cc := cX6_arraySigns) (maxL := 5) (ret := (some .int)) hst (by decide) rfl (Nat.le_of_ble_eq_true rfl) (fun p e s m args below meth c Z Y X hW ls hl => ?_)
  have X : CallFix p m c cX6_arraySigns 5 s args wsX6_arraySigns RX6 := X
  have hl : lv_has ls 5 [(0, .ref (ad 0 0)), (1, .int (nI (w))), (2, .int (nI (r))), (3, .int (nI (f))), (4, .int (nI (j)))] := hl
  have hin3 : ∀ w ∈ wsX30, w ∈ wsX6_arraySigns := fun w h => List.mem_cons_of_mem _ (List.mem_append_left _ (List.mem_append_left _ (List.mem_append_left _ (List.mem_append_left _ (List.mem_append_right _ (h))))))
  have hin4 : ∀ w ∈ wsX40, w ∈ wsX6_arraySigns := fun w h => List.mem_cons_of_mem _ (List.mem_append_left _ (List.mem_append_left _ (List.mem_append_left _ (List.mem_append_right _ (h)))))
  have hin6 : ∀ w ∈ wsX60, w ∈ wsX6_arraySigns := fun w h => List.mem_cons_of_mem _ (List.mem_append_left _ (List.mem_append_left _ (List.mem_append_left _ (List.mem_append_left _ (List.mem_append_left _ (List.mem_append_right _ (h)))))))
  have hwr := HB.wr (show 3 + w < 6 by omega)
  refine lv_aload_n X.1 X.2.1 dX6_arraySigns_0 rfl (lv_at hl 0 rfl) ?_
  refine lv_aload_n X.1 X.2.1 dX6_arraySigns_1 rfl (lv_at hl 0 rfl) ?_
  refine lv_iload_n X.1 X.2.1 dX6_arraySigns_2 rfl (lv_at hl 1 rfl) ?_
  refine cVr X hW (HB.mem lv_0) (pC_6 (HB.kn lv_0 rfl)) rfl (cg_arrayWriterAt l HB (r := w) (by omega)) (cwV 1 X.2.2.2.2 gX6_arraySigns_X6_arrayWriterAt rfl rfl rfl (by decide +kernel) ⟨Nat.le_of_ble_eq_true rfl, Nat.le_of_ble_eq_true rfl⟩) rfl rfl hl.1 (Nat.le_of_ble_eq_true rfl) dX6_arraySigns_3 ⟨Nat.zero_le _, Nat.zero_le _⟩ (fun H locs hW => ?_)
  refine lv_iload_n X.1 X.2.1 dX6_arraySigns_6 rfl (lv_at hl 2 rfl) ?_
  refine lv_iload_n X.1 X.2.1 dX6_arraySigns_7 rfl (lv_at hl 3 rfl) ?_
  refine lv_iload X.1 X.2.1 dX6_arraySigns_8 (lv_at hl 4 rfl) ?_
  exact cXV Y X hW (HB.mem lv_0) (pC_6 (HB.kn lv_0 rfl)) rfl (cz_addPart_c l hst HB (w := 3 + w) (by omega) hr hf h) (cwV 4 X.2.2.2.2 gX6_arraySigns_X6_addPart rfl rfl rfl (by decide +kernel) ⟨Nat.le_of_ble_eq_true rfl, Nat.le_of_ble_eq_true rfl⟩) rfl rfl hl.1 (Nat.le_of_ble_eq_true rfl) dX6_arraySigns_10 ⟨Nat.le_of_ble_eq_true rfl, Nat.le_of_ble_eq_true rfl⟩

set_option maxHeartbeats 4000000 in
set_option maxRecDepth 100000 in
theorem cb_begin_a (l : Launch) {G : va_G} {kT : Nat → ClassId} {L : List Nat} {K : Nat → Nat} {R : pR} {I : pI} {A : mD} {Q : pR} {N : Nat → Nat} (hst : l.stackTraces = false) {T : mT} {D : mD} {ad : pD} (HB : Rep T D ad L K R I A Q N) {x : Int32} (h : oN x 3) : cMt l yX6_begin wsX6_begin ({ frames := 7, cells := 1, slots := 6, locals := 121 } : Room) G kT [.ref (ad 0 0), .int (x)] L K R I A Q N "java/lang/IndexOutOfBoundsException" := by
  refine cstt (cc := cX6_begin) (maxL := 2) (ret := (some .int)) hst (by decide) rfl (Nat.le_of_ble_eq_true rfl) (fun p e s m args below meth c Z Y X hW ls hl => ?_)
  have X : CallFix p m c cX6_begin 2 s args wsX6_begin RX6 := X
  have hl : lv_has ls 2 [(0, .ref (ad 0 0)), (1, .int (x))] := hl
  have hin4 : ∀ w ∈ wsX40, w ∈ wsX6_begin := fun w h => List.mem_cons_of_mem _ (List.mem_append_left _ (List.mem_append_right _ (h)))
  have hin6 : ∀ w ∈ wsX60, w ∈ wsX6_begin := fun w h => List.mem_cons_of_mem _ (List.mem_append_left _ (List.mem_append_left _ (List.mem_append_right _ (h))))
  refine lv_aload_n X.1 X.2.1 dX6_begin_0 rfl (lv_at hl 0 rfl) ?_
  refine lv_iload_n X.1 X.2.1 dX6_begin_1 rfl (lv_at hl 1 rfl) ?_
  exact cXV Y X hW (HB.mem lv_0) (pC_6 (HB.kn lv_0 rfl)) rfl (cz_textWriterAt l hst HB h) (cwV 1 X.2.2.2.2 gX6_begin_X6_textWriterAt rfl rfl rfl (by decide +kernel) ⟨Nat.le_of_ble_eq_true rfl, Nat.le_of_ble_eq_true rfl⟩) rfl rfl hl.1 (Nat.le_of_ble_eq_true rfl) dX6_begin_2 ⟨Nat.le_of_ble_eq_true rfl, Nat.le_of_ble_eq_true rfl⟩

set_option maxHeartbeats 4000000 in
set_option maxRecDepth 100000 in
theorem cb_size_a (l : Launch) {G : va_G} {kT : Nat → ClassId} {L : List Nat} {K : Nat → Nat} {R : pR} {I : pI} {A : mD} {Q : pR} {N : Nat → Nat} (hst : l.stackTraces = false) {T : mT} {D : mD} {ad : pD} (HB : Rep T D ad L K R I A Q N) {x : Int32} (h : oN x 3) : cMt l yX6_size wsX6_size ({ frames := 7, cells := 1, slots := 6, locals := 121 } : Room) G kT [.ref (ad 0 0), .int (x)] L K R I A Q N "java/lang/IndexOutOfBoundsException" := by
  refine cstt (cc := cX6_size) (maxL := 2) (ret := (some .int)) hst (by decide) rfl (Nat.le_of_ble_eq_true rfl) (fun p e s m args below meth c Z Y X hW ls hl => ?_)
  have X : CallFix p m c cX6_size 2 s args wsX6_size RX6 := X
  have hl : lv_has ls 2 [(0, .ref (ad 0 0)), (1, .int (x))] := hl
  have hin4 : ∀ w ∈ wsX40, w ∈ wsX6_size := fun w h => List.mem_cons_of_mem _ (List.mem_append_left _ (List.mem_append_left _ (List.mem_append_right _ (h))))
  have hin6 : ∀ w ∈ wsX60, w ∈ wsX6_size := fun w h => List.mem_cons_of_mem _ (List.mem_append_left _ (List.mem_append_right _ (h)))
  refine lv_aload_n X.1 X.2.1 dX6_size_0 rfl (lv_at hl 0 rfl) ?_
  refine lv_iload_n X.1 X.2.1 dX6_size_1 rfl (lv_at hl 1 rfl) ?_
  exact cXV Y X hW (HB.mem lv_0) (pC_6 (HB.kn lv_0 rfl)) rfl (cz_textWriterAt l hst HB h) (cwV 1 X.2.2.2.2 gX6_size_X6_textWriterAt rfl rfl rfl (by decide +kernel) ⟨Nat.le_of_ble_eq_true rfl, Nat.le_of_ble_eq_true rfl⟩) rfl rfl hl.1 (Nat.le_of_ble_eq_true rfl) dX6_size_2 ⟨Nat.le_of_ble_eq_true rfl, Nat.le_of_ble_eq_true rfl⟩

set_option maxHeartbeats 4000000 in
set_option maxRecDepth 100000 in
theorem cb_empty_a (l : Launch) {G : va_G} {kT : Nat → ClassId} {L : List Nat} {K : Nat → Nat} {R : pR} {I : pI} {A : mD} {Q : pR} {N : Nat → Nat} (hst : l.stackTraces = false) {T : mT} {D : mD} {ad : pD} (HB : Rep T D ad L K R I A Q N) {x : Int32} (h : oN x 3) : cMt l yX6_empty wsX6_empty ({ frames := 7, cells := 1, slots := 6, locals := 121 } : Room) G kT [.ref (ad 0 0), .int (x)] L K R I A Q N "java/lang/IndexOutOfBoundsException" := by
  refine cstt (cc := cX6_empty) (maxL := 2) (ret := (some .int)) hst (by decide) rfl (Nat.le_of_ble_eq_true rfl) (fun p e s m args below meth c Z Y X hW ls hl => ?_)
  have X : CallFix p m c cX6_empty 2 s args wsX6_empty RX6 := X
  have hl : lv_has ls 2 [(0, .ref (ad 0 0)), (1, .int (x))] := hl
  have hin4 : ∀ w ∈ wsX40, w ∈ wsX6_empty := fun w h => List.mem_cons_of_mem _ (List.mem_append_left _ (List.mem_append_right _ (h)))
  have hin6 : ∀ w ∈ wsX60, w ∈ wsX6_empty := fun w h => List.mem_cons_of_mem _ (List.mem_append_left _ (List.mem_append_left _ (List.mem_append_right _ (h))))
  refine lv_aload_n X.1 X.2.1 dX6_empty_0 rfl (lv_at hl 0 rfl) ?_
  refine lv_iload_n X.1 X.2.1 dX6_empty_1 rfl (lv_at hl 1 rfl) ?_
  exact cXV Y X hW (HB.mem lv_0) (pC_6 (HB.kn lv_0 rfl)) rfl (cz_arrayWriterAt l hst HB h) (cwV 1 X.2.2.2.2 gX6_empty_X6_arrayWriterAt rfl rfl rfl (by decide +kernel) ⟨Nat.le_of_ble_eq_true rfl, Nat.le_of_ble_eq_true rfl⟩) rfl rfl hl.1 (Nat.le_of_ble_eq_true rfl) dX6_empty_2 ⟨Nat.le_of_ble_eq_true rfl, Nat.le_of_ble_eq_true rfl⟩

set_option maxHeartbeats 4000000 in
set_option maxRecDepth 100000 in
theorem cb_arraySize_a (l : Launch) {G : va_G} {kT : Nat → ClassId} {L : List Nat} {K : Nat → Nat} {R : pR} {I : pI} {A : mD} {Q : pR} {N : Nat → Nat} (hst : l.stackTraces = false) {T : mT} {D : mD} {ad : pD} (HB : Rep T D ad L K R I A Q N) {x : Int32} (h : oN x 3) : cMt l yX6_arraySize wsX6_arraySize ({ frames := 7, cells := 1, slots := 6, locals := 121 } : Room) G kT [.ref (ad 0 0), .int (x)] L K R I A Q N "java/lang/IndexOutOfBoundsException" := by
  refine cstt (cc := cX6_arraySize) (maxL := 2) (ret := (some .int)) hst (by decide) rfl (Nat.le_of_ble_eq_true rfl) (fun p e s m args below meth c Z Y X hW ls hl => ?_)
  have X : CallFix p m c cX6_arraySize 2 s args wsX6_arraySize RX6 := X
  have hl : lv_has ls 2 [(0, .ref (ad 0 0)), (1, .int (x))] := hl
  have hin4 : ∀ w ∈ wsX40, w ∈ wsX6_arraySize := fun w h => List.mem_cons_of_mem _ (List.mem_append_left _ (List.mem_append_left _ (List.mem_append_right _ (h))))
  have hin6 : ∀ w ∈ wsX60, w ∈ wsX6_arraySize := fun w h => List.mem_cons_of_mem _ (List.mem_append_left _ (List.mem_append_right _ (h)))
  refine lv_aload_n X.1 X.2.1 dX6_arraySize_0 rfl (lv_at hl 0 rfl) ?_
  refine lv_iload_n X.1 X.2.1 dX6_arraySize_1 rfl (lv_at hl 1 rfl) ?_
  exact cXV Y X hW (HB.mem lv_0) (pC_6 (HB.kn lv_0 rfl)) rfl (cz_arrayWriterAt l hst HB h) (cwV 1 X.2.2.2.2 gX6_arraySize_X6_arrayWriterAt rfl rfl rfl (by decide +kernel) ⟨Nat.le_of_ble_eq_true rfl, Nat.le_of_ble_eq_true rfl⟩) rfl rfl hl.1 (Nat.le_of_ble_eq_true rfl) dX6_arraySize_2 ⟨Nat.le_of_ble_eq_true rfl, Nat.le_of_ble_eq_true rfl⟩

set_option maxHeartbeats 4000000 in
set_option maxRecDepth 100000 in
theorem cb_take_a (l : Launch) {G : va_G} {kT : Nat → ClassId} {L : List Nat} {K : Nat → Nat} {R : pR} {I : pI} {A : mD} {Q : pR} {N : Nat → Nat} (hst : l.stackTraces = false) {T : mT} {D : mD} {ad : pD} (HB : Rep T D ad L K R I A Q N) {x x1 : Int32} (h : oN x 3) : cMt l yX6_take wsX6_take ({ frames := 8, cells := 1, slots := 6, locals := 144 } : Room) G kT [.ref (ad 0 0), .int (x), .int (x1)] L K R I A Q N "java/lang/IndexOutOfBoundsException" := by
  refine cstt (cc := cX6_take) (maxL := 3) (ret := (some .int)) hst (by decide) rfl (Nat.le_of_ble_eq_true rfl) (fun p e s m args below meth c Z Y X hW ls hl => ?_)
  have X : CallFix p m c cX6_take 3 s args wsX6_take RX6 := X
  have hl : lv_has ls 3 [(0, .ref (ad 0 0)), (1, .int (x)), (2, .int (x1))] := hl
  have hin3 : ∀ w ∈ wsX30, w ∈ wsX6_take := fun w h => List.mem_cons_of_mem _ (List.mem_append_left _ (List.mem_append_left _ (List.mem_append_left _ (List.mem_append_right _ (h)))))
  have hin4 : ∀ w ∈ wsX40, w ∈ wsX6_take := fun w h => List.mem_cons_of_mem _ (List.mem_append_left _ (List.mem_append_left _ (List.mem_append_right _ (h))))
  have hin6 : ∀ w ∈ wsX60, w ∈ wsX6_take := fun w h => List.mem_cons_of_mem _ (List.mem_append_left _ (List.mem_append_left _ (List.mem_append_left _ (List.mem_append_left _ (List.mem_append_right _ (h))))))
  refine lv_aload_n X.1 X.2.1 dX6_take_0 rfl (lv_at hl 0 rfl) ?_
  refine lv_aload_n X.1 X.2.1 dX6_take_1 rfl (lv_at hl 0 rfl) ?_
  refine lv_iload_n X.1 X.2.1 dX6_take_2 rfl (lv_at hl 1 rfl) ?_
  exact cXV Y X hW (HB.mem lv_0) (pC_6 (HB.kn lv_0 rfl)) rfl (cz_textWriterAt l hst HB h) (cwV 1 X.2.2.2.2 gX6_take_X6_textWriterAt rfl rfl rfl (by decide +kernel) ⟨Nat.le_of_ble_eq_true rfl, Nat.le_of_ble_eq_true rfl⟩) rfl rfl hl.1 (Nat.le_of_ble_eq_true rfl) dX6_take_3 ⟨Nat.le_of_ble_eq_true rfl, Nat.le_of_ble_eq_true rfl⟩

set_option maxHeartbeats 4000000 in
set_option maxRecDepth 100000 in
theorem cb_take_b (l : Launch) {G : va_G} {kT : Nat → ClassId} {L : List Nat} {K : Nat → Nat} {R : pR} {I : pI} {A : mD} {Q : pR} {N : Nat → Nat} (hst : l.stackTraces = false) {T : mT} {D : mD} {ad : pD} (HB : Rep T D ad L K R I A Q N) {w : Nat} {x : Int32} (hw : w < 3) (h : oN x 4) : cMt l yX6_take wsX6_take ({ frames := 8, cells := 1, slots := 6, locals := 144 } : Room) G kT [.ref (ad 0 0), .int (nI (w)), .int (x)] L K R I A Q N "java/lang/IndexOutOfBoundsException" := by
  refine cstt (cc := cX6_take) (maxL := 3) (ret := (some .int)) hst (by decide) rfl (Nat.le_of_ble_eq_true rfl) (fun p e s m args below meth c Z Y X hW ls hl => ?_)
  have X : CallFix p m c cX6_take 3 s args wsX6_take RX6 := X
  have hl : lv_has ls 3 [(0, .ref (ad 0 0)), (1, .int (nI (w))), (2, .int (x))] := hl
  have hin3 : ∀ w ∈ wsX30, w ∈ wsX6_take := fun w h => List.mem_cons_of_mem _ (List.mem_append_left _ (List.mem_append_left _ (List.mem_append_left _ (List.mem_append_right _ (h)))))
  have hin4 : ∀ w ∈ wsX40, w ∈ wsX6_take := fun w h => List.mem_cons_of_mem _ (List.mem_append_left _ (List.mem_append_left _ (List.mem_append_right _ (h))))
  have hin6 : ∀ w ∈ wsX60, w ∈ wsX6_take := fun w h => List.mem_cons_of_mem _ (List.mem_append_left _ (List.mem_append_left _ (List.mem_append_left _ (List.mem_append_left _ (List.mem_append_right _ (h))))))
  have hwr := HB.wr (show w < 6 by omega)
  refine lv_aload_n X.1 X.2.1 dX6_take_0 rfl (lv_at hl 0 rfl) ?_
  refine lv_aload_n X.1 X.2.1 dX6_take_1 rfl (lv_at hl 0 rfl) ?_
  refine lv_iload_n X.1 X.2.1 dX6_take_2 rfl (lv_at hl 1 rfl) ?_
  refine cVr X hW (HB.mem lv_0) (pC_6 (HB.kn lv_0 rfl)) rfl (cg_textWriterAt l HB (r := w) (by omega)) (cwV 1 X.2.2.2.2 gX6_take_X6_textWriterAt rfl rfl rfl (by decide +kernel) ⟨Nat.le_of_ble_eq_true rfl, Nat.le_of_ble_eq_true rfl⟩) rfl rfl hl.1 (Nat.le_of_ble_eq_true rfl) dX6_take_3 ⟨Nat.zero_le _, Nat.zero_le _⟩ (fun H locs hW => ?_)
  refine lv_iload_n X.1 X.2.1 dX6_take_6 rfl (lv_at hl 2 rfl) ?_
  exact cXV Y X hW (HB.mem lv_0) (pC_6 (HB.kn lv_0 rfl)) rfl (cz_takeInto l hst HB (w := w) (by omega) h) (cwV 2 X.2.2.2.2 gX6_take_X6_takeInto rfl rfl rfl (by decide +kernel) ⟨Nat.le_of_ble_eq_true rfl, Nat.le_of_ble_eq_true rfl⟩) rfl rfl hl.1 (Nat.le_of_ble_eq_true rfl) dX6_take_7 ⟨Nat.le_of_ble_eq_true rfl, Nat.le_of_ble_eq_true rfl⟩

set_option maxHeartbeats 4000000 in
set_option maxRecDepth 100000 in
theorem cb_arrayTake_a (l : Launch) {G : va_G} {kT : Nat → ClassId} {L : List Nat} {K : Nat → Nat} {R : pR} {I : pI} {A : mD} {Q : pR} {N : Nat → Nat} (hst : l.stackTraces = false) {T : mT} {D : mD} {ad : pD} (HB : Rep T D ad L K R I A Q N) {x x1 : Int32} (h : oN x 3) : cMt l yX6_arrayTake wsX6_arrayTake ({ frames := 8, cells := 1, slots := 6, locals := 144 } : Room) G kT [.ref (ad 0 0), .int (x), .int (x1)] L K R I A Q N "java/lang/IndexOutOfBoundsException" := by
  refine cstt (cc := cX6_arrayTake) (maxL := 3) (ret := (some .int)) hst (by decide) rfl (Nat.le_of_ble_eq_true rfl) (fun p e s m args below meth c Z Y X hW ls hl => ?_)
  have X : CallFix p m c cX6_arrayTake 3 s args wsX6_arrayTake RX6 := X
  have hl : lv_has ls 3 [(0, .ref (ad 0 0)), (1, .int (x)), (2, .int (x1))] := hl
  have hin3 : ∀ w ∈ wsX30, w ∈ wsX6_arrayTake := fun w h => List.mem_cons_of_mem _ (List.mem_append_left _ (List.mem_append_left _ (List.mem_append_left _ (List.mem_append_right _ (h)))))
  have hin4 : ∀ w ∈ wsX40, w ∈ wsX6_arrayTake := fun w h => List.mem_cons_of_mem _ (List.mem_append_left _ (List.mem_append_left _ (List.mem_append_right _ (h))))
  have hin6 : ∀ w ∈ wsX60, w ∈ wsX6_arrayTake := fun w h => List.mem_cons_of_mem _ (List.mem_append_left _ (List.mem_append_left _ (List.mem_append_left _ (List.mem_append_left _ (List.mem_append_right _ (h))))))
  refine lv_aload_n X.1 X.2.1 dX6_arrayTake_0 rfl (lv_at hl 0 rfl) ?_
  refine lv_aload_n X.1 X.2.1 dX6_arrayTake_1 rfl (lv_at hl 0 rfl) ?_
  refine lv_iload_n X.1 X.2.1 dX6_arrayTake_2 rfl (lv_at hl 1 rfl) ?_
  exact cXV Y X hW (HB.mem lv_0) (pC_6 (HB.kn lv_0 rfl)) rfl (cz_arrayWriterAt l hst HB h) (cwV 1 X.2.2.2.2 gX6_arrayTake_X6_arrayWriterAt rfl rfl rfl (by decide +kernel) ⟨Nat.le_of_ble_eq_true rfl, Nat.le_of_ble_eq_true rfl⟩) rfl rfl hl.1 (Nat.le_of_ble_eq_true rfl) dX6_arrayTake_3 ⟨Nat.le_of_ble_eq_true rfl, Nat.le_of_ble_eq_true rfl⟩

set_option maxHeartbeats 4000000 in
set_option maxRecDepth 100000 in
theorem cb_arrayTake_b (l : Launch) {G : va_G} {kT : Nat → ClassId} {L : List Nat} {K : Nat → Nat} {R : pR} {I : pI} {A : mD} {Q : pR} {N : Nat → Nat} (hst : l.stackTraces = false) {T : mT} {D : mD} {ad : pD} (HB : Rep T D ad L K R I A Q N) {w : Nat} {x : Int32} (hw : w < 3) (h : oN x 4) : cMt l yX6_arrayTake wsX6_arrayTake ({ frames := 8, cells := 1, slots := 6, locals := 144 } : Room) G kT [.ref (ad 0 0), .int (nI (w)), .int (x)] L K R I A Q N "java/lang/IndexOutOfBoundsException" := by
  refine cstt (cc := cX6_arrayTake) (maxL := 3) (ret := (some .int)) hst (by decide) rfl (Nat.le_of_ble_eq_true rfl) (fun p e s m args below meth c Z Y X hW ls hl => ?_)
  have X : CallFix p m c cX6_arrayTake 3 s args wsX6_arrayTake RX6 := X
  have hl : lv_has ls 3 [(0, .ref (ad 0 0)), (1, .int (nI (w))), (2, .int (x))] := hl
  have hin3 : ∀ w ∈ wsX30, w ∈ wsX6_arrayTake := fun w h => List.mem_cons_of_mem _ (List.mem_append_left _ (List.mem_append_left _ (List.mem_append_left _ (List.mem_append_right _ (h)))))
  have hin4 : ∀ w ∈ wsX40, w ∈ wsX6_arrayTake := fun w h => List.mem_cons_of_mem _ (List.mem_append_left _ (List.mem_append_left _ (List.mem_append_right _ (h))))
  have hin6 : ∀ w ∈ wsX60, w ∈ wsX6_arrayTake := fun w h => List.mem_cons_of_mem _ (List.mem_append_left _ (List.mem_append_left _ (List.mem_append_left _ (List.mem_append_left _ (List.mem_append_right _ (h))))))
  have hwr := HB.wr (show 3 + w < 6 by omega)
  refine lv_aload_n X.1 X.2.1 dX6_arrayTake_0 rfl (lv_at hl 0 rfl) ?_
  refine lv_aload_n X.1 X.2.1 dX6_arrayTake_1 rfl (lv_at hl 0 rfl) ?_
  refine lv_iload_n X.1 X.2.1 dX6_arrayTake_2 rfl (lv_at hl 1 rfl) ?_
  refine cVr X hW (HB.mem lv_0) (pC_6 (HB.kn lv_0 rfl)) rfl (cg_arrayWriterAt l HB (r := w) (by omega)) (cwV 1 X.2.2.2.2 gX6_arrayTake_X6_arrayWriterAt rfl rfl rfl (by decide +kernel) ⟨Nat.le_of_ble_eq_true rfl, Nat.le_of_ble_eq_true rfl⟩) rfl rfl hl.1 (Nat.le_of_ble_eq_true rfl) dX6_arrayTake_3 ⟨Nat.zero_le _, Nat.zero_le _⟩ (fun H locs hW => ?_)
  refine lv_iload_n X.1 X.2.1 dX6_arrayTake_6 rfl (lv_at hl 2 rfl) ?_
  exact cXV Y X hW (HB.mem lv_0) (pC_6 (HB.kn lv_0 rfl)) rfl (cz_takeInto l hst HB (w := 3 + w) (by omega) h) (cwV 2 X.2.2.2.2 gX6_arrayTake_X6_takeInto rfl rfl rfl (by decide +kernel) ⟨Nat.le_of_ble_eq_true rfl, Nat.le_of_ble_eq_true rfl⟩) rfl rfl hl.1 (Nat.le_of_ble_eq_true rfl) dX6_arrayTake_7 ⟨Nat.le_of_ble_eq_true rfl, Nat.le_of_ble_eq_true rfl⟩

set_option maxHeartbeats 4000000 in
set_option maxRecDepth 100000 in
theorem cb_pour_a (l : Launch) {G : va_G} {kT : Nat → ClassId} {L : List Nat} {K : Nat → Nat} {R : pR} {I : pI} {A : mD} {Q : pR} {N : Nat → Nat} (hst : l.stackTraces = false) {T : mT} {D : mD} {ad : pD} (HB : Rep T D ad L K R I A Q N) {x x1 : Int32} (h : oN x 3) : cMt l yX6_pour wsX6_pour ({ frames := 8, cells := 1, slots := 6, locals := 142 } : Room) G kT [.ref (ad 0 0), .int (x), .int (x1)] L K R I A Q N "java/lang/IndexOutOfBoundsException" := by
  refine cstt (cc := cX6_pour) (maxL := 3) (ret := (some .int)) hst (by decide) rfl (Nat.le_of_ble_eq_true rfl) (fun p e s m args below meth c Z Y X hW ls hl => ?_)
  have X : CallFix p m c cX6_pour 3 s args wsX6_pour RX6 := X
  have hl : lv_has ls 3 [(0, .ref (ad 0 0)), (1, .int (x)), (2, .int (x1))] := hl
  have hin4 : ∀ w ∈ wsX40, w ∈ wsX6_pour := fun w h => List.mem_cons_of_mem _ (List.mem_append_left _ (List.mem_append_left _ (List.mem_append_left _ (List.mem_append_right _ (h)))))
  have hin6 : ∀ w ∈ wsX60, w ∈ wsX6_pour := fun w h => List.mem_cons_of_mem _ (List.mem_append_left _ (List.mem_append_left _ (List.mem_append_left _ (List.mem_append_left _ (List.mem_append_right _ (h))))))
  refine lv_aload_n X.1 X.2.1 dX6_pour_0 rfl (lv_at hl 0 rfl) ?_
  refine lv_iload_n X.1 X.2.1 dX6_pour_1 rfl (lv_at hl 1 rfl) ?_
  exact cXV Y X hW (HB.mem lv_0) (pC_6 (HB.kn lv_0 rfl)) rfl (cz_arrayWriterAt l hst HB h) (cwV 1 X.2.2.2.2 gX6_pour_X6_arrayWriterAt rfl rfl rfl (by decide +kernel) ⟨Nat.le_of_ble_eq_true rfl, Nat.le_of_ble_eq_true rfl⟩) rfl rfl hl.1 (Nat.le_of_ble_eq_true rfl) dX6_pour_2 ⟨Nat.le_of_ble_eq_true rfl, Nat.le_of_ble_eq_true rfl⟩

set_option maxHeartbeats 4000000 in
set_option maxRecDepth 100000 in
theorem cb_pour_b (l : Launch) {G : va_G} {kT : Nat → ClassId} {L : List Nat} {K : Nat → Nat} {R : pR} {I : pI} {A : mD} {Q : pR} {N : Nat → Nat} (hst : l.stackTraces = false) {T : mT} {D : mD} {ad : pD} (HB : Rep T D ad L K R I A Q N) {w : Nat} {x : Int32} (hw : w < 3) (h : oN x 3) : cMt l yX6_pour wsX6_pour ({ frames := 8, cells := 1, slots := 6, locals := 142 } : Room) G kT [.ref (ad 0 0), .int (nI (w)), .int (x)] L K R I A Q N "java/lang/IndexOutOfBoundsException" := by
  refine cstt (cc := cX6_pour) (maxL := 3) (ret := (some .int)) hst (by decide) rfl (Nat.le_of_ble_eq_true rfl) (fun p e s m args below meth c Z Y X hW ls hl => ?_)
  have X : CallFix p m c cX6_pour 3 s args wsX6_pour RX6 := X
  have hl : lv_has ls 3 [(0, .ref (ad 0 0)), (1, .int (nI (w))), (2, .int (x))] := hl
  have hin4 : ∀ w ∈ wsX40, w ∈ wsX6_pour := fun w h => List.mem_cons_of_mem _ (List.mem_append_left _ (List.mem_append_left _ (List.mem_append_left _ (List.mem_append_right _ (h)))))
  have hin6 : ∀ w ∈ wsX60, w ∈ wsX6_pour := fun w h => List.mem_cons_of_mem _ (List.mem_append_left _ (List.mem_append_left _ (List.mem_append_left _ (List.mem_append_left _ (List.mem_append_right _ (h))))))
  refine lv_aload_n X.1 X.2.1 dX6_pour_0 rfl (lv_at hl 0 rfl) ?_
  refine lv_iload_n X.1 X.2.1 dX6_pour_1 rfl (lv_at hl 1 rfl) ?_
  refine cVr X hW (HB.mem lv_0) (pC_6 (HB.kn lv_0 rfl)) rfl (cg_arrayWriterAt l HB (r := w) (by omega)) (cwV 1 X.2.2.2.2 gX6_pour_X6_arrayWriterAt rfl rfl rfl (by decide +kernel) ⟨Nat.le_of_ble_eq_true rfl, Nat.le_of_ble_eq_true rfl⟩) rfl rfl hl.1 (Nat.le_of_ble_eq_true rfl) dX6_pour_2 ⟨Nat.zero_le _, Nat.zero_le _⟩ (fun H locs hW => ?_)
  refine lv_aload_n X.1 X.2.1 dX6_pour_5 rfl (lv_at hl 0 rfl) ?_
  refine lv_iload_n X.1 X.2.1 dX6_pour_6 rfl (lv_at hl 2 rfl) ?_
  exact cXV Y X hW (HB.mem lv_0) (pC_6 (HB.kn lv_0 rfl)) rfl (cz_textWriterAt l hst HB h) (cwV 1 X.2.2.2.2 gX6_pour_X6_textWriterAt rfl rfl rfl (by decide +kernel) ⟨Nat.le_of_ble_eq_true rfl, Nat.le_of_ble_eq_true rfl⟩) rfl rfl hl.1 (Nat.le_of_ble_eq_true rfl) dX6_pour_7 ⟨Nat.le_of_ble_eq_true rfl, Nat.le_of_ble_eq_true rfl⟩

set_option maxHeartbeats 4000000 in
set_option maxRecDepth 100000 in
theorem cb_pour_c (l : Launch) {G : va_G} {kT : Nat → ClassId} {L : List Nat} {K : Nat → Nat} {R : pR} {I : pI} {A : mD} {Q : pR} {N : Nat → Nat} (hst : l.stackTraces = false) {T : mT} {D : mD} {ad : pD} (HB : Rep T D ad L K R I A Q N) {w v : Nat} (hw : w < 3) (hv : v < 3) (h : 256 < T 7 v + T 7 (3 + w)) : cMt l yX6_pour wsX6_pour ({ frames := 8, cells := 1, slots := 6, locals := 142 } : Room) G kT [.ref (ad 0 0), .int (nI (w)), .int (nI (v))] L K R I A Q N "java/lang/IllegalStateException" := by
  refine cstt (cc := cX6_pour) (maxL := 3) (ret := (some .int)) hst (by decide) rfl (Nat.le_of_ble_eq_true rfl) (fun p e s m args below meth c Z Y X hW ls hl => ?_)
  have X : CallFix p m c cX6_pour 3 s args wsX6_pour RX6 := X
  have hl : lv_has ls 3 [(0, .ref (ad 0 0)), (1, .int (nI (w))), (2, .int (nI (v)))] := hl
  have hin4 : ∀ w ∈ wsX40, w ∈ wsX6_pour := fun w h => List.mem_cons_of_mem _ (List.mem_append_left _ (List.mem_append_left _ (List.mem_append_left _ (List.mem_append_right _ (h)))))
  have hin6 : ∀ w ∈ wsX60, w ∈ wsX6_pour := fun w h => List.mem_cons_of_mem _ (List.mem_append_left _ (List.mem_append_left _ (List.mem_append_left _ (List.mem_append_left _ (List.mem_append_right _ (h))))))
  refine lv_aload_n X.1 X.2.1 dX6_pour_0 rfl (lv_at hl 0 rfl) ?_
  refine lv_iload_n X.1 X.2.1 dX6_pour_1 rfl (lv_at hl 1 rfl) ?_
  refine cVr X hW (HB.mem lv_0) (pC_6 (HB.kn lv_0 rfl)) rfl (cg_arrayWriterAt l HB (r := w) (by omega)) (cwV 1 X.2.2.2.2 gX6_pour_X6_arrayWriterAt rfl rfl rfl (by decide +kernel) ⟨Nat.le_of_ble_eq_true rfl, Nat.le_of_ble_eq_true rfl⟩) rfl rfl hl.1 (Nat.le_of_ble_eq_true rfl) dX6_pour_2 ⟨Nat.zero_le _, Nat.zero_le _⟩ (fun H locs hW => ?_)
  refine lv_aload_n X.1 X.2.1 dX6_pour_5 rfl (lv_at hl 0 rfl) ?_
  refine lv_iload_n X.1 X.2.1 dX6_pour_6 rfl (lv_at hl 2 rfl) ?_
  refine cVr X hW (HB.mem lv_0) (pC_6 (HB.kn lv_0 rfl)) rfl (cg_textWriterAt l HB (r := v) (by omega)) (cwV 1 X.2.2.2.2 gX6_pour_X6_textWriterAt rfl rfl rfl (by decide +kernel) ⟨Nat.le_of_ble_eq_true rfl, Nat.le_of_ble_eq_true rfl⟩) rfl rfl hl.1 (Nat.le_of_ble_eq_true rfl) dX6_pour_7 ⟨Nat.zero_le _, Nat.zero_le _⟩ (fun H locs hW => ?_)
  exact cXS Y X hW (cz_pourInto l hst HB (v := 3 + w) (w := v) (by omega) (by omega) h) (va_cwS 2 X.2.2.2.2 gX6_pour_X6_pourInto rfl rfl rfl (by decide +kernel) ⟨Nat.le_of_ble_eq_true rfl, Nat.le_of_ble_eq_true rfl⟩) rfl rfl hl.1 (Nat.le_of_ble_eq_true rfl) dX6_pour_10 ⟨Nat.le_of_ble_eq_true rfl, Nat.le_of_ble_eq_true rfl⟩

set_option maxHeartbeats 4000000 in
set_option maxRecDepth 100000 in
theorem cb_pourOver_a (l : Launch) {G : va_G} {kT : Nat → ClassId} {L : List Nat} {K : Nat → Nat} {R : pR} {I : pI} {A : mD} {Q : pR} {N : Nat → Nat} (hst : l.stackTraces = false) {T : mT} {D : mD} {ad : pD} (HB : Rep T D ad L K R I A Q N) {x x1 : Int32} (h : oN x 3) : cMt l yX6_pourOver wsX6_pourOver ({ frames := 8, cells := 1, slots := 6, locals := 142 } : Room) G kT [.ref (ad 0 0), .int (x), .int (x1)] L K R I A Q N "java/lang/IndexOutOfBoundsException" := by
  refine cstt (cc := cX6_pourOver) (maxL := 5) (ret := (some .int)) hst (by decide) rfl (Nat.le_of_ble_eq_true rfl) (fun p e s m args below meth c Z Y X hW ls hl => ?_)
  have X : CallFix p m c cX6_pourOver 5 s args wsX6_pourOver RX6 := X
  have hl : lv_has ls 5 [(0, .ref (ad 0 0)), (1, .int (x)), (2, .int (x1))] := hl
  have hin4 : ∀ w ∈ wsX40, w ∈ wsX6_pourOver := fun w h => List.mem_cons_of_mem _ (List.mem_append_left _ (List.mem_append_left _ (List.mem_append_left _ (List.mem_append_left _ (List.mem_append_right _ (h))))))
  have hin6 : ∀ w ∈ wsX60, w ∈ wsX6_pourOver := fun w h => List.mem_cons_of_mem _ (List.mem_append_left _ (List.mem_append_left _ (List.mem_append_left _ (List.mem_append_left _ (List.mem_append_left _ (List.mem_append_right _ (h)))))))
  refine lv_aload_n X.1 X.2.1 dX6_pourOver_0 rfl (lv_at hl 0 rfl) ?_
  refine lv_iload_n X.1 X.2.1 dX6_pourOver_1 rfl (lv_at hl 1 rfl) ?_
  exact cXV Y X hW (HB.mem lv_0) (pC_6 (HB.kn lv_0 rfl)) rfl (cz_arrayWriterAt l hst HB h) (cwV 1 X.2.2.2.2 gX6_pourOver_X6_arrayWriterAt rfl rfl rfl (by decide +kernel) ⟨Nat.le_of_ble_eq_true rfl, Nat.le_of_ble_eq_true rfl⟩) rfl rfl hl.1 (Nat.le_of_ble_eq_true rfl) dX6_pourOver_2 ⟨Nat.le_of_ble_eq_true rfl, Nat.le_of_ble_eq_true rfl⟩

set_option maxHeartbeats 4000000 in
set_option maxRecDepth 100000 in
theorem cb_pourOver_b (l : Launch) {G : va_G} {kT : Nat → ClassId} {L : List Nat} {K : Nat → Nat} {R : pR} {I : pI} {A : mD} {Q : pR} {N : Nat → Nat} (hst : l.stackTraces = false) {T : mT} {D : mD} {ad : pD} (HB : Rep T D ad L K R I A Q N) {w : Nat} {x : Int32} (hw : w < 3) (h : oN x 3) : cMt l yX6_pourOver wsX6_pourOver ({ frames := 8, cells := 1, slots := 6, locals := 142 } : Room) G kT [.ref (ad 0 0), .int (nI (w)), .int (x)] L K R I A Q N "java/lang/IndexOutOfBoundsException" := by
  refine cstt (cc := cX6_pourOver) (maxL := 5) (ret := (some .int)) hst (by decide) rfl (Nat.le_of_ble_eq_true rfl) (fun p e s m args below meth c Z Y X hW ls hl => ?_)
  have X : CallFix p m c cX6_pourOver 5 s args wsX6_pourOver RX6 := X
  have hl : lv_has ls 5 [(0, .ref (ad 0 0)), (1, .int (nI (w))), (2, .int (x))] := hl
  have hin4 : ∀ w ∈ wsX40, w ∈ wsX6_pourOver := fun w h => List.mem_cons_of_mem _ (List.mem_append_left _ (List.mem_append_left _ (List.mem_append_left _ (List.mem_append_left _ (List.mem_append_right _ (h))))))
  have hin6 : ∀ w ∈ wsX60, w ∈ wsX6_pourOver := fun w h => List.mem_cons_of_mem _ (List.mem_append_left _ (List.mem_append_left _ (List.mem_append_left _ (List.mem_append_left _ (List.mem_append_left _ (List.mem_append_right _ (h)))))))
  refine lv_aload_n X.1 X.2.1 dX6_pourOver_0 rfl (lv_at hl 0 rfl) ?_
  refine lv_iload_n X.1 X.2.1 dX6_pourOver_1 rfl (lv_at hl 1 rfl) ?_
  refine cVr X hW (HB.mem lv_0) (pC_6 (HB.kn lv_0 rfl)) rfl (cg_arrayWriterAt l HB (r := w) (by omega)) (cwV 1 X.2.2.2.2 gX6_pourOver_X6_arrayWriterAt rfl rfl rfl (by decide +kernel) ⟨Nat.le_of_ble_eq_true rfl, Nat.le_of_ble_eq_true rfl⟩) rfl rfl hl.1 (Nat.le_of_ble_eq_true rfl) dX6_pourOver_2 ⟨Nat.zero_le _, Nat.zero_le _⟩ (fun H locs hW => ?_)
  refine lv_astore_n (lv' := [(3, .ref (ad 7 (3 + w))), (0, .ref (ad 0 0)), (1, .int (nI (w))), (2, .int (x))]) X.1 X.2.1 dX6_pourOver_5 rfl hl (by decide) rfl (fun ls hl => ?_)
  refine lv_aload_n X.1 X.2.1 dX6_pourOver_6 rfl (lv_at hl 1 rfl) ?_
  refine lv_iload_n X.1 X.2.1 dX6_pourOver_7 rfl (lv_at hl 3 rfl) ?_
  exact cXV Y X hW (HB.mem lv_0) (pC_6 (HB.kn lv_0 rfl)) rfl (cz_arrayWriterAt l hst HB h) (cwV 1 X.2.2.2.2 gX6_pourOver_X6_arrayWriterAt rfl rfl rfl (by decide +kernel) ⟨Nat.le_of_ble_eq_true rfl, Nat.le_of_ble_eq_true rfl⟩) rfl rfl hl.1 (Nat.le_of_ble_eq_true rfl) dX6_pourOver_8 ⟨Nat.le_of_ble_eq_true rfl, Nat.le_of_ble_eq_true rfl⟩

set_option maxHeartbeats 4000000 in
set_option maxRecDepth 100000 in
theorem cb_pourOver_c (l : Launch) {G : va_G} {kT : Nat → ClassId} {L : List Nat} {K : Nat → Nat} {R : pR} {I : pI} {A : mD} {Q : pR} {N : Nat → Nat} (hst : l.stackTraces = false) {T : mT} {D : mD} {ad : pD} (HB : Rep T D ad L K R I A Q N) {w : Nat} (hw : w < 3) : cMt l yX6_pourOver wsX6_pourOver ({ frames := 8, cells := 1, slots := 6, locals := 142 } : Room) G kT [.ref (ad 0 0), .int (nI (w)), .int (nI (w))] L K R I A Q N "java/lang/IllegalArgumentException" := by
  refine cstt (cc := cX6_pourOver) (maxL := 5) (ret := (some .int)) hst (by decide) rfl (Nat.le_of_ble_eq_true rfl) (fun p e s m args below meth c Z Y X hW ls hl => ?_)
  have X : CallFix p m c cX6_pourOver 5 s args wsX6_pourOver RX6 := X
  have hl : lv_has ls 5 [(0, .ref (ad 0 0)), (1, .int (nI (w))), (2, .int (nI (w)))] := hl
  have hin4 : ∀ w ∈ wsX40, w ∈ wsX6_pourOver := fun w h => List.mem_cons_of_mem _ (List.mem_append_left _ (List.mem_append_left _ (List.mem_append_left _ (List.mem_append_left _ (List.mem_append_right _ (h))))))
  have hin6 : ∀ w ∈ wsX60, w ∈ wsX6_pourOver := fun w h => List.mem_cons_of_mem _ (List.mem_append_left _ (List.mem_append_left _ (List.mem_append_left _ (List.mem_append_left _ (List.mem_append_left _ (List.mem_append_right _ (h)))))))
  refine lv_aload_n X.1 X.2.1 dX6_pourOver_0 rfl (lv_at hl 0 rfl) ?_
  refine lv_iload_n X.1 X.2.1 dX6_pourOver_1 rfl (lv_at hl 1 rfl) ?_
  refine cVr X hW (HB.mem lv_0) (pC_6 (HB.kn lv_0 rfl)) rfl (cg_arrayWriterAt l HB (r := w) (by omega)) (cwV 1 X.2.2.2.2 gX6_pourOver_X6_arrayWriterAt rfl rfl rfl (by decide +kernel) ⟨Nat.le_of_ble_eq_true rfl, Nat.le_of_ble_eq_true rfl⟩) rfl rfl hl.1 (Nat.le_of_ble_eq_true rfl) dX6_pourOver_2 ⟨Nat.zero_le _, Nat.zero_le _⟩ (fun H locs hW => ?_)
  refine lv_astore_n (lv' := [(3, .ref (ad 7 (3 + w))), (0, .ref (ad 0 0)), (1, .int (nI (w))), (2, .int (nI (w)))]) X.1 X.2.1 dX6_pourOver_5 rfl hl (by decide) rfl (fun ls hl => ?_)
  refine lv_aload_n X.1 X.2.1 dX6_pourOver_6 rfl (lv_at hl 1 rfl) ?_
  refine lv_iload_n X.1 X.2.1 dX6_pourOver_7 rfl (lv_at hl 3 rfl) ?_
  refine cVr X hW (HB.mem lv_0) (pC_6 (HB.kn lv_0 rfl)) rfl (cg_arrayWriterAt l HB (r := w) (by omega)) (cwV 1 X.2.2.2.2 gX6_pourOver_X6_arrayWriterAt rfl rfl rfl (by decide +kernel) ⟨Nat.le_of_ble_eq_true rfl, Nat.le_of_ble_eq_true rfl⟩) rfl rfl hl.1 (Nat.le_of_ble_eq_true rfl) dX6_pourOver_8 ⟨Nat.zero_le _, Nat.zero_le _⟩ (fun H locs hW => ?_)
  refine lv_astore (lv' := [(4, .ref (ad 7 (3 + w))), (3, .ref (ad 7 (3 + w))), (0, .ref (ad 0 0)), (1, .int (nI (w))), (2, .int (nI (w)))]) X.1 X.2.1 dX6_pourOver_11 hl (by decide) rfl (fun ls hl => ?_)
  refine lv_iload_n X.1 X.2.1 dX6_pourOver_13 rfl (lv_at hl 3 rfl) ?_
  refine lv_iload_n X.1 X.2.1 dX6_pourOver_14 rfl (lv_at hl 4 rfl) ?_
  refine n_icmp_ne_f (tgt := 28) X.1 X.2.1 dX6_pourOver_15 (by decide) (rfl) (by omega) (by omega) ?_
  exact cTH Y X hW (text := "both writers are the same") (ik := 64) (is := 122) (ic := 68) (by decide +kernel) (List.mem_cons_of_mem _ (List.mem_append_left _ (List.mem_append_left _ (List.mem_append_left _ (List.mem_append_left _ (List.mem_append_left _ (List.mem_append_left _ (List.mem_append_left _ (List.mem_of_getElem? (i := 0) rfl))))))))) (List.mem_cons_of_mem _ (List.mem_append_left _ (List.mem_append_left _ (List.mem_append_left _ (List.mem_append_left _ (List.mem_append_left _ (List.mem_append_left _ (List.mem_append_left _ (List.mem_of_getElem? (i := 1) rfl))))))))) (by decide +kernel) (fun w h => List.mem_cons_of_mem _ (List.mem_append_left _ (List.mem_append_left _ (List.mem_append_left _ (List.mem_append_right _ (h)))))) (by decide +kernel) (by decide +kernel) hl.1 dX6_pourOver_18 dX6_pourOver_21 dX6_pourOver_22 dX6_pourOver_24 dX6_pourOver_27 (Nat.le_of_ble_eq_true rfl) (Nat.le_of_ble_eq_true rfl) (Nat.le_of_ble_eq_true rfl) (Nat.le_of_ble_eq_true rfl)

set_option maxHeartbeats 4000000 in
set_option maxRecDepth 100000 in
theorem cb_pourOver_d (l : Launch) {G : va_G} {kT : Nat → ClassId} {L : List Nat} {K : Nat → Nat} {R : pR} {I : pI} {A : mD} {Q : pR} {N : Nat → Nat} (hst : l.stackTraces = false) {T : mT} {D : mD} {ad : pD} (HB : Rep T D ad L K R I A Q N) {w v : Nat} (hw : w < 3) (hv : v < 3) (hne : w ≠ v) (h : 256 < T 7 (3 + v) + T 7 (3 + w)) : cMt l yX6_pourOver wsX6_pourOver ({ frames := 8, cells := 1, slots := 6, locals := 142 } : Room) G kT [.ref (ad 0 0), .int (nI (w)), .int (nI (v))] L K R I A Q N "java/lang/IllegalStateException" := by
  refine cstt (cc := cX6_pourOver) (maxL := 5) (ret := (some .int)) hst (by decide) rfl (Nat.le_of_ble_eq_true rfl) (fun p e s m args below meth c Z Y X hW ls hl => ?_)
  have X : CallFix p m c cX6_pourOver 5 s args wsX6_pourOver RX6 := X
  have hl : lv_has ls 5 [(0, .ref (ad 0 0)), (1, .int (nI (w))), (2, .int (nI (v)))] := hl
  have hin4 : ∀ w ∈ wsX40, w ∈ wsX6_pourOver := fun w h => List.mem_cons_of_mem _ (List.mem_append_left _ (List.mem_append_left _ (List.mem_append_left _ (List.mem_append_left _ (List.mem_append_right _ (h))))))
  have hin6 : ∀ w ∈ wsX60, w ∈ wsX6_pourOver := fun w h => List.mem_cons_of_mem _ (List.mem_append_left _ (List.mem_append_left _ (List.mem_append_left _ (List.mem_append_left _ (List.mem_append_left _ (List.mem_append_right _ (h)))))))
  refine lv_aload_n X.1 X.2.1 dX6_pourOver_0 rfl (lv_at hl 0 rfl) ?_
  refine lv_iload_n X.1 X.2.1 dX6_pourOver_1 rfl (lv_at hl 1 rfl) ?_
  refine cVr X hW (HB.mem lv_0) (pC_6 (HB.kn lv_0 rfl)) rfl (cg_arrayWriterAt l HB (r := w) (by omega)) (cwV 1 X.2.2.2.2 gX6_pourOver_X6_arrayWriterAt rfl rfl rfl (by decide +kernel) ⟨Nat.le_of_ble_eq_true rfl, Nat.le_of_ble_eq_true rfl⟩) rfl rfl hl.1 (Nat.le_of_ble_eq_true rfl) dX6_pourOver_2 ⟨Nat.zero_le _, Nat.zero_le _⟩ (fun H locs hW => ?_)
  refine lv_astore_n (lv' := [(3, .ref (ad 7 (3 + w))), (0, .ref (ad 0 0)), (1, .int (nI (w))), (2, .int (nI (v)))]) X.1 X.2.1 dX6_pourOver_5 rfl hl (by decide) rfl (fun ls hl => ?_)
  refine lv_aload_n X.1 X.2.1 dX6_pourOver_6 rfl (lv_at hl 1 rfl) ?_
  refine lv_iload_n X.1 X.2.1 dX6_pourOver_7 rfl (lv_at hl 3 rfl) ?_
  refine cVr X hW (HB.mem lv_0) (pC_6 (HB.kn lv_0 rfl)) rfl (cg_arrayWriterAt l HB (r := v) (by omega)) (cwV 1 X.2.2.2.2 gX6_pourOver_X6_arrayWriterAt rfl rfl rfl (by decide +kernel) ⟨Nat.le_of_ble_eq_true rfl, Nat.le_of_ble_eq_true rfl⟩) rfl rfl hl.1 (Nat.le_of_ble_eq_true rfl) dX6_pourOver_8 ⟨Nat.zero_le _, Nat.zero_le _⟩ (fun H locs hW => ?_)
  refine lv_astore (lv' := [(4, .ref (ad 7 (3 + v))), (3, .ref (ad 7 (3 + w))), (0, .ref (ad 0 0)), (1, .int (nI (w))), (2, .int (nI (v)))]) X.1 X.2.1 dX6_pourOver_11 hl (by decide) rfl (fun ls hl => ?_)
  refine lv_iload_n X.1 X.2.1 dX6_pourOver_13 rfl (lv_at hl 3 rfl) ?_
  refine lv_iload_n X.1 X.2.1 dX6_pourOver_14 rfl (lv_at hl 4 rfl) ?_
  refine n_icmp_ne_t (tgt := 28) X.1 X.2.1 dX6_pourOver_15 (by decide) (hne) (by omega) (by omega) ?_
  refine lv_aload_n X.1 X.2.1 dX6_pourOver_28 rfl (lv_at hl 1 rfl) ?_
  refine lv_aload X.1 X.2.1 dX6_pourOver_29 (lv_at hl 0 rfl) ?_
  exact cXS Y X hW (cz_pourInto l hst HB (v := 3 + w) (w := 3 + v) (by omega) (by omega) h) (va_cwS 2 X.2.2.2.2 gX6_pourOver_X6_pourInto rfl rfl rfl (by decide +kernel) ⟨Nat.le_of_ble_eq_true rfl, Nat.le_of_ble_eq_true rfl⟩) rfl rfl hl.1 (Nat.le_of_ble_eq_true rfl) dX6_pourOver_31 ⟨Nat.le_of_ble_eq_true rfl, Nat.le_of_ble_eq_true rfl⟩

set_option maxHeartbeats 4000000 in
set_option maxRecDepth 100000 in
theorem cb_areLike_a (l : Launch) {G : va_G} {kT : Nat → ClassId} {L : List Nat} {K : Nat → Nat} {R : pR} {I : pI} {A : mD} {Q : pR} {N : Nat → Nat} (hst : l.stackTraces = false) {T : mT} {D : mD} {ad : pD} (HB : Rep T D ad L K R I A Q N) {x x1 : Int32} (h : oN x 3) : cMt l yX6_areLike wsX6_areLike ({ frames := 7, cells := 1, slots := 6, locals := 121 } : Room) G kT [.ref (ad 0 0), .int (x), .int (x1)] L K R I A Q N "java/lang/IndexOutOfBoundsException" := by
  refine cstt (cc := cX6_areLike) (maxL := 3) (ret := (some .boolean)) hst (by decide) rfl (Nat.le_of_ble_eq_true rfl) (fun p e s m args below meth c Z Y X hW ls hl => ?_)
  have X : CallFix p m c cX6_areLike 3 s args wsX6_areLike RX6 := X
  have hl : lv_has ls 3 [(0, .ref (ad 0 0)), (1, .int (x)), (2, .int (x1))] := hl
  have hin4 : ∀ w ∈ wsX40, w ∈ wsX6_areLike := fun w h => List.mem_cons_of_mem _ (List.mem_append_left _ (List.mem_append_left _ (List.mem_append_right _ (h))))
  have hin6 : ∀ w ∈ wsX60, w ∈ wsX6_areLike := fun w h => List.mem_cons_of_mem _ (List.mem_append_left _ (List.mem_append_left _ (List.mem_append_left _ (List.mem_append_right _ (h)))))
  refine lv_aload_n X.1 X.2.1 dX6_areLike_0 rfl (lv_at hl 0 rfl) ?_
  refine lv_iload_n X.1 X.2.1 dX6_areLike_1 rfl (lv_at hl 1 rfl) ?_
  exact cXV Y X hW (HB.mem lv_0) (pC_6 (HB.kn lv_0 rfl)) rfl (cz_textWriterAt l hst HB h) (cwV 1 X.2.2.2.2 gX6_areLike_X6_textWriterAt rfl rfl rfl (by decide +kernel) ⟨Nat.le_of_ble_eq_true rfl, Nat.le_of_ble_eq_true rfl⟩) rfl rfl hl.1 (Nat.le_of_ble_eq_true rfl) dX6_areLike_2 ⟨Nat.le_of_ble_eq_true rfl, Nat.le_of_ble_eq_true rfl⟩

set_option maxHeartbeats 4000000 in
set_option maxRecDepth 100000 in
theorem cb_areLike_b (l : Launch) {G : va_G} {kT : Nat → ClassId} {L : List Nat} {K : Nat → Nat} {R : pR} {I : pI} {A : mD} {Q : pR} {N : Nat → Nat} (hst : l.stackTraces = false) {T : mT} {D : mD} {ad : pD} (HB : Rep T D ad L K R I A Q N) {w : Nat} {x : Int32} (hw : w < 3) (h : oN x 3) : cMt l yX6_areLike wsX6_areLike ({ frames := 7, cells := 1, slots := 6, locals := 121 } : Room) G kT [.ref (ad 0 0), .int (nI (w)), .int (x)] L K R I A Q N "java/lang/IndexOutOfBoundsException" := by
  refine cstt (cc := cX6_areLike) (maxL := 3) (ret := (some .boolean)) hst (by decide) rfl (Nat.le_of_ble_eq_true rfl) (fun p e s m args below meth c Z Y X hW ls hl => ?_)
  have X : CallFix p m c cX6_areLike 3 s args wsX6_areLike RX6 := X
  have hl : lv_has ls 3 [(0, .ref (ad 0 0)), (1, .int (nI (w))), (2, .int (x))] := hl
  have hin4 : ∀ w ∈ wsX40, w ∈ wsX6_areLike := fun w h => List.mem_cons_of_mem _ (List.mem_append_left _ (List.mem_append_left _ (List.mem_append_right _ (h))))
  have hin6 : ∀ w ∈ wsX60, w ∈ wsX6_areLike := fun w h => List.mem_cons_of_mem _ (List.mem_append_left _ (List.mem_append_left _ (List.mem_append_left _ (List.mem_append_right _ (h)))))
  refine lv_aload_n X.1 X.2.1 dX6_areLike_0 rfl (lv_at hl 0 rfl) ?_
  refine lv_iload_n X.1 X.2.1 dX6_areLike_1 rfl (lv_at hl 1 rfl) ?_
  refine cVr X hW (HB.mem lv_0) (pC_6 (HB.kn lv_0 rfl)) rfl (cg_textWriterAt l HB (r := w) (by omega)) (cwV 1 X.2.2.2.2 gX6_areLike_X6_textWriterAt rfl rfl rfl (by decide +kernel) ⟨Nat.le_of_ble_eq_true rfl, Nat.le_of_ble_eq_true rfl⟩) rfl rfl hl.1 (Nat.le_of_ble_eq_true rfl) dX6_areLike_2 ⟨Nat.zero_le _, Nat.zero_le _⟩ (fun H locs hW => ?_)
  refine lv_aload_n X.1 X.2.1 dX6_areLike_5 rfl (lv_at hl 0 rfl) ?_
  refine lv_iload_n X.1 X.2.1 dX6_areLike_6 rfl (lv_at hl 2 rfl) ?_
  exact cXV Y X hW (HB.mem lv_0) (pC_6 (HB.kn lv_0 rfl)) rfl (cz_arrayWriterAt l hst HB h) (cwV 1 X.2.2.2.2 gX6_areLike_X6_arrayWriterAt rfl rfl rfl (by decide +kernel) ⟨Nat.le_of_ble_eq_true rfl, Nat.le_of_ble_eq_true rfl⟩) rfl rfl hl.1 (Nat.le_of_ble_eq_true rfl) dX6_areLike_7 ⟨Nat.le_of_ble_eq_true rfl, Nat.le_of_ble_eq_true rfl⟩

set_option maxHeartbeats 4000000 in
set_option maxRecDepth 100000 in
theorem cb_open_a (l : Launch) {G : va_G} {kT : Nat → ClassId} {L : List Nat} {K : Nat → Nat} {R : pR} {I : pI} {A : mD} {Q : pR} {N : Nat → Nat} (hst : l.stackTraces = false) {T : mT} {D : mD} {ad : pD} (HB : Rep T D ad L K R I A Q N) {x x1 x2 x3 : Int32} (h : oN x 3) : cMt l yX6_open wsX6_open ({ frames := 7, cells := 1, slots := 6, locals := 122 } : Room) G kT [.ref (ad 0 0), .int (x), .int (x1), .int (x2), .int (x3)] L K R I A Q N "java/lang/IndexOutOfBoundsException" := by
  refine cstt (cc := cX6_open) (maxL := 7) (ret := (some .int)) hst (by decide) rfl (Nat.le_of_ble_eq_true rfl) (fun p e s m args below meth c Z Y X hW ls hl => ?_)
  have X : CallFix p m c cX6_open 7 s args wsX6_open RX6 := X
  have hl : lv_has ls 7 [(0, .ref (ad 0 0)), (1, .int (x)), (2, .int (x1)), (3, .int (x2)), (4, .int (x3))] := hl
  have hin2 : ∀ w ∈ wsX20, w ∈ wsX6_open := fun w h => List.mem_cons_of_mem _ (List.mem_append_left _ (List.mem_append_left _ (List.mem_append_right _ (h))))
  have hin3 : ∀ w ∈ wsX30, w ∈ wsX6_open := fun w h => List.mem_cons_of_mem _ (List.mem_append_left _ (List.mem_append_left _ (List.mem_append_left _ (List.mem_append_left _ (List.mem_append_right _ (h))))))
  have hin6 : ∀ w ∈ wsX60, w ∈ wsX6_open := fun w h => List.mem_cons_of_mem _ (List.mem_append_left _ (List.mem_append_left _ (List.mem_append_left _ (List.mem_append_right _ (h)))))
  refine lv_aload_n X.1 X.2.1 dX6_open_0 rfl (lv_at hl 0 rfl) ?_
  refine lv_iload_n X.1 X.2.1 dX6_open_1 rfl (lv_at hl 1 rfl) ?_
  exact cXV Y X hW (HB.mem lv_0) (pC_6 (HB.kn lv_0 rfl)) rfl (cz_readerAt l hst HB h) (cwV 1 X.2.2.2.2 gX6_open_X6_readerAt rfl rfl rfl (by decide +kernel) ⟨Nat.le_of_ble_eq_true rfl, Nat.le_of_ble_eq_true rfl⟩) rfl rfl hl.1 (Nat.le_of_ble_eq_true rfl) dX6_open_2 ⟨Nat.le_of_ble_eq_true rfl, Nat.le_of_ble_eq_true rfl⟩

set_option maxHeartbeats 4000000 in
set_option maxRecDepth 100000 in
theorem cb_open_b (l : Launch) {G : va_G} {kT : Nat → ClassId} {L : List Nat} {K : Nat → Nat} {R : pR} {I : pI} {A : mD} {Q : pR} {N : Nat → Nat} (hst : l.stackTraces = false) {T : mT} {D : mD} {ad : pD} (HB : Rep T D ad L K R I A Q N) {i : Nat} {x x1 x2 : Int32} (hi : i < 3) (h : oN x 4) : cMt l yX6_open wsX6_open ({ frames := 7, cells := 1, slots := 6, locals := 122 } : Room) G kT [.ref (ad 0 0), .int (nI (i)), .int (x), .int (x1), .int (x2)] L K R I A Q N "java/lang/IndexOutOfBoundsException" := by
  refine cstt (cc := cX6_open) (maxL := 7) (ret := (some .int)) hst (by decide) rfl (Nat.le_of_ble_eq_true rfl) (fun p e s m args below meth c Z Y X hW ls hl => ?_)
  have X : CallFix p m c cX6_open 7 s args wsX6_open RX6 := X
  have hl : lv_has ls 7 [(0, .ref (ad 0 0)), (1, .int (nI (i))), (2, .int (x)), (3, .int (x1)), (4, .int (x2))] := hl
  have hin2 : ∀ w ∈ wsX20, w ∈ wsX6_open := fun w h => List.mem_cons_of_mem _ (List.mem_append_left _ (List.mem_append_left _ (List.mem_append_right _ (h))))
  have hin3 : ∀ w ∈ wsX30, w ∈ wsX6_open := fun w h => List.mem_cons_of_mem _ (List.mem_append_left _ (List.mem_append_left _ (List.mem_append_left _ (List.mem_append_left _ (List.mem_append_right _ (h))))))
  have hin6 : ∀ w ∈ wsX60, w ∈ wsX6_open := fun w h => List.mem_cons_of_mem _ (List.mem_append_left _ (List.mem_append_left _ (List.mem_append_left _ (List.mem_append_right _ (h)))))
  refine lv_aload_n X.1 X.2.1 dX6_open_0 rfl (lv_at hl 0 rfl) ?_
  refine lv_iload_n X.1 X.2.1 dX6_open_1 rfl (lv_at hl 1 rfl) ?_
  refine cVr X hW (HB.mem lv_0) (pC_6 (HB.kn lv_0 rfl)) rfl (cg_readerAt l HB (r := i) (by omega)) (cwV 1 X.2.2.2.2 gX6_open_X6_readerAt rfl rfl rfl (by decide +kernel) ⟨Nat.le_of_ble_eq_true rfl, Nat.le_of_ble_eq_true rfl⟩) rfl rfl hl.1 (Nat.le_of_ble_eq_true rfl) dX6_open_2 ⟨Nat.zero_le _, Nat.zero_le _⟩ (fun H locs hW => ?_)
  refine lv_astore (lv' := [(5, .ref (ad 9 i)), (0, .ref (ad 0 0)), (1, .int (nI (i))), (2, .int (x)), (3, .int (x1)), (4, .int (x2))]) X.1 X.2.1 dX6_open_5 hl (by decide) rfl (fun ls hl => ?_)
  refine lv_aload_n X.1 X.2.1 dX6_open_7 rfl (lv_at hl 1 rfl) ?_
  refine lv_iload_n X.1 X.2.1 dX6_open_8 rfl (lv_at hl 3 rfl) ?_
  exact cXV Y X hW (HB.mem lv_0) (pC_6 (HB.kn lv_0 rfl)) rfl (cz_signRowAt l hst HB h) (cwV 1 X.2.2.2.2 gX6_open_X6_signRowAt rfl rfl rfl (by decide +kernel) ⟨Nat.le_of_ble_eq_true rfl, Nat.le_of_ble_eq_true rfl⟩) rfl rfl hl.1 (Nat.le_of_ble_eq_true rfl) dX6_open_9 ⟨Nat.le_of_ble_eq_true rfl, Nat.le_of_ble_eq_true rfl⟩

set_option maxHeartbeats 4000000 in
set_option maxRecDepth 100000 in
theorem cb_open_c (l : Launch) {G : va_G} {kT : Nat → ClassId} {L : List Nat} {K : Nat → Nat} {R : pR} {I : pI} {A : mD} {Q : pR} {N : Nat → Nat} (hst : l.stackTraces = false) {T : mT} {D : mD} {ad : pD} (HB : Rep T D ad L K R I A Q N) {i r : Nat} {x x1 : Int32} (hi : i < 3) (hr : r < 4) (h : oP (T 1 (T 2 r)) x (nI 0)) : cMt l yX6_open wsX6_open ({ frames := 7, cells := 1, slots := 6, locals := 122 } : Room) G kT [.ref (ad 0 0), .int (nI (i)), .int (nI (r)), .int (x), .int (x1)] L K R I A Q N "java/lang/IndexOutOfBoundsException" := by
  refine cstt (cc := cX6_open) (maxL := 7) (ret := (some .int)) hst (by decide) rfl (Nat.le_of_ble_eq_true rfl) (fun p e s m args below meth c Z Y X hW ls hl => ?_)
  have X : CallFix p m c cX6_open 7 s args wsX6_open RX6 := X
  have hl : lv_has ls 7 [(0, .ref (ad 0 0)), (1, .int (nI (i))), (2, .int (nI (r))), (3, .int (x)), (4, .int (x1))] := hl
  have hin2 : ∀ w ∈ wsX20, w ∈ wsX6_open := fun w h => List.mem_cons_of_mem _ (List.mem_append_left _ (List.mem_append_left _ (List.mem_append_right _ (h))))
  have hin3 : ∀ w ∈ wsX30, w ∈ wsX6_open := fun w h => List.mem_cons_of_mem _ (List.mem_append_left _ (List.mem_append_left _ (List.mem_append_left _ (List.mem_append_left _ (List.mem_append_right _ (h))))))
  have hin6 : ∀ w ∈ wsX60, w ∈ wsX6_open := fun w h => List.mem_cons_of_mem _ (List.mem_append_left _ (List.mem_append_left _ (List.mem_append_left _ (List.mem_append_right _ (h)))))
  have hu := uS_row (T := T) hr
  have hsr := HB.sr hu
  have hl9 := hsr.2.2.2.2.2.2
  refine lv_aload_n X.1 X.2.1 dX6_open_0 rfl (lv_at hl 0 rfl) ?_
  refine lv_iload_n X.1 X.2.1 dX6_open_1 rfl (lv_at hl 1 rfl) ?_
  refine cVr X hW (HB.mem lv_0) (pC_6 (HB.kn lv_0 rfl)) rfl (cg_readerAt l HB (r := i) (by omega)) (cwV 1 X.2.2.2.2 gX6_open_X6_readerAt rfl rfl rfl (by decide +kernel) ⟨Nat.le_of_ble_eq_true rfl, Nat.le_of_ble_eq_true rfl⟩) rfl rfl hl.1 (Nat.le_of_ble_eq_true rfl) dX6_open_2 ⟨Nat.zero_le _, Nat.zero_le _⟩ (fun H locs hW => ?_)
  refine lv_astore (lv' := [(5, .ref (ad 9 i)), (0, .ref (ad 0 0)), (1, .int (nI (i))), (2, .int (nI (r))), (3, .int (x)), (4, .int (x1))]) X.1 X.2.1 dX6_open_5 hl (by decide) rfl (fun ls hl => ?_)
  refine lv_aload_n X.1 X.2.1 dX6_open_7 rfl (lv_at hl 1 rfl) ?_
  refine lv_iload_n X.1 X.2.1 dX6_open_8 rfl (lv_at hl 3 rfl) ?_
  refine cVr X hW (HB.mem lv_0) (pC_6 (HB.kn lv_0 rfl)) rfl (cg_signRowAt l HB (r := r) (by omega)) (cwV 1 X.2.2.2.2 gX6_open_X6_signRowAt rfl rfl rfl (by decide +kernel) ⟨Nat.le_of_ble_eq_true rfl, Nat.le_of_ble_eq_true rfl⟩) rfl rfl hl.1 (Nat.le_of_ble_eq_true rfl) dX6_open_9 ⟨Nat.zero_le _, Nat.zero_le _⟩ (fun H locs hW => ?_)
  refine lv_astore (lv' := [(6, .ref (ad 3 (T 2 r))), (5, .ref (ad 9 i)), (0, .ref (ad 0 0)), (1, .int (nI (i))), (2, .int (nI (r))), (3, .int (x)), (4, .int (x1))]) X.1 X.2.1 dX6_open_12 hl (by decide) rfl (fun ls hl => ?_)
  refine lv_iload_n X.1 X.2.1 dX6_open_14 rfl (lv_at hl 5 rfl) ?_
  refine lv_iconst (v := nI 0) X.1 X.2.1 dX6_open_15 (by decide) ?_
  refine lv_aload X.1 X.2.1 dX6_open_16 (lv_at hl 0 rfl) ?_
  refine cg_3_signs X hin3 hW (hsr.1) (hsr.2.1) (hsr.2.2.1) (X.2.2.2.2 (.fieldLink RX6 60 "Strandbook$SignRow" "signs" "[C") (List.mem_cons_of_mem _ (List.mem_append_left _ (List.mem_append_left _ (List.mem_append_left _ (List.mem_append_left _ (List.mem_append_left _ (List.mem_append_left _ (List.mem_of_getElem? (i := 0) rfl))))))))) dX6_open_18 ?_
  refine cln_8 X hW (hsr.2.2.2.1) (hsr.2.2.2.2.1) (hsr.2.2.2.2.2.1) dX6_open_21 ?_
  exact cXS Y X hW (cz_requirePlaces l hst (by omega) h) (va_cwS 3 X.2.2.2.2 gX6_open_X6_requirePlaces rfl rfl rfl (by decide +kernel) ⟨Nat.le_of_ble_eq_true rfl, Nat.le_of_ble_eq_true rfl⟩) rfl rfl hl.1 (Nat.le_of_ble_eq_true rfl) dX6_open_22 ⟨Nat.le_of_ble_eq_true rfl, Nat.le_of_ble_eq_true rfl⟩

theorem lg_neg {x : Int32} (h : x < 0) : x.toInt64 < 0 := by
  rw [Int64.lt_iff_toInt_lt, Int32.toInt_toInt64]
  rw [Int32.lt_iff_toInt_lt] at h
  exact h

set_option maxHeartbeats 4000000 in
set_option maxRecDepth 100000 in
theorem cb_open_d (l : Launch) {G : va_G} {kT : Nat → ClassId} {L : List Nat} {K : Nat → Nat} {R : pR} {I : pI} {A : mD} {Q : pR} {N : Nat → Nat} (hst : l.stackTraces = false) {T : mT} {D : mD} {ad : pD} (HB : Rep T D ad L K R I A Q N) {i r f : Nat} {x : Int32} (hi : i < 3) (hr : r < 4) (hf : f ≤ T 1 (T 2 r)) (h : oN x 1001) : cMt l yX6_open wsX6_open ({ frames := 7, cells := 1, slots := 6, locals := 122 } : Room) G kT [.ref (ad 0 0), .int (nI (i)), .int (nI (r)), .int (nI (f)), .int (x)] L K R I A Q N "java/lang/IllegalArgumentException" := by
  by_cases h0 : x < 0
  · skip
    refine cstt (cc := cX6_open) (maxL := 7) (ret := (some .int)) hst (by decide) rfl (Nat.le_of_ble_eq_true rfl) (fun p e s m args below meth c Z Y X hW ls hl => ?_)
    have X : CallFix p m c cX6_open 7 s args wsX6_open RX6 := X
    have hl : lv_has ls 7 [(0, .ref (ad 0 0)), (1, .int (nI (i))), (2, .int (nI (r))), (3, .int (nI (f))), (4, .int (x))] := hl
    have hin2 : ∀ w ∈ wsX20, w ∈ wsX6_open := fun w h => List.mem_cons_of_mem _ (List.mem_append_left _ (List.mem_append_left _ (List.mem_append_right _ (h))))
    have hin3 : ∀ w ∈ wsX30, w ∈ wsX6_open := fun w h => List.mem_cons_of_mem _ (List.mem_append_left _ (List.mem_append_left _ (List.mem_append_left _ (List.mem_append_left _ (List.mem_append_right _ (h))))))
    have hin6 : ∀ w ∈ wsX60, w ∈ wsX6_open := fun w h => List.mem_cons_of_mem _ (List.mem_append_left _ (List.mem_append_left _ (List.mem_append_left _ (List.mem_append_right _ (h)))))
    have hu := uS_row (T := T) hr
    have hsr := HB.sr hu
    have hl9 := hsr.2.2.2.2.2.2
    refine lv_aload_n X.1 X.2.1 dX6_open_0 rfl (lv_at hl 0 rfl) ?_
    refine lv_iload_n X.1 X.2.1 dX6_open_1 rfl (lv_at hl 1 rfl) ?_
    refine cVr X hW (HB.mem lv_0) (pC_6 (HB.kn lv_0 rfl)) rfl (cg_readerAt l HB (r := i) (by omega)) (cwV 1 X.2.2.2.2 gX6_open_X6_readerAt rfl rfl rfl (by decide +kernel) ⟨Nat.le_of_ble_eq_true rfl, Nat.le_of_ble_eq_true rfl⟩) rfl rfl hl.1 (Nat.le_of_ble_eq_true rfl) dX6_open_2 ⟨Nat.zero_le _, Nat.zero_le _⟩ (fun H locs hW => ?_)
    refine lv_astore (lv' := [(5, .ref (ad 9 i)), (0, .ref (ad 0 0)), (1, .int (nI (i))), (2, .int (nI (r))), (3, .int (nI (f))), (4, .int (x))]) X.1 X.2.1 dX6_open_5 hl (by decide) rfl (fun ls hl => ?_)
    refine lv_aload_n X.1 X.2.1 dX6_open_7 rfl (lv_at hl 1 rfl) ?_
    refine lv_iload_n X.1 X.2.1 dX6_open_8 rfl (lv_at hl 3 rfl) ?_
    refine cVr X hW (HB.mem lv_0) (pC_6 (HB.kn lv_0 rfl)) rfl (cg_signRowAt l HB (r := r) (by omega)) (cwV 1 X.2.2.2.2 gX6_open_X6_signRowAt rfl rfl rfl (by decide +kernel) ⟨Nat.le_of_ble_eq_true rfl, Nat.le_of_ble_eq_true rfl⟩) rfl rfl hl.1 (Nat.le_of_ble_eq_true rfl) dX6_open_9 ⟨Nat.zero_le _, Nat.zero_le _⟩ (fun H locs hW => ?_)
    refine lv_astore (lv' := [(6, .ref (ad 3 (T 2 r))), (5, .ref (ad 9 i)), (0, .ref (ad 0 0)), (1, .int (nI (i))), (2, .int (nI (r))), (3, .int (nI (f))), (4, .int (x))]) X.1 X.2.1 dX6_open_12 hl (by decide) rfl (fun ls hl => ?_)
    refine lv_iload_n X.1 X.2.1 dX6_open_14 rfl (lv_at hl 5 rfl) ?_
    refine lv_iconst (v := nI 0) X.1 X.2.1 dX6_open_15 (by decide) ?_
    refine lv_aload X.1 X.2.1 dX6_open_16 (lv_at hl 0 rfl) ?_
    refine cg_3_signs X hin3 hW (hsr.1) (hsr.2.1) (hsr.2.2.1) (X.2.2.2.2 (.fieldLink RX6 60 "Strandbook$SignRow" "signs" "[C") (List.mem_cons_of_mem _ (List.mem_append_left _ (List.mem_append_left _ (List.mem_append_left _ (List.mem_append_left _ (List.mem_append_left _ (List.mem_append_left _ (List.mem_of_getElem? (i := 0) rfl))))))))) dX6_open_18 ?_
    refine cln_8 X hW (hsr.2.2.2.1) (hsr.2.2.2.2.1) (hsr.2.2.2.2.2.1) dX6_open_21 ?_
    refine cSv X hW (cg_requirePlaces l (f := f) (j := 0) (n := T 1 (T 2 r)) (by omega) (by omega)) (va_cwS 3 X.2.2.2.2 gX6_open_X6_requirePlaces rfl rfl rfl (by decide +kernel) ⟨Nat.le_of_ble_eq_true rfl, Nat.le_of_ble_eq_true rfl⟩) rfl rfl hl.1 (Nat.le_of_ble_eq_true rfl) dX6_open_22 ⟨Nat.zero_le _, Nat.zero_le _⟩ (fun H locs hW => ?_)
    refine lv_iload X.1 X.2.1 dX6_open_25 (lv_at hl 6 rfl) ?_
    refine lv_i2l (v := x.toInt64) X.1 X.2.1 dX6_open_27 rfl ?_
    exact cXS Y X hW (cz_requireWanted l hst (Or.inl (lg_neg h0))) (va_cwS 1 X.2.2.2.2 gX6_open_X6_requireWanted rfl rfl rfl (by decide +kernel) ⟨Nat.le_of_ble_eq_true rfl, Nat.le_of_ble_eq_true rfl⟩) rfl rfl hl.1 (Nat.le_of_ble_eq_true rfl) dX6_open_28 ⟨Nat.le_of_ble_eq_true rfl, Nat.le_of_ble_eq_true rfl⟩
  · obtain ⟨j, hj, hn, rfl⟩ := oN_ge h h0
    refine cstt (cc := cX6_open) (maxL := 7) (ret := (some .int)) hst (by decide) rfl (Nat.le_of_ble_eq_true rfl) (fun p e s m args below meth c Z Y X hW ls hl => ?_)
    have X : CallFix p m c cX6_open 7 s args wsX6_open RX6 := X
    have hl : lv_has ls 7 [(0, .ref (ad 0 0)), (1, .int (nI (i))), (2, .int (nI (r))), (3, .int (nI (f))), (4, .int (nI (j)))] := hl
    have hin2 : ∀ w ∈ wsX20, w ∈ wsX6_open := fun w h => List.mem_cons_of_mem _ (List.mem_append_left _ (List.mem_append_left _ (List.mem_append_right _ (h))))
    have hin3 : ∀ w ∈ wsX30, w ∈ wsX6_open := fun w h => List.mem_cons_of_mem _ (List.mem_append_left _ (List.mem_append_left _ (List.mem_append_left _ (List.mem_append_left _ (List.mem_append_right _ (h))))))
    have hin6 : ∀ w ∈ wsX60, w ∈ wsX6_open := fun w h => List.mem_cons_of_mem _ (List.mem_append_left _ (List.mem_append_left _ (List.mem_append_left _ (List.mem_append_right _ (h)))))
    have hu := uS_row (T := T) hr
    have hsr := HB.sr hu
    have hl9 := hsr.2.2.2.2.2.2
    refine lv_aload_n X.1 X.2.1 dX6_open_0 rfl (lv_at hl 0 rfl) ?_
    refine lv_iload_n X.1 X.2.1 dX6_open_1 rfl (lv_at hl 1 rfl) ?_
    refine cVr X hW (HB.mem lv_0) (pC_6 (HB.kn lv_0 rfl)) rfl (cg_readerAt l HB (r := i) (by omega)) (cwV 1 X.2.2.2.2 gX6_open_X6_readerAt rfl rfl rfl (by decide +kernel) ⟨Nat.le_of_ble_eq_true rfl, Nat.le_of_ble_eq_true rfl⟩) rfl rfl hl.1 (Nat.le_of_ble_eq_true rfl) dX6_open_2 ⟨Nat.zero_le _, Nat.zero_le _⟩ (fun H locs hW => ?_)
    refine lv_astore (lv' := [(5, .ref (ad 9 i)), (0, .ref (ad 0 0)), (1, .int (nI (i))), (2, .int (nI (r))), (3, .int (nI (f))), (4, .int (nI (j)))]) X.1 X.2.1 dX6_open_5 hl (by decide) rfl (fun ls hl => ?_)
    refine lv_aload_n X.1 X.2.1 dX6_open_7 rfl (lv_at hl 1 rfl) ?_
    refine lv_iload_n X.1 X.2.1 dX6_open_8 rfl (lv_at hl 3 rfl) ?_
    refine cVr X hW (HB.mem lv_0) (pC_6 (HB.kn lv_0 rfl)) rfl (cg_signRowAt l HB (r := r) (by omega)) (cwV 1 X.2.2.2.2 gX6_open_X6_signRowAt rfl rfl rfl (by decide +kernel) ⟨Nat.le_of_ble_eq_true rfl, Nat.le_of_ble_eq_true rfl⟩) rfl rfl hl.1 (Nat.le_of_ble_eq_true rfl) dX6_open_9 ⟨Nat.zero_le _, Nat.zero_le _⟩ (fun H locs hW => ?_)
    refine lv_astore (lv' := [(6, .ref (ad 3 (T 2 r))), (5, .ref (ad 9 i)), (0, .ref (ad 0 0)), (1, .int (nI (i))), (2, .int (nI (r))), (3, .int (nI (f))), (4, .int (nI (j)))]) X.1 X.2.1 dX6_open_12 hl (by decide) rfl (fun ls hl => ?_)
    refine lv_iload_n X.1 X.2.1 dX6_open_14 rfl (lv_at hl 5 rfl) ?_
    refine lv_iconst (v := nI 0) X.1 X.2.1 dX6_open_15 (by decide) ?_
    refine lv_aload X.1 X.2.1 dX6_open_16 (lv_at hl 0 rfl) ?_
    refine cg_3_signs X hin3 hW (hsr.1) (hsr.2.1) (hsr.2.2.1) (X.2.2.2.2 (.fieldLink RX6 60 "Strandbook$SignRow" "signs" "[C") (List.mem_cons_of_mem _ (List.mem_append_left _ (List.mem_append_left _ (List.mem_append_left _ (List.mem_append_left _ (List.mem_append_left _ (List.mem_append_left _ (List.mem_of_getElem? (i := 0) rfl))))))))) dX6_open_18 ?_
    refine cln_8 X hW (hsr.2.2.2.1) (hsr.2.2.2.2.1) (hsr.2.2.2.2.2.1) dX6_open_21 ?_
    refine cSv X hW (cg_requirePlaces l (f := f) (j := 0) (n := T 1 (T 2 r)) (by omega) (by omega)) (va_cwS 3 X.2.2.2.2 gX6_open_X6_requirePlaces rfl rfl rfl (by decide +kernel) ⟨Nat.le_of_ble_eq_true rfl, Nat.le_of_ble_eq_true rfl⟩) rfl rfl hl.1 (Nat.le_of_ble_eq_true rfl) dX6_open_22 ⟨Nat.zero_le _, Nat.zero_le _⟩ (fun H locs hW => ?_)
    refine lv_iload X.1 X.2.1 dX6_open_25 (lv_at hl 6 rfl) ?_
    refine lv_i2l (v := lN (j)) X.1 X.2.1 dX6_open_27 (nI_l (by omega)) ?_
    exact cXS Y X hW (cz_requireWanted l hst (Or.inr ((pk_lLT (a := 1000) (by decide) (by omega)).mpr (by omega)))) (va_cwS 1 X.2.2.2.2 gX6_open_X6_requireWanted rfl rfl rfl (by decide +kernel) ⟨Nat.le_of_ble_eq_true rfl, Nat.le_of_ble_eq_true rfl⟩) rfl rfl hl.1 (Nat.le_of_ble_eq_true rfl) dX6_open_28 ⟨Nat.le_of_ble_eq_true rfl, Nat.le_of_ble_eq_true rfl⟩

set_option maxHeartbeats 4000000 in
set_option maxRecDepth 100000 in
theorem cb_openAll_a (l : Launch) {G : va_G} {kT : Nat → ClassId} {L : List Nat} {K : Nat → Nat} {R : pR} {I : pI} {A : mD} {Q : pR} {N : Nat → Nat} (hst : l.stackTraces = false) {T : mT} {D : mD} {ad : pD} (HB : Rep T D ad L K R I A Q N) {x x1 : Int32} (h : oN x 3) : cMt l yX6_openAll wsX6_openAll ({ frames := 7, cells := 1, slots := 6, locals := 121 } : Room) G kT [.ref (ad 0 0), .int (x), .int (x1)] L K R I A Q N "java/lang/IndexOutOfBoundsException" := by
  refine cstt (cc := cX6_openAll) (maxL := 5) (ret := (some .int)) hst (by decide) rfl (Nat.le_of_ble_eq_true rfl) (fun p e s m args below meth c Z Y X hW ls hl => ?_)
  have X : CallFix p m c cX6_openAll 5 s args wsX6_openAll RX6 := X
  have hl : lv_has ls 5 [(0, .ref (ad 0 0)), (1, .int (x)), (2, .int (x1))] := hl
  have hin2 : ∀ w ∈ wsX20, w ∈ wsX6_openAll := fun w h => List.mem_cons_of_mem _ (List.mem_append_left _ (List.mem_append_right _ (h)))
  have hin3 : ∀ w ∈ wsX30, w ∈ wsX6_openAll := fun w h => List.mem_cons_of_mem _ (List.mem_append_left _ (List.mem_append_left _ (List.mem_append_left _ (List.mem_append_right _ (h)))))
  have hin6 : ∀ w ∈ wsX60, w ∈ wsX6_openAll := fun w h => List.mem_cons_of_mem _ (List.mem_append_left _ (List.mem_append_left _ (List.mem_append_right _ (h))))
  refine lv_aload_n X.1 X.2.1 dX6_openAll_0 rfl (lv_at hl 0 rfl) ?_
  refine lv_iload_n X.1 X.2.1 dX6_openAll_1 rfl (lv_at hl 1 rfl) ?_
  exact cXV Y X hW (HB.mem lv_0) (pC_6 (HB.kn lv_0 rfl)) rfl (cz_readerAt l hst HB h) (cwV 1 X.2.2.2.2 gX6_openAll_X6_readerAt rfl rfl rfl (by decide +kernel) ⟨Nat.le_of_ble_eq_true rfl, Nat.le_of_ble_eq_true rfl⟩) rfl rfl hl.1 (Nat.le_of_ble_eq_true rfl) dX6_openAll_2 ⟨Nat.le_of_ble_eq_true rfl, Nat.le_of_ble_eq_true rfl⟩

set_option maxHeartbeats 4000000 in
set_option maxRecDepth 100000 in
theorem cb_openAll_b (l : Launch) {G : va_G} {kT : Nat → ClassId} {L : List Nat} {K : Nat → Nat} {R : pR} {I : pI} {A : mD} {Q : pR} {N : Nat → Nat} (hst : l.stackTraces = false) {T : mT} {D : mD} {ad : pD} (HB : Rep T D ad L K R I A Q N) {i : Nat} {x : Int32} (hi : i < 3) (h : oN x 4) : cMt l yX6_openAll wsX6_openAll ({ frames := 7, cells := 1, slots := 6, locals := 121 } : Room) G kT [.ref (ad 0 0), .int (nI (i)), .int (x)] L K R I A Q N "java/lang/IndexOutOfBoundsException" := by
  refine cstt (cc := cX6_openAll) (maxL := 5) (ret := (some .int)) hst (by decide) rfl (Nat.le_of_ble_eq_true rfl) (fun p e s m args below meth c Z Y X hW ls hl => ?_)
  have X : CallFix p m c cX6_openAll 5 s args wsX6_openAll RX6 := X
  have hl : lv_has ls 5 [(0, .ref (ad 0 0)), (1, .int (nI (i))), (2, .int (x))] := hl
  have hin2 : ∀ w ∈ wsX20, w ∈ wsX6_openAll := fun w h => List.mem_cons_of_mem _ (List.mem_append_left _ (List.mem_append_right _ (h)))
  have hin3 : ∀ w ∈ wsX30, w ∈ wsX6_openAll := fun w h => List.mem_cons_of_mem _ (List.mem_append_left _ (List.mem_append_left _ (List.mem_append_left _ (List.mem_append_right _ (h)))))
  have hin6 : ∀ w ∈ wsX60, w ∈ wsX6_openAll := fun w h => List.mem_cons_of_mem _ (List.mem_append_left _ (List.mem_append_left _ (List.mem_append_right _ (h))))
  refine lv_aload_n X.1 X.2.1 dX6_openAll_0 rfl (lv_at hl 0 rfl) ?_
  refine lv_iload_n X.1 X.2.1 dX6_openAll_1 rfl (lv_at hl 1 rfl) ?_
  refine cVr X hW (HB.mem lv_0) (pC_6 (HB.kn lv_0 rfl)) rfl (cg_readerAt l HB (r := i) (by omega)) (cwV 1 X.2.2.2.2 gX6_openAll_X6_readerAt rfl rfl rfl (by decide +kernel) ⟨Nat.le_of_ble_eq_true rfl, Nat.le_of_ble_eq_true rfl⟩) rfl rfl hl.1 (Nat.le_of_ble_eq_true rfl) dX6_openAll_2 ⟨Nat.zero_le _, Nat.zero_le _⟩ (fun H locs hW => ?_)
  refine lv_astore_n (lv' := [(3, .ref (ad 9 i)), (0, .ref (ad 0 0)), (1, .int (nI (i))), (2, .int (x))]) X.1 X.2.1 dX6_openAll_5 rfl hl (by decide) rfl (fun ls hl => ?_)
  refine lv_aload_n X.1 X.2.1 dX6_openAll_6 rfl (lv_at hl 1 rfl) ?_
  refine lv_iload_n X.1 X.2.1 dX6_openAll_7 rfl (lv_at hl 3 rfl) ?_
  exact cXV Y X hW (HB.mem lv_0) (pC_6 (HB.kn lv_0 rfl)) rfl (cz_signRowAt l hst HB h) (cwV 1 X.2.2.2.2 gX6_openAll_X6_signRowAt rfl rfl rfl (by decide +kernel) ⟨Nat.le_of_ble_eq_true rfl, Nat.le_of_ble_eq_true rfl⟩) rfl rfl hl.1 (Nat.le_of_ble_eq_true rfl) dX6_openAll_8 ⟨Nat.le_of_ble_eq_true rfl, Nat.le_of_ble_eq_true rfl⟩

set_option maxHeartbeats 4000000 in
set_option maxRecDepth 100000 in
theorem cb_shut_a (l : Launch) {G : va_G} {kT : Nat → ClassId} {L : List Nat} {K : Nat → Nat} {R : pR} {I : pI} {A : mD} {Q : pR} {N : Nat → Nat} (hst : l.stackTraces = false) {T : mT} {D : mD} {ad : pD} (HB : Rep T D ad L K R I A Q N) {x : Int32} (h : oN x 3) : cMt l yX6_shut wsX6_shut ({ frames := 7, cells := 1, slots := 6, locals := 121 } : Room) G kT [.ref (ad 0 0), .int (x)] L K R I A Q N "java/lang/IndexOutOfBoundsException" := by
  refine cstt (cc := cX6_shut) (maxL := 4) (ret := (some .int)) hst (by decide) rfl (Nat.le_of_ble_eq_true rfl) (fun p e s m args below meth c Z Y X hW ls hl => ?_)
  have X : CallFix p m c cX6_shut 4 s args wsX6_shut RX6 := X
  have hl : lv_has ls 4 [(0, .ref (ad 0 0)), (1, .int (x))] := hl
  have hin2 : ∀ w ∈ wsX20, w ∈ wsX6_shut := fun w h => List.mem_cons_of_mem _ (List.mem_append_left _ (List.mem_append_left _ (List.mem_append_left _ (List.mem_append_right _ (h)))))
  have hin6 : ∀ w ∈ wsX60, w ∈ wsX6_shut := fun w h => List.mem_cons_of_mem _ (List.mem_append_left _ (List.mem_append_left _ (List.mem_append_right _ (h))))
  refine lv_aload_n X.1 X.2.1 dX6_shut_0 rfl (lv_at hl 0 rfl) ?_
  refine lv_iload_n X.1 X.2.1 dX6_shut_1 rfl (lv_at hl 1 rfl) ?_
  exact cXV Y X hW (HB.mem lv_0) (pC_6 (HB.kn lv_0 rfl)) rfl (cz_readerAt l hst HB h) (cwV 1 X.2.2.2.2 gX6_shut_X6_readerAt rfl rfl rfl (by decide +kernel) ⟨Nat.le_of_ble_eq_true rfl, Nat.le_of_ble_eq_true rfl⟩) rfl rfl hl.1 (Nat.le_of_ble_eq_true rfl) dX6_shut_2 ⟨Nat.le_of_ble_eq_true rfl, Nat.le_of_ble_eq_true rfl⟩

set_option maxHeartbeats 4000000 in
set_option maxRecDepth 100000 in
theorem cb_shut_b (l : Launch) {G : va_G} {kT : Nat → ClassId} {L : List Nat} {K : Nat → Nat} {R : pR} {I : pI} {A : mD} {Q : pR} {N : Nat → Nat} (hst : l.stackTraces = false) {T : mT} {D : mD} {ad : pD} (HB : Rep T D ad L K R I A Q N) {i : Nat} (hi : i < 3) (h8 : T 8 i = 0) : cMt l yX6_shut wsX6_shut ({ frames := 7, cells := 1, slots := 6, locals := 121 } : Room) G kT [.ref (ad 0 0), .int (nI (i))] L K R I A Q N "java/lang/UnsupportedOperationException" := by
  refine cstt (cc := cX6_shut) (maxL := 4) (ret := (some .int)) hst (by decide) rfl (Nat.le_of_ble_eq_true rfl) (fun p e s m args below meth c Z Y X hW ls hl => ?_)
  have X : CallFix p m c cX6_shut 4 s args wsX6_shut RX6 := X
  have hl : lv_has ls 4 [(0, .ref (ad 0 0)), (1, .int (nI (i)))] := hl
  have hin2 : ∀ w ∈ wsX20, w ∈ wsX6_shut := fun w h => List.mem_cons_of_mem _ (List.mem_append_left _ (List.mem_append_left _ (List.mem_append_left _ (List.mem_append_right _ (h)))))
  have hin6 : ∀ w ∈ wsX60, w ∈ wsX6_shut := fun w h => List.mem_cons_of_mem _ (List.mem_append_left _ (List.mem_append_left _ (List.mem_append_right _ (h))))
  refine lv_aload_n X.1 X.2.1 dX6_shut_0 rfl (lv_at hl 0 rfl) ?_
  refine lv_iload_n X.1 X.2.1 dX6_shut_1 rfl (lv_at hl 1 rfl) ?_
  refine cVr X hW (HB.mem lv_0) (pC_6 (HB.kn lv_0 rfl)) rfl (cg_readerAt l HB (r := i) (by omega)) (cwV 1 X.2.2.2.2 gX6_shut_X6_readerAt rfl rfl rfl (by decide +kernel) ⟨Nat.le_of_ble_eq_true rfl, Nat.le_of_ble_eq_true rfl⟩) rfl rfl hl.1 (Nat.le_of_ble_eq_true rfl) dX6_shut_2 ⟨Nat.zero_le _, Nat.zero_le _⟩ (fun H locs hW => ?_)
  refine lv_astore_n (lv' := [(2, .ref (ad 9 i)), (0, .ref (ad 0 0)), (1, .int (nI (i)))]) X.1 X.2.1 dX6_shut_5 rfl hl (by decide) rfl (fun ls hl => ?_)
  refine lv_aload_n X.1 X.2.1 dX6_shut_6 rfl (lv_at hl 0 rfl) ?_
  refine cg_2_isThere X hin2 hW (HB.mem (lv_9 (by omega))) (HB.kn (lv_9 (by omega)) rfl) (((HB.rr i hi).1 h8)) (X.2.2.2.2 (.fieldLink RX6 143 "Strandbook$SignReader" "isThere" "Z") (List.mem_cons_of_mem _ (List.mem_append_left _ (List.mem_append_left _ (List.mem_append_left _ (List.mem_append_left _ (List.mem_of_getElem? (i := 2) rfl))))))) dX6_shut_7 ?_
  refine n_if_ne_f (tgt := 23) X.1 X.2.1 dX6_shut_10 (by decide) (by decide) (by omega) ?_
  exact cTH Y X hW (text := "the reader is not there") (ik := 147) (is := 149) (ic := 151) (by decide +kernel) (List.mem_cons_of_mem _ (List.mem_append_left _ (List.mem_append_left _ (List.mem_append_left _ (List.mem_append_left _ (List.mem_of_getElem? (i := 0) rfl)))))) (List.mem_cons_of_mem _ (List.mem_append_left _ (List.mem_append_left _ (List.mem_append_left _ (List.mem_append_left _ (List.mem_of_getElem? (i := 1) rfl)))))) (by decide +kernel) (fun w h => List.mem_cons_of_mem _ (List.mem_append_left _ (List.mem_append_right _ (h)))) (by decide +kernel) (by decide +kernel) hl.1 dX6_shut_13 dX6_shut_16 dX6_shut_17 dX6_shut_19 dX6_shut_22 (Nat.le_of_ble_eq_true rfl) (Nat.le_of_ble_eq_true rfl) (Nat.le_of_ble_eq_true rfl) (Nat.le_of_ble_eq_true rfl)

set_option maxHeartbeats 4000000 in
set_option maxRecDepth 100000 in
theorem cb_read_a (l : Launch) {G : va_G} {kT : Nat → ClassId} {L : List Nat} {K : Nat → Nat} {R : pR} {I : pI} {A : mD} {Q : pR} {N : Nat → Nat} (hst : l.stackTraces = false) {T : mT} {D : mD} {ad : pD} (HB : Rep T D ad L K R I A Q N) {x : Int32} (h : oN x 3) : cMt l yX6_read wsX6_read ({ frames := 8, cells := 1, slots := 6, locals := 143 } : Room) G kT [.ref (ad 0 0), .int (x)] L K R I A Q N "java/lang/IndexOutOfBoundsException" := by
  refine cstt (cc := cX6_read) (maxL := 2) (ret := (some .int)) hst (by decide) rfl (Nat.le_of_ble_eq_true rfl) (fun p e s m args below meth c Z Y X hW ls hl => ?_)
  have X : CallFix p m c cX6_read 2 s args wsX6_read RX6 := X
  have hl : lv_has ls 2 [(0, .ref (ad 0 0)), (1, .int (x))] := hl
  have hin2 : ∀ w ∈ wsX20, w ∈ wsX6_read := fun w h => List.mem_cons_of_mem _ (List.mem_append_left _ (List.mem_append_left _ (List.mem_append_left _ (List.mem_append_left _ (List.mem_append_left _ (List.mem_append_right _ (h)))))))
  have hin3 : ∀ w ∈ wsX30, w ∈ wsX6_read := fun w h => List.mem_cons_of_mem _ (List.mem_append_left _ (List.mem_append_left _ (List.mem_append_left _ (List.mem_append_right _ (h)))))
  have hin6 : ∀ w ∈ wsX60, w ∈ wsX6_read := fun w h => List.mem_cons_of_mem _ (List.mem_append_left _ (List.mem_append_left _ (List.mem_append_left _ (List.mem_append_left _ (List.mem_append_right _ (h))))))
  refine lv_aload_n X.1 X.2.1 dX6_read_0 rfl (lv_at hl 0 rfl) ?_
  refine lv_iload_n X.1 X.2.1 dX6_read_1 rfl (lv_at hl 1 rfl) ?_
  exact cXV Y X hW (HB.mem lv_0) (pC_6 (HB.kn lv_0 rfl)) rfl (cz_openReaderAt1 l hst HB h) (cwV 1 X.2.2.2.2 gX6_read_X6_openReaderAt rfl rfl rfl (by decide +kernel) ⟨Nat.le_of_ble_eq_true rfl, Nat.le_of_ble_eq_true rfl⟩) rfl rfl hl.1 (Nat.le_of_ble_eq_true rfl) dX6_read_2 ⟨Nat.le_of_ble_eq_true rfl, Nat.le_of_ble_eq_true rfl⟩

set_option maxHeartbeats 4000000 in
set_option maxRecDepth 100000 in
theorem cb_read_b (l : Launch) {G : va_G} {kT : Nat → ClassId} {L : List Nat} {K : Nat → Nat} {R : pR} {I : pI} {A : mD} {Q : pR} {N : Nat → Nat} (hst : l.stackTraces = false) {T : mT} {D : mD} {ad : pD} (HB : Rep T D ad L K R I A Q N) {i : Nat} (hi : i < 3) (h : clo T i) : cMt l yX6_read wsX6_read ({ frames := 8, cells := 1, slots := 6, locals := 143 } : Room) G kT [.ref (ad 0 0), .int (nI (i))] L K R I A Q N "java/lang/UnsupportedOperationException" := by
  refine cstt (cc := cX6_read) (maxL := 2) (ret := (some .int)) hst (by decide) rfl (Nat.le_of_ble_eq_true rfl) (fun p e s m args below meth c Z Y X hW ls hl => ?_)
  have X : CallFix p m c cX6_read 2 s args wsX6_read RX6 := X
  have hl : lv_has ls 2 [(0, .ref (ad 0 0)), (1, .int (nI (i)))] := hl
  have hin2 : ∀ w ∈ wsX20, w ∈ wsX6_read := fun w h => List.mem_cons_of_mem _ (List.mem_append_left _ (List.mem_append_left _ (List.mem_append_left _ (List.mem_append_left _ (List.mem_append_left _ (List.mem_append_right _ (h)))))))
  have hin3 : ∀ w ∈ wsX30, w ∈ wsX6_read := fun w h => List.mem_cons_of_mem _ (List.mem_append_left _ (List.mem_append_left _ (List.mem_append_left _ (List.mem_append_right _ (h)))))
  have hin6 : ∀ w ∈ wsX60, w ∈ wsX6_read := fun w h => List.mem_cons_of_mem _ (List.mem_append_left _ (List.mem_append_left _ (List.mem_append_left _ (List.mem_append_left _ (List.mem_append_right _ (h))))))
  refine lv_aload_n X.1 X.2.1 dX6_read_0 rfl (lv_at hl 0 rfl) ?_
  refine lv_iload_n X.1 X.2.1 dX6_read_1 rfl (lv_at hl 1 rfl) ?_
  exact cXV Y X hW (HB.mem lv_0) (pC_6 (HB.kn lv_0 rfl)) rfl (cz_openReaderAt l hst HB hi h) (cwV 1 X.2.2.2.2 gX6_read_X6_openReaderAt rfl rfl rfl (by decide +kernel) ⟨Nat.le_of_ble_eq_true rfl, Nat.le_of_ble_eq_true rfl⟩) rfl rfl hl.1 (Nat.le_of_ble_eq_true rfl) dX6_read_2 ⟨Nat.le_of_ble_eq_true rfl, Nat.le_of_ble_eq_true rfl⟩

set_option maxHeartbeats 4000000 in
set_option maxRecDepth 100000 in
theorem cb_skip_a (l : Launch) {G : va_G} {kT : Nat → ClassId} {L : List Nat} {K : Nat → Nat} {R : pR} {I : pI} {A : mD} {Q : pR} {N : Nat → Nat} (hst : l.stackTraces = false) {T : mT} {D : mD} {ad : pD} (HB : Rep T D ad L K R I A Q N) {lm : Int64} {x : Int32} (h : oN x 3) : cMt l yX6_skip wsX6_skip ({ frames := 8, cells := 1, slots := 6, locals := 143 } : Room) G kT [.ref (ad 0 0), .int (x), .long (lm)] L K R I A Q N "java/lang/IndexOutOfBoundsException" := by
  refine cstt (cc := cX6_skip) (maxL := 4) (ret := (some .long)) hst (by decide) rfl (Nat.le_of_ble_eq_true rfl) (fun p e s m args below meth c Z Y X hW ls hl => ?_)
  have X : CallFix p m c cX6_skip 4 s args wsX6_skip RX6 := X
  have hl : lv_has ls 4 [(0, .ref (ad 0 0)), (1, .int (x)), (2, .long (lm))] := hl
  have hin2 : ∀ w ∈ wsX20, w ∈ wsX6_skip := fun w h => List.mem_cons_of_mem _ (List.mem_append_left _ (List.mem_append_left _ (List.mem_append_left _ (List.mem_append_right _ (h)))))
  have hin6 : ∀ w ∈ wsX60, w ∈ wsX6_skip := fun w h => List.mem_cons_of_mem _ (List.mem_append_left _ (List.mem_append_left _ (List.mem_append_right _ (h))))
  refine lv_aload_n X.1 X.2.1 dX6_skip_0 rfl (lv_at hl 0 rfl) ?_
  refine lv_iload_n X.1 X.2.1 dX6_skip_1 rfl (lv_at hl 1 rfl) ?_
  exact cXV Y X hW (HB.mem lv_0) (pC_6 (HB.kn lv_0 rfl)) rfl (cz_openReaderAt1 l hst HB h) (cwV 1 X.2.2.2.2 gX6_skip_X6_openReaderAt rfl rfl rfl (by decide +kernel) ⟨Nat.le_of_ble_eq_true rfl, Nat.le_of_ble_eq_true rfl⟩) rfl rfl hl.1 (Nat.le_of_ble_eq_true rfl) dX6_skip_2 ⟨Nat.le_of_ble_eq_true rfl, Nat.le_of_ble_eq_true rfl⟩

set_option maxHeartbeats 4000000 in
set_option maxRecDepth 100000 in
theorem cb_skip_b (l : Launch) {G : va_G} {kT : Nat → ClassId} {L : List Nat} {K : Nat → Nat} {R : pR} {I : pI} {A : mD} {Q : pR} {N : Nat → Nat} (hst : l.stackTraces = false) {T : mT} {D : mD} {ad : pD} (HB : Rep T D ad L K R I A Q N) {lm : Int64} {i : Nat} (hi : i < 3) (h : clo T i) : cMt l yX6_skip wsX6_skip ({ frames := 8, cells := 1, slots := 6, locals := 143 } : Room) G kT [.ref (ad 0 0), .int (nI (i)), .long (lm)] L K R I A Q N "java/lang/UnsupportedOperationException" := by
  refine cstt (cc := cX6_skip) (maxL := 4) (ret := (some .long)) hst (by decide) rfl (Nat.le_of_ble_eq_true rfl) (fun p e s m args below meth c Z Y X hW ls hl => ?_)
  have X : CallFix p m c cX6_skip 4 s args wsX6_skip RX6 := X
  have hl : lv_has ls 4 [(0, .ref (ad 0 0)), (1, .int (nI (i))), (2, .long (lm))] := hl
  have hin2 : ∀ w ∈ wsX20, w ∈ wsX6_skip := fun w h => List.mem_cons_of_mem _ (List.mem_append_left _ (List.mem_append_left _ (List.mem_append_left _ (List.mem_append_right _ (h)))))
  have hin6 : ∀ w ∈ wsX60, w ∈ wsX6_skip := fun w h => List.mem_cons_of_mem _ (List.mem_append_left _ (List.mem_append_left _ (List.mem_append_right _ (h))))
  refine lv_aload_n X.1 X.2.1 dX6_skip_0 rfl (lv_at hl 0 rfl) ?_
  refine lv_iload_n X.1 X.2.1 dX6_skip_1 rfl (lv_at hl 1 rfl) ?_
  exact cXV Y X hW (HB.mem lv_0) (pC_6 (HB.kn lv_0 rfl)) rfl (cz_openReaderAt l hst HB hi h) (cwV 1 X.2.2.2.2 gX6_skip_X6_openReaderAt rfl rfl rfl (by decide +kernel) ⟨Nat.le_of_ble_eq_true rfl, Nat.le_of_ble_eq_true rfl⟩) rfl rfl hl.1 (Nat.le_of_ble_eq_true rfl) dX6_skip_2 ⟨Nat.le_of_ble_eq_true rfl, Nat.le_of_ble_eq_true rfl⟩

set_option maxHeartbeats 4000000 in
set_option maxRecDepth 100000 in
theorem cb_back_a (l : Launch) {G : va_G} {kT : Nat → ClassId} {L : List Nat} {K : Nat → Nat} {R : pR} {I : pI} {A : mD} {Q : pR} {N : Nat → Nat} (hst : l.stackTraces = false) {T : mT} {D : mD} {ad : pD} (HB : Rep T D ad L K R I A Q N) {x : Int32} (h : oN x 3) : cMt l yX6_back wsX6_back ({ frames := 8, cells := 1, slots := 6, locals := 143 } : Room) G kT [.ref (ad 0 0), .int (x)] L K R I A Q N "java/lang/IndexOutOfBoundsException" := by
  refine cstt (cc := cX6_back) (maxL := 3) (ret := (some .int)) hst (by decide) rfl (Nat.le_of_ble_eq_true rfl) (fun p e s m args below meth c Z Y X hW ls hl => ?_)
  have X : CallFix p m c cX6_back 3 s args wsX6_back RX6 := X
  have hl : lv_has ls 3 [(0, .ref (ad 0 0)), (1, .int (x))] := hl
  have hin2 : ∀ w ∈ wsX20, w ∈ wsX6_back := fun w h => List.mem_cons_of_mem _ (List.mem_append_left _ (List.mem_append_left _ (List.mem_append_left _ (List.mem_append_right _ (h)))))
  have hin6 : ∀ w ∈ wsX60, w ∈ wsX6_back := fun w h => List.mem_cons_of_mem _ (List.mem_append_left _ (List.mem_append_left _ (List.mem_append_right _ (h))))
  refine lv_aload_n X.1 X.2.1 dX6_back_0 rfl (lv_at hl 0 rfl) ?_
  refine lv_iload_n X.1 X.2.1 dX6_back_1 rfl (lv_at hl 1 rfl) ?_
  exact cXV Y X hW (HB.mem lv_0) (pC_6 (HB.kn lv_0 rfl)) rfl (cz_openReaderAt1 l hst HB h) (cwV 1 X.2.2.2.2 gX6_back_X6_openReaderAt rfl rfl rfl (by decide +kernel) ⟨Nat.le_of_ble_eq_true rfl, Nat.le_of_ble_eq_true rfl⟩) rfl rfl hl.1 (Nat.le_of_ble_eq_true rfl) dX6_back_2 ⟨Nat.le_of_ble_eq_true rfl, Nat.le_of_ble_eq_true rfl⟩

set_option maxHeartbeats 4000000 in
set_option maxRecDepth 100000 in
theorem cb_back_b (l : Launch) {G : va_G} {kT : Nat → ClassId} {L : List Nat} {K : Nat → Nat} {R : pR} {I : pI} {A : mD} {Q : pR} {N : Nat → Nat} (hst : l.stackTraces = false) {T : mT} {D : mD} {ad : pD} (HB : Rep T D ad L K R I A Q N) {i : Nat} (hi : i < 3) (h : clo T i) : cMt l yX6_back wsX6_back ({ frames := 8, cells := 1, slots := 6, locals := 143 } : Room) G kT [.ref (ad 0 0), .int (nI (i))] L K R I A Q N "java/lang/UnsupportedOperationException" := by
  refine cstt (cc := cX6_back) (maxL := 3) (ret := (some .int)) hst (by decide) rfl (Nat.le_of_ble_eq_true rfl) (fun p e s m args below meth c Z Y X hW ls hl => ?_)
  have X : CallFix p m c cX6_back 3 s args wsX6_back RX6 := X
  have hl : lv_has ls 3 [(0, .ref (ad 0 0)), (1, .int (nI (i)))] := hl
  have hin2 : ∀ w ∈ wsX20, w ∈ wsX6_back := fun w h => List.mem_cons_of_mem _ (List.mem_append_left _ (List.mem_append_left _ (List.mem_append_left _ (List.mem_append_right _ (h)))))
  have hin6 : ∀ w ∈ wsX60, w ∈ wsX6_back := fun w h => List.mem_cons_of_mem _ (List.mem_append_left _ (List.mem_append_left _ (List.mem_append_right _ (h))))
  refine lv_aload_n X.1 X.2.1 dX6_back_0 rfl (lv_at hl 0 rfl) ?_
  refine lv_iload_n X.1 X.2.1 dX6_back_1 rfl (lv_at hl 1 rfl) ?_
  exact cXV Y X hW (HB.mem lv_0) (pC_6 (HB.kn lv_0 rfl)) rfl (cz_openReaderAt l hst HB hi h) (cwV 1 X.2.2.2.2 gX6_back_X6_openReaderAt rfl rfl rfl (by decide +kernel) ⟨Nat.le_of_ble_eq_true rfl, Nat.le_of_ble_eq_true rfl⟩) rfl rfl hl.1 (Nat.le_of_ble_eq_true rfl) dX6_back_2 ⟨Nat.le_of_ble_eq_true rfl, Nat.le_of_ble_eq_true rfl⟩

set_option maxHeartbeats 4000000 in
set_option maxRecDepth 100000 in
theorem cb_mark_a (l : Launch) {G : va_G} {kT : Nat → ClassId} {L : List Nat} {K : Nat → Nat} {R : pR} {I : pI} {A : mD} {Q : pR} {N : Nat → Nat} (hst : l.stackTraces = false) {T : mT} {D : mD} {ad : pD} (HB : Rep T D ad L K R I A Q N) {x x1 : Int32} (h : oN x 3) : cMt l yX6_mark wsX6_mark ({ frames := 8, cells := 1, slots := 6, locals := 143 } : Room) G kT [.ref (ad 0 0), .int (x), .int (x1)] L K R I A Q N "java/lang/IndexOutOfBoundsException" := by
  refine cstt (cc := cX6_mark) (maxL := 4) (ret := (some .int)) hst (by decide) rfl (Nat.le_of_ble_eq_true rfl) (fun p e s m args below meth c Z Y X hW ls hl => ?_)
  have X : CallFix p m c cX6_mark 4 s args wsX6_mark RX6 := X
  have hl : lv_has ls 4 [(0, .ref (ad 0 0)), (1, .int (x)), (2, .int (x1))] := hl
  have hin2 : ∀ w ∈ wsX20, w ∈ wsX6_mark := fun w h => List.mem_cons_of_mem _ (List.mem_append_left _ (List.mem_append_left _ (List.mem_append_left _ (List.mem_append_left _ (List.mem_append_right _ (h))))))
  have hin6 : ∀ w ∈ wsX60, w ∈ wsX6_mark := fun w h => List.mem_cons_of_mem _ (List.mem_append_left _ (List.mem_append_left _ (List.mem_append_left _ (List.mem_append_right _ (h)))))
  refine lv_aload_n X.1 X.2.1 dX6_mark_0 rfl (lv_at hl 0 rfl) ?_
  refine lv_iload_n X.1 X.2.1 dX6_mark_1 rfl (lv_at hl 1 rfl) ?_
  exact cXV Y X hW (HB.mem lv_0) (pC_6 (HB.kn lv_0 rfl)) rfl (cz_readerAt l hst HB h) (cwV 1 X.2.2.2.2 gX6_mark_X6_readerAt rfl rfl rfl (by decide +kernel) ⟨Nat.le_of_ble_eq_true rfl, Nat.le_of_ble_eq_true rfl⟩) rfl rfl hl.1 (Nat.le_of_ble_eq_true rfl) dX6_mark_2 ⟨Nat.le_of_ble_eq_true rfl, Nat.le_of_ble_eq_true rfl⟩

set_option maxHeartbeats 4000000 in
set_option maxRecDepth 100000 in
theorem cb_mark_b (l : Launch) {G : va_G} {kT : Nat → ClassId} {L : List Nat} {K : Nat → Nat} {R : pR} {I : pI} {A : mD} {Q : pR} {N : Nat → Nat} (hst : l.stackTraces = false) {T : mT} {D : mD} {ad : pD} (HB : Rep T D ad L K R I A Q N) {i : Nat} {x : Int32} (hi : i < 3) (h : x < 0) : cMt l yX6_mark wsX6_mark ({ frames := 8, cells := 1, slots := 6, locals := 143 } : Room) G kT [.ref (ad 0 0), .int (nI (i)), .int (x)] L K R I A Q N "java/lang/IllegalArgumentException" := by
  refine cstt (cc := cX6_mark) (maxL := 4) (ret := (some .int)) hst (by decide) rfl (Nat.le_of_ble_eq_true rfl) (fun p e s m args below meth c Z Y X hW ls hl => ?_)
  have X : CallFix p m c cX6_mark 4 s args wsX6_mark RX6 := X
  have hl : lv_has ls 4 [(0, .ref (ad 0 0)), (1, .int (nI (i))), (2, .int (x))] := hl
  have hin2 : ∀ w ∈ wsX20, w ∈ wsX6_mark := fun w h => List.mem_cons_of_mem _ (List.mem_append_left _ (List.mem_append_left _ (List.mem_append_left _ (List.mem_append_left _ (List.mem_append_right _ (h))))))
  have hin6 : ∀ w ∈ wsX60, w ∈ wsX6_mark := fun w h => List.mem_cons_of_mem _ (List.mem_append_left _ (List.mem_append_left _ (List.mem_append_left _ (List.mem_append_right _ (h)))))
  refine lv_aload_n X.1 X.2.1 dX6_mark_0 rfl (lv_at hl 0 rfl) ?_
  refine lv_iload_n X.1 X.2.1 dX6_mark_1 rfl (lv_at hl 1 rfl) ?_
  refine cVr X hW (HB.mem lv_0) (pC_6 (HB.kn lv_0 rfl)) rfl (cg_readerAt l HB (r := i) (by omega)) (cwV 1 X.2.2.2.2 gX6_mark_X6_readerAt rfl rfl rfl (by decide +kernel) ⟨Nat.le_of_ble_eq_true rfl, Nat.le_of_ble_eq_true rfl⟩) rfl rfl hl.1 (Nat.le_of_ble_eq_true rfl) dX6_mark_2 ⟨Nat.zero_le _, Nat.zero_le _⟩ (fun H locs hW => ?_)
  refine lv_pop X.1 X.2.1 dX6_mark_5 rfl ?_
  refine lv_iload_n X.1 X.2.1 dX6_mark_6 rfl (lv_at hl 2 rfl) ?_
  refine x_if_ge_f (tgt := 20) X.1 X.2.1 dX6_mark_7 (by decide) (Int32.not_le.mpr h) ?_
  exact cTH Y X hW (text := "the limit is below 0") (ik := 64) (is := 181) (ic := 68) (by decide +kernel) (List.mem_cons_of_mem _ (List.mem_append_left _ (List.mem_append_left _ (List.mem_append_left _ (List.mem_append_left _ (List.mem_append_left _ (List.mem_append_left _ (List.mem_of_getElem? (i := 0) rfl)))))))) (List.mem_cons_of_mem _ (List.mem_append_left _ (List.mem_append_left _ (List.mem_append_left _ (List.mem_append_left _ (List.mem_append_left _ (List.mem_append_left _ (List.mem_of_getElem? (i := 1) rfl)))))))) (by decide +kernel) (fun w h => List.mem_cons_of_mem _ (List.mem_append_left _ (List.mem_append_left _ (List.mem_append_right _ (h))))) (by decide +kernel) (by decide +kernel) hl.1 dX6_mark_10 dX6_mark_13 dX6_mark_14 dX6_mark_16 dX6_mark_19 (Nat.le_of_ble_eq_true rfl) (Nat.le_of_ble_eq_true rfl) (Nat.le_of_ble_eq_true rfl) (Nat.le_of_ble_eq_true rfl)

set_option maxHeartbeats 4000000 in
set_option maxRecDepth 100000 in
theorem cb_mark_c (l : Launch) {G : va_G} {kT : Nat → ClassId} {L : List Nat} {K : Nat → Nat} {R : pR} {I : pI} {A : mD} {Q : pR} {N : Nat → Nat} (hst : l.stackTraces = false) {T : mT} {D : mD} {ad : pD} (HB : Rep T D ad L K R I A Q N) {i : Nat} {x : Int32} (hi : i < 3) (hx : ¬ x < 0) (h : clo T i) : cMt l yX6_mark wsX6_mark ({ frames := 8, cells := 1, slots := 6, locals := 143 } : Room) G kT [.ref (ad 0 0), .int (nI (i)), .int (x)] L K R I A Q N "java/lang/UnsupportedOperationException" := by
  refine cstt (cc := cX6_mark) (maxL := 4) (ret := (some .int)) hst (by decide) rfl (Nat.le_of_ble_eq_true rfl) (fun p e s m args below meth c Z Y X hW ls hl => ?_)
  have X : CallFix p m c cX6_mark 4 s args wsX6_mark RX6 := X
  have hl : lv_has ls 4 [(0, .ref (ad 0 0)), (1, .int (nI (i))), (2, .int (x))] := hl
  have hin2 : ∀ w ∈ wsX20, w ∈ wsX6_mark := fun w h => List.mem_cons_of_mem _ (List.mem_append_left _ (List.mem_append_left _ (List.mem_append_left _ (List.mem_append_left _ (List.mem_append_right _ (h))))))
  have hin6 : ∀ w ∈ wsX60, w ∈ wsX6_mark := fun w h => List.mem_cons_of_mem _ (List.mem_append_left _ (List.mem_append_left _ (List.mem_append_left _ (List.mem_append_right _ (h)))))
  refine lv_aload_n X.1 X.2.1 dX6_mark_0 rfl (lv_at hl 0 rfl) ?_
  refine lv_iload_n X.1 X.2.1 dX6_mark_1 rfl (lv_at hl 1 rfl) ?_
  refine cVr X hW (HB.mem lv_0) (pC_6 (HB.kn lv_0 rfl)) rfl (cg_readerAt l HB (r := i) (by omega)) (cwV 1 X.2.2.2.2 gX6_mark_X6_readerAt rfl rfl rfl (by decide +kernel) ⟨Nat.le_of_ble_eq_true rfl, Nat.le_of_ble_eq_true rfl⟩) rfl rfl hl.1 (Nat.le_of_ble_eq_true rfl) dX6_mark_2 ⟨Nat.zero_le _, Nat.zero_le _⟩ (fun H locs hW => ?_)
  refine lv_pop X.1 X.2.1 dX6_mark_5 rfl ?_
  refine lv_iload_n X.1 X.2.1 dX6_mark_6 rfl (lv_at hl 2 rfl) ?_
  refine x_if_ge_t (tgt := 20) X.1 X.2.1 dX6_mark_7 (by decide) (Int32.not_lt.mp hx) ?_
  refine lv_aload_n X.1 X.2.1 dX6_mark_20 rfl (lv_at hl 0 rfl) ?_
  refine lv_iload_n X.1 X.2.1 dX6_mark_21 rfl (lv_at hl 1 rfl) ?_
  exact cXV Y X hW (HB.mem lv_0) (pC_6 (HB.kn lv_0 rfl)) rfl (cz_openReaderAt l hst HB hi h) (cwV 1 X.2.2.2.2 gX6_mark_X6_openReaderAt rfl rfl rfl (by decide +kernel) ⟨Nat.le_of_ble_eq_true rfl, Nat.le_of_ble_eq_true rfl⟩) rfl rfl hl.1 (Nat.le_of_ble_eq_true rfl) dX6_mark_22 ⟨Nat.le_of_ble_eq_true rfl, Nat.le_of_ble_eq_true rfl⟩

set_option maxHeartbeats 4000000 in
set_option maxRecDepth 100000 in
theorem cb_readPart_a (l : Launch) {G : va_G} {kT : Nat → ClassId} {L : List Nat} {K : Nat → Nat} {R : pR} {I : pI} {A : mD} {Q : pR} {N : Nat → Nat} (hst : l.stackTraces = false) {T : mT} {D : mD} {ad : pD} (HB : Rep T D ad L K R I A Q N) {x x1 x2 x3 : Int32} (h : oN x 3) : cMt l yX6_readPart wsX6_readPart ({ frames := 8, cells := 1, slots := 6, locals := 143 } : Room) G kT [.ref (ad 0 0), .int (x), .int (x1), .int (x2), .int (x3)] L K R I A Q N "java/lang/IndexOutOfBoundsException" := by
  refine cstt (cc := cX6_readPart) (maxL := 7) (ret := (some .int)) hst (by decide) rfl (Nat.le_of_ble_eq_true rfl) (fun p e s m args below meth c Z Y X hW ls hl => ?_)
  have X : CallFix p m c cX6_readPart 7 s args wsX6_readPart RX6 := X
  have hl : lv_has ls 7 [(0, .ref (ad 0 0)), (1, .int (x)), (2, .int (x1)), (3, .int (x2)), (4, .int (x3))] := hl
  have hin2 : ∀ w ∈ wsX20, w ∈ wsX6_readPart := fun w h => List.mem_cons_of_mem _ (List.mem_append_left _ (List.mem_append_left _ (List.mem_append_left _ (List.mem_append_left _ (List.mem_append_left _ (List.mem_append_left _ (List.mem_append_right _ (h))))))))
  have hin3 : ∀ w ∈ wsX30, w ∈ wsX6_readPart := fun w h => List.mem_cons_of_mem _ (List.mem_append_left _ (List.mem_append_left _ (List.mem_append_left _ (List.mem_append_left _ (List.mem_append_left _ (List.mem_append_left _ (List.mem_append_left _ (List.mem_append_right _ (h)))))))))
  have hin6 : ∀ w ∈ wsX60, w ∈ wsX6_readPart := fun w h => List.mem_cons_of_mem _ (List.mem_append_left _ (List.mem_append_left _ (List.mem_append_left _ (List.mem_append_left _ (List.mem_append_left _ (List.mem_append_right _ (h)))))))
  refine lv_aload_n X.1 X.2.1 dX6_readPart_0 rfl (lv_at hl 0 rfl) ?_
  refine lv_iload_n X.1 X.2.1 dX6_readPart_1 rfl (lv_at hl 1 rfl) ?_
  exact cXV Y X hW (HB.mem lv_0) (pC_6 (HB.kn lv_0 rfl)) rfl (cz_readerAt l hst HB h) (cwV 1 X.2.2.2.2 gX6_readPart_X6_readerAt rfl rfl rfl (by decide +kernel) ⟨Nat.le_of_ble_eq_true rfl, Nat.le_of_ble_eq_true rfl⟩) rfl rfl hl.1 (Nat.le_of_ble_eq_true rfl) dX6_readPart_2 ⟨Nat.le_of_ble_eq_true rfl, Nat.le_of_ble_eq_true rfl⟩

set_option maxHeartbeats 4000000 in
set_option maxRecDepth 100000 in
theorem cb_readPart_b (l : Launch) {G : va_G} {kT : Nat → ClassId} {L : List Nat} {K : Nat → Nat} {R : pR} {I : pI} {A : mD} {Q : pR} {N : Nat → Nat} (hst : l.stackTraces = false) {T : mT} {D : mD} {ad : pD} (HB : Rep T D ad L K R I A Q N) {i : Nat} {x x1 x2 : Int32} (hi : i < 3) (h : oN x 4) : cMt l yX6_readPart wsX6_readPart ({ frames := 8, cells := 1, slots := 6, locals := 143 } : Room) G kT [.ref (ad 0 0), .int (nI (i)), .int (x), .int (x1), .int (x2)] L K R I A Q N "java/lang/IndexOutOfBoundsException" := by
  refine cstt (cc := cX6_readPart) (maxL := 7) (ret := (some .int)) hst (by decide) rfl (Nat.le_of_ble_eq_true rfl) (fun p e s m args below meth c Z Y X hW ls hl => ?_)
  have X : CallFix p m c cX6_readPart 7 s args wsX6_readPart RX6 := X
  have hl : lv_has ls 7 [(0, .ref (ad 0 0)), (1, .int (nI (i))), (2, .int (x)), (3, .int (x1)), (4, .int (x2))] := hl
  have hin2 : ∀ w ∈ wsX20, w ∈ wsX6_readPart := fun w h => List.mem_cons_of_mem _ (List.mem_append_left _ (List.mem_append_left _ (List.mem_append_left _ (List.mem_append_left _ (List.mem_append_left _ (List.mem_append_left _ (List.mem_append_right _ (h))))))))
  have hin3 : ∀ w ∈ wsX30, w ∈ wsX6_readPart := fun w h => List.mem_cons_of_mem _ (List.mem_append_left _ (List.mem_append_left _ (List.mem_append_left _ (List.mem_append_left _ (List.mem_append_left _ (List.mem_append_left _ (List.mem_append_left _ (List.mem_append_right _ (h)))))))))
  have hin6 : ∀ w ∈ wsX60, w ∈ wsX6_readPart := fun w h => List.mem_cons_of_mem _ (List.mem_append_left _ (List.mem_append_left _ (List.mem_append_left _ (List.mem_append_left _ (List.mem_append_left _ (List.mem_append_right _ (h)))))))
  refine lv_aload_n X.1 X.2.1 dX6_readPart_0 rfl (lv_at hl 0 rfl) ?_
  refine lv_iload_n X.1 X.2.1 dX6_readPart_1 rfl (lv_at hl 1 rfl) ?_
  refine cVr X hW (HB.mem lv_0) (pC_6 (HB.kn lv_0 rfl)) rfl (cg_readerAt l HB (r := i) (by omega)) (cwV 1 X.2.2.2.2 gX6_readPart_X6_readerAt rfl rfl rfl (by decide +kernel) ⟨Nat.le_of_ble_eq_true rfl, Nat.le_of_ble_eq_true rfl⟩) rfl rfl hl.1 (Nat.le_of_ble_eq_true rfl) dX6_readPart_2 ⟨Nat.zero_le _, Nat.zero_le _⟩ (fun H locs hW => ?_)
  refine lv_pop X.1 X.2.1 dX6_readPart_5 rfl ?_
  refine lv_aload_n X.1 X.2.1 dX6_readPart_6 rfl (lv_at hl 0 rfl) ?_
  refine lv_iload_n X.1 X.2.1 dX6_readPart_7 rfl (lv_at hl 2 rfl) ?_
  exact cXV Y X hW (HB.mem lv_0) (pC_6 (HB.kn lv_0 rfl)) rfl (cz_signRowAt l hst HB h) (cwV 1 X.2.2.2.2 gX6_readPart_X6_signRowAt rfl rfl rfl (by decide +kernel) ⟨Nat.le_of_ble_eq_true rfl, Nat.le_of_ble_eq_true rfl⟩) rfl rfl hl.1 (Nat.le_of_ble_eq_true rfl) dX6_readPart_8 ⟨Nat.le_of_ble_eq_true rfl, Nat.le_of_ble_eq_true rfl⟩

set_option maxHeartbeats 4000000 in
set_option maxRecDepth 100000 in
theorem cb_readPart_c (l : Launch) {G : va_G} {kT : Nat → ClassId} {L : List Nat} {K : Nat → Nat} {R : pR} {I : pI} {A : mD} {Q : pR} {N : Nat → Nat} (hst : l.stackTraces = false) {T : mT} {D : mD} {ad : pD} (HB : Rep T D ad L K R I A Q N) {i r : Nat} {x x1 : Int32} (hi : i < 3) (hr : r < 4) (h : oP (T 1 (T 2 r)) x x1) : cMt l yX6_readPart wsX6_readPart ({ frames := 8, cells := 1, slots := 6, locals := 143 } : Room) G kT [.ref (ad 0 0), .int (nI (i)), .int (nI (r)), .int (x), .int (x1)] L K R I A Q N "java/lang/IndexOutOfBoundsException" := by
  refine cstt (cc := cX6_readPart) (maxL := 7) (ret := (some .int)) hst (by decide) rfl (Nat.le_of_ble_eq_true rfl) (fun p e s m args below meth c Z Y X hW ls hl => ?_)
  have X : CallFix p m c cX6_readPart 7 s args wsX6_readPart RX6 := X
  have hl : lv_has ls 7 [(0, .ref (ad 0 0)), (1, .int (nI (i))), (2, .int (nI (r))), (3, .int (x)), (4, .int (x1))] := hl
  have hin2 : ∀ w ∈ wsX20, w ∈ wsX6_readPart := fun w h => List.mem_cons_of_mem _ (List.mem_append_left _ (List.mem_append_left _ (List.mem_append_left _ (List.mem_append_left _ (List.mem_append_left _ (List.mem_append_left _ (List.mem_append_right _ (h))))))))
  have hin3 : ∀ w ∈ wsX30, w ∈ wsX6_readPart := fun w h => List.mem_cons_of_mem _ (List.mem_append_left _ (List.mem_append_left _ (List.mem_append_left _ (List.mem_append_left _ (List.mem_append_left _ (List.mem_append_left _ (List.mem_append_left _ (List.mem_append_right _ (h)))))))))
  have hin6 : ∀ w ∈ wsX60, w ∈ wsX6_readPart := fun w h => List.mem_cons_of_mem _ (List.mem_append_left _ (List.mem_append_left _ (List.mem_append_left _ (List.mem_append_left _ (List.mem_append_left _ (List.mem_append_right _ (h)))))))
  have hu := uS_row (T := T) hr
  have hsr := HB.sr hu
  have hl9 := hsr.2.2.2.2.2.2
  refine lv_aload_n X.1 X.2.1 dX6_readPart_0 rfl (lv_at hl 0 rfl) ?_
  refine lv_iload_n X.1 X.2.1 dX6_readPart_1 rfl (lv_at hl 1 rfl) ?_
  refine cVr X hW (HB.mem lv_0) (pC_6 (HB.kn lv_0 rfl)) rfl (cg_readerAt l HB (r := i) (by omega)) (cwV 1 X.2.2.2.2 gX6_readPart_X6_readerAt rfl rfl rfl (by decide +kernel) ⟨Nat.le_of_ble_eq_true rfl, Nat.le_of_ble_eq_true rfl⟩) rfl rfl hl.1 (Nat.le_of_ble_eq_true rfl) dX6_readPart_2 ⟨Nat.zero_le _, Nat.zero_le _⟩ (fun H locs hW => ?_)
  refine lv_pop X.1 X.2.1 dX6_readPart_5 rfl ?_
  refine lv_aload_n X.1 X.2.1 dX6_readPart_6 rfl (lv_at hl 0 rfl) ?_
  refine lv_iload_n X.1 X.2.1 dX6_readPart_7 rfl (lv_at hl 2 rfl) ?_
  refine cVr X hW (HB.mem lv_0) (pC_6 (HB.kn lv_0 rfl)) rfl (cg_signRowAt l HB (r := r) (by omega)) (cwV 1 X.2.2.2.2 gX6_readPart_X6_signRowAt rfl rfl rfl (by decide +kernel) ⟨Nat.le_of_ble_eq_true rfl, Nat.le_of_ble_eq_true rfl⟩) rfl rfl hl.1 (Nat.le_of_ble_eq_true rfl) dX6_readPart_8 ⟨Nat.zero_le _, Nat.zero_le _⟩ (fun H locs hW => ?_)
  refine lv_astore (lv' := [(5, .ref (ad 3 (T 2 r))), (0, .ref (ad 0 0)), (1, .int (nI (i))), (2, .int (nI (r))), (3, .int (x)), (4, .int (x1))]) X.1 X.2.1 dX6_readPart_11 hl (by decide) rfl (fun ls hl => ?_)
  refine lv_iload_n X.1 X.2.1 dX6_readPart_13 rfl (lv_at hl 4 rfl) ?_
  refine lv_iload X.1 X.2.1 dX6_readPart_14 (lv_at hl 5 rfl) ?_
  refine lv_aload X.1 X.2.1 dX6_readPart_16 (lv_at hl 0 rfl) ?_
  refine cg_3_signs X hin3 hW (hsr.1) (hsr.2.1) (hsr.2.2.1) (X.2.2.2.2 (.fieldLink RX6 60 "Strandbook$SignRow" "signs" "[C") (List.mem_cons_of_mem _ (List.mem_append_left _ (List.mem_append_left _ (List.mem_append_left _ (List.mem_append_left _ (List.mem_append_left _ (List.mem_append_left _ (List.mem_append_left _ (List.mem_append_left _ (List.mem_append_left _ (List.mem_of_getElem? (i := 2) rfl)))))))))))) dX6_readPart_18 ?_
  refine cln_8 X hW (hsr.2.2.2.1) (hsr.2.2.2.2.1) (hsr.2.2.2.2.2.1) dX6_readPart_21 ?_
  exact cXS Y X hW (cz_requirePlaces l hst (by omega) h) (va_cwS 3 X.2.2.2.2 gX6_readPart_X6_requirePlaces rfl rfl rfl (by decide +kernel) ⟨Nat.le_of_ble_eq_true rfl, Nat.le_of_ble_eq_true rfl⟩) rfl rfl hl.1 (Nat.le_of_ble_eq_true rfl) dX6_readPart_22 ⟨Nat.le_of_ble_eq_true rfl, Nat.le_of_ble_eq_true rfl⟩

set_option maxHeartbeats 4000000 in
set_option maxRecDepth 100000 in
theorem cb_readPart_d (l : Launch) {G : va_G} {kT : Nat → ClassId} {L : List Nat} {K : Nat → Nat} {R : pR} {I : pI} {A : mD} {Q : pR} {N : Nat → Nat} (hst : l.stackTraces = false) {T : mT} {D : mD} {ad : pD} (HB : Rep T D ad L K R I A Q N) {i r f : Nat} (hi : i < 3) (hr : r < 4) (hf : f + 0 ≤ T 1 (T 2 r)) : cMt l yX6_readPart wsX6_readPart ({ frames := 8, cells := 1, slots := 6, locals := 143 } : Room) G kT [.ref (ad 0 0), .int (nI (i)), .int (nI (r)), .int (nI (f)), .int (nI (0))] L K R I A Q N "java/lang/IllegalArgumentException" := by
  refine cstt (cc := cX6_readPart) (maxL := 7) (ret := (some .int)) hst (by decide) rfl (Nat.le_of_ble_eq_true rfl) (fun p e s m args below meth c Z Y X hW ls hl => ?_)
  have X : CallFix p m c cX6_readPart 7 s args wsX6_readPart RX6 := X
  have hl : lv_has ls 7 [(0, .ref (ad 0 0)), (1, .int (nI (i))), (2, .int (nI (r))), (3, .int (nI (f))), (4, .int (nI (0)))] := hl
  have hin2 : ∀ w ∈ wsX20, w ∈ wsX6_readPart := fun w h => List.mem_cons_of_mem _ (List.mem_append_left _ (List.mem_append_left _ (List.mem_append_left _ (List.mem_append_left _ (List.mem_append_left _ (List.mem_append_left _ (List.mem_append_right _ (h))))))))
  have hin3 : ∀ w ∈ wsX30, w ∈ wsX6_readPart := fun w h => List.mem_cons_of_mem _ (List.mem_append_left _ (List.mem_append_left _ (List.mem_append_left _ (List.mem_append_left _ (List.mem_append_left _ (List.mem_append_left _ (List.mem_append_left _ (List.mem_append_right _ (h)))))))))
  have hin6 : ∀ w ∈ wsX60, w ∈ wsX6_readPart := fun w h => List.mem_cons_of_mem _ (List.mem_append_left _ (List.mem_append_left _ (List.mem_append_left _ (List.mem_append_left _ (List.mem_append_left _ (List.mem_append_right _ (h)))))))
  have hu := uS_row (T := T) hr
  have hsr := HB.sr hu
  have hl9 := hsr.2.2.2.2.2.2
  refine lv_aload_n X.1 X.2.1 dX6_readPart_0 rfl (lv_at hl 0 rfl) ?_
  refine lv_iload_n X.1 X.2.1 dX6_readPart_1 rfl (lv_at hl 1 rfl) ?_
  refine cVr X hW (HB.mem lv_0) (pC_6 (HB.kn lv_0 rfl)) rfl (cg_readerAt l HB (r := i) (by omega)) (cwV 1 X.2.2.2.2 gX6_readPart_X6_readerAt rfl rfl rfl (by decide +kernel) ⟨Nat.le_of_ble_eq_true rfl, Nat.le_of_ble_eq_true rfl⟩) rfl rfl hl.1 (Nat.le_of_ble_eq_true rfl) dX6_readPart_2 ⟨Nat.zero_le _, Nat.zero_le _⟩ (fun H locs hW => ?_)
  refine lv_pop X.1 X.2.1 dX6_readPart_5 rfl ?_
  refine lv_aload_n X.1 X.2.1 dX6_readPart_6 rfl (lv_at hl 0 rfl) ?_
  refine lv_iload_n X.1 X.2.1 dX6_readPart_7 rfl (lv_at hl 2 rfl) ?_
  refine cVr X hW (HB.mem lv_0) (pC_6 (HB.kn lv_0 rfl)) rfl (cg_signRowAt l HB (r := r) (by omega)) (cwV 1 X.2.2.2.2 gX6_readPart_X6_signRowAt rfl rfl rfl (by decide +kernel) ⟨Nat.le_of_ble_eq_true rfl, Nat.le_of_ble_eq_true rfl⟩) rfl rfl hl.1 (Nat.le_of_ble_eq_true rfl) dX6_readPart_8 ⟨Nat.zero_le _, Nat.zero_le _⟩ (fun H locs hW => ?_)
  refine lv_astore (lv' := [(5, .ref (ad 3 (T 2 r))), (0, .ref (ad 0 0)), (1, .int (nI (i))), (2, .int (nI (r))), (3, .int (nI (f))), (4, .int (nI (0)))]) X.1 X.2.1 dX6_readPart_11 hl (by decide) rfl (fun ls hl => ?_)
  refine lv_iload_n X.1 X.2.1 dX6_readPart_13 rfl (lv_at hl 4 rfl) ?_
  refine lv_iload X.1 X.2.1 dX6_readPart_14 (lv_at hl 5 rfl) ?_
  refine lv_aload X.1 X.2.1 dX6_readPart_16 (lv_at hl 0 rfl) ?_
  refine cg_3_signs X hin3 hW (hsr.1) (hsr.2.1) (hsr.2.2.1) (X.2.2.2.2 (.fieldLink RX6 60 "Strandbook$SignRow" "signs" "[C") (List.mem_cons_of_mem _ (List.mem_append_left _ (List.mem_append_left _ (List.mem_append_left _ (List.mem_append_left _ (List.mem_append_left _ (List.mem_append_left _ (List.mem_append_left _ (List.mem_append_left _ (List.mem_append_left _ (List.mem_of_getElem? (i := 2) rfl)))))))))))) dX6_readPart_18 ?_
  refine cln_8 X hW (hsr.2.2.2.1) (hsr.2.2.2.2.1) (hsr.2.2.2.2.2.1) dX6_readPart_21 ?_
  refine cSv X hW (cg_requirePlaces l (f := f) (j := 0) (n := T 1 (T 2 r)) (by omega) (by omega)) (va_cwS 3 X.2.2.2.2 gX6_readPart_X6_requirePlaces rfl rfl rfl (by decide +kernel) ⟨Nat.le_of_ble_eq_true rfl, Nat.le_of_ble_eq_true rfl⟩) rfl rfl hl.1 (Nat.le_of_ble_eq_true rfl) dX6_readPart_22 ⟨Nat.zero_le _, Nat.zero_le _⟩ (fun H locs hW => ?_)
  refine lv_iload X.1 X.2.1 dX6_readPart_25 (lv_at hl 5 rfl) ?_
  exact cXS Y X hW (cz_requireSome l hst) (va_cwS 1 X.2.2.2.2 gX6_readPart_X6_requireSome rfl rfl rfl (by decide +kernel) ⟨Nat.le_of_ble_eq_true rfl, Nat.le_of_ble_eq_true rfl⟩) rfl rfl hl.1 (Nat.le_of_ble_eq_true rfl) dX6_readPart_27 ⟨Nat.le_of_ble_eq_true rfl, Nat.le_of_ble_eq_true rfl⟩

set_option maxHeartbeats 4000000 in
set_option maxRecDepth 100000 in
theorem cb_readPart_e (l : Launch) {G : va_G} {kT : Nat → ClassId} {L : List Nat} {K : Nat → Nat} {R : pR} {I : pI} {A : mD} {Q : pR} {N : Nat → Nat} (hst : l.stackTraces = false) {T : mT} {D : mD} {ad : pD} (HB : Rep T D ad L K R I A Q N) {i r f n : Nat} (hi : i < 3) (hr : r < 4) (hf : f + n ≤ T 1 (T 2 r)) (hn : n ≠ 0) (h : clo T i) : cMt l yX6_readPart wsX6_readPart ({ frames := 8, cells := 1, slots := 6, locals := 143 } : Room) G kT [.ref (ad 0 0), .int (nI (i)), .int (nI (r)), .int (nI (f)), .int (nI (n))] L K R I A Q N "java/lang/UnsupportedOperationException" := by
  refine cstt (cc := cX6_readPart) (maxL := 7) (ret := (some .int)) hst (by decide) rfl (Nat.le_of_ble_eq_true rfl) (fun p e s m args below meth c Z Y X hW ls hl => ?_)
  have X : CallFix p m c cX6_readPart 7 s args wsX6_readPart RX6 := X
  have hl : lv_has ls 7 [(0, .ref (ad 0 0)), (1, .int (nI (i))), (2, .int (nI (r))), (3, .int (nI (f))), (4, .int (nI (n)))] := hl
  have hin2 : ∀ w ∈ wsX20, w ∈ wsX6_readPart := fun w h => List.mem_cons_of_mem _ (List.mem_append_left _ (List.mem_append_left _ (List.mem_append_left _ (List.mem_append_left _ (List.mem_append_left _ (List.mem_append_left _ (List.mem_append_right _ (h))))))))
  have hin3 : ∀ w ∈ wsX30, w ∈ wsX6_readPart := fun w h => List.mem_cons_of_mem _ (List.mem_append_left _ (List.mem_append_left _ (List.mem_append_left _ (List.mem_append_left _ (List.mem_append_left _ (List.mem_append_left _ (List.mem_append_left _ (List.mem_append_right _ (h)))))))))
  have hin6 : ∀ w ∈ wsX60, w ∈ wsX6_readPart := fun w h => List.mem_cons_of_mem _ (List.mem_append_left _ (List.mem_append_left _ (List.mem_append_left _ (List.mem_append_left _ (List.mem_append_left _ (List.mem_append_right _ (h)))))))
  have hu := uS_row (T := T) hr
  have hsr := HB.sr hu
  have hl9 := hsr.2.2.2.2.2.2
  refine lv_aload_n X.1 X.2.1 dX6_readPart_0 rfl (lv_at hl 0 rfl) ?_
  refine lv_iload_n X.1 X.2.1 dX6_readPart_1 rfl (lv_at hl 1 rfl) ?_
  refine cVr X hW (HB.mem lv_0) (pC_6 (HB.kn lv_0 rfl)) rfl (cg_readerAt l HB (r := i) (by omega)) (cwV 1 X.2.2.2.2 gX6_readPart_X6_readerAt rfl rfl rfl (by decide +kernel) ⟨Nat.le_of_ble_eq_true rfl, Nat.le_of_ble_eq_true rfl⟩) rfl rfl hl.1 (Nat.le_of_ble_eq_true rfl) dX6_readPart_2 ⟨Nat.zero_le _, Nat.zero_le _⟩ (fun H locs hW => ?_)
  refine lv_pop X.1 X.2.1 dX6_readPart_5 rfl ?_
  refine lv_aload_n X.1 X.2.1 dX6_readPart_6 rfl (lv_at hl 0 rfl) ?_
  refine lv_iload_n X.1 X.2.1 dX6_readPart_7 rfl (lv_at hl 2 rfl) ?_
  refine cVr X hW (HB.mem lv_0) (pC_6 (HB.kn lv_0 rfl)) rfl (cg_signRowAt l HB (r := r) (by omega)) (cwV 1 X.2.2.2.2 gX6_readPart_X6_signRowAt rfl rfl rfl (by decide +kernel) ⟨Nat.le_of_ble_eq_true rfl, Nat.le_of_ble_eq_true rfl⟩) rfl rfl hl.1 (Nat.le_of_ble_eq_true rfl) dX6_readPart_8 ⟨Nat.zero_le _, Nat.zero_le _⟩ (fun H locs hW => ?_)
  refine lv_astore (lv' := [(5, .ref (ad 3 (T 2 r))), (0, .ref (ad 0 0)), (1, .int (nI (i))), (2, .int (nI (r))), (3, .int (nI (f))), (4, .int (nI (n)))]) X.1 X.2.1 dX6_readPart_11 hl (by decide) rfl (fun ls hl => ?_)
  refine lv_iload_n X.1 X.2.1 dX6_readPart_13 rfl (lv_at hl 4 rfl) ?_
  refine lv_iload X.1 X.2.1 dX6_readPart_14 (lv_at hl 5 rfl) ?_
  refine lv_aload X.1 X.2.1 dX6_readPart_16 (lv_at hl 0 rfl) ?_
  refine cg_3_signs X hin3 hW (hsr.1) (hsr.2.1) (hsr.2.2.1) (X.2.2.2.2 (.fieldLink RX6 60 "Strandbook$SignRow" "signs" "[C") (List.mem_cons_of_mem _ (List.mem_append_left _ (List.mem_append_left _ (List.mem_append_left _ (List.mem_append_left _ (List.mem_append_left _ (List.mem_append_left _ (List.mem_append_left _ (List.mem_append_left _ (List.mem_append_left _ (List.mem_of_getElem? (i := 2) rfl)))))))))))) dX6_readPart_18 ?_
  refine cln_8 X hW (hsr.2.2.2.1) (hsr.2.2.2.2.1) (hsr.2.2.2.2.2.1) dX6_readPart_21 ?_
  refine cSv X hW (cg_requirePlaces l (f := f) (j := n) (n := T 1 (T 2 r)) (by omega) (by omega)) (va_cwS 3 X.2.2.2.2 gX6_readPart_X6_requirePlaces rfl rfl rfl (by decide +kernel) ⟨Nat.le_of_ble_eq_true rfl, Nat.le_of_ble_eq_true rfl⟩) rfl rfl hl.1 (Nat.le_of_ble_eq_true rfl) dX6_readPart_22 ⟨Nat.zero_le _, Nat.zero_le _⟩ (fun H locs hW => ?_)
  refine lv_iload X.1 X.2.1 dX6_readPart_25 (lv_at hl 5 rfl) ?_
  refine cSv X hW (cg_requireSome l (n := n) (by omega) (by omega)) (va_cwS 1 X.2.2.2.2 gX6_readPart_X6_requireSome rfl rfl rfl (by decide +kernel) ⟨Nat.le_of_ble_eq_true rfl, Nat.le_of_ble_eq_true rfl⟩) rfl rfl hl.1 (Nat.le_of_ble_eq_true rfl) dX6_readPart_27 ⟨Nat.zero_le _, Nat.zero_le _⟩ (fun H locs hW => ?_)
  refine lv_aload_n X.1 X.2.1 dX6_readPart_30 rfl (lv_at hl 1 rfl) ?_
  refine lv_iload_n X.1 X.2.1 dX6_readPart_31 rfl (lv_at hl 2 rfl) ?_
  exact cXV Y X hW (HB.mem lv_0) (pC_6 (HB.kn lv_0 rfl)) rfl (cz_openReaderAt l hst HB hi h) (cwV 1 X.2.2.2.2 gX6_readPart_X6_openReaderAt rfl rfl rfl (by decide +kernel) ⟨Nat.le_of_ble_eq_true rfl, Nat.le_of_ble_eq_true rfl⟩) rfl rfl hl.1 (Nat.le_of_ble_eq_true rfl) dX6_readPart_32 ⟨Nat.le_of_ble_eq_true rfl, Nat.le_of_ble_eq_true rfl⟩

set_option maxHeartbeats 4000000 in
set_option maxRecDepth 100000 in
theorem cb_readPart_f (l : Launch) {G : va_G} {kT : Nat → ClassId} {L : List Nat} {K : Nat → Nat} {R : pR} {I : pI} {A : mD} {Q : pR} {N : Nat → Nat} (hst : l.stackTraces = false) {T : mT} {D : mD} {ad : pD} (HB : Rep T D ad L K R I A Q N) {i r f n : Nat} (hi : i < 3) (hr : r < 4) (hf : f + n ≤ T 1 (T 2 r)) (hn : n ≠ 0) (h8 : ¬ clo T i) (h4 : T 8 i = T 2 r + 1) : cMt l yX6_readPart wsX6_readPart ({ frames := 8, cells := 1, slots := 6, locals := 143 } : Room) G kT [.ref (ad 0 0), .int (nI (i)), .int (nI (r)), .int (nI (f)), .int (nI (n))] L K R I A Q N "java/lang/IllegalStateException" := by
  refine cstt (cc := cX6_readPart) (maxL := 7) (ret := (some .int)) hst (by decide) rfl (Nat.le_of_ble_eq_true rfl) (fun p e s m args below meth c Z Y X hW ls hl => ?_)
  have X : CallFix p m c cX6_readPart 7 s args wsX6_readPart RX6 := X
  have hl : lv_has ls 7 [(0, .ref (ad 0 0)), (1, .int (nI (i))), (2, .int (nI (r))), (3, .int (nI (f))), (4, .int (nI (n)))] := hl
  have hin2 : ∀ w ∈ wsX20, w ∈ wsX6_readPart := fun w h => List.mem_cons_of_mem _ (List.mem_append_left _ (List.mem_append_left _ (List.mem_append_left _ (List.mem_append_left _ (List.mem_append_left _ (List.mem_append_left _ (List.mem_append_right _ (h))))))))
  have hin3 : ∀ w ∈ wsX30, w ∈ wsX6_readPart := fun w h => List.mem_cons_of_mem _ (List.mem_append_left _ (List.mem_append_left _ (List.mem_append_left _ (List.mem_append_left _ (List.mem_append_left _ (List.mem_append_left _ (List.mem_append_left _ (List.mem_append_right _ (h)))))))))
  have hin6 : ∀ w ∈ wsX60, w ∈ wsX6_readPart := fun w h => List.mem_cons_of_mem _ (List.mem_append_left _ (List.mem_append_left _ (List.mem_append_left _ (List.mem_append_left _ (List.mem_append_left _ (List.mem_append_right _ (h)))))))
  have hu := uS_row (T := T) hr
  have hsr := HB.sr hu
  have hl9 := hsr.2.2.2.2.2.2
  have h81 : T 8 i ≠ 0 := fun z => h8 (Or.inl z)
  have h12 : T 12 i = 0 := Decidable.not_not.mp (fun z => h8 (Or.inr z))
  have hrd := HB.rd hi h81
  have h6 := (HB.rr i hi).2 h81
  have hm9 := HB.mi.rd hi
  refine lv_aload_n X.1 X.2.1 dX6_readPart_0 rfl (lv_at hl 0 rfl) ?_
  refine lv_iload_n X.1 X.2.1 dX6_readPart_1 rfl (lv_at hl 1 rfl) ?_
  refine cVr X hW (HB.mem lv_0) (pC_6 (HB.kn lv_0 rfl)) rfl (cg_readerAt l HB (r := i) (by omega)) (cwV 1 X.2.2.2.2 gX6_readPart_X6_readerAt rfl rfl rfl (by decide +kernel) ⟨Nat.le_of_ble_eq_true rfl, Nat.le_of_ble_eq_true rfl⟩) rfl rfl hl.1 (Nat.le_of_ble_eq_true rfl) dX6_readPart_2 ⟨Nat.zero_le _, Nat.zero_le _⟩ (fun H locs hW => ?_)
  refine lv_pop X.1 X.2.1 dX6_readPart_5 rfl ?_
  refine lv_aload_n X.1 X.2.1 dX6_readPart_6 rfl (lv_at hl 0 rfl) ?_
  refine lv_iload_n X.1 X.2.1 dX6_readPart_7 rfl (lv_at hl 2 rfl) ?_
  refine cVr X hW (HB.mem lv_0) (pC_6 (HB.kn lv_0 rfl)) rfl (cg_signRowAt l HB (r := r) (by omega)) (cwV 1 X.2.2.2.2 gX6_readPart_X6_signRowAt rfl rfl rfl (by decide +kernel) ⟨Nat.le_of_ble_eq_true rfl, Nat.le_of_ble_eq_true rfl⟩) rfl rfl hl.1 (Nat.le_of_ble_eq_true rfl) dX6_readPart_8 ⟨Nat.zero_le _, Nat.zero_le _⟩ (fun H locs hW => ?_)
  refine lv_astore (lv' := [(5, .ref (ad 3 (T 2 r))), (0, .ref (ad 0 0)), (1, .int (nI (i))), (2, .int (nI (r))), (3, .int (nI (f))), (4, .int (nI (n)))]) X.1 X.2.1 dX6_readPart_11 hl (by decide) rfl (fun ls hl => ?_)
  refine lv_iload_n X.1 X.2.1 dX6_readPart_13 rfl (lv_at hl 4 rfl) ?_
  refine lv_iload X.1 X.2.1 dX6_readPart_14 (lv_at hl 5 rfl) ?_
  refine lv_aload X.1 X.2.1 dX6_readPart_16 (lv_at hl 0 rfl) ?_
  refine cg_3_signs X hin3 hW (hsr.1) (hsr.2.1) (hsr.2.2.1) (X.2.2.2.2 (.fieldLink RX6 60 "Strandbook$SignRow" "signs" "[C") (List.mem_cons_of_mem _ (List.mem_append_left _ (List.mem_append_left _ (List.mem_append_left _ (List.mem_append_left _ (List.mem_append_left _ (List.mem_append_left _ (List.mem_append_left _ (List.mem_append_left _ (List.mem_append_left _ (List.mem_of_getElem? (i := 2) rfl)))))))))))) dX6_readPart_18 ?_
  refine cln_8 X hW (hsr.2.2.2.1) (hsr.2.2.2.2.1) (hsr.2.2.2.2.2.1) dX6_readPart_21 ?_
  refine cSv X hW (cg_requirePlaces l (f := f) (j := n) (n := T 1 (T 2 r)) (by omega) (by omega)) (va_cwS 3 X.2.2.2.2 gX6_readPart_X6_requirePlaces rfl rfl rfl (by decide +kernel) ⟨Nat.le_of_ble_eq_true rfl, Nat.le_of_ble_eq_true rfl⟩) rfl rfl hl.1 (Nat.le_of_ble_eq_true rfl) dX6_readPart_22 ⟨Nat.zero_le _, Nat.zero_le _⟩ (fun H locs hW => ?_)
  refine lv_iload X.1 X.2.1 dX6_readPart_25 (lv_at hl 5 rfl) ?_
  refine cSv X hW (cg_requireSome l (n := n) (by omega) (by omega)) (va_cwS 1 X.2.2.2.2 gX6_readPart_X6_requireSome rfl rfl rfl (by decide +kernel) ⟨Nat.le_of_ble_eq_true rfl, Nat.le_of_ble_eq_true rfl⟩) rfl rfl hl.1 (Nat.le_of_ble_eq_true rfl) dX6_readPart_27 ⟨Nat.zero_le _, Nat.zero_le _⟩ (fun H locs hW => ?_)
  refine lv_aload_n X.1 X.2.1 dX6_readPart_30 rfl (lv_at hl 1 rfl) ?_
  refine lv_iload_n X.1 X.2.1 dX6_readPart_31 rfl (lv_at hl 2 rfl) ?_
  refine cVr X hW (HB.mem lv_0) (pC_6 (HB.kn lv_0 rfl)) rfl (cg_openReaderAt l HB (i := i) hi h8) (cwV 1 X.2.2.2.2 gX6_readPart_X6_openReaderAt rfl rfl rfl (by decide +kernel) ⟨Nat.le_of_ble_eq_true rfl, Nat.le_of_ble_eq_true rfl⟩) rfl rfl hl.1 (Nat.le_of_ble_eq_true rfl) dX6_readPart_32 ⟨Nat.zero_le _, Nat.zero_le _⟩ (fun H locs hW => ?_)
  refine lv_astore (lv' := [(6, .ref (ad 9 i)), (5, .ref (ad 3 (T 2 r))), (0, .ref (ad 0 0)), (1, .int (nI (i))), (2, .int (nI (r))), (3, .int (nI (f))), (4, .int (nI (n)))]) X.1 X.2.1 dX6_readPart_35 hl (by decide) rfl (fun ls hl => ?_)
  refine lv_aload X.1 X.2.1 dX6_readPart_37 (lv_at hl 0 rfl) ?_
  refine cg_2_row X hin2 hW (hrd.1) (hrd.2.1) (hrd.2.2.1) (X.2.2.2.2 (.fieldLink RX6 164 "Strandbook$SignReader" "row" "LStrandbook$SignRow;") (List.mem_cons_of_mem _ (List.mem_append_left _ (List.mem_append_left _ (List.mem_append_left _ (List.mem_append_left _ (List.mem_append_left _ (List.mem_append_left _ (List.mem_append_left _ (List.mem_append_left _ (List.mem_append_left _ (List.mem_of_getElem? (i := 3) rfl)))))))))))) dX6_readPart_39 ?_
  refine lv_aload X.1 X.2.1 dX6_readPart_42 (lv_at hl 1 rfl) ?_
  refine r_acmp_ne_f (tgt := 57) X.1 X.2.1 dX6_readPart_44 (by decide) (by rw [h4]; rfl) ?_
  exact cTH Y X hW (text := "the row is the very array that is read") (ik := 168) (is := 170) (ic := 172) (by decide +kernel) (List.mem_cons_of_mem _ (List.mem_append_left _ (List.mem_append_left _ (List.mem_append_left _ (List.mem_append_left _ (List.mem_append_left _ (List.mem_append_left _ (List.mem_append_left _ (List.mem_append_left _ (List.mem_append_left _ (List.mem_of_getElem? (i := 0) rfl))))))))))) (List.mem_cons_of_mem _ (List.mem_append_left _ (List.mem_append_left _ (List.mem_append_left _ (List.mem_append_left _ (List.mem_append_left _ (List.mem_append_left _ (List.mem_append_left _ (List.mem_append_left _ (List.mem_append_left _ (List.mem_of_getElem? (i := 1) rfl))))))))))) (by decide +kernel) (fun w h => List.mem_cons_of_mem _ (List.mem_append_left _ (List.mem_append_left _ (List.mem_append_left _ (List.mem_append_left _ (List.mem_append_right _ (h))))))) (by decide +kernel) (by decide +kernel) hl.1 dX6_readPart_47 dX6_readPart_50 dX6_readPart_51 dX6_readPart_53 dX6_readPart_56 (Nat.le_of_ble_eq_true rfl) (Nat.le_of_ble_eq_true rfl) (Nat.le_of_ble_eq_true rfl) (Nat.le_of_ble_eq_true rfl)

set_option maxHeartbeats 4000000 in
set_option maxRecDepth 100000 in
theorem cb_join_a (l : Launch) {G : va_G} {kT : Nat → ClassId} {L : List Nat} {K : Nat → Nat} {R : pR} {I : pI} {A : mD} {Q : pR} {N : Nat → Nat} (hst : l.stackTraces = false) {T : mT} {D : mD} {ad : pD} (HB : Rep T D ad L K R I A Q N) {x x1 x2 : Int32} (h : oN x 2) : cMt l yX6_join wsX6_join ({ frames := 7, cells := 1, slots := 6, locals := 121 } : Room) G kT [.ref (ad 0 0), .int (x), .int (x1), .int (x2)] L K R I A Q N "java/lang/IndexOutOfBoundsException" := by
  refine cstt (cc := cX6_join) (maxL := 7) (ret := (some .int)) hst (by decide) rfl (Nat.le_of_ble_eq_true rfl) (fun p e s m args below meth c Z Y X hW ls hl => ?_)
  have X : CallFix p m c cX6_join 7 s args wsX6_join RX6 := X
  have hl : lv_has ls 7 [(0, .ref (ad 0 0)), (1, .int (x)), (2, .int (x1)), (3, .int (x2))] := hl
  have hin0 : ∀ w ∈ wsX00, w ∈ wsX6_join := fun w h => List.mem_cons_of_mem _ (List.mem_append_left _ (List.mem_append_right _ (h)))
  have hin1 : ∀ w ∈ wsX10, w ∈ wsX6_join := fun w h => List.mem_cons_of_mem _ (List.mem_append_left _ (List.mem_append_left _ (List.mem_append_left _ (List.mem_append_right _ (h)))))
  have hin6 : ∀ w ∈ wsX60, w ∈ wsX6_join := fun w h => List.mem_cons_of_mem _ (List.mem_append_left _ (List.mem_append_left _ (List.mem_append_right _ (h))))
  refine lv_aload_n X.1 X.2.1 dX6_join_0 rfl (lv_at hl 0 rfl) ?_
  refine lv_iload_n X.1 X.2.1 dX6_join_1 rfl (lv_at hl 1 rfl) ?_
  exact cXV Y X hW (HB.mem lv_0) (pC_6 (HB.kn lv_0 rfl)) rfl (cz_streamAt l hst HB h) (cwV 1 X.2.2.2.2 gX6_join_X6_streamAt rfl rfl rfl (by decide +kernel) ⟨Nat.le_of_ble_eq_true rfl, Nat.le_of_ble_eq_true rfl⟩) rfl rfl hl.1 (Nat.le_of_ble_eq_true rfl) dX6_join_2 ⟨Nat.le_of_ble_eq_true rfl, Nat.le_of_ble_eq_true rfl⟩

set_option maxHeartbeats 4000000 in
set_option maxRecDepth 100000 in
theorem cb_join_b (l : Launch) {G : va_G} {kT : Nat → ClassId} {L : List Nat} {K : Nat → Nat} {R : pR} {I : pI} {A : mD} {Q : pR} {N : Nat → Nat} (hst : l.stackTraces = false) {T : mT} {D : mD} {ad : pD} (HB : Rep T D ad L K R I A Q N) {j : Nat} {x x1 : Int32} (hj : j < 2) (h : oN x 4) : cMt l yX6_join wsX6_join ({ frames := 7, cells := 1, slots := 6, locals := 121 } : Room) G kT [.ref (ad 0 0), .int (nI (j)), .int (x), .int (x1)] L K R I A Q N "java/lang/IndexOutOfBoundsException" := by
  refine cstt (cc := cX6_join) (maxL := 7) (ret := (some .int)) hst (by decide) rfl (Nat.le_of_ble_eq_true rfl) (fun p e s m args below meth c Z Y X hW ls hl => ?_)
  have X : CallFix p m c cX6_join 7 s args wsX6_join RX6 := X
  have hl : lv_has ls 7 [(0, .ref (ad 0 0)), (1, .int (nI (j))), (2, .int (x)), (3, .int (x1))] := hl
  have hin0 : ∀ w ∈ wsX00, w ∈ wsX6_join := fun w h => List.mem_cons_of_mem _ (List.mem_append_left _ (List.mem_append_right _ (h)))
  have hin1 : ∀ w ∈ wsX10, w ∈ wsX6_join := fun w h => List.mem_cons_of_mem _ (List.mem_append_left _ (List.mem_append_left _ (List.mem_append_left _ (List.mem_append_right _ (h)))))
  have hin6 : ∀ w ∈ wsX60, w ∈ wsX6_join := fun w h => List.mem_cons_of_mem _ (List.mem_append_left _ (List.mem_append_left _ (List.mem_append_right _ (h))))
  refine lv_aload_n X.1 X.2.1 dX6_join_0 rfl (lv_at hl 0 rfl) ?_
  refine lv_iload_n X.1 X.2.1 dX6_join_1 rfl (lv_at hl 1 rfl) ?_
  refine cVr X hW (HB.mem lv_0) (pC_6 (HB.kn lv_0 rfl)) rfl (cg_streamAt l HB (r := j) (by omega)) (cwV 1 X.2.2.2.2 gX6_join_X6_streamAt rfl rfl rfl (by decide +kernel) ⟨Nat.le_of_ble_eq_true rfl, Nat.le_of_ble_eq_true rfl⟩) rfl rfl hl.1 (Nat.le_of_ble_eq_true rfl) dX6_join_2 ⟨Nat.zero_le _, Nat.zero_le _⟩ (fun H locs hW => ?_)
  refine lv_astore (lv' := [(4, .ref (ad 10 j)), (0, .ref (ad 0 0)), (1, .int (nI (j))), (2, .int (x)), (3, .int (x1))]) X.1 X.2.1 dX6_join_5 hl (by decide) rfl (fun ls hl => ?_)
  refine lv_aload_n X.1 X.2.1 dX6_join_7 rfl (lv_at hl 1 rfl) ?_
  refine lv_iload_n X.1 X.2.1 dX6_join_8 rfl (lv_at hl 3 rfl) ?_
  exact cXV Y X hW (HB.mem lv_0) (pC_6 (HB.kn lv_0 rfl)) rfl (cz_byteRowAt l hst HB h) (cwV 1 X.2.2.2.2 gX6_join_X6_byteRowAt rfl rfl rfl (by decide +kernel) ⟨Nat.le_of_ble_eq_true rfl, Nat.le_of_ble_eq_true rfl⟩) rfl rfl hl.1 (Nat.le_of_ble_eq_true rfl) dX6_join_9 ⟨Nat.le_of_ble_eq_true rfl, Nat.le_of_ble_eq_true rfl⟩

set_option maxHeartbeats 4000000 in
set_option maxRecDepth 100000 in
theorem cb_join_c (l : Launch) {G : va_G} {kT : Nat → ClassId} {L : List Nat} {K : Nat → Nat} {R : pR} {I : pI} {A : mD} {Q : pR} {N : Nat → Nat} (hst : l.stackTraces = false) {T : mT} {D : mD} {ad : pD} (HB : Rep T D ad L K R I A Q N) {j a : Nat} {x : Int32} (hj : j < 2) (ha : a < 4) (h : oN x 4) : cMt l yX6_join wsX6_join ({ frames := 7, cells := 1, slots := 6, locals := 121 } : Room) G kT [.ref (ad 0 0), .int (nI (j)), .int (nI (a)), .int (x)] L K R I A Q N "java/lang/IndexOutOfBoundsException" := by
  refine cstt (cc := cX6_join) (maxL := 7) (ret := (some .int)) hst (by decide) rfl (Nat.le_of_ble_eq_true rfl) (fun p e s m args below meth c Z Y X hW ls hl => ?_)
  have X : CallFix p m c cX6_join 7 s args wsX6_join RX6 := X
  have hl : lv_has ls 7 [(0, .ref (ad 0 0)), (1, .int (nI (j))), (2, .int (nI (a))), (3, .int (x))] := hl
  have hin0 : ∀ w ∈ wsX00, w ∈ wsX6_join := fun w h => List.mem_cons_of_mem _ (List.mem_append_left _ (List.mem_append_right _ (h)))
  have hin1 : ∀ w ∈ wsX10, w ∈ wsX6_join := fun w h => List.mem_cons_of_mem _ (List.mem_append_left _ (List.mem_append_left _ (List.mem_append_left _ (List.mem_append_right _ (h)))))
  have hin6 : ∀ w ∈ wsX60, w ∈ wsX6_join := fun w h => List.mem_cons_of_mem _ (List.mem_append_left _ (List.mem_append_left _ (List.mem_append_right _ (h))))
  refine lv_aload_n X.1 X.2.1 dX6_join_0 rfl (lv_at hl 0 rfl) ?_
  refine lv_iload_n X.1 X.2.1 dX6_join_1 rfl (lv_at hl 1 rfl) ?_
  refine cVr X hW (HB.mem lv_0) (pC_6 (HB.kn lv_0 rfl)) rfl (cg_streamAt l HB (r := j) (by omega)) (cwV 1 X.2.2.2.2 gX6_join_X6_streamAt rfl rfl rfl (by decide +kernel) ⟨Nat.le_of_ble_eq_true rfl, Nat.le_of_ble_eq_true rfl⟩) rfl rfl hl.1 (Nat.le_of_ble_eq_true rfl) dX6_join_2 ⟨Nat.zero_le _, Nat.zero_le _⟩ (fun H locs hW => ?_)
  refine lv_astore (lv' := [(4, .ref (ad 10 j)), (0, .ref (ad 0 0)), (1, .int (nI (j))), (2, .int (nI (a))), (3, .int (x))]) X.1 X.2.1 dX6_join_5 hl (by decide) rfl (fun ls hl => ?_)
  refine lv_aload_n X.1 X.2.1 dX6_join_7 rfl (lv_at hl 1 rfl) ?_
  refine lv_iload_n X.1 X.2.1 dX6_join_8 rfl (lv_at hl 3 rfl) ?_
  refine cVr X hW (HB.mem lv_0) (pC_6 (HB.kn lv_0 rfl)) rfl (cg_byteRowAt l HB (r := a) (by omega)) (cwV 1 X.2.2.2.2 gX6_join_X6_byteRowAt rfl rfl rfl (by decide +kernel) ⟨Nat.le_of_ble_eq_true rfl, Nat.le_of_ble_eq_true rfl⟩) rfl rfl hl.1 (Nat.le_of_ble_eq_true rfl) dX6_join_9 ⟨Nat.zero_le _, Nat.zero_le _⟩ (fun H locs hW => ?_)
  refine lv_astore (lv' := [(5, .ref (ad 5 (T 5 a))), (4, .ref (ad 10 j)), (0, .ref (ad 0 0)), (1, .int (nI (j))), (2, .int (nI (a))), (3, .int (x))]) X.1 X.2.1 dX6_join_12 hl (by decide) rfl (fun ls hl => ?_)
  refine lv_aload_n X.1 X.2.1 dX6_join_14 rfl (lv_at hl 2 rfl) ?_
  refine lv_iload_n X.1 X.2.1 dX6_join_15 rfl (lv_at hl 5 rfl) ?_
  exact cXV Y X hW (HB.mem lv_0) (pC_6 (HB.kn lv_0 rfl)) rfl (cz_byteRowAt l hst HB h) (cwV 1 X.2.2.2.2 gX6_join_X6_byteRowAt rfl rfl rfl (by decide +kernel) ⟨Nat.le_of_ble_eq_true rfl, Nat.le_of_ble_eq_true rfl⟩) rfl rfl hl.1 (Nat.le_of_ble_eq_true rfl) dX6_join_16 ⟨Nat.le_of_ble_eq_true rfl, Nat.le_of_ble_eq_true rfl⟩

set_option maxHeartbeats 4000000 in
set_option maxRecDepth 100000 in
theorem cb_joinThree_a (l : Launch) {G : va_G} {kT : Nat → ClassId} {L : List Nat} {K : Nat → Nat} {R : pR} {I : pI} {A : mD} {Q : pR} {N : Nat → Nat} (hst : l.stackTraces = false) {T : mT} {D : mD} {ad : pD} (HB : Rep T D ad L K R I A Q N) {x x1 x2 x3 x4 : Int32} (h : oN x 2) : cMt l yX6_joinThree wsX6_joinThree ({ frames := 7, cells := 1, slots := 6, locals := 121 } : Room) G kT [.ref (ad 0 0), .int (x), .int (x1), .int (x2), .int (x3), .int (x4)] L K R I A Q N "java/lang/IndexOutOfBoundsException" := by
  refine cstt (cc := cX6_joinThree) (maxL := 10) (ret := (some .int)) hst (by decide) rfl (Nat.le_of_ble_eq_true rfl) (fun p e s m args below meth c Z Y X hW ls hl => ?_)
  have X : CallFix p m c cX6_joinThree 10 s args wsX6_joinThree RX6 := X
  have hl : lv_has ls 10 [(0, .ref (ad 0 0)), (1, .int (x)), (2, .int (x1)), (3, .int (x2)), (4, .int (x3)), (5, .int (x4))] := hl
  have hin0 : ∀ w ∈ wsX00, w ∈ wsX6_joinThree := fun w h => List.mem_cons_of_mem _ (List.mem_append_left _ (List.mem_append_right _ (h)))
  have hin1 : ∀ w ∈ wsX10, w ∈ wsX6_joinThree := fun w h => List.mem_cons_of_mem _ (List.mem_append_left _ (List.mem_append_left _ (List.mem_append_left _ (List.mem_append_right _ (h)))))
  have hin6 : ∀ w ∈ wsX60, w ∈ wsX6_joinThree := fun w h => List.mem_cons_of_mem _ (List.mem_append_left _ (List.mem_append_left _ (List.mem_append_right _ (h))))
  refine lv_aload_n X.1 X.2.1 dX6_joinThree_0 rfl (lv_at hl 0 rfl) ?_
  refine lv_iload_n X.1 X.2.1 dX6_joinThree_1 rfl (lv_at hl 1 rfl) ?_
  exact cXV Y X hW (HB.mem lv_0) (pC_6 (HB.kn lv_0 rfl)) rfl (cz_streamAt l hst HB h) (cwV 1 X.2.2.2.2 gX6_joinThree_X6_streamAt rfl rfl rfl (by decide +kernel) ⟨Nat.le_of_ble_eq_true rfl, Nat.le_of_ble_eq_true rfl⟩) rfl rfl hl.1 (Nat.le_of_ble_eq_true rfl) dX6_joinThree_2 ⟨Nat.le_of_ble_eq_true rfl, Nat.le_of_ble_eq_true rfl⟩

set_option maxHeartbeats 4000000 in
set_option maxRecDepth 100000 in
theorem cb_joinThree_b (l : Launch) {G : va_G} {kT : Nat → ClassId} {L : List Nat} {K : Nat → Nat} {R : pR} {I : pI} {A : mD} {Q : pR} {N : Nat → Nat} (hst : l.stackTraces = false) {T : mT} {D : mD} {ad : pD} (HB : Rep T D ad L K R I A Q N) {j : Nat} {x x1 x2 x3 : Int32} (hj : j < 2) (h : oN x 4) : cMt l yX6_joinThree wsX6_joinThree ({ frames := 7, cells := 1, slots := 6, locals := 121 } : Room) G kT [.ref (ad 0 0), .int (nI (j)), .int (x), .int (x1), .int (x2), .int (x3)] L K R I A Q N "java/lang/IndexOutOfBoundsException" := by
  refine cstt (cc := cX6_joinThree) (maxL := 10) (ret := (some .int)) hst (by decide) rfl (Nat.le_of_ble_eq_true rfl) (fun p e s m args below meth c Z Y X hW ls hl => ?_)
  have X : CallFix p m c cX6_joinThree 10 s args wsX6_joinThree RX6 := X
  have hl : lv_has ls 10 [(0, .ref (ad 0 0)), (1, .int (nI (j))), (2, .int (x)), (3, .int (x1)), (4, .int (x2)), (5, .int (x3))] := hl
  have hin0 : ∀ w ∈ wsX00, w ∈ wsX6_joinThree := fun w h => List.mem_cons_of_mem _ (List.mem_append_left _ (List.mem_append_right _ (h)))
  have hin1 : ∀ w ∈ wsX10, w ∈ wsX6_joinThree := fun w h => List.mem_cons_of_mem _ (List.mem_append_left _ (List.mem_append_left _ (List.mem_append_left _ (List.mem_append_right _ (h)))))
  have hin6 : ∀ w ∈ wsX60, w ∈ wsX6_joinThree := fun w h => List.mem_cons_of_mem _ (List.mem_append_left _ (List.mem_append_left _ (List.mem_append_right _ (h))))
  refine lv_aload_n X.1 X.2.1 dX6_joinThree_0 rfl (lv_at hl 0 rfl) ?_
  refine lv_iload_n X.1 X.2.1 dX6_joinThree_1 rfl (lv_at hl 1 rfl) ?_
  refine cVr X hW (HB.mem lv_0) (pC_6 (HB.kn lv_0 rfl)) rfl (cg_streamAt l HB (r := j) (by omega)) (cwV 1 X.2.2.2.2 gX6_joinThree_X6_streamAt rfl rfl rfl (by decide +kernel) ⟨Nat.le_of_ble_eq_true rfl, Nat.le_of_ble_eq_true rfl⟩) rfl rfl hl.1 (Nat.le_of_ble_eq_true rfl) dX6_joinThree_2 ⟨Nat.zero_le _, Nat.zero_le _⟩ (fun H locs hW => ?_)
  refine lv_astore (lv' := [(6, .ref (ad 10 j)), (0, .ref (ad 0 0)), (1, .int (nI (j))), (2, .int (x)), (3, .int (x1)), (4, .int (x2)), (5, .int (x3))]) X.1 X.2.1 dX6_joinThree_5 hl (by decide) rfl (fun ls hl => ?_)
  refine lv_aload_n X.1 X.2.1 dX6_joinThree_7 rfl (lv_at hl 1 rfl) ?_
  refine lv_iload_n X.1 X.2.1 dX6_joinThree_8 rfl (lv_at hl 3 rfl) ?_
  exact cXV Y X hW (HB.mem lv_0) (pC_6 (HB.kn lv_0 rfl)) rfl (cz_byteRowAt l hst HB h) (cwV 1 X.2.2.2.2 gX6_joinThree_X6_byteRowAt rfl rfl rfl (by decide +kernel) ⟨Nat.le_of_ble_eq_true rfl, Nat.le_of_ble_eq_true rfl⟩) rfl rfl hl.1 (Nat.le_of_ble_eq_true rfl) dX6_joinThree_9 ⟨Nat.le_of_ble_eq_true rfl, Nat.le_of_ble_eq_true rfl⟩

set_option maxHeartbeats 4000000 in
set_option maxRecDepth 100000 in
theorem cb_joinThree_c (l : Launch) {G : va_G} {kT : Nat → ClassId} {L : List Nat} {K : Nat → Nat} {R : pR} {I : pI} {A : mD} {Q : pR} {N : Nat → Nat} (hst : l.stackTraces = false) {T : mT} {D : mD} {ad : pD} (HB : Rep T D ad L K R I A Q N) {j a : Nat} {x x1 x2 : Int32} (hj : j < 2) (ha : a < 4) (h : oN x 4) : cMt l yX6_joinThree wsX6_joinThree ({ frames := 7, cells := 1, slots := 6, locals := 121 } : Room) G kT [.ref (ad 0 0), .int (nI (j)), .int (nI (a)), .int (x), .int (x1), .int (x2)] L K R I A Q N "java/lang/IndexOutOfBoundsException" := by
  refine cstt (cc := cX6_joinThree) (maxL := 10) (ret := (some .int)) hst (by decide) rfl (Nat.le_of_ble_eq_true rfl) (fun p e s m args below meth c Z Y X hW ls hl => ?_)
  have X : CallFix p m c cX6_joinThree 10 s args wsX6_joinThree RX6 := X
  have hl : lv_has ls 10 [(0, .ref (ad 0 0)), (1, .int (nI (j))), (2, .int (nI (a))), (3, .int (x)), (4, .int (x1)), (5, .int (x2))] := hl
  have hin0 : ∀ w ∈ wsX00, w ∈ wsX6_joinThree := fun w h => List.mem_cons_of_mem _ (List.mem_append_left _ (List.mem_append_right _ (h)))
  have hin1 : ∀ w ∈ wsX10, w ∈ wsX6_joinThree := fun w h => List.mem_cons_of_mem _ (List.mem_append_left _ (List.mem_append_left _ (List.mem_append_left _ (List.mem_append_right _ (h)))))
  have hin6 : ∀ w ∈ wsX60, w ∈ wsX6_joinThree := fun w h => List.mem_cons_of_mem _ (List.mem_append_left _ (List.mem_append_left _ (List.mem_append_right _ (h))))
  refine lv_aload_n X.1 X.2.1 dX6_joinThree_0 rfl (lv_at hl 0 rfl) ?_
  refine lv_iload_n X.1 X.2.1 dX6_joinThree_1 rfl (lv_at hl 1 rfl) ?_
  refine cVr X hW (HB.mem lv_0) (pC_6 (HB.kn lv_0 rfl)) rfl (cg_streamAt l HB (r := j) (by omega)) (cwV 1 X.2.2.2.2 gX6_joinThree_X6_streamAt rfl rfl rfl (by decide +kernel) ⟨Nat.le_of_ble_eq_true rfl, Nat.le_of_ble_eq_true rfl⟩) rfl rfl hl.1 (Nat.le_of_ble_eq_true rfl) dX6_joinThree_2 ⟨Nat.zero_le _, Nat.zero_le _⟩ (fun H locs hW => ?_)
  refine lv_astore (lv' := [(6, .ref (ad 10 j)), (0, .ref (ad 0 0)), (1, .int (nI (j))), (2, .int (nI (a))), (3, .int (x)), (4, .int (x1)), (5, .int (x2))]) X.1 X.2.1 dX6_joinThree_5 hl (by decide) rfl (fun ls hl => ?_)
  refine lv_aload_n X.1 X.2.1 dX6_joinThree_7 rfl (lv_at hl 1 rfl) ?_
  refine lv_iload_n X.1 X.2.1 dX6_joinThree_8 rfl (lv_at hl 3 rfl) ?_
  refine cVr X hW (HB.mem lv_0) (pC_6 (HB.kn lv_0 rfl)) rfl (cg_byteRowAt l HB (r := a) (by omega)) (cwV 1 X.2.2.2.2 gX6_joinThree_X6_byteRowAt rfl rfl rfl (by decide +kernel) ⟨Nat.le_of_ble_eq_true rfl, Nat.le_of_ble_eq_true rfl⟩) rfl rfl hl.1 (Nat.le_of_ble_eq_true rfl) dX6_joinThree_9 ⟨Nat.zero_le _, Nat.zero_le _⟩ (fun H locs hW => ?_)
  refine lv_astore (lv' := [(7, .ref (ad 5 (T 5 a))), (6, .ref (ad 10 j)), (0, .ref (ad 0 0)), (1, .int (nI (j))), (2, .int (nI (a))), (3, .int (x)), (4, .int (x1)), (5, .int (x2))]) X.1 X.2.1 dX6_joinThree_12 hl (by decide) rfl (fun ls hl => ?_)
  refine lv_aload_n X.1 X.2.1 dX6_joinThree_14 rfl (lv_at hl 2 rfl) ?_
  refine lv_iload_n X.1 X.2.1 dX6_joinThree_15 rfl (lv_at hl 5 rfl) ?_
  exact cXV Y X hW (HB.mem lv_0) (pC_6 (HB.kn lv_0 rfl)) rfl (cz_byteRowAt l hst HB h) (cwV 1 X.2.2.2.2 gX6_joinThree_X6_byteRowAt rfl rfl rfl (by decide +kernel) ⟨Nat.le_of_ble_eq_true rfl, Nat.le_of_ble_eq_true rfl⟩) rfl rfl hl.1 (Nat.le_of_ble_eq_true rfl) dX6_joinThree_16 ⟨Nat.le_of_ble_eq_true rfl, Nat.le_of_ble_eq_true rfl⟩

set_option maxHeartbeats 4000000 in
set_option maxRecDepth 100000 in
theorem cb_joinThree_d (l : Launch) {G : va_G} {kT : Nat → ClassId} {L : List Nat} {K : Nat → Nat} {R : pR} {I : pI} {A : mD} {Q : pR} {N : Nat → Nat} (hst : l.stackTraces = false) {T : mT} {D : mD} {ad : pD} (HB : Rep T D ad L K R I A Q N) {j a b : Nat} {x x1 : Int32} (hj : j < 2) (ha : a < 4) (hb : b < 4) (h : oN x 4) : cMt l yX6_joinThree wsX6_joinThree ({ frames := 7, cells := 1, slots := 6, locals := 121 } : Room) G kT [.ref (ad 0 0), .int (nI (j)), .int (nI (a)), .int (nI (b)), .int (x), .int (x1)] L K R I A Q N "java/lang/IndexOutOfBoundsException" := by
  refine cstt (cc := cX6_joinThree) (maxL := 10) (ret := (some .int)) hst (by decide) rfl (Nat.le_of_ble_eq_true rfl) (fun p e s m args below meth c Z Y X hW ls hl => ?_)
  have X : CallFix p m c cX6_joinThree 10 s args wsX6_joinThree RX6 := X
  have hl : lv_has ls 10 [(0, .ref (ad 0 0)), (1, .int (nI (j))), (2, .int (nI (a))), (3, .int (nI (b))), (4, .int (x)), (5, .int (x1))] := hl
  have hin0 : ∀ w ∈ wsX00, w ∈ wsX6_joinThree := fun w h => List.mem_cons_of_mem _ (List.mem_append_left _ (List.mem_append_right _ (h)))
  have hin1 : ∀ w ∈ wsX10, w ∈ wsX6_joinThree := fun w h => List.mem_cons_of_mem _ (List.mem_append_left _ (List.mem_append_left _ (List.mem_append_left _ (List.mem_append_right _ (h)))))
  have hin6 : ∀ w ∈ wsX60, w ∈ wsX6_joinThree := fun w h => List.mem_cons_of_mem _ (List.mem_append_left _ (List.mem_append_left _ (List.mem_append_right _ (h))))
  refine lv_aload_n X.1 X.2.1 dX6_joinThree_0 rfl (lv_at hl 0 rfl) ?_
  refine lv_iload_n X.1 X.2.1 dX6_joinThree_1 rfl (lv_at hl 1 rfl) ?_
  refine cVr X hW (HB.mem lv_0) (pC_6 (HB.kn lv_0 rfl)) rfl (cg_streamAt l HB (r := j) (by omega)) (cwV 1 X.2.2.2.2 gX6_joinThree_X6_streamAt rfl rfl rfl (by decide +kernel) ⟨Nat.le_of_ble_eq_true rfl, Nat.le_of_ble_eq_true rfl⟩) rfl rfl hl.1 (Nat.le_of_ble_eq_true rfl) dX6_joinThree_2 ⟨Nat.zero_le _, Nat.zero_le _⟩ (fun H locs hW => ?_)
  refine lv_astore (lv' := [(6, .ref (ad 10 j)), (0, .ref (ad 0 0)), (1, .int (nI (j))), (2, .int (nI (a))), (3, .int (nI (b))), (4, .int (x)), (5, .int (x1))]) X.1 X.2.1 dX6_joinThree_5 hl (by decide) rfl (fun ls hl => ?_)
  refine lv_aload_n X.1 X.2.1 dX6_joinThree_7 rfl (lv_at hl 1 rfl) ?_
  refine lv_iload_n X.1 X.2.1 dX6_joinThree_8 rfl (lv_at hl 3 rfl) ?_
  refine cVr X hW (HB.mem lv_0) (pC_6 (HB.kn lv_0 rfl)) rfl (cg_byteRowAt l HB (r := a) (by omega)) (cwV 1 X.2.2.2.2 gX6_joinThree_X6_byteRowAt rfl rfl rfl (by decide +kernel) ⟨Nat.le_of_ble_eq_true rfl, Nat.le_of_ble_eq_true rfl⟩) rfl rfl hl.1 (Nat.le_of_ble_eq_true rfl) dX6_joinThree_9 ⟨Nat.zero_le _, Nat.zero_le _⟩ (fun H locs hW => ?_)
  refine lv_astore (lv' := [(7, .ref (ad 5 (T 5 a))), (6, .ref (ad 10 j)), (0, .ref (ad 0 0)), (1, .int (nI (j))), (2, .int (nI (a))), (3, .int (nI (b))), (4, .int (x)), (5, .int (x1))]) X.1 X.2.1 dX6_joinThree_12 hl (by decide) rfl (fun ls hl => ?_)
  refine lv_aload_n X.1 X.2.1 dX6_joinThree_14 rfl (lv_at hl 2 rfl) ?_
  refine lv_iload_n X.1 X.2.1 dX6_joinThree_15 rfl (lv_at hl 5 rfl) ?_
  refine cVr X hW (HB.mem lv_0) (pC_6 (HB.kn lv_0 rfl)) rfl (cg_byteRowAt l HB (r := b) (by omega)) (cwV 1 X.2.2.2.2 gX6_joinThree_X6_byteRowAt rfl rfl rfl (by decide +kernel) ⟨Nat.le_of_ble_eq_true rfl, Nat.le_of_ble_eq_true rfl⟩) rfl rfl hl.1 (Nat.le_of_ble_eq_true rfl) dX6_joinThree_16 ⟨Nat.zero_le _, Nat.zero_le _⟩ (fun H locs hW => ?_)
  refine lv_astore (lv' := [(8, .ref (ad 5 (T 5 b))), (7, .ref (ad 5 (T 5 a))), (6, .ref (ad 10 j)), (0, .ref (ad 0 0)), (1, .int (nI (j))), (2, .int (nI (a))), (3, .int (nI (b))), (4, .int (x)), (5, .int (x1))]) X.1 X.2.1 dX6_joinThree_19 hl (by decide) rfl (fun ls hl => ?_)
  refine lv_aload_n X.1 X.2.1 dX6_joinThree_21 rfl (lv_at hl 3 rfl) ?_
  refine lv_iload X.1 X.2.1 dX6_joinThree_22 (lv_at hl 7 rfl) ?_
  exact cXV Y X hW (HB.mem lv_0) (pC_6 (HB.kn lv_0 rfl)) rfl (cz_byteRowAt l hst HB h) (cwV 1 X.2.2.2.2 gX6_joinThree_X6_byteRowAt rfl rfl rfl (by decide +kernel) ⟨Nat.le_of_ble_eq_true rfl, Nat.le_of_ble_eq_true rfl⟩) rfl rfl hl.1 (Nat.le_of_ble_eq_true rfl) dX6_joinThree_24 ⟨Nat.le_of_ble_eq_true rfl, Nat.le_of_ble_eq_true rfl⟩

set_option maxHeartbeats 4000000 in
set_option maxRecDepth 100000 in
theorem cb_next_a (l : Launch) {G : va_G} {kT : Nat → ClassId} {L : List Nat} {K : Nat → Nat} {R : pR} {I : pI} {A : mD} {Q : pR} {N : Nat → Nat} (hst : l.stackTraces = false) {T : mT} {D : mD} {ad : pD} (HB : Rep T D ad L K R I A Q N) {x : Int32} (h : oN x 2) : cMt l yX6_next wsX6_next ({ frames := 8, cells := 1, slots := 6, locals := 143 } : Room) G kT [.ref (ad 0 0), .int (x)] L K R I A Q N "java/lang/IndexOutOfBoundsException" := by
  refine cstt (cc := cX6_next) (maxL := 2) (ret := (some .int)) hst (by decide) rfl (Nat.le_of_ble_eq_true rfl) (fun p e s m args below meth c Z Y X hW ls hl => ?_)
  have X : CallFix p m c cX6_next 2 s args wsX6_next RX6 := X
  have hl : lv_has ls 2 [(0, .ref (ad 0 0)), (1, .int (x))] := hl
  have hin0 : ∀ w ∈ wsX00, w ∈ wsX6_next := fun w h => List.mem_cons_of_mem _ (List.mem_append_left _ (List.mem_append_left _ (List.mem_append_left _ (List.mem_append_right _ (h)))))
  have hin1 : ∀ w ∈ wsX10, w ∈ wsX6_next := fun w h => List.mem_cons_of_mem _ (List.mem_append_left _ (List.mem_append_left _ (List.mem_append_left _ (List.mem_append_left _ (List.mem_append_right _ (h))))))
  have hin6 : ∀ w ∈ wsX60, w ∈ wsX6_next := fun w h => List.mem_cons_of_mem _ (List.mem_append_left _ (List.mem_append_left _ (List.mem_append_left _ (List.mem_append_left _ (List.mem_append_left _ (List.mem_append_right _ (h)))))))
  refine lv_aload_n X.1 X.2.1 dX6_next_0 rfl (lv_at hl 0 rfl) ?_
  refine lv_iload_n X.1 X.2.1 dX6_next_1 rfl (lv_at hl 1 rfl) ?_
  exact cXV Y X hW (HB.mem lv_0) (pC_6 (HB.kn lv_0 rfl)) rfl (cz_joinedStreamAt1 l hst HB h) (cwV 1 X.2.2.2.2 gX6_next_X6_joinedStreamAt rfl rfl rfl (by decide +kernel) ⟨Nat.le_of_ble_eq_true rfl, Nat.le_of_ble_eq_true rfl⟩) rfl rfl hl.1 (Nat.le_of_ble_eq_true rfl) dX6_next_2 ⟨Nat.le_of_ble_eq_true rfl, Nat.le_of_ble_eq_true rfl⟩

set_option maxHeartbeats 4000000 in
set_option maxRecDepth 100000 in
theorem cb_next_b (l : Launch) {G : va_G} {kT : Nat → ClassId} {L : List Nat} {K : Nat → Nat} {R : pR} {I : pI} {A : mD} {Q : pR} {N : Nat → Nat} (hst : l.stackTraces = false) {T : mT} {D : mD} {ad : pD} (HB : Rep T D ad L K R I A Q N) {j pl : Nat} (hj2 : j < 2) (hj : isJS L K R I N (ad 10 j) (ad 11 j) (T 13 j) (T 16 j) pl) (h0 : T 13 j = 0) : cMt l yX6_next wsX6_next ({ frames := 8, cells := 1, slots := 6, locals := 143 } : Room) G kT [.ref (ad 0 0), .int (nI (j))] L K R I A Q N "java/lang/UnsupportedOperationException" := by
  refine cstt (cc := cX6_next) (maxL := 2) (ret := (some .int)) hst (by decide) rfl (Nat.le_of_ble_eq_true rfl) (fun p e s m args below meth c Z Y X hW ls hl => ?_)
  have X : CallFix p m c cX6_next 2 s args wsX6_next RX6 := X
  have hl : lv_has ls 2 [(0, .ref (ad 0 0)), (1, .int (nI (j)))] := hl
  have hin0 : ∀ w ∈ wsX00, w ∈ wsX6_next := fun w h => List.mem_cons_of_mem _ (List.mem_append_left _ (List.mem_append_left _ (List.mem_append_left _ (List.mem_append_right _ (h)))))
  have hin1 : ∀ w ∈ wsX10, w ∈ wsX6_next := fun w h => List.mem_cons_of_mem _ (List.mem_append_left _ (List.mem_append_left _ (List.mem_append_left _ (List.mem_append_left _ (List.mem_append_right _ (h))))))
  have hin6 : ∀ w ∈ wsX60, w ∈ wsX6_next := fun w h => List.mem_cons_of_mem _ (List.mem_append_left _ (List.mem_append_left _ (List.mem_append_left _ (List.mem_append_left _ (List.mem_append_left _ (List.mem_append_right _ (h)))))))
  refine lv_aload_n X.1 X.2.1 dX6_next_0 rfl (lv_at hl 0 rfl) ?_
  refine lv_iload_n X.1 X.2.1 dX6_next_1 rfl (lv_at hl 1 rfl) ?_
  exact cXV Y X hW (HB.mem lv_0) (pC_6 (HB.kn lv_0 rfl)) rfl (cz_joinedStreamAt l hst HB hj2 hj h0) (cwV 1 X.2.2.2.2 gX6_next_X6_joinedStreamAt rfl rfl rfl (by decide +kernel) ⟨Nat.le_of_ble_eq_true rfl, Nat.le_of_ble_eq_true rfl⟩) rfl rfl hl.1 (Nat.le_of_ble_eq_true rfl) dX6_next_2 ⟨Nat.le_of_ble_eq_true rfl, Nat.le_of_ble_eq_true rfl⟩

set_option maxHeartbeats 4000000 in
set_option maxRecDepth 100000 in
theorem cb_left_a (l : Launch) {G : va_G} {kT : Nat → ClassId} {L : List Nat} {K : Nat → Nat} {R : pR} {I : pI} {A : mD} {Q : pR} {N : Nat → Nat} (hst : l.stackTraces = false) {T : mT} {D : mD} {ad : pD} (HB : Rep T D ad L K R I A Q N) {x : Int32} (h : oN x 2) : cMt l yX6_left wsX6_left ({ frames := 8, cells := 1, slots := 6, locals := 143 } : Room) G kT [.ref (ad 0 0), .int (x)] L K R I A Q N "java/lang/IndexOutOfBoundsException" := by
  refine cstt (cc := cX6_left) (maxL := 2) (ret := (some .int)) hst (by decide) rfl (Nat.le_of_ble_eq_true rfl) (fun p e s m args below meth c Z Y X hW ls hl => ?_)
  have X : CallFix p m c cX6_left 2 s args wsX6_left RX6 := X
  have hl : lv_has ls 2 [(0, .ref (ad 0 0)), (1, .int (x))] := hl
  have hin0 : ∀ w ∈ wsX00, w ∈ wsX6_left := fun w h => List.mem_cons_of_mem _ (List.mem_append_left _ (List.mem_append_left _ (List.mem_append_right _ (h))))
  have hin1 : ∀ w ∈ wsX10, w ∈ wsX6_left := fun w h => List.mem_cons_of_mem _ (List.mem_append_left _ (List.mem_append_left _ (List.mem_append_left _ (List.mem_append_right _ (h)))))
  have hin6 : ∀ w ∈ wsX60, w ∈ wsX6_left := fun w h => List.mem_cons_of_mem _ (List.mem_append_left _ (List.mem_append_left _ (List.mem_append_left _ (List.mem_append_left _ (List.mem_append_right _ (h))))))
  refine lv_aload_n X.1 X.2.1 dX6_left_0 rfl (lv_at hl 0 rfl) ?_
  refine lv_iload_n X.1 X.2.1 dX6_left_1 rfl (lv_at hl 1 rfl) ?_
  exact cXV Y X hW (HB.mem lv_0) (pC_6 (HB.kn lv_0 rfl)) rfl (cz_joinedStreamAt1 l hst HB h) (cwV 1 X.2.2.2.2 gX6_left_X6_joinedStreamAt rfl rfl rfl (by decide +kernel) ⟨Nat.le_of_ble_eq_true rfl, Nat.le_of_ble_eq_true rfl⟩) rfl rfl hl.1 (Nat.le_of_ble_eq_true rfl) dX6_left_2 ⟨Nat.le_of_ble_eq_true rfl, Nat.le_of_ble_eq_true rfl⟩

set_option maxHeartbeats 4000000 in
set_option maxRecDepth 100000 in
theorem cb_left_b (l : Launch) {G : va_G} {kT : Nat → ClassId} {L : List Nat} {K : Nat → Nat} {R : pR} {I : pI} {A : mD} {Q : pR} {N : Nat → Nat} (hst : l.stackTraces = false) {T : mT} {D : mD} {ad : pD} (HB : Rep T D ad L K R I A Q N) {j pl : Nat} (hj2 : j < 2) (hj : isJS L K R I N (ad 10 j) (ad 11 j) (T 13 j) (T 16 j) pl) (h0 : T 13 j = 0) : cMt l yX6_left wsX6_left ({ frames := 8, cells := 1, slots := 6, locals := 143 } : Room) G kT [.ref (ad 0 0), .int (nI (j))] L K R I A Q N "java/lang/UnsupportedOperationException" := by
  refine cstt (cc := cX6_left) (maxL := 2) (ret := (some .int)) hst (by decide) rfl (Nat.le_of_ble_eq_true rfl) (fun p e s m args below meth c Z Y X hW ls hl => ?_)
  have X : CallFix p m c cX6_left 2 s args wsX6_left RX6 := X
  have hl : lv_has ls 2 [(0, .ref (ad 0 0)), (1, .int (nI (j)))] := hl
  have hin0 : ∀ w ∈ wsX00, w ∈ wsX6_left := fun w h => List.mem_cons_of_mem _ (List.mem_append_left _ (List.mem_append_left _ (List.mem_append_right _ (h))))
  have hin1 : ∀ w ∈ wsX10, w ∈ wsX6_left := fun w h => List.mem_cons_of_mem _ (List.mem_append_left _ (List.mem_append_left _ (List.mem_append_left _ (List.mem_append_right _ (h)))))
  have hin6 : ∀ w ∈ wsX60, w ∈ wsX6_left := fun w h => List.mem_cons_of_mem _ (List.mem_append_left _ (List.mem_append_left _ (List.mem_append_left _ (List.mem_append_left _ (List.mem_append_right _ (h))))))
  refine lv_aload_n X.1 X.2.1 dX6_left_0 rfl (lv_at hl 0 rfl) ?_
  refine lv_iload_n X.1 X.2.1 dX6_left_1 rfl (lv_at hl 1 rfl) ?_
  exact cXV Y X hW (HB.mem lv_0) (pC_6 (HB.kn lv_0 rfl)) rfl (cz_joinedStreamAt l hst HB hj2 hj h0) (cwV 1 X.2.2.2.2 gX6_left_X6_joinedStreamAt rfl rfl rfl (by decide +kernel) ⟨Nat.le_of_ble_eq_true rfl, Nat.le_of_ble_eq_true rfl⟩) rfl rfl hl.1 (Nat.le_of_ble_eq_true rfl) dX6_left_2 ⟨Nat.le_of_ble_eq_true rfl, Nat.le_of_ble_eq_true rfl⟩

set_option maxHeartbeats 4000000 in
set_option maxRecDepth 100000 in
theorem cb_passedShare_a (l : Launch) {G : va_G} {kT : Nat → ClassId} {L : List Nat} {K : Nat → Nat} {R : pR} {I : pI} {A : mD} {Q : pR} {N : Nat → Nat} (hst : l.stackTraces = false) {T : mT} {D : mD} {ad : pD} (HB : Rep T D ad L K R I A Q N) {x : Int32} (h : oN x 2) : cMt l yX6_passedShare wsX6_passedShare ({ frames := 8, cells := 1, slots := 6, locals := 143 } : Room) G kT [.ref (ad 0 0), .int (x)] L K R I A Q N "java/lang/IndexOutOfBoundsException" := by
  refine cstt (cc := cX6_passedShare) (maxL := 3) (ret := (some .float)) hst (by decide) rfl (Nat.le_of_ble_eq_true rfl) (fun p e s m args below meth c Z Y X hW ls hl => ?_)
  have X : CallFix p m c cX6_passedShare 3 s args wsX6_passedShare RX6 := X
  have hl : lv_has ls 3 [(0, .ref (ad 0 0)), (1, .int (x))] := hl
  have hin1 : ∀ w ∈ wsX10, w ∈ wsX6_passedShare := fun w h => List.mem_cons_of_mem _ (List.mem_append_left _ (List.mem_append_left _ (List.mem_append_left _ (List.mem_append_left _ (List.mem_append_right _ (h))))))
  have hin6 : ∀ w ∈ wsX60, w ∈ wsX6_passedShare := fun w h => List.mem_cons_of_mem _ (List.mem_append_left _ (List.mem_append_left _ (List.mem_append_left _ (List.mem_append_right _ (h)))))
  refine lv_aload_n X.1 X.2.1 dX6_passedShare_0 rfl (lv_at hl 0 rfl) ?_
  refine lv_iload_n X.1 X.2.1 dX6_passedShare_1 rfl (lv_at hl 1 rfl) ?_
  exact cXV Y X hW (HB.mem lv_0) (pC_6 (HB.kn lv_0 rfl)) rfl (cz_joinedStreamAt1 l hst HB h) (cwV 1 X.2.2.2.2 gX6_passedShare_X6_joinedStreamAt rfl rfl rfl (by decide +kernel) ⟨Nat.le_of_ble_eq_true rfl, Nat.le_of_ble_eq_true rfl⟩) rfl rfl hl.1 (Nat.le_of_ble_eq_true rfl) dX6_passedShare_2 ⟨Nat.le_of_ble_eq_true rfl, Nat.le_of_ble_eq_true rfl⟩

set_option maxHeartbeats 4000000 in
set_option maxRecDepth 100000 in
theorem cb_passedShare_b (l : Launch) {G : va_G} {kT : Nat → ClassId} {L : List Nat} {K : Nat → Nat} {R : pR} {I : pI} {A : mD} {Q : pR} {N : Nat → Nat} (hst : l.stackTraces = false) {T : mT} {D : mD} {ad : pD} (HB : Rep T D ad L K R I A Q N) {j pl : Nat} (hj2 : j < 2) (hj : isJS L K R I N (ad 10 j) (ad 11 j) (T 13 j) (T 16 j) pl) (h0 : T 13 j = 0) : cMt l yX6_passedShare wsX6_passedShare ({ frames := 8, cells := 1, slots := 6, locals := 143 } : Room) G kT [.ref (ad 0 0), .int (nI (j))] L K R I A Q N "java/lang/UnsupportedOperationException" := by
  refine cstt (cc := cX6_passedShare) (maxL := 3) (ret := (some .float)) hst (by decide) rfl (Nat.le_of_ble_eq_true rfl) (fun p e s m args below meth c Z Y X hW ls hl => ?_)
  have X : CallFix p m c cX6_passedShare 3 s args wsX6_passedShare RX6 := X
  have hl : lv_has ls 3 [(0, .ref (ad 0 0)), (1, .int (nI (j)))] := hl
  have hin1 : ∀ w ∈ wsX10, w ∈ wsX6_passedShare := fun w h => List.mem_cons_of_mem _ (List.mem_append_left _ (List.mem_append_left _ (List.mem_append_left _ (List.mem_append_left _ (List.mem_append_right _ (h))))))
  have hin6 : ∀ w ∈ wsX60, w ∈ wsX6_passedShare := fun w h => List.mem_cons_of_mem _ (List.mem_append_left _ (List.mem_append_left _ (List.mem_append_left _ (List.mem_append_right _ (h)))))
  refine lv_aload_n X.1 X.2.1 dX6_passedShare_0 rfl (lv_at hl 0 rfl) ?_
  refine lv_iload_n X.1 X.2.1 dX6_passedShare_1 rfl (lv_at hl 1 rfl) ?_
  exact cXV Y X hW (HB.mem lv_0) (pC_6 (HB.kn lv_0 rfl)) rfl (cz_joinedStreamAt l hst HB hj2 hj h0) (cwV 1 X.2.2.2.2 gX6_passedShare_X6_joinedStreamAt rfl rfl rfl (by decide +kernel) ⟨Nat.le_of_ble_eq_true rfl, Nat.le_of_ble_eq_true rfl⟩) rfl rfl hl.1 (Nat.le_of_ble_eq_true rfl) dX6_passedShare_2 ⟨Nat.le_of_ble_eq_true rfl, Nat.le_of_ble_eq_true rfl⟩

set_option maxHeartbeats 4000000 in
set_option maxRecDepth 100000 in
theorem cb_passedShare_c (l : Launch) {G : va_G} {kT : Nat → ClassId} {L : List Nat} {K : Nat → Nat} {R : pR} {I : pI} {A : mD} {Q : pR} {N : Nat → Nat} (hst : l.stackTraces = false) {T : mT} {D : mD} {ad : pD} (HB : Rep T D ad L K R I A Q N) {j pl : Nat} (hj2 : j < 2) (hj : isJS L K R I N (ad 10 j) (ad 11 j) (T 13 j) (T 16 j) pl) (h0 : T 13 j ≠ 0) (h : T 17 j = 0) : cMt l yX6_passedShare wsX6_passedShare ({ frames := 8, cells := 1, slots := 6, locals := 143 } : Room) G kT [.ref (ad 0 0), .int (nI (j))] L K R I A Q N "java/lang/ArithmeticException" := by
  refine cstt (cc := cX6_passedShare) (maxL := 3) (ret := (some .float)) hst (by decide) rfl (Nat.le_of_ble_eq_true rfl) (fun p e s m args below meth c Z Y X hW ls hl => ?_)
  have X : CallFix p m c cX6_passedShare 3 s args wsX6_passedShare RX6 := X
  have hl : lv_has ls 3 [(0, .ref (ad 0 0)), (1, .int (nI (j)))] := hl
  have hin1 : ∀ w ∈ wsX10, w ∈ wsX6_passedShare := fun w h => List.mem_cons_of_mem _ (List.mem_append_left _ (List.mem_append_left _ (List.mem_append_left _ (List.mem_append_left _ (List.mem_append_right _ (h))))))
  have hin6 : ∀ w ∈ wsX60, w ∈ wsX6_passedShare := fun w h => List.mem_cons_of_mem _ (List.mem_append_left _ (List.mem_append_left _ (List.mem_append_left _ (List.mem_append_right _ (h)))))
  have hr9 := HB.rj j hj2
  have hp := HB.pt hj2
  have h139 := (HB.mi.stI hj2).le
  refine lv_aload_n X.1 X.2.1 dX6_passedShare_0 rfl (lv_at hl 0 rfl) ?_
  refine lv_iload_n X.1 X.2.1 dX6_passedShare_1 rfl (lv_at hl 1 rfl) ?_
  refine cVr X hW (HB.mem lv_0) (pC_6 (HB.kn lv_0 rfl)) rfl (cg_joinedStreamAt l HB hj2 hj h0) (cwV 1 X.2.2.2.2 gX6_passedShare_X6_joinedStreamAt rfl rfl rfl (by decide +kernel) ⟨Nat.le_of_ble_eq_true rfl, Nat.le_of_ble_eq_true rfl⟩) rfl rfl hl.1 (Nat.le_of_ble_eq_true rfl) dX6_passedShare_2 ⟨Nat.zero_le _, Nat.zero_le _⟩ (fun H locs hW => ?_)
  refine lv_astore_n (lv' := [(2, .ref (ad 10 j)), (0, .ref (ad 0 0)), (1, .int (nI (j)))]) X.1 X.2.1 dX6_passedShare_5 rfl hl (by decide) rfl (fun ls hl => ?_)
  refine lv_aload_n X.1 X.2.1 dX6_passedShare_6 rfl (lv_at hl 0 rfl) ?_
  refine cg_1_total X hin1 hW (hj.1) (hj.2.1) (hr9.2.2.2.2.1) (X.2.2.2.2 (.fieldLink RX6 200 "Strandbook$JoinedStream" "total" "I") (List.mem_cons_of_mem _ (List.mem_append_left _ (List.mem_append_left _ (List.mem_append_left _ (List.mem_append_left _ (List.mem_append_left _ (List.mem_of_getElem? (i := 2) rfl)))))))) dX6_passedShare_7 ?_
  refine n_if_ne_f (tgt := 23) X.1 X.2.1 dX6_passedShare_10 (by decide) (h) (by omega) ?_
  exact cTH Y X hW (text := "the stream has no bytes") (ik := 226) (is := 228) (ic := 230) (by decide +kernel) (List.mem_cons_of_mem _ (List.mem_append_left _ (List.mem_append_left _ (List.mem_append_left _ (List.mem_append_left _ (List.mem_append_left _ (List.mem_of_getElem? (i := 0) rfl))))))) (List.mem_cons_of_mem _ (List.mem_append_left _ (List.mem_append_left _ (List.mem_append_left _ (List.mem_append_left _ (List.mem_append_left _ (List.mem_of_getElem? (i := 1) rfl))))))) (by decide +kernel) (fun w h => List.mem_cons_of_mem _ (List.mem_append_left _ (List.mem_append_left _ (List.mem_append_right _ (h))))) (by decide +kernel) (by decide +kernel) hl.1 dX6_passedShare_13 dX6_passedShare_16 dX6_passedShare_17 dX6_passedShare_19 dX6_passedShare_22 (Nat.le_of_ble_eq_true rfl) (Nat.le_of_ble_eq_true rfl) (Nat.le_of_ble_eq_true rfl) (Nat.le_of_ble_eq_true rfl)

set_option maxHeartbeats 4000000 in
set_option maxRecDepth 100000 in
theorem cb_pass_a (l : Launch) {G : va_G} {kT : Nat → ClassId} {L : List Nat} {K : Nat → Nat} {R : pR} {I : pI} {A : mD} {Q : pR} {N : Nat → Nat} (hst : l.stackTraces = false) {T : mT} {D : mD} {ad : pD} (HB : Rep T D ad L K R I A Q N) {x : Int32} {lm : Int64} (h : oN x 2) : cMt l yX6_pass wsX6_pass ({ frames := 8, cells := 1, slots := 6, locals := 143 } : Room) G kT [.ref (ad 0 0), .int (x), .long (lm)] L K R I A Q N "java/lang/IndexOutOfBoundsException" := by
  refine cstt (cc := cX6_pass) (maxL := 4) (ret := (some .long)) hst (by decide) rfl (Nat.le_of_ble_eq_true rfl) (fun p e s m args below meth c Z Y X hW ls hl => ?_)
  have X : CallFix p m c cX6_pass 4 s args wsX6_pass RX6 := X
  have hl : lv_has ls 4 [(0, .ref (ad 0 0)), (1, .int (x)), (2, .long (lm))] := hl
  have hin0 : ∀ w ∈ wsX00, w ∈ wsX6_pass := fun w h => List.mem_cons_of_mem _ (List.mem_append_left _ (List.mem_append_left _ (List.mem_append_left _ (List.mem_append_left _ (List.mem_append_right _ (h))))))
  have hin1 : ∀ w ∈ wsX10, w ∈ wsX6_pass := fun w h => List.mem_cons_of_mem _ (List.mem_append_left _ (List.mem_append_left _ (List.mem_append_left _ (List.mem_append_left _ (List.mem_append_left _ (List.mem_append_right _ (h)))))))
  have hin6 : ∀ w ∈ wsX60, w ∈ wsX6_pass := fun w h => List.mem_cons_of_mem _ (List.mem_append_left _ (List.mem_append_left _ (List.mem_append_left _ (List.mem_append_left _ (List.mem_append_left _ (List.mem_append_left _ (List.mem_append_right _ (h))))))))
  refine lv_aload_n X.1 X.2.1 dX6_pass_0 rfl (lv_at hl 0 rfl) ?_
  refine lv_iload_n X.1 X.2.1 dX6_pass_1 rfl (lv_at hl 1 rfl) ?_
  exact cXV Y X hW (HB.mem lv_0) (pC_6 (HB.kn lv_0 rfl)) rfl (cz_streamAt l hst HB h) (cwV 1 X.2.2.2.2 gX6_pass_X6_streamAt rfl rfl rfl (by decide +kernel) ⟨Nat.le_of_ble_eq_true rfl, Nat.le_of_ble_eq_true rfl⟩) rfl rfl hl.1 (Nat.le_of_ble_eq_true rfl) dX6_pass_2 ⟨Nat.le_of_ble_eq_true rfl, Nat.le_of_ble_eq_true rfl⟩

set_option maxHeartbeats 4000000 in
set_option maxRecDepth 100000 in
theorem cb_pass_b (l : Launch) {G : va_G} {kT : Nat → ClassId} {L : List Nat} {K : Nat → Nat} {R : pR} {I : pI} {A : mD} {Q : pR} {N : Nat → Nat} (hst : l.stackTraces = false) {T : mT} {D : mD} {ad : pD} (HB : Rep T D ad L K R I A Q N) {j : Nat} {lm : Int64} (hj : j < 2) (h : lm < 0 ∨ 1000 < lm) : cMt l yX6_pass wsX6_pass ({ frames := 8, cells := 1, slots := 6, locals := 143 } : Room) G kT [.ref (ad 0 0), .int (nI (j)), .long (lm)] L K R I A Q N "java/lang/IllegalArgumentException" := by
  refine cstt (cc := cX6_pass) (maxL := 4) (ret := (some .long)) hst (by decide) rfl (Nat.le_of_ble_eq_true rfl) (fun p e s m args below meth c Z Y X hW ls hl => ?_)
  have X : CallFix p m c cX6_pass 4 s args wsX6_pass RX6 := X
  have hl : lv_has ls 4 [(0, .ref (ad 0 0)), (1, .int (nI (j))), (2, .long (lm))] := hl
  have hin0 : ∀ w ∈ wsX00, w ∈ wsX6_pass := fun w h => List.mem_cons_of_mem _ (List.mem_append_left _ (List.mem_append_left _ (List.mem_append_left _ (List.mem_append_left _ (List.mem_append_right _ (h))))))
  have hin1 : ∀ w ∈ wsX10, w ∈ wsX6_pass := fun w h => List.mem_cons_of_mem _ (List.mem_append_left _ (List.mem_append_left _ (List.mem_append_left _ (List.mem_append_left _ (List.mem_append_left _ (List.mem_append_right _ (h)))))))
  have hin6 : ∀ w ∈ wsX60, w ∈ wsX6_pass := fun w h => List.mem_cons_of_mem _ (List.mem_append_left _ (List.mem_append_left _ (List.mem_append_left _ (List.mem_append_left _ (List.mem_append_left _ (List.mem_append_left _ (List.mem_append_right _ (h))))))))
  refine lv_aload_n X.1 X.2.1 dX6_pass_0 rfl (lv_at hl 0 rfl) ?_
  refine lv_iload_n X.1 X.2.1 dX6_pass_1 rfl (lv_at hl 1 rfl) ?_
  refine cVr X hW (HB.mem lv_0) (pC_6 (HB.kn lv_0 rfl)) rfl (cg_streamAt l HB (r := j) (by omega)) (cwV 1 X.2.2.2.2 gX6_pass_X6_streamAt rfl rfl rfl (by decide +kernel) ⟨Nat.le_of_ble_eq_true rfl, Nat.le_of_ble_eq_true rfl⟩) rfl rfl hl.1 (Nat.le_of_ble_eq_true rfl) dX6_pass_2 ⟨Nat.zero_le _, Nat.zero_le _⟩ (fun H locs hW => ?_)
  refine lv_pop X.1 X.2.1 dX6_pass_5 rfl ?_
  refine lv_lload_n X.1 X.2.1 dX6_pass_6 rfl (lv_at hl 2 rfl) ?_
  exact cXS Y X hW (cz_requireWanted l hst h) (va_cwS 1 X.2.2.2.2 gX6_pass_X6_requireWanted rfl rfl rfl (by decide +kernel) ⟨Nat.le_of_ble_eq_true rfl, Nat.le_of_ble_eq_true rfl⟩) rfl rfl hl.1 (Nat.le_of_ble_eq_true rfl) dX6_pass_7 ⟨Nat.le_of_ble_eq_true rfl, Nat.le_of_ble_eq_true rfl⟩

set_option maxHeartbeats 4000000 in
set_option maxRecDepth 100000 in
theorem cb_pass_c (l : Launch) {G : va_G} {kT : Nat → ClassId} {L : List Nat} {K : Nat → Nat} {R : pR} {I : pI} {A : mD} {Q : pR} {N : Nat → Nat} (hst : l.stackTraces = false) {T : mT} {D : mD} {ad : pD} (HB : Rep T D ad L K R I A Q N) {j pl : Nat} (hj2 : j < 2) (hj : isJS L K R I N (ad 10 j) (ad 11 j) (T 13 j) (T 16 j) pl) (h0 : T 13 j = 0) {M : Nat} (hM : M ≤ 1000) : cMt l yX6_pass wsX6_pass ({ frames := 8, cells := 1, slots := 6, locals := 143 } : Room) G kT [.ref (ad 0 0), .int (nI (j)), .long (lN M)] L K R I A Q N "java/lang/UnsupportedOperationException" := by
  refine cstt (cc := cX6_pass) (maxL := 4) (ret := (some .long)) hst (by decide) rfl (Nat.le_of_ble_eq_true rfl) (fun p e s m args below meth c Z Y X hW ls hl => ?_)
  have X : CallFix p m c cX6_pass 4 s args wsX6_pass RX6 := X
  have hl : lv_has ls 4 [(0, .ref (ad 0 0)), (1, .int (nI (j))), (2, .long (lN M))] := hl
  have hin0 : ∀ w ∈ wsX00, w ∈ wsX6_pass := fun w h => List.mem_cons_of_mem _ (List.mem_append_left _ (List.mem_append_left _ (List.mem_append_left _ (List.mem_append_left _ (List.mem_append_right _ (h))))))
  have hin1 : ∀ w ∈ wsX10, w ∈ wsX6_pass := fun w h => List.mem_cons_of_mem _ (List.mem_append_left _ (List.mem_append_left _ (List.mem_append_left _ (List.mem_append_left _ (List.mem_append_left _ (List.mem_append_right _ (h)))))))
  have hin6 : ∀ w ∈ wsX60, w ∈ wsX6_pass := fun w h => List.mem_cons_of_mem _ (List.mem_append_left _ (List.mem_append_left _ (List.mem_append_left _ (List.mem_append_left _ (List.mem_append_left _ (List.mem_append_left _ (List.mem_append_right _ (h))))))))
  refine lv_aload_n X.1 X.2.1 dX6_pass_0 rfl (lv_at hl 0 rfl) ?_
  refine lv_iload_n X.1 X.2.1 dX6_pass_1 rfl (lv_at hl 1 rfl) ?_
  refine cVr X hW (HB.mem lv_0) (pC_6 (HB.kn lv_0 rfl)) rfl (cg_streamAt l HB (r := j) (by omega)) (cwV 1 X.2.2.2.2 gX6_pass_X6_streamAt rfl rfl rfl (by decide +kernel) ⟨Nat.le_of_ble_eq_true rfl, Nat.le_of_ble_eq_true rfl⟩) rfl rfl hl.1 (Nat.le_of_ble_eq_true rfl) dX6_pass_2 ⟨Nat.zero_le _, Nat.zero_le _⟩ (fun H locs hW => ?_)
  refine lv_pop X.1 X.2.1 dX6_pass_5 rfl ?_
  refine lv_lload_n X.1 X.2.1 dX6_pass_6 rfl (lv_at hl 2 rfl) ?_
  refine cSv X hW (cg_requireWanted l (n := M) (by omega)) (va_cwS 1 X.2.2.2.2 gX6_pass_X6_requireWanted rfl rfl rfl (by decide +kernel) ⟨Nat.le_of_ble_eq_true rfl, Nat.le_of_ble_eq_true rfl⟩) rfl rfl hl.1 (Nat.le_of_ble_eq_true rfl) dX6_pass_7 ⟨Nat.zero_le _, Nat.zero_le _⟩ (fun H locs hW => ?_)
  refine lv_aload_n X.1 X.2.1 dX6_pass_10 rfl (lv_at hl 0 rfl) ?_
  refine lv_iload_n X.1 X.2.1 dX6_pass_11 rfl (lv_at hl 1 rfl) ?_
  exact cXV Y X hW (HB.mem lv_0) (pC_6 (HB.kn lv_0 rfl)) rfl (cz_joinedStreamAt l hst HB hj2 hj h0) (cwV 1 X.2.2.2.2 gX6_pass_X6_joinedStreamAt rfl rfl rfl (by decide +kernel) ⟨Nat.le_of_ble_eq_true rfl, Nat.le_of_ble_eq_true rfl⟩) rfl rfl hl.1 (Nat.le_of_ble_eq_true rfl) dX6_pass_12 ⟨Nat.le_of_ble_eq_true rfl, Nat.le_of_ble_eq_true rfl⟩

set_option maxHeartbeats 4000000 in
set_option maxRecDepth 100000 in
theorem cb_nextPart_a (l : Launch) {G : va_G} {kT : Nat → ClassId} {L : List Nat} {K : Nat → Nat} {R : pR} {I : pI} {A : mD} {Q : pR} {N : Nat → Nat} (hst : l.stackTraces = false) {T : mT} {D : mD} {ad : pD} (HB : Rep T D ad L K R I A Q N) {x x1 x2 x3 : Int32} (h : oN x 2) : cMt l yX6_nextPart wsX6_nextPart ({ frames := 8, cells := 1, slots := 6, locals := 143 } : Room) G kT [.ref (ad 0 0), .int (x), .int (x1), .int (x2), .int (x3)] L K R I A Q N "java/lang/IndexOutOfBoundsException" := by
  refine cstt (cc := cX6_nextPart) (maxL := 7) (ret := (some .int)) hst (by decide) rfl (Nat.le_of_ble_eq_true rfl) (fun p e s m args below meth c Z Y X hW ls hl => ?_)
  have X : CallFix p m c cX6_nextPart 7 s args wsX6_nextPart RX6 := X
  have hl : lv_has ls 7 [(0, .ref (ad 0 0)), (1, .int (x)), (2, .int (x1)), (3, .int (x2)), (4, .int (x3))] := hl
  have hin0 : ∀ w ∈ wsX00, w ∈ wsX6_nextPart := fun w h => List.mem_cons_of_mem _ (List.mem_append_left _ (List.mem_append_left _ (List.mem_append_left _ (List.mem_append_left _ (List.mem_append_left _ (List.mem_append_left _ (List.mem_append_left _ (List.mem_append_right _ (h)))))))))
  have hin1 : ∀ w ∈ wsX10, w ∈ wsX6_nextPart := fun w h => List.mem_cons_of_mem _ (List.mem_append_left _ (List.mem_append_left _ (List.mem_append_left _ (List.mem_append_left _ (List.mem_append_left _ (List.mem_append_right _ (h)))))))
  have hin6 : ∀ w ∈ wsX60, w ∈ wsX6_nextPart := fun w h => List.mem_cons_of_mem _ (List.mem_append_left _ (List.mem_append_left _ (List.mem_append_left _ (List.mem_append_left _ (List.mem_append_left _ (List.mem_append_left _ (List.mem_append_right _ (h))))))))
  refine lv_aload_n X.1 X.2.1 dX6_nextPart_0 rfl (lv_at hl 0 rfl) ?_
  refine lv_iload_n X.1 X.2.1 dX6_nextPart_1 rfl (lv_at hl 1 rfl) ?_
  exact cXV Y X hW (HB.mem lv_0) (pC_6 (HB.kn lv_0 rfl)) rfl (cz_streamAt l hst HB h) (cwV 1 X.2.2.2.2 gX6_nextPart_X6_streamAt rfl rfl rfl (by decide +kernel) ⟨Nat.le_of_ble_eq_true rfl, Nat.le_of_ble_eq_true rfl⟩) rfl rfl hl.1 (Nat.le_of_ble_eq_true rfl) dX6_nextPart_2 ⟨Nat.le_of_ble_eq_true rfl, Nat.le_of_ble_eq_true rfl⟩

set_option maxHeartbeats 4000000 in
set_option maxRecDepth 100000 in
theorem cb_nextPart_b (l : Launch) {G : va_G} {kT : Nat → ClassId} {L : List Nat} {K : Nat → Nat} {R : pR} {I : pI} {A : mD} {Q : pR} {N : Nat → Nat} (hst : l.stackTraces = false) {T : mT} {D : mD} {ad : pD} (HB : Rep T D ad L K R I A Q N) {j : Nat} {x x1 x2 : Int32} (hj : j < 2) (h : oN x 4) : cMt l yX6_nextPart wsX6_nextPart ({ frames := 8, cells := 1, slots := 6, locals := 143 } : Room) G kT [.ref (ad 0 0), .int (nI (j)), .int (x), .int (x1), .int (x2)] L K R I A Q N "java/lang/IndexOutOfBoundsException" := by
  refine cstt (cc := cX6_nextPart) (maxL := 7) (ret := (some .int)) hst (by decide) rfl (Nat.le_of_ble_eq_true rfl) (fun p e s m args below meth c Z Y X hW ls hl => ?_)
  have X : CallFix p m c cX6_nextPart 7 s args wsX6_nextPart RX6 := X
  have hl : lv_has ls 7 [(0, .ref (ad 0 0)), (1, .int (nI (j))), (2, .int (x)), (3, .int (x1)), (4, .int (x2))] := hl
  have hin0 : ∀ w ∈ wsX00, w ∈ wsX6_nextPart := fun w h => List.mem_cons_of_mem _ (List.mem_append_left _ (List.mem_append_left _ (List.mem_append_left _ (List.mem_append_left _ (List.mem_append_left _ (List.mem_append_left _ (List.mem_append_left _ (List.mem_append_right _ (h)))))))))
  have hin1 : ∀ w ∈ wsX10, w ∈ wsX6_nextPart := fun w h => List.mem_cons_of_mem _ (List.mem_append_left _ (List.mem_append_left _ (List.mem_append_left _ (List.mem_append_left _ (List.mem_append_left _ (List.mem_append_right _ (h)))))))
  have hin6 : ∀ w ∈ wsX60, w ∈ wsX6_nextPart := fun w h => List.mem_cons_of_mem _ (List.mem_append_left _ (List.mem_append_left _ (List.mem_append_left _ (List.mem_append_left _ (List.mem_append_left _ (List.mem_append_left _ (List.mem_append_right _ (h))))))))
  refine lv_aload_n X.1 X.2.1 dX6_nextPart_0 rfl (lv_at hl 0 rfl) ?_
  refine lv_iload_n X.1 X.2.1 dX6_nextPart_1 rfl (lv_at hl 1 rfl) ?_
  refine cVr X hW (HB.mem lv_0) (pC_6 (HB.kn lv_0 rfl)) rfl (cg_streamAt l HB (r := j) (by omega)) (cwV 1 X.2.2.2.2 gX6_nextPart_X6_streamAt rfl rfl rfl (by decide +kernel) ⟨Nat.le_of_ble_eq_true rfl, Nat.le_of_ble_eq_true rfl⟩) rfl rfl hl.1 (Nat.le_of_ble_eq_true rfl) dX6_nextPart_2 ⟨Nat.zero_le _, Nat.zero_le _⟩ (fun H locs hW => ?_)
  refine lv_pop X.1 X.2.1 dX6_nextPart_5 rfl ?_
  refine lv_aload_n X.1 X.2.1 dX6_nextPart_6 rfl (lv_at hl 0 rfl) ?_
  refine lv_iload_n X.1 X.2.1 dX6_nextPart_7 rfl (lv_at hl 2 rfl) ?_
  exact cXV Y X hW (HB.mem lv_0) (pC_6 (HB.kn lv_0 rfl)) rfl (cz_byteRowAt l hst HB h) (cwV 1 X.2.2.2.2 gX6_nextPart_X6_byteRowAt rfl rfl rfl (by decide +kernel) ⟨Nat.le_of_ble_eq_true rfl, Nat.le_of_ble_eq_true rfl⟩) rfl rfl hl.1 (Nat.le_of_ble_eq_true rfl) dX6_nextPart_8 ⟨Nat.le_of_ble_eq_true rfl, Nat.le_of_ble_eq_true rfl⟩

set_option maxHeartbeats 4000000 in
set_option maxRecDepth 100000 in
theorem cb_nextPart_c (l : Launch) {G : va_G} {kT : Nat → ClassId} {L : List Nat} {K : Nat → Nat} {R : pR} {I : pI} {A : mD} {Q : pR} {N : Nat → Nat} (hst : l.stackTraces = false) {T : mT} {D : mD} {ad : pD} (HB : Rep T D ad L K R I A Q N) {j r : Nat} {x x1 : Int32} (hj : j < 2) (hr : r < 4) (h : oP (T 4 (T 5 r)) x x1) : cMt l yX6_nextPart wsX6_nextPart ({ frames := 8, cells := 1, slots := 6, locals := 143 } : Room) G kT [.ref (ad 0 0), .int (nI (j)), .int (nI (r)), .int (x), .int (x1)] L K R I A Q N "java/lang/IndexOutOfBoundsException" := by
  refine cstt (cc := cX6_nextPart) (maxL := 7) (ret := (some .int)) hst (by decide) rfl (Nat.le_of_ble_eq_true rfl) (fun p e s m args below meth c Z Y X hW ls hl => ?_)
  have X : CallFix p m c cX6_nextPart 7 s args wsX6_nextPart RX6 := X
  have hl : lv_has ls 7 [(0, .ref (ad 0 0)), (1, .int (nI (j))), (2, .int (nI (r))), (3, .int (x)), (4, .int (x1))] := hl
  have hin0 : ∀ w ∈ wsX00, w ∈ wsX6_nextPart := fun w h => List.mem_cons_of_mem _ (List.mem_append_left _ (List.mem_append_left _ (List.mem_append_left _ (List.mem_append_left _ (List.mem_append_left _ (List.mem_append_left _ (List.mem_append_left _ (List.mem_append_right _ (h)))))))))
  have hin1 : ∀ w ∈ wsX10, w ∈ wsX6_nextPart := fun w h => List.mem_cons_of_mem _ (List.mem_append_left _ (List.mem_append_left _ (List.mem_append_left _ (List.mem_append_left _ (List.mem_append_left _ (List.mem_append_right _ (h)))))))
  have hin6 : ∀ w ∈ wsX60, w ∈ wsX6_nextPart := fun w h => List.mem_cons_of_mem _ (List.mem_append_left _ (List.mem_append_left _ (List.mem_append_left _ (List.mem_append_left _ (List.mem_append_left _ (List.mem_append_left _ (List.mem_append_right _ (h))))))))
  have hu := uB_row (T := T) hr
  have hbr := HB.br hu
  have hl9 := hbr.2.2.2.2.2.2
  refine lv_aload_n X.1 X.2.1 dX6_nextPart_0 rfl (lv_at hl 0 rfl) ?_
  refine lv_iload_n X.1 X.2.1 dX6_nextPart_1 rfl (lv_at hl 1 rfl) ?_
  refine cVr X hW (HB.mem lv_0) (pC_6 (HB.kn lv_0 rfl)) rfl (cg_streamAt l HB (r := j) (by omega)) (cwV 1 X.2.2.2.2 gX6_nextPart_X6_streamAt rfl rfl rfl (by decide +kernel) ⟨Nat.le_of_ble_eq_true rfl, Nat.le_of_ble_eq_true rfl⟩) rfl rfl hl.1 (Nat.le_of_ble_eq_true rfl) dX6_nextPart_2 ⟨Nat.zero_le _, Nat.zero_le _⟩ (fun H locs hW => ?_)
  refine lv_pop X.1 X.2.1 dX6_nextPart_5 rfl ?_
  refine lv_aload_n X.1 X.2.1 dX6_nextPart_6 rfl (lv_at hl 0 rfl) ?_
  refine lv_iload_n X.1 X.2.1 dX6_nextPart_7 rfl (lv_at hl 2 rfl) ?_
  refine cVr X hW (HB.mem lv_0) (pC_6 (HB.kn lv_0 rfl)) rfl (cg_byteRowAt l HB (r := r) (by omega)) (cwV 1 X.2.2.2.2 gX6_nextPart_X6_byteRowAt rfl rfl rfl (by decide +kernel) ⟨Nat.le_of_ble_eq_true rfl, Nat.le_of_ble_eq_true rfl⟩) rfl rfl hl.1 (Nat.le_of_ble_eq_true rfl) dX6_nextPart_8 ⟨Nat.zero_le _, Nat.zero_le _⟩ (fun H locs hW => ?_)
  refine lv_astore (lv' := [(5, .ref (ad 5 (T 5 r))), (0, .ref (ad 0 0)), (1, .int (nI (j))), (2, .int (nI (r))), (3, .int (x)), (4, .int (x1))]) X.1 X.2.1 dX6_nextPart_11 hl (by decide) rfl (fun ls hl => ?_)
  refine lv_iload_n X.1 X.2.1 dX6_nextPart_13 rfl (lv_at hl 4 rfl) ?_
  refine lv_iload X.1 X.2.1 dX6_nextPart_14 (lv_at hl 5 rfl) ?_
  refine lv_aload X.1 X.2.1 dX6_nextPart_16 (lv_at hl 0 rfl) ?_
  refine cg_0_bytes X hin0 hW (hbr.1) (hbr.2.1) (hbr.2.2.1) (X.2.2.2.2 (.fieldLink RX6 87 "Strandbook$ByteRow" "bytes" "[B") (List.mem_cons_of_mem _ (List.mem_append_left _ (List.mem_append_left _ (List.mem_append_left _ (List.mem_append_left _ (List.mem_append_left _ (List.mem_append_left _ (List.mem_append_left _ (List.mem_append_left _ (List.mem_append_left _ (List.mem_of_getElem? (i := 2) rfl)))))))))))) dX6_nextPart_18 ?_
  refine cln_7 X hW (hbr.2.2.2.1) (hbr.2.2.2.2.1) (hbr.2.2.2.2.2.1) dX6_nextPart_21 ?_
  exact cXS Y X hW (cz_requirePlaces l hst (by omega) h) (va_cwS 3 X.2.2.2.2 gX6_nextPart_X6_requirePlaces rfl rfl rfl (by decide +kernel) ⟨Nat.le_of_ble_eq_true rfl, Nat.le_of_ble_eq_true rfl⟩) rfl rfl hl.1 (Nat.le_of_ble_eq_true rfl) dX6_nextPart_22 ⟨Nat.le_of_ble_eq_true rfl, Nat.le_of_ble_eq_true rfl⟩

set_option maxHeartbeats 4000000 in
set_option maxRecDepth 100000 in
theorem cb_nextPart_d (l : Launch) {G : va_G} {kT : Nat → ClassId} {L : List Nat} {K : Nat → Nat} {R : pR} {I : pI} {A : mD} {Q : pR} {N : Nat → Nat} (hst : l.stackTraces = false) {T : mT} {D : mD} {ad : pD} (HB : Rep T D ad L K R I A Q N) {j r f : Nat} (hj : j < 2) (hr : r < 4) (hf : f + 0 ≤ T 4 (T 5 r)) : cMt l yX6_nextPart wsX6_nextPart ({ frames := 8, cells := 1, slots := 6, locals := 143 } : Room) G kT [.ref (ad 0 0), .int (nI (j)), .int (nI (r)), .int (nI (f)), .int (nI (0))] L K R I A Q N "java/lang/IllegalArgumentException" := by
  refine cstt (cc := cX6_nextPart) (maxL := 7) (ret := (some .int)) hst (by decide) rfl (Nat.le_of_ble_eq_true rfl) (fun p e s m args below meth c Z Y X hW ls hl => ?_)
  have X : CallFix p m c cX6_nextPart 7 s args wsX6_nextPart RX6 := X
  have hl : lv_has ls 7 [(0, .ref (ad 0 0)), (1, .int (nI (j))), (2, .int (nI (r))), (3, .int (nI (f))), (4, .int (nI (0)))] := hl
  have hin0 : ∀ w ∈ wsX00, w ∈ wsX6_nextPart := fun w h => List.mem_cons_of_mem _ (List.mem_append_left _ (List.mem_append_left _ (List.mem_append_left _ (List.mem_append_left _ (List.mem_append_left _ (List.mem_append_left _ (List.mem_append_left _ (List.mem_append_right _ (h)))))))))
  have hin1 : ∀ w ∈ wsX10, w ∈ wsX6_nextPart := fun w h => List.mem_cons_of_mem _ (List.mem_append_left _ (List.mem_append_left _ (List.mem_append_left _ (List.mem_append_left _ (List.mem_append_left _ (List.mem_append_right _ (h)))))))
  have hin6 : ∀ w ∈ wsX60, w ∈ wsX6_nextPart := fun w h => List.mem_cons_of_mem _ (List.mem_append_left _ (List.mem_append_left _ (List.mem_append_left _ (List.mem_append_left _ (List.mem_append_left _ (List.mem_append_left _ (List.mem_append_right _ (h))))))))
  have hu := uB_row (T := T) hr
  have hbr := HB.br hu
  have hl9 := hbr.2.2.2.2.2.2
  refine lv_aload_n X.1 X.2.1 dX6_nextPart_0 rfl (lv_at hl 0 rfl) ?_
  refine lv_iload_n X.1 X.2.1 dX6_nextPart_1 rfl (lv_at hl 1 rfl) ?_
  refine cVr X hW (HB.mem lv_0) (pC_6 (HB.kn lv_0 rfl)) rfl (cg_streamAt l HB (r := j) (by omega)) (cwV 1 X.2.2.2.2 gX6_nextPart_X6_streamAt rfl rfl rfl (by decide +kernel) ⟨Nat.le_of_ble_eq_true rfl, Nat.le_of_ble_eq_true rfl⟩) rfl rfl hl.1 (Nat.le_of_ble_eq_true rfl) dX6_nextPart_2 ⟨Nat.zero_le _, Nat.zero_le _⟩ (fun H locs hW => ?_)
  refine lv_pop X.1 X.2.1 dX6_nextPart_5 rfl ?_
  refine lv_aload_n X.1 X.2.1 dX6_nextPart_6 rfl (lv_at hl 0 rfl) ?_
  refine lv_iload_n X.1 X.2.1 dX6_nextPart_7 rfl (lv_at hl 2 rfl) ?_
  refine cVr X hW (HB.mem lv_0) (pC_6 (HB.kn lv_0 rfl)) rfl (cg_byteRowAt l HB (r := r) (by omega)) (cwV 1 X.2.2.2.2 gX6_nextPart_X6_byteRowAt rfl rfl rfl (by decide +kernel) ⟨Nat.le_of_ble_eq_true rfl, Nat.le_of_ble_eq_true rfl⟩) rfl rfl hl.1 (Nat.le_of_ble_eq_true rfl) dX6_nextPart_8 ⟨Nat.zero_le _, Nat.zero_le _⟩ (fun H locs hW => ?_)
  refine lv_astore (lv' := [(5, .ref (ad 5 (T 5 r))), (0, .ref (ad 0 0)), (1, .int (nI (j))), (2, .int (nI (r))), (3, .int (nI (f))), (4, .int (nI (0)))]) X.1 X.2.1 dX6_nextPart_11 hl (by decide) rfl (fun ls hl => ?_)
  refine lv_iload_n X.1 X.2.1 dX6_nextPart_13 rfl (lv_at hl 4 rfl) ?_
  refine lv_iload X.1 X.2.1 dX6_nextPart_14 (lv_at hl 5 rfl) ?_
  refine lv_aload X.1 X.2.1 dX6_nextPart_16 (lv_at hl 0 rfl) ?_
  refine cg_0_bytes X hin0 hW (hbr.1) (hbr.2.1) (hbr.2.2.1) (X.2.2.2.2 (.fieldLink RX6 87 "Strandbook$ByteRow" "bytes" "[B") (List.mem_cons_of_mem _ (List.mem_append_left _ (List.mem_append_left _ (List.mem_append_left _ (List.mem_append_left _ (List.mem_append_left _ (List.mem_append_left _ (List.mem_append_left _ (List.mem_append_left _ (List.mem_append_left _ (List.mem_of_getElem? (i := 2) rfl)))))))))))) dX6_nextPart_18 ?_
  refine cln_7 X hW (hbr.2.2.2.1) (hbr.2.2.2.2.1) (hbr.2.2.2.2.2.1) dX6_nextPart_21 ?_
  refine cSv X hW (cg_requirePlaces l (f := f) (j := 0) (n := T 4 (T 5 r)) (by omega) (by omega)) (va_cwS 3 X.2.2.2.2 gX6_nextPart_X6_requirePlaces rfl rfl rfl (by decide +kernel) ⟨Nat.le_of_ble_eq_true rfl, Nat.le_of_ble_eq_true rfl⟩) rfl rfl hl.1 (Nat.le_of_ble_eq_true rfl) dX6_nextPart_22 ⟨Nat.zero_le _, Nat.zero_le _⟩ (fun H locs hW => ?_)
  refine lv_iload X.1 X.2.1 dX6_nextPart_25 (lv_at hl 5 rfl) ?_
  exact cXS Y X hW (cz_requireSome l hst) (va_cwS 1 X.2.2.2.2 gX6_nextPart_X6_requireSome rfl rfl rfl (by decide +kernel) ⟨Nat.le_of_ble_eq_true rfl, Nat.le_of_ble_eq_true rfl⟩) rfl rfl hl.1 (Nat.le_of_ble_eq_true rfl) dX6_nextPart_27 ⟨Nat.le_of_ble_eq_true rfl, Nat.le_of_ble_eq_true rfl⟩

set_option maxHeartbeats 4000000 in
set_option maxRecDepth 100000 in
theorem cb_nextPart_e (l : Launch) {G : va_G} {kT : Nat → ClassId} {L : List Nat} {K : Nat → Nat} {R : pR} {I : pI} {A : mD} {Q : pR} {N : Nat → Nat} (hst : l.stackTraces = false) {T : mT} {D : mD} {ad : pD} (HB : Rep T D ad L K R I A Q N) {j pl : Nat} (hj2 : j < 2) (hj : isJS L K R I N (ad 10 j) (ad 11 j) (T 13 j) (T 16 j) pl) (h0 : T 13 j = 0) {r f n : Nat} (hr : r < 4) (hf : f + n ≤ T 4 (T 5 r)) (hn : n ≠ 0) : cMt l yX6_nextPart wsX6_nextPart ({ frames := 8, cells := 1, slots := 6, locals := 143 } : Room) G kT [.ref (ad 0 0), .int (nI (j)), .int (nI (r)), .int (nI (f)), .int (nI (n))] L K R I A Q N "java/lang/UnsupportedOperationException" := by
  refine cstt (cc := cX6_nextPart) (maxL := 7) (ret := (some .int)) hst (by decide) rfl (Nat.le_of_ble_eq_true rfl) (fun p e s m args below meth c Z Y X hW ls hl => ?_)
  have X : CallFix p m c cX6_nextPart 7 s args wsX6_nextPart RX6 := X
  have hl : lv_has ls 7 [(0, .ref (ad 0 0)), (1, .int (nI (j))), (2, .int (nI (r))), (3, .int (nI (f))), (4, .int (nI (n)))] := hl
  have hin0 : ∀ w ∈ wsX00, w ∈ wsX6_nextPart := fun w h => List.mem_cons_of_mem _ (List.mem_append_left _ (List.mem_append_left _ (List.mem_append_left _ (List.mem_append_left _ (List.mem_append_left _ (List.mem_append_left _ (List.mem_append_left _ (List.mem_append_right _ (h)))))))))
  have hin1 : ∀ w ∈ wsX10, w ∈ wsX6_nextPart := fun w h => List.mem_cons_of_mem _ (List.mem_append_left _ (List.mem_append_left _ (List.mem_append_left _ (List.mem_append_left _ (List.mem_append_left _ (List.mem_append_right _ (h)))))))
  have hin6 : ∀ w ∈ wsX60, w ∈ wsX6_nextPart := fun w h => List.mem_cons_of_mem _ (List.mem_append_left _ (List.mem_append_left _ (List.mem_append_left _ (List.mem_append_left _ (List.mem_append_left _ (List.mem_append_left _ (List.mem_append_right _ (h))))))))
  have hu := uB_row (T := T) hr
  have hbr := HB.br hu
  have hl9 := hbr.2.2.2.2.2.2
  refine lv_aload_n X.1 X.2.1 dX6_nextPart_0 rfl (lv_at hl 0 rfl) ?_
  refine lv_iload_n X.1 X.2.1 dX6_nextPart_1 rfl (lv_at hl 1 rfl) ?_
  refine cVr X hW (HB.mem lv_0) (pC_6 (HB.kn lv_0 rfl)) rfl (cg_streamAt l HB (r := j) (by omega)) (cwV 1 X.2.2.2.2 gX6_nextPart_X6_streamAt rfl rfl rfl (by decide +kernel) ⟨Nat.le_of_ble_eq_true rfl, Nat.le_of_ble_eq_true rfl⟩) rfl rfl hl.1 (Nat.le_of_ble_eq_true rfl) dX6_nextPart_2 ⟨Nat.zero_le _, Nat.zero_le _⟩ (fun H locs hW => ?_)
  refine lv_pop X.1 X.2.1 dX6_nextPart_5 rfl ?_
  refine lv_aload_n X.1 X.2.1 dX6_nextPart_6 rfl (lv_at hl 0 rfl) ?_
  refine lv_iload_n X.1 X.2.1 dX6_nextPart_7 rfl (lv_at hl 2 rfl) ?_
  refine cVr X hW (HB.mem lv_0) (pC_6 (HB.kn lv_0 rfl)) rfl (cg_byteRowAt l HB (r := r) (by omega)) (cwV 1 X.2.2.2.2 gX6_nextPart_X6_byteRowAt rfl rfl rfl (by decide +kernel) ⟨Nat.le_of_ble_eq_true rfl, Nat.le_of_ble_eq_true rfl⟩) rfl rfl hl.1 (Nat.le_of_ble_eq_true rfl) dX6_nextPart_8 ⟨Nat.zero_le _, Nat.zero_le _⟩ (fun H locs hW => ?_)
  refine lv_astore (lv' := [(5, .ref (ad 5 (T 5 r))), (0, .ref (ad 0 0)), (1, .int (nI (j))), (2, .int (nI (r))), (3, .int (nI (f))), (4, .int (nI (n)))]) X.1 X.2.1 dX6_nextPart_11 hl (by decide) rfl (fun ls hl => ?_)
  refine lv_iload_n X.1 X.2.1 dX6_nextPart_13 rfl (lv_at hl 4 rfl) ?_
  refine lv_iload X.1 X.2.1 dX6_nextPart_14 (lv_at hl 5 rfl) ?_
  refine lv_aload X.1 X.2.1 dX6_nextPart_16 (lv_at hl 0 rfl) ?_
  refine cg_0_bytes X hin0 hW (hbr.1) (hbr.2.1) (hbr.2.2.1) (X.2.2.2.2 (.fieldLink RX6 87 "Strandbook$ByteRow" "bytes" "[B") (List.mem_cons_of_mem _ (List.mem_append_left _ (List.mem_append_left _ (List.mem_append_left _ (List.mem_append_left _ (List.mem_append_left _ (List.mem_append_left _ (List.mem_append_left _ (List.mem_append_left _ (List.mem_append_left _ (List.mem_of_getElem? (i := 2) rfl)))))))))))) dX6_nextPart_18 ?_
  refine cln_7 X hW (hbr.2.2.2.1) (hbr.2.2.2.2.1) (hbr.2.2.2.2.2.1) dX6_nextPart_21 ?_
  refine cSv X hW (cg_requirePlaces l (f := f) (j := n) (n := T 4 (T 5 r)) (by omega) (by omega)) (va_cwS 3 X.2.2.2.2 gX6_nextPart_X6_requirePlaces rfl rfl rfl (by decide +kernel) ⟨Nat.le_of_ble_eq_true rfl, Nat.le_of_ble_eq_true rfl⟩) rfl rfl hl.1 (Nat.le_of_ble_eq_true rfl) dX6_nextPart_22 ⟨Nat.zero_le _, Nat.zero_le _⟩ (fun H locs hW => ?_)
  refine lv_iload X.1 X.2.1 dX6_nextPart_25 (lv_at hl 5 rfl) ?_
  refine cSv X hW (cg_requireSome l (n := n) (by omega) (by omega)) (va_cwS 1 X.2.2.2.2 gX6_nextPart_X6_requireSome rfl rfl rfl (by decide +kernel) ⟨Nat.le_of_ble_eq_true rfl, Nat.le_of_ble_eq_true rfl⟩) rfl rfl hl.1 (Nat.le_of_ble_eq_true rfl) dX6_nextPart_27 ⟨Nat.zero_le _, Nat.zero_le _⟩ (fun H locs hW => ?_)
  refine lv_aload_n X.1 X.2.1 dX6_nextPart_30 rfl (lv_at hl 1 rfl) ?_
  refine lv_iload_n X.1 X.2.1 dX6_nextPart_31 rfl (lv_at hl 2 rfl) ?_
  exact cXV Y X hW (HB.mem lv_0) (pC_6 (HB.kn lv_0 rfl)) rfl (cz_joinedStreamAt l hst HB hj2 hj h0) (cwV 1 X.2.2.2.2 gX6_nextPart_X6_joinedStreamAt rfl rfl rfl (by decide +kernel) ⟨Nat.le_of_ble_eq_true rfl, Nat.le_of_ble_eq_true rfl⟩) rfl rfl hl.1 (Nat.le_of_ble_eq_true rfl) dX6_nextPart_32 ⟨Nat.le_of_ble_eq_true rfl, Nat.le_of_ble_eq_true rfl⟩

set_option maxHeartbeats 4000000 in
set_option maxRecDepth 100000 in
theorem cb_nextPart_f (l : Launch) {G : va_G} {kT : Nat → ClassId} {L : List Nat} {K : Nat → Nat} {R : pR} {I : pI} {A : mD} {Q : pR} {N : Nat → Nat} (hst : l.stackTraces = false) {T : mT} {D : mD} {ad : pD} (HB : Rep T D ad L K R I A Q N) {j pl : Nat} (hj2 : j < 2) (hj : isJS L K R I N (ad 10 j) (ad 11 j) (T 13 j) (T 16 j) pl) {r f n : Nat} (hr : r < 4) (hf : f + n ≤ T 4 (T 5 r)) (hn : n ≠ 0) (h0 : T 13 j ≠ 0) (k0 : Nat) (hk0 : k0 < T 13 j) (hd : T 14 (3 * j + k0) = T 5 r + 1) (hno : ∀ k, k < k0 → T 14 (3 * j + k) ≠ T 5 r + 1) : cMt l yX6_nextPart wsX6_nextPart ({ frames := 8, cells := 1, slots := 6, locals := 143 } : Room) G kT [.ref (ad 0 0), .int (nI (j)), .int (nI (r)), .int (nI (f)), .int (nI (n))] L K R I A Q N "java/lang/IllegalStateException" := by
  refine cstt (cc := cX6_nextPart) (maxL := 7) (ret := (some .int)) hst (by decide) rfl (Nat.le_of_ble_eq_true rfl) (fun p e s m args below meth c Z Y X hW ls hl => ?_)
  have X : CallFix p m c cX6_nextPart 7 s args wsX6_nextPart RX6 := X
  have hl : lv_has ls 7 [(0, .ref (ad 0 0)), (1, .int (nI (j))), (2, .int (nI (r))), (3, .int (nI (f))), (4, .int (nI (n)))] := hl
  have hin0 : ∀ w ∈ wsX00, w ∈ wsX6_nextPart := fun w h => List.mem_cons_of_mem _ (List.mem_append_left _ (List.mem_append_left _ (List.mem_append_left _ (List.mem_append_left _ (List.mem_append_left _ (List.mem_append_left _ (List.mem_append_left _ (List.mem_append_right _ (h)))))))))
  have hin1 : ∀ w ∈ wsX10, w ∈ wsX6_nextPart := fun w h => List.mem_cons_of_mem _ (List.mem_append_left _ (List.mem_append_left _ (List.mem_append_left _ (List.mem_append_left _ (List.mem_append_left _ (List.mem_append_right _ (h)))))))
  have hin6 : ∀ w ∈ wsX60, w ∈ wsX6_nextPart := fun w h => List.mem_cons_of_mem _ (List.mem_append_left _ (List.mem_append_left _ (List.mem_append_left _ (List.mem_append_left _ (List.mem_append_left _ (List.mem_append_left _ (List.mem_append_right _ (h))))))))
  have hu := uB_row (T := T) hr
  have hbr := HB.br hu
  have hl9 := hbr.2.2.2.2.2.2
  have hr9 := HB.rj j hj2
  have hp := HB.pt hj2
  have h139 := (HB.mi.stI hj2).le
  have hd9 : ad 5 (T 14 (3 * j + k0) - 1) = ad 5 (T 5 r) := by rw [hd]; rfl
  have hpo : ∀ k, k < k0 → ad 5 (T 14 (3 * j + k) - 1) ≠ ad 5 (T 5 r) := fun k hk => HB.ne (lv_5 (HB.up hj2 (Nat.lt_trans hk hk0))) (lv_5 hu) (Or.inr (fun z => hno k hk (by have := ((HB.mi.stI hj2).2.2 k (by omega)).2.1 (Nat.lt_trans hk hk0); omega)))
  refine lv_aload_n X.1 X.2.1 dX6_nextPart_0 rfl (lv_at hl 0 rfl) ?_
  refine lv_iload_n X.1 X.2.1 dX6_nextPart_1 rfl (lv_at hl 1 rfl) ?_
  refine cVr X hW (HB.mem lv_0) (pC_6 (HB.kn lv_0 rfl)) rfl (cg_streamAt l HB (r := j) (by omega)) (cwV 1 X.2.2.2.2 gX6_nextPart_X6_streamAt rfl rfl rfl (by decide +kernel) ⟨Nat.le_of_ble_eq_true rfl, Nat.le_of_ble_eq_true rfl⟩) rfl rfl hl.1 (Nat.le_of_ble_eq_true rfl) dX6_nextPart_2 ⟨Nat.zero_le _, Nat.zero_le _⟩ (fun H locs hW => ?_)
  refine lv_pop X.1 X.2.1 dX6_nextPart_5 rfl ?_
  refine lv_aload_n X.1 X.2.1 dX6_nextPart_6 rfl (lv_at hl 0 rfl) ?_
  refine lv_iload_n X.1 X.2.1 dX6_nextPart_7 rfl (lv_at hl 2 rfl) ?_
  refine cVr X hW (HB.mem lv_0) (pC_6 (HB.kn lv_0 rfl)) rfl (cg_byteRowAt l HB (r := r) (by omega)) (cwV 1 X.2.2.2.2 gX6_nextPart_X6_byteRowAt rfl rfl rfl (by decide +kernel) ⟨Nat.le_of_ble_eq_true rfl, Nat.le_of_ble_eq_true rfl⟩) rfl rfl hl.1 (Nat.le_of_ble_eq_true rfl) dX6_nextPart_8 ⟨Nat.zero_le _, Nat.zero_le _⟩ (fun H locs hW => ?_)
  refine lv_astore (lv' := [(5, .ref (ad 5 (T 5 r))), (0, .ref (ad 0 0)), (1, .int (nI (j))), (2, .int (nI (r))), (3, .int (nI (f))), (4, .int (nI (n)))]) X.1 X.2.1 dX6_nextPart_11 hl (by decide) rfl (fun ls hl => ?_)
  refine lv_iload_n X.1 X.2.1 dX6_nextPart_13 rfl (lv_at hl 4 rfl) ?_
  refine lv_iload X.1 X.2.1 dX6_nextPart_14 (lv_at hl 5 rfl) ?_
  refine lv_aload X.1 X.2.1 dX6_nextPart_16 (lv_at hl 0 rfl) ?_
  refine cg_0_bytes X hin0 hW (hbr.1) (hbr.2.1) (hbr.2.2.1) (X.2.2.2.2 (.fieldLink RX6 87 "Strandbook$ByteRow" "bytes" "[B") (List.mem_cons_of_mem _ (List.mem_append_left _ (List.mem_append_left _ (List.mem_append_left _ (List.mem_append_left _ (List.mem_append_left _ (List.mem_append_left _ (List.mem_append_left _ (List.mem_append_left _ (List.mem_append_left _ (List.mem_of_getElem? (i := 2) rfl)))))))))))) dX6_nextPart_18 ?_
  refine cln_7 X hW (hbr.2.2.2.1) (hbr.2.2.2.2.1) (hbr.2.2.2.2.2.1) dX6_nextPart_21 ?_
  refine cSv X hW (cg_requirePlaces l (f := f) (j := n) (n := T 4 (T 5 r)) (by omega) (by omega)) (va_cwS 3 X.2.2.2.2 gX6_nextPart_X6_requirePlaces rfl rfl rfl (by decide +kernel) ⟨Nat.le_of_ble_eq_true rfl, Nat.le_of_ble_eq_true rfl⟩) rfl rfl hl.1 (Nat.le_of_ble_eq_true rfl) dX6_nextPart_22 ⟨Nat.zero_le _, Nat.zero_le _⟩ (fun H locs hW => ?_)
  refine lv_iload X.1 X.2.1 dX6_nextPart_25 (lv_at hl 5 rfl) ?_
  refine cSv X hW (cg_requireSome l (n := n) (by omega) (by omega)) (va_cwS 1 X.2.2.2.2 gX6_nextPart_X6_requireSome rfl rfl rfl (by decide +kernel) ⟨Nat.le_of_ble_eq_true rfl, Nat.le_of_ble_eq_true rfl⟩) rfl rfl hl.1 (Nat.le_of_ble_eq_true rfl) dX6_nextPart_27 ⟨Nat.zero_le _, Nat.zero_le _⟩ (fun H locs hW => ?_)
  refine lv_aload_n X.1 X.2.1 dX6_nextPart_30 rfl (lv_at hl 1 rfl) ?_
  refine lv_iload_n X.1 X.2.1 dX6_nextPart_31 rfl (lv_at hl 2 rfl) ?_
  refine cVr X hW (HB.mem lv_0) (pC_6 (HB.kn lv_0 rfl)) rfl (cg_joinedStreamAt l HB hj2 hj h0) (cwV 1 X.2.2.2.2 gX6_nextPart_X6_joinedStreamAt rfl rfl rfl (by decide +kernel) ⟨Nat.le_of_ble_eq_true rfl, Nat.le_of_ble_eq_true rfl⟩) rfl rfl hl.1 (Nat.le_of_ble_eq_true rfl) dX6_nextPart_32 ⟨Nat.zero_le _, Nat.zero_le _⟩ (fun H locs hW => ?_)
  refine lv_astore (lv' := [(6, .ref (ad 10 j)), (5, .ref (ad 5 (T 5 r))), (0, .ref (ad 0 0)), (1, .int (nI (j))), (2, .int (nI (r))), (3, .int (nI (f))), (4, .int (nI (n)))]) X.1 X.2.1 dX6_nextPart_35 hl (by decide) rfl (fun ls hl => ?_)
  refine lv_aload X.1 X.2.1 dX6_nextPart_37 (lv_at hl 0 rfl) ?_
  refine lv_aload X.1 X.2.1 dX6_nextPart_39 (lv_at hl 1 rfl) ?_
  refine cVi X hW (hj.1) (pC_1 (hj.2.1)) rfl (ct_hasPart_1 l hj hp k0 hk0 hd9 hpo) (cwV 1 X.2.2.2.2 gX6_nextPart_X1_hasPart rfl rfl rfl (by decide +kernel) ⟨Nat.le_of_ble_eq_true rfl, Nat.le_of_ble_eq_true rfl⟩) rfl rfl hl.1 (Nat.le_of_ble_eq_true rfl) dX6_nextPart_41 ⟨Nat.zero_le _, Nat.zero_le _⟩ (fun H locs hW => ?_)
  refine n_if_eq_f (tgt := 57) X.1 X.2.1 dX6_nextPart_44 (by decide) (by decide) (by omega) ?_
  exact cTH Y X hW (text := "the row is the array of a part") (ik := 168) (is := 215) (ic := 172) (by decide +kernel) (List.mem_cons_of_mem _ (List.mem_append_left _ (List.mem_append_left _ (List.mem_append_left _ (List.mem_append_left _ (List.mem_append_left _ (List.mem_append_left _ (List.mem_append_left _ (List.mem_append_left _ (List.mem_append_left _ (List.mem_of_getElem? (i := 0) rfl))))))))))) (List.mem_cons_of_mem _ (List.mem_append_left _ (List.mem_append_left _ (List.mem_append_left _ (List.mem_append_left _ (List.mem_append_left _ (List.mem_append_left _ (List.mem_append_left _ (List.mem_append_left _ (List.mem_append_left _ (List.mem_of_getElem? (i := 1) rfl))))))))))) (by decide +kernel) (fun w h => List.mem_cons_of_mem _ (List.mem_append_left _ (List.mem_append_left _ (List.mem_append_left _ (List.mem_append_left _ (List.mem_append_right _ (h))))))) (by decide +kernel) (by decide +kernel) hl.1 dX6_nextPart_47 dX6_nextPart_50 dX6_nextPart_51 dX6_nextPart_53 dX6_nextPart_56 (Nat.le_of_ble_eq_true rfl) (Nat.le_of_ble_eq_true rfl) (Nat.le_of_ble_eq_true rfl) (Nat.le_of_ble_eq_true rfl)
