set_option maxHeartbeats 4000000 in
set_option maxRecDepth 100000 in
theorem cb_make_a (l : Launch) {G : va_G} {kT : Nat → ClassId} {L : List Nat} {K : Nat → Nat} {R : pR} {I : pI} {A : mD} {Q : pR} {N : Nat → Nat} (hst : l.stackTraces = false) {T : mT} {D : mD} {ad : pD} (HB : Rep T D ad L K R I A Q N) {x y : Int32} (h : oN x 4) : cMt l yX6_make wsX6_make ({ frames := 7, cells := 1, slots := 6, locals := 121 } : Room) G kT [.ref (ad 0 0), .int (x), .int (y)] L K R I A Q N "java/lang/IndexOutOfBoundsException" := by
  refine cstt (cc := cX6_make) (maxL := 4) (ret := (some .int)) hst (by decide) rfl (Nat.le_of_ble_eq_true rfl) (fun p e s m args below meth c Z Y X hW ls hl => ?_)
  have X : CallFix p m c cX6_make 4 s args wsX6_make RX6 := X
  have hl : lv_has ls 4 [(0, .ref (ad 0 0)), (1, .int (x)), (2, .int (y))] := hl
  have hin3 : ∀ w ∈ wsX30, w ∈ wsX6_make := fun w h => List.mem_cons_of_mem _ (List.mem_append_left _ (List.mem_append_left _ (List.mem_append_left _ (List.mem_append_right _ (h)))))
  have hin6 : ∀ w ∈ wsX60, w ∈ wsX6_make := fun w h => List.mem_cons_of_mem _ (List.mem_append_left _ (List.mem_append_left _ (List.mem_append_right _ (h))))
  refine lv_aload_n X.1 X.2.1 dX6_make_0 rfl (lv_at hl 0 rfl) ?_
  refine lv_iload_n X.1 X.2.1 dX6_make_1 rfl (lv_at hl 1 rfl) ?_
  exact cXV Y X hW (HB.mem lv_0) (pC_6 (HB.kn lv_0 rfl)) rfl (cz_signRowAt l hst HB h) (cwV 1 X.2.2.2.2 gX6_make_X6_signRowAt rfl rfl rfl (by decide +kernel) ⟨Nat.le_of_ble_eq_true rfl, Nat.le_of_ble_eq_true rfl⟩) rfl rfl hl.1 (Nat.le_of_ble_eq_true rfl) dX6_make_2 ⟨Nat.le_of_ble_eq_true rfl, Nat.le_of_ble_eq_true rfl⟩
set_option maxHeartbeats 4000000 in
set_option maxRecDepth 100000 in
theorem cb_make_b (l : Launch) {G : va_G} {kT : Nat → ClassId} {L : List Nat} {K : Nat → Nat} {R : pR} {I : pI} {A : mD} {Q : pR} {N : Nat → Nat} (hst : l.stackTraces = false) {T : mT} {D : mD} {ad : pD} (HB : Rep T D ad L K R I A Q N) {r : Nat} {x : Int32} (hr : r < 4) (h : oN x 257) : cMt l yX6_make wsX6_make ({ frames := 7, cells := 1, slots := 6, locals := 121 } : Room) G kT [.ref (ad 0 0), .int (nI (r)), .int (x)] L K R I A Q N "java/lang/IllegalArgumentException" := by
  by_cases h0 : x < 0
  · skip
    refine cstt (cc := cX6_make) (maxL := 4) (ret := (some .int)) hst (by decide) rfl (Nat.le_of_ble_eq_true rfl) (fun p e s m args below meth c Z Y X hW ls hl => ?_)
    have X : CallFix p m c cX6_make 4 s args wsX6_make RX6 := X
    have hl : lv_has ls 4 [(0, .ref (ad 0 0)), (1, .int (nI (r))), (2, .int (x))] := hl
    have hin3 : ∀ w ∈ wsX30, w ∈ wsX6_make := fun w h => List.mem_cons_of_mem _ (List.mem_append_left _ (List.mem_append_left _ (List.mem_append_left _ (List.mem_append_right _ (h)))))
    have hin6 : ∀ w ∈ wsX60, w ∈ wsX6_make := fun w h => List.mem_cons_of_mem _ (List.mem_append_left _ (List.mem_append_left _ (List.mem_append_right _ (h))))
    have hu := uS_row (T := T) hr
    have hsr := HB.sr hu
    have hl9 := hsr.2.2.2.2.2.2
    refine lv_aload_n X.1 X.2.1 dX6_make_0 rfl (lv_at hl 0 rfl) ?_
    refine lv_iload_n X.1 X.2.1 dX6_make_1 rfl (lv_at hl 1 rfl) ?_
    refine cVr X hW (HB.mem lv_0) (pC_6 (HB.kn lv_0 rfl)) rfl (cg_signRowAt l HB (r := r) (by omega)) (cwV 1 X.2.2.2.2 gX6_make_X6_signRowAt rfl rfl rfl (by decide +kernel) ⟨Nat.le_of_ble_eq_true rfl, Nat.le_of_ble_eq_true rfl⟩) rfl rfl hl.1 (Nat.le_of_ble_eq_true rfl) dX6_make_2 ⟨Nat.zero_le _, Nat.zero_le _⟩ (fun H locs hW => ?_)
    refine cg_3_signs X hin3 hW (hsr.1) (hsr.2.1) (hsr.2.2.1) (X.2.2.2.2 (.fieldLink RX6 60 "Strandbook$SignRow" "signs" "[C") (List.mem_cons_of_mem _ (List.mem_append_left _ (List.mem_append_left _ (List.mem_append_left _ (List.mem_append_left _ (List.mem_of_getElem? (i := 2) rfl))))))) dX6_make_5 ?_
    refine cln_8 X hW (hsr.2.2.2.1) (hsr.2.2.2.2.1) (hsr.2.2.2.2.2.1) dX6_make_8 ?_
    refine lv_istore_n (lv' := [(3, .int (nI (T 1 (T 2 r)))), (0, .ref (ad 0 0)), (1, .int (nI (r))), (2, .int (x))]) X.1 X.2.1 dX6_make_9 rfl hl (by decide) rfl (fun ls hl => ?_)
    refine lv_iload_n X.1 X.2.1 dX6_make_10 rfl (lv_at hl 3 rfl) ?_
    refine x_if_lt_t (tgt := 21) X.1 X.2.1 dX6_make_11 (by decide) (h0) ?_
    exact cTH Y X hW (text := "the length is out of range") (ik := 64) (is := 66) (ic := 68) (by decide +kernel) (List.mem_cons_of_mem _ (List.mem_append_left _ (List.mem_append_left _ (List.mem_append_left _ (List.mem_append_left _ (List.mem_of_getElem? (i := 0) rfl)))))) (List.mem_cons_of_mem _ (List.mem_append_left _ (List.mem_append_left _ (List.mem_append_left _ (List.mem_append_left _ (List.mem_of_getElem? (i := 1) rfl)))))) (by decide +kernel) (fun w h => List.mem_cons_of_mem _ (List.mem_append_left _ (List.mem_append_right _ (h)))) (by decide +kernel) (by decide +kernel) hl.1 dX6_make_21 dX6_make_24 dX6_make_25 dX6_make_27 dX6_make_30 (Nat.le_of_ble_eq_true rfl) (Nat.le_of_ble_eq_true rfl) (Nat.le_of_ble_eq_true rfl) (Nat.le_of_ble_eq_true rfl)
  · obtain ⟨j, hj, hn, rfl⟩ := oN_ge h h0
    refine cstt (cc := cX6_make) (maxL := 4) (ret := (some .int)) hst (by decide) rfl (Nat.le_of_ble_eq_true rfl) (fun p e s m args below meth c Z Y X hW ls hl => ?_)
    have X : CallFix p m c cX6_make 4 s args wsX6_make RX6 := X
    have hl : lv_has ls 4 [(0, .ref (ad 0 0)), (1, .int (nI (r))), (2, .int (nI (j)))] := hl
    have hin3 : ∀ w ∈ wsX30, w ∈ wsX6_make := fun w h => List.mem_cons_of_mem _ (List.mem_append_left _ (List.mem_append_left _ (List.mem_append_left _ (List.mem_append_right _ (h)))))
    have hin6 : ∀ w ∈ wsX60, w ∈ wsX6_make := fun w h => List.mem_cons_of_mem _ (List.mem_append_left _ (List.mem_append_left _ (List.mem_append_right _ (h))))
    have hu := uS_row (T := T) hr
    have hsr := HB.sr hu
    have hl9 := hsr.2.2.2.2.2.2
    refine lv_aload_n X.1 X.2.1 dX6_make_0 rfl (lv_at hl 0 rfl) ?_
    refine lv_iload_n X.1 X.2.1 dX6_make_1 rfl (lv_at hl 1 rfl) ?_
    refine cVr X hW (HB.mem lv_0) (pC_6 (HB.kn lv_0 rfl)) rfl (cg_signRowAt l HB (r := r) (by omega)) (cwV 1 X.2.2.2.2 gX6_make_X6_signRowAt rfl rfl rfl (by decide +kernel) ⟨Nat.le_of_ble_eq_true rfl, Nat.le_of_ble_eq_true rfl⟩) rfl rfl hl.1 (Nat.le_of_ble_eq_true rfl) dX6_make_2 ⟨Nat.zero_le _, Nat.zero_le _⟩ (fun H locs hW => ?_)
    refine cg_3_signs X hin3 hW (hsr.1) (hsr.2.1) (hsr.2.2.1) (X.2.2.2.2 (.fieldLink RX6 60 "Strandbook$SignRow" "signs" "[C") (List.mem_cons_of_mem _ (List.mem_append_left _ (List.mem_append_left _ (List.mem_append_left _ (List.mem_append_left _ (List.mem_of_getElem? (i := 2) rfl))))))) dX6_make_5 ?_
    refine cln_8 X hW (hsr.2.2.2.1) (hsr.2.2.2.2.1) (hsr.2.2.2.2.2.1) dX6_make_8 ?_
    refine lv_istore_n (lv' := [(3, .int (nI (T 1 (T 2 r)))), (0, .ref (ad 0 0)), (1, .int (nI (r))), (2, .int (nI (j)))]) X.1 X.2.1 dX6_make_9 rfl hl (by decide) rfl (fun ls hl => ?_)
    refine lv_iload_n X.1 X.2.1 dX6_make_10 rfl (lv_at hl 3 rfl) ?_
    refine n_if_lt_f (tgt := 21) X.1 X.2.1 dX6_make_11 (by decide) (by omega) ?_
    refine lv_iload_n X.1 X.2.1 dX6_make_14 rfl (lv_at hl 3 rfl) ?_
    refine lv_sipush (v := nI 256) X.1 X.2.1 dX6_make_15 (by decide) ?_
    refine n_icmp_le_f (tgt := 31) X.1 X.2.1 dX6_make_18 (by decide) (by omega) (by omega) (by omega) ?_
    exact cTH Y X hW (text := "the length is out of range") (ik := 64) (is := 66) (ic := 68) (by decide +kernel) (List.mem_cons_of_mem _ (List.mem_append_left _ (List.mem_append_left _ (List.mem_append_left _ (List.mem_append_left _ (List.mem_of_getElem? (i := 0) rfl)))))) (List.mem_cons_of_mem _ (List.mem_append_left _ (List.mem_append_left _ (List.mem_append_left _ (List.mem_append_left _ (List.mem_of_getElem? (i := 1) rfl)))))) (by decide +kernel) (fun w h => List.mem_cons_of_mem _ (List.mem_append_left _ (List.mem_append_right _ (h)))) (by decide +kernel) (by decide +kernel) hl.1 dX6_make_21 dX6_make_24 dX6_make_25 dX6_make_27 dX6_make_30 (Nat.le_of_ble_eq_true rfl) (Nat.le_of_ble_eq_true rfl) (Nat.le_of_ble_eq_true rfl) (Nat.le_of_ble_eq_true rfl)
set_option maxHeartbeats 4000000 in
set_option maxRecDepth 100000 in
theorem cb_put_a (l : Launch) {G : va_G} {kT : Nat → ClassId} {L : List Nat} {K : Nat → Nat} {R : pR} {I : pI} {A : mD} {Q : pR} {N : Nat → Nat} (hst : l.stackTraces = false) {T : mT} {D : mD} {ad : pD} (HB : Rep T D ad L K R I A Q N) {x x1 x2 : Int32} (h : oN x 4) : cMt l yX6_put wsX6_put ({ frames := 7, cells := 1, slots := 6, locals := 121 } : Room) G kT [.ref (ad 0 0), .int (x), .int (x1), .int (x2)] L K R I A Q N "java/lang/IndexOutOfBoundsException" := by
  refine cstt (cc := cX6_put) (maxL := 6) (ret := (some .char)) hst (by decide) rfl (Nat.le_of_ble_eq_true rfl) (fun p e s m args below meth c Z Y X hW ls hl => ?_)
  have X : CallFix p m c cX6_put 6 s args wsX6_put RX6 := X
  have hl : lv_has ls 6 [(0, .ref (ad 0 0)), (1, .int (x)), (2, .int (x1)), (3, .int (x2))] := hl
  have hin3 : ∀ w ∈ wsX30, w ∈ wsX6_put := fun w h => List.mem_cons_of_mem _ (List.mem_append_left _ (List.mem_append_left _ (List.mem_append_left _ (List.mem_append_right _ (h)))))
  have hin6 : ∀ w ∈ wsX60, w ∈ wsX6_put := fun w h => List.mem_cons_of_mem _ (List.mem_append_left _ (List.mem_append_left _ (List.mem_append_right _ (h))))
  refine lv_aload_n X.1 X.2.1 dX6_put_0 rfl (lv_at hl 0 rfl) ?_
  refine lv_iload_n X.1 X.2.1 dX6_put_1 rfl (lv_at hl 1 rfl) ?_
  exact cXV Y X hW (HB.mem lv_0) (pC_6 (HB.kn lv_0 rfl)) rfl (cz_signRowAt l hst HB h) (cwV 1 X.2.2.2.2 gX6_put_X6_signRowAt rfl rfl rfl (by decide +kernel) ⟨Nat.le_of_ble_eq_true rfl, Nat.le_of_ble_eq_true rfl⟩) rfl rfl hl.1 (Nat.le_of_ble_eq_true rfl) dX6_put_2 ⟨Nat.le_of_ble_eq_true rfl, Nat.le_of_ble_eq_true rfl⟩
set_option maxHeartbeats 4000000 in
set_option maxRecDepth 100000 in
theorem cb_put_b (l : Launch) {G : va_G} {kT : Nat → ClassId} {L : List Nat} {K : Nat → Nat} {R : pR} {I : pI} {A : mD} {Q : pR} {N : Nat → Nat} (hst : l.stackTraces = false) {T : mT} {D : mD} {ad : pD} (HB : Rep T D ad L K R I A Q N) {r : Nat} {x x2 : Int32} (hr : r < 4) (h : oN x (T 1 (T 2 r))) : cMt l yX6_put wsX6_put ({ frames := 7, cells := 1, slots := 6, locals := 121 } : Room) G kT [.ref (ad 0 0), .int (nI (r)), .int (x), .int (x2)] L K R I A Q N "java/lang/IndexOutOfBoundsException" := by
  refine cstt (cc := cX6_put) (maxL := 6) (ret := (some .char)) hst (by decide) rfl (Nat.le_of_ble_eq_true rfl) (fun p e s m args below meth c Z Y X hW ls hl => ?_)
  have X : CallFix p m c cX6_put 6 s args wsX6_put RX6 := X
  have hl : lv_has ls 6 [(0, .ref (ad 0 0)), (1, .int (nI (r))), (2, .int (x)), (3, .int (x2))] := hl
  have hin3 : ∀ w ∈ wsX30, w ∈ wsX6_put := fun w h => List.mem_cons_of_mem _ (List.mem_append_left _ (List.mem_append_left _ (List.mem_append_left _ (List.mem_append_right _ (h)))))
  have hin6 : ∀ w ∈ wsX60, w ∈ wsX6_put := fun w h => List.mem_cons_of_mem _ (List.mem_append_left _ (List.mem_append_left _ (List.mem_append_right _ (h))))
  have hu := uS_row (T := T) hr
  have hsr := HB.sr hu
  have hl9 := hsr.2.2.2.2.2.2
  refine lv_aload_n X.1 X.2.1 dX6_put_0 rfl (lv_at hl 0 rfl) ?_
  refine lv_iload_n X.1 X.2.1 dX6_put_1 rfl (lv_at hl 1 rfl) ?_
  refine cVr X hW (HB.mem lv_0) (pC_6 (HB.kn lv_0 rfl)) rfl (cg_signRowAt l HB (r := r) (by omega)) (cwV 1 X.2.2.2.2 gX6_put_X6_signRowAt rfl rfl rfl (by decide +kernel) ⟨Nat.le_of_ble_eq_true rfl, Nat.le_of_ble_eq_true rfl⟩) rfl rfl hl.1 (Nat.le_of_ble_eq_true rfl) dX6_put_2 ⟨Nat.zero_le _, Nat.zero_le _⟩ (fun H locs hW => ?_)
  refine cg_3_signs X hin3 hW (hsr.1) (hsr.2.1) (hsr.2.2.1) (X.2.2.2.2 (.fieldLink RX6 60 "Strandbook$SignRow" "signs" "[C") (List.mem_cons_of_mem _ (List.mem_append_left _ (List.mem_append_left _ (List.mem_append_left _ (List.mem_append_left _ (List.mem_of_getElem? (i := 0) rfl))))))) dX6_put_5 ?_
  refine lv_astore (lv' := [(4, .ref (ad 4 (T 2 r))), (0, .ref (ad 0 0)), (1, .int (nI (r))), (2, .int (x)), (3, .int (x2))]) X.1 X.2.1 dX6_put_8 hl (by decide) rfl (fun ls hl => ?_)
  refine lv_iload_n X.1 X.2.1 dX6_put_10 rfl (lv_at hl 3 rfl) ?_
  refine lv_aload X.1 X.2.1 dX6_put_11 (lv_at hl 0 rfl) ?_
  refine cln_8 X hW (hsr.2.2.2.1) (hsr.2.2.2.2.1) (hsr.2.2.2.2.2.1) dX6_put_13 ?_
  exact cXS Y X hW (cz_requirePlace l hst (by omega) h) (va_cwS 2 X.2.2.2.2 gX6_put_X6_requirePlace rfl rfl rfl (by decide +kernel) ⟨Nat.le_of_ble_eq_true rfl, Nat.le_of_ble_eq_true rfl⟩) rfl rfl hl.1 (Nat.le_of_ble_eq_true rfl) dX6_put_14 ⟨Nat.le_of_ble_eq_true rfl, Nat.le_of_ble_eq_true rfl⟩
set_option maxHeartbeats 4000000 in
set_option maxRecDepth 100000 in
theorem cb_get_a (l : Launch) {G : va_G} {kT : Nat → ClassId} {L : List Nat} {K : Nat → Nat} {R : pR} {I : pI} {A : mD} {Q : pR} {N : Nat → Nat} (hst : l.stackTraces = false) {T : mT} {D : mD} {ad : pD} (HB : Rep T D ad L K R I A Q N) {x x1 : Int32} (h : oN x 4) : cMt l yX6_get wsX6_get ({ frames := 7, cells := 1, slots := 6, locals := 121 } : Room) G kT [.ref (ad 0 0), .int (x), .int (x1)] L K R I A Q N "java/lang/IndexOutOfBoundsException" := by
  refine cstt (cc := cX6_get) (maxL := 4) (ret := (some .char)) hst (by decide) rfl (Nat.le_of_ble_eq_true rfl) (fun p e s m args below meth c Z Y X hW ls hl => ?_)
  have X : CallFix p m c cX6_get 4 s args wsX6_get RX6 := X
  have hl : lv_has ls 4 [(0, .ref (ad 0 0)), (1, .int (x)), (2, .int (x1))] := hl
  have hin3 : ∀ w ∈ wsX30, w ∈ wsX6_get := fun w h => List.mem_cons_of_mem _ (List.mem_append_left _ (List.mem_append_left _ (List.mem_append_left _ (List.mem_append_right _ (h)))))
  have hin6 : ∀ w ∈ wsX60, w ∈ wsX6_get := fun w h => List.mem_cons_of_mem _ (List.mem_append_left _ (List.mem_append_left _ (List.mem_append_right _ (h))))
  refine lv_aload_n X.1 X.2.1 dX6_get_0 rfl (lv_at hl 0 rfl) ?_
  refine lv_iload_n X.1 X.2.1 dX6_get_1 rfl (lv_at hl 1 rfl) ?_
  exact cXV Y X hW (HB.mem lv_0) (pC_6 (HB.kn lv_0 rfl)) rfl (cz_signRowAt l hst HB h) (cwV 1 X.2.2.2.2 gX6_get_X6_signRowAt rfl rfl rfl (by decide +kernel) ⟨Nat.le_of_ble_eq_true rfl, Nat.le_of_ble_eq_true rfl⟩) rfl rfl hl.1 (Nat.le_of_ble_eq_true rfl) dX6_get_2 ⟨Nat.le_of_ble_eq_true rfl, Nat.le_of_ble_eq_true rfl⟩
set_option maxHeartbeats 4000000 in
set_option maxRecDepth 100000 in
theorem cb_get_b (l : Launch) {G : va_G} {kT : Nat → ClassId} {L : List Nat} {K : Nat → Nat} {R : pR} {I : pI} {A : mD} {Q : pR} {N : Nat → Nat} (hst : l.stackTraces = false) {T : mT} {D : mD} {ad : pD} (HB : Rep T D ad L K R I A Q N) {r : Nat} {x : Int32} (hr : r < 4) (h : oN x (T 1 (T 2 r))) : cMt l yX6_get wsX6_get ({ frames := 7, cells := 1, slots := 6, locals := 121 } : Room) G kT [.ref (ad 0 0), .int (nI (r)), .int (x)] L K R I A Q N "java/lang/IndexOutOfBoundsException" := by
  refine cstt (cc := cX6_get) (maxL := 4) (ret := (some .char)) hst (by decide) rfl (Nat.le_of_ble_eq_true rfl) (fun p e s m args below meth c Z Y X hW ls hl => ?_)
  have X : CallFix p m c cX6_get 4 s args wsX6_get RX6 := X
  have hl : lv_has ls 4 [(0, .ref (ad 0 0)), (1, .int (nI (r))), (2, .int (x))] := hl
  have hin3 : ∀ w ∈ wsX30, w ∈ wsX6_get := fun w h => List.mem_cons_of_mem _ (List.mem_append_left _ (List.mem_append_left _ (List.mem_append_left _ (List.mem_append_right _ (h)))))
  have hin6 : ∀ w ∈ wsX60, w ∈ wsX6_get := fun w h => List.mem_cons_of_mem _ (List.mem_append_left _ (List.mem_append_left _ (List.mem_append_right _ (h))))
  have hu := uS_row (T := T) hr
  have hsr := HB.sr hu
  have hl9 := hsr.2.2.2.2.2.2
  refine lv_aload_n X.1 X.2.1 dX6_get_0 rfl (lv_at hl 0 rfl) ?_
  refine lv_iload_n X.1 X.2.1 dX6_get_1 rfl (lv_at hl 1 rfl) ?_
  refine cVr X hW (HB.mem lv_0) (pC_6 (HB.kn lv_0 rfl)) rfl (cg_signRowAt l HB (r := r) (by omega)) (cwV 1 X.2.2.2.2 gX6_get_X6_signRowAt rfl rfl rfl (by decide +kernel) ⟨Nat.le_of_ble_eq_true rfl, Nat.le_of_ble_eq_true rfl⟩) rfl rfl hl.1 (Nat.le_of_ble_eq_true rfl) dX6_get_2 ⟨Nat.zero_le _, Nat.zero_le _⟩ (fun H locs hW => ?_)
  refine cg_3_signs X hin3 hW (hsr.1) (hsr.2.1) (hsr.2.2.1) (X.2.2.2.2 (.fieldLink RX6 60 "Strandbook$SignRow" "signs" "[C") (List.mem_cons_of_mem _ (List.mem_append_left _ (List.mem_append_left _ (List.mem_append_left _ (List.mem_append_left _ (List.mem_of_getElem? (i := 0) rfl))))))) dX6_get_5 ?_
  refine lv_astore_n (lv' := [(3, .ref (ad 4 (T 2 r))), (0, .ref (ad 0 0)), (1, .int (nI (r))), (2, .int (x))]) X.1 X.2.1 dX6_get_8 rfl hl (by decide) rfl (fun ls hl => ?_)
  refine lv_iload_n X.1 X.2.1 dX6_get_9 rfl (lv_at hl 3 rfl) ?_
  refine lv_aload_n X.1 X.2.1 dX6_get_10 rfl (lv_at hl 0 rfl) ?_
  refine cln_8 X hW (hsr.2.2.2.1) (hsr.2.2.2.2.1) (hsr.2.2.2.2.2.1) dX6_get_11 ?_
  exact cXS Y X hW (cz_requirePlace l hst (by omega) h) (va_cwS 2 X.2.2.2.2 gX6_get_X6_requirePlace rfl rfl rfl (by decide +kernel) ⟨Nat.le_of_ble_eq_true rfl, Nat.le_of_ble_eq_true rfl⟩) rfl rfl hl.1 (Nat.le_of_ble_eq_true rfl) dX6_get_12 ⟨Nat.le_of_ble_eq_true rfl, Nat.le_of_ble_eq_true rfl⟩
set_option maxHeartbeats 4000000 in
set_option maxRecDepth 100000 in
theorem cb_length_a (l : Launch) {G : va_G} {kT : Nat → ClassId} {L : List Nat} {K : Nat → Nat} {R : pR} {I : pI} {A : mD} {Q : pR} {N : Nat → Nat} (hst : l.stackTraces = false) {T : mT} {D : mD} {ad : pD} (HB : Rep T D ad L K R I A Q N) {x : Int32} (h : oN x 4) : cMt l yX6_length wsX6_length ({ frames := 7, cells := 1, slots := 6, locals := 121 } : Room) G kT [.ref (ad 0 0), .int (x)] L K R I A Q N "java/lang/IndexOutOfBoundsException" := by
  refine cstt (cc := cX6_length) (maxL := 2) (ret := (some .int)) hst (by decide) rfl (Nat.le_of_ble_eq_true rfl) (fun p e s m args below meth c Z Y X hW ls hl => ?_)
  have X : CallFix p m c cX6_length 2 s args wsX6_length RX6 := X
  have hl : lv_has ls 2 [(0, .ref (ad 0 0)), (1, .int (x))] := hl
  have hin3 : ∀ w ∈ wsX30, w ∈ wsX6_length := fun w h => List.mem_cons_of_mem _ (List.mem_append_left _ (List.mem_append_left _ (List.mem_append_right _ (h))))
  have hin6 : ∀ w ∈ wsX60, w ∈ wsX6_length := fun w h => List.mem_cons_of_mem _ (List.mem_append_left _ (List.mem_append_right _ (h)))
  refine lv_aload_n X.1 X.2.1 dX6_length_0 rfl (lv_at hl 0 rfl) ?_
  refine lv_iload_n X.1 X.2.1 dX6_length_1 rfl (lv_at hl 1 rfl) ?_
  exact cXV Y X hW (HB.mem lv_0) (pC_6 (HB.kn lv_0 rfl)) rfl (cz_signRowAt l hst HB h) (cwV 1 X.2.2.2.2 gX6_length_X6_signRowAt rfl rfl rfl (by decide +kernel) ⟨Nat.le_of_ble_eq_true rfl, Nat.le_of_ble_eq_true rfl⟩) rfl rfl hl.1 (Nat.le_of_ble_eq_true rfl) dX6_length_2 ⟨Nat.le_of_ble_eq_true rfl, Nat.le_of_ble_eq_true rfl⟩
set_option maxHeartbeats 4000000 in
set_option maxRecDepth 100000 in
theorem cz_addPart_a (l : Launch) {G : va_G} {kT : Nat → ClassId} {L : List Nat} {K : Nat → Nat} {R : pR} {I : pI} {A : mD} {Q : pR} {N : Nat → Nat} (hst : l.stackTraces = false) {T : mT} {D : mD} {ad : pD} (HB : Rep T D ad L K R I A Q N) {w : Nat} (hw : w < 6) {x x1 x2 : Int32} (h : oN x 4) : cMt l yX6_addPart wsX6_addPart ({ frames := 7, cells := 1, slots := 6, locals := 122 } : Room) G kT [.ref (ad 0 0), .ref (ad 7 w), .int (x), .int (x1), .int (x2)] L K R I A Q N "java/lang/IndexOutOfBoundsException" := by
  refine cstt (cc := cX6_addPart) (maxL := 6) (ret := (some .int)) hst (by decide) rfl (Nat.le_of_ble_eq_true rfl) (fun p e s m args below meth c Z Y X hW ls hl => ?_)
  have X : CallFix p m c cX6_addPart 6 s args wsX6_addPart RX6 := X
  have hl : lv_has ls 6 [(0, .ref (ad 0 0)), (1, .ref (ad 7 w)), (2, .int (x)), (3, .int (x1)), (4, .int (x2))] := hl
  have hin3 : ∀ w ∈ wsX30, w ∈ wsX6_addPart := fun w h => List.mem_cons_of_mem _ (List.mem_append_left _ (List.mem_append_left _ (List.mem_append_left _ (List.mem_append_left _ (List.mem_append_left _ (List.mem_append_right _ (h)))))))
  have hin4 : ∀ w ∈ wsX40, w ∈ wsX6_addPart := fun w h => List.mem_cons_of_mem _ (List.mem_append_left _ (List.mem_append_left _ (List.mem_append_left _ (List.mem_append_left _ (List.mem_append_right _ (h))))))
  have hin6 : ∀ w ∈ wsX60, w ∈ wsX6_addPart := fun w h => List.mem_cons_of_mem _ (List.mem_append_left _ (List.mem_append_left _ (List.mem_append_left _ (List.mem_append_right _ (h)))))
  refine lv_aload_n X.1 X.2.1 dX6_addPart_0 rfl (lv_at hl 0 rfl) ?_
  refine lv_iload_n X.1 X.2.1 dX6_addPart_1 rfl (lv_at hl 2 rfl) ?_
  exact cXV Y X hW (HB.mem lv_0) (pC_6 (HB.kn lv_0 rfl)) rfl (cz_signRowAt l hst HB h) (cwV 1 X.2.2.2.2 gX6_addPart_X6_signRowAt rfl rfl rfl (by decide +kernel) ⟨Nat.le_of_ble_eq_true rfl, Nat.le_of_ble_eq_true rfl⟩) rfl rfl hl.1 (Nat.le_of_ble_eq_true rfl) dX6_addPart_2 ⟨Nat.le_of_ble_eq_true rfl, Nat.le_of_ble_eq_true rfl⟩
set_option maxHeartbeats 4000000 in
set_option maxRecDepth 100000 in
theorem cz_addPart_b (l : Launch) {G : va_G} {kT : Nat → ClassId} {L : List Nat} {K : Nat → Nat} {R : pR} {I : pI} {A : mD} {Q : pR} {N : Nat → Nat} (hst : l.stackTraces = false) {T : mT} {D : mD} {ad : pD} (HB : Rep T D ad L K R I A Q N) {w : Nat} (hw : w < 6) {r : Nat} {x x2 : Int32} (hr : r < 4) (h : oP (T 1 (T 2 r)) x x2) : cMt l yX6_addPart wsX6_addPart ({ frames := 7, cells := 1, slots := 6, locals := 122 } : Room) G kT [.ref (ad 0 0), .ref (ad 7 w), .int (nI (r)), .int (x), .int (x2)] L K R I A Q N "java/lang/IndexOutOfBoundsException" := by
  refine cstt (cc := cX6_addPart) (maxL := 6) (ret := (some .int)) hst (by decide) rfl (Nat.le_of_ble_eq_true rfl) (fun p e s m args below meth c Z Y X hW ls hl => ?_)
  have X : CallFix p m c cX6_addPart 6 s args wsX6_addPart RX6 := X
  have hl : lv_has ls 6 [(0, .ref (ad 0 0)), (1, .ref (ad 7 w)), (2, .int (nI (r))), (3, .int (x)), (4, .int (x2))] := hl
  have hin3 : ∀ w ∈ wsX30, w ∈ wsX6_addPart := fun w h => List.mem_cons_of_mem _ (List.mem_append_left _ (List.mem_append_left _ (List.mem_append_left _ (List.mem_append_left _ (List.mem_append_left _ (List.mem_append_right _ (h)))))))
  have hin4 : ∀ w ∈ wsX40, w ∈ wsX6_addPart := fun w h => List.mem_cons_of_mem _ (List.mem_append_left _ (List.mem_append_left _ (List.mem_append_left _ (List.mem_append_left _ (List.mem_append_right _ (h))))))
  have hin6 : ∀ w ∈ wsX60, w ∈ wsX6_addPart := fun w h => List.mem_cons_of_mem _ (List.mem_append_left _ (List.mem_append_left _ (List.mem_append_left _ (List.mem_append_right _ (h)))))
  have hu := uS_row (T := T) hr
  have hsr := HB.sr hu
  have hl9 := hsr.2.2.2.2.2.2
  refine lv_aload_n X.1 X.2.1 dX6_addPart_0 rfl (lv_at hl 0 rfl) ?_
  refine lv_iload_n X.1 X.2.1 dX6_addPart_1 rfl (lv_at hl 2 rfl) ?_
  refine cVr X hW (HB.mem lv_0) (pC_6 (HB.kn lv_0 rfl)) rfl (cg_signRowAt l HB (r := r) (by omega)) (cwV 1 X.2.2.2.2 gX6_addPart_X6_signRowAt rfl rfl rfl (by decide +kernel) ⟨Nat.le_of_ble_eq_true rfl, Nat.le_of_ble_eq_true rfl⟩) rfl rfl hl.1 (Nat.le_of_ble_eq_true rfl) dX6_addPart_2 ⟨Nat.zero_le _, Nat.zero_le _⟩ (fun H locs hW => ?_)
  refine cg_3_signs X hin3 hW (hsr.1) (hsr.2.1) (hsr.2.2.1) (X.2.2.2.2 (.fieldLink RX6 60 "Strandbook$SignRow" "signs" "[C") (List.mem_cons_of_mem _ (List.mem_append_left _ (List.mem_append_left _ (List.mem_append_left _ (List.mem_append_left _ (List.mem_append_left _ (List.mem_append_left _ (List.mem_append_left _ (List.mem_of_getElem? (i := 0) rfl)))))))))) dX6_addPart_5 ?_
  refine lv_astore (lv' := [(5, .ref (ad 4 (T 2 r))), (0, .ref (ad 0 0)), (1, .ref (ad 7 w)), (2, .int (nI (r))), (3, .int (x)), (4, .int (x2))]) X.1 X.2.1 dX6_addPart_8 hl (by decide) rfl (fun ls hl => ?_)
  refine lv_iload_n X.1 X.2.1 dX6_addPart_10 rfl (lv_at hl 4 rfl) ?_
  refine lv_iload X.1 X.2.1 dX6_addPart_11 (lv_at hl 5 rfl) ?_
  refine lv_aload X.1 X.2.1 dX6_addPart_13 (lv_at hl 0 rfl) ?_
  refine cln_8 X hW (hsr.2.2.2.1) (hsr.2.2.2.2.1) (hsr.2.2.2.2.2.1) dX6_addPart_15 ?_
  exact cXS Y X hW (cz_requirePlaces l hst (by omega) h) (va_cwS 3 X.2.2.2.2 gX6_addPart_X6_requirePlaces rfl rfl rfl (by decide +kernel) ⟨Nat.le_of_ble_eq_true rfl, Nat.le_of_ble_eq_true rfl⟩) rfl rfl hl.1 (Nat.le_of_ble_eq_true rfl) dX6_addPart_16 ⟨Nat.le_of_ble_eq_true rfl, Nat.le_of_ble_eq_true rfl⟩
set_option maxHeartbeats 4000000 in
set_option maxRecDepth 100000 in
theorem cz_addPart_c (l : Launch) {G : va_G} {kT : Nat → ClassId} {L : List Nat} {K : Nat → Nat} {R : pR} {I : pI} {A : mD} {Q : pR} {N : Nat → Nat} (hst : l.stackTraces = false) {T : mT} {D : mD} {ad : pD} (HB : Rep T D ad L K R I A Q N) {w : Nat} (hw : w < 6) {r f j : Nat} (hr : r < 4) (hf : f + j ≤ T 1 (T 2 r)) (h : 256 < T 7 w + j) : cMt l yX6_addPart wsX6_addPart ({ frames := 7, cells := 1, slots := 6, locals := 122 } : Room) G kT [.ref (ad 0 0), .ref (ad 7 w), .int (nI (r)), .int (nI (f)), .int (nI (j))] L K R I A Q N "java/lang/IllegalStateException" := by
  refine cstt (cc := cX6_addPart) (maxL := 6) (ret := (some .int)) hst (by decide) rfl (Nat.le_of_ble_eq_true rfl) (fun p e s m args below meth c Z Y X hW ls hl => ?_)
  have X : CallFix p m c cX6_addPart 6 s args wsX6_addPart RX6 := X
  have hl : lv_has ls 6 [(0, .ref (ad 0 0)), (1, .ref (ad 7 w)), (2, .int (nI (r))), (3, .int (nI (f))), (4, .int (nI (j)))] := hl
  have hin3 : ∀ w ∈ wsX30, w ∈ wsX6_addPart := fun w h => List.mem_cons_of_mem _ (List.mem_append_left _ (List.mem_append_left _ (List.mem_append_left _ (List.mem_append_left _ (List.mem_append_left _ (List.mem_append_right _ (h)))))))
  have hin4 : ∀ w ∈ wsX40, w ∈ wsX6_addPart := fun w h => List.mem_cons_of_mem _ (List.mem_append_left _ (List.mem_append_left _ (List.mem_append_left _ (List.mem_append_left _ (List.mem_append_right _ (h))))))
  have hin6 : ∀ w ∈ wsX60, w ∈ wsX6_addPart := fun w h => List.mem_cons_of_mem _ (List.mem_append_left _ (List.mem_append_left _ (List.mem_append_left _ (List.mem_append_right _ (h)))))
  have hu := uS_row (T := T) hr
  have hsr := HB.sr hu
  have hl9 := hsr.2.2.2.2.2.2
  have hwr := HB.wr hw
  refine lv_aload_n X.1 X.2.1 dX6_addPart_0 rfl (lv_at hl 0 rfl) ?_
  refine lv_iload_n X.1 X.2.1 dX6_addPart_1 rfl (lv_at hl 2 rfl) ?_
  refine cVr X hW (HB.mem lv_0) (pC_6 (HB.kn lv_0 rfl)) rfl (cg_signRowAt l HB (r := r) (by omega)) (cwV 1 X.2.2.2.2 gX6_addPart_X6_signRowAt rfl rfl rfl (by decide +kernel) ⟨Nat.le_of_ble_eq_true rfl, Nat.le_of_ble_eq_true rfl⟩) rfl rfl hl.1 (Nat.le_of_ble_eq_true rfl) dX6_addPart_2 ⟨Nat.zero_le _, Nat.zero_le _⟩ (fun H locs hW => ?_)
  refine cg_3_signs X hin3 hW (hsr.1) (hsr.2.1) (hsr.2.2.1) (X.2.2.2.2 (.fieldLink RX6 60 "Strandbook$SignRow" "signs" "[C") (List.mem_cons_of_mem _ (List.mem_append_left _ (List.mem_append_left _ (List.mem_append_left _ (List.mem_append_left _ (List.mem_append_left _ (List.mem_append_left _ (List.mem_append_left _ (List.mem_of_getElem? (i := 0) rfl)))))))))) dX6_addPart_5 ?_
  refine lv_astore (lv' := [(5, .ref (ad 4 (T 2 r))), (0, .ref (ad 0 0)), (1, .ref (ad 7 w)), (2, .int (nI (r))), (3, .int (nI (f))), (4, .int (nI (j)))]) X.1 X.2.1 dX6_addPart_8 hl (by decide) rfl (fun ls hl => ?_)
  refine lv_iload_n X.1 X.2.1 dX6_addPart_10 rfl (lv_at hl 4 rfl) ?_
  refine lv_iload X.1 X.2.1 dX6_addPart_11 (lv_at hl 5 rfl) ?_
  refine lv_aload X.1 X.2.1 dX6_addPart_13 (lv_at hl 0 rfl) ?_
  refine cln_8 X hW (hsr.2.2.2.1) (hsr.2.2.2.2.1) (hsr.2.2.2.2.2.1) dX6_addPart_15 ?_
  refine cSv X hW (cg_requirePlaces l (f := f) (j := j) (n := T 1 (T 2 r)) (by omega) (by omega)) (va_cwS 3 X.2.2.2.2 gX6_addPart_X6_requirePlaces rfl rfl rfl (by decide +kernel) ⟨Nat.le_of_ble_eq_true rfl, Nat.le_of_ble_eq_true rfl⟩) rfl rfl hl.1 (Nat.le_of_ble_eq_true rfl) dX6_addPart_16 ⟨Nat.zero_le _, Nat.zero_le _⟩ (fun H locs hW => ?_)
  refine lv_aload_n X.1 X.2.1 dX6_addPart_19 rfl (lv_at hl 2 rfl) ?_
  refine lv_iload X.1 X.2.1 dX6_addPart_20 (lv_at hl 5 rfl) ?_
  exact cXS Y X hW (cz_requireRoom l hst hwr (by omega) h) (va_cwS 2 X.2.2.2.2 gX6_addPart_X6_requireRoom rfl rfl rfl (by decide +kernel) ⟨Nat.le_of_ble_eq_true rfl, Nat.le_of_ble_eq_true rfl⟩) rfl rfl hl.1 (Nat.le_of_ble_eq_true rfl) dX6_addPart_22 ⟨Nat.le_of_ble_eq_true rfl, Nat.le_of_ble_eq_true rfl⟩
set_option maxHeartbeats 4000000 in
set_option maxRecDepth 100000 in
theorem cz_takeInto (l : Launch) {G : va_G} {kT : Nat → ClassId} {L : List Nat} {K : Nat → Nat} {R : pR} {I : pI} {A : mD} {Q : pR} {N : Nat → Nat} (hst : l.stackTraces = false) {T : mT} {D : mD} {ad : pD} (HB : Rep T D ad L K R I A Q N) {w : Nat} (hw : w < 6) {x : Int32} (h : oN x 4) : cMt l yX6_takeInto wsX6_takeInto ({ frames := 7, cells := 1, slots := 6, locals := 121 } : Room) G kT [.ref (ad 0 0), .ref (ad 7 w), .int (x)] L K R I A Q N "java/lang/IndexOutOfBoundsException" := by
  refine cstt (cc := cX6_takeInto) (maxL := 4) (ret := (some .int)) hst (by decide) rfl (Nat.le_of_ble_eq_true rfl) (fun p e s m args below meth c Z Y X hW ls hl => ?_)
  have X : CallFix p m c cX6_takeInto 4 s args wsX6_takeInto RX6 := X
  have hl : lv_has ls 4 [(0, .ref (ad 0 0)), (1, .ref (ad 7 w)), (2, .int (x))] := hl
  have hin3 : ∀ w ∈ wsX30, w ∈ wsX6_takeInto := fun w h => List.mem_cons_of_mem _ (List.mem_append_left _ (List.mem_append_left _ (List.mem_append_left _ (List.mem_append_left _ (List.mem_append_right _ (h))))))
  have hin4 : ∀ w ∈ wsX40, w ∈ wsX6_takeInto := fun w h => List.mem_cons_of_mem _ (List.mem_append_left _ (List.mem_append_left _ (List.mem_append_left _ (List.mem_append_right _ (h)))))
  have hin6 : ∀ w ∈ wsX60, w ∈ wsX6_takeInto := fun w h => List.mem_cons_of_mem _ (List.mem_append_left _ (List.mem_append_left _ (List.mem_append_right _ (h))))
  refine lv_aload_n X.1 X.2.1 dX6_takeInto_0 rfl (lv_at hl 0 rfl) ?_
  refine lv_iload_n X.1 X.2.1 dX6_takeInto_1 rfl (lv_at hl 2 rfl) ?_
  exact cXV Y X hW (HB.mem lv_0) (pC_6 (HB.kn lv_0 rfl)) rfl (cz_signRowAt l hst HB h) (cwV 1 X.2.2.2.2 gX6_takeInto_X6_signRowAt rfl rfl rfl (by decide +kernel) ⟨Nat.le_of_ble_eq_true rfl, Nat.le_of_ble_eq_true rfl⟩) rfl rfl hl.1 (Nat.le_of_ble_eq_true rfl) dX6_takeInto_2 ⟨Nat.le_of_ble_eq_true rfl, Nat.le_of_ble_eq_true rfl⟩
set_option maxHeartbeats 4000000 in
set_option maxRecDepth 100000 in
theorem cb_writeText_a (l : Launch) {G : va_G} {kT : Nat → ClassId} {L : List Nat} {K : Nat → Nat} {R : pR} {I : pI} {A : mD} {Q : pR} {N : Nat → Nat} (hst : l.stackTraces = false) {T : mT} {D : mD} {ad : pD} (HB : Rep T D ad L K R I A Q N) {x x1 x2 x3 : Int32} (h : oN x 3) : cMt l yX6_writeText wsX6_writeText ({ frames := 8, cells := 1, slots := 6, locals := 147 } : Room) G kT [.ref (ad 0 0), .int (x), .int (x1), .int (x2), .int (x3)] L K R I A Q N "java/lang/IndexOutOfBoundsException" := by
  refine cstt (cc := cX6_writeText) (maxL := 5) (ret := (some .int)) hst (by decide) rfl (Nat.le_of_ble_eq_true rfl) (fun p e s m args below meth c Z Y X hW ls hl => ?_)
  have X : CallFix p m c cX6_writeText 5 s args wsX6_writeText RX6 := X
  have hl : lv_has ls 5 [(0, .ref (ad 0 0)), (1, .int (x)), (2, .int (x1)), (3, .int (x2)), (4, .int (x3))] := hl
  have hin3 : ∀ w ∈ wsX30, w ∈ wsX6_writeText := fun w h => List.mem_cons_of_mem _ (List.mem_append_left _ (List.mem_append_left _ (List.mem_append_left _ (List.mem_append_left _ (List.mem_append_right _ (h))))))
  have hin4 : ∀ w ∈ wsX40, w ∈ wsX6_writeText := fun w h => List.mem_cons_of_mem _ (List.mem_append_left _ (List.mem_append_left _ (List.mem_append_left _ (List.mem_append_right _ (h)))))
  have hin6 : ∀ w ∈ wsX60, w ∈ wsX6_writeText := fun w h => List.mem_cons_of_mem _ (List.mem_append_left _ (List.mem_append_left _ (List.mem_append_left _ (List.mem_append_left _ (List.mem_append_left _ (List.mem_append_right _ (h)))))))
  refine lv_aload_n X.1 X.2.1 dX6_writeText_0 rfl (lv_at hl 0 rfl) ?_
  refine lv_aload_n X.1 X.2.1 dX6_writeText_1 rfl (lv_at hl 0 rfl) ?_
  refine lv_iload_n X.1 X.2.1 dX6_writeText_2 rfl (lv_at hl 1 rfl) ?_
  exact cXV Y X hW (HB.mem lv_0) (pC_6 (HB.kn lv_0 rfl)) rfl (cz_textWriterAt l hst HB h) (cwV 1 X.2.2.2.2 gX6_writeText_X6_textWriterAt rfl rfl rfl (by decide +kernel) ⟨Nat.le_of_ble_eq_true rfl, Nat.le_of_ble_eq_true rfl⟩) rfl rfl hl.1 (Nat.le_of_ble_eq_true rfl) dX6_writeText_3 ⟨Nat.le_of_ble_eq_true rfl, Nat.le_of_ble_eq_true rfl⟩
set_option maxHeartbeats 4000000 in
set_option maxRecDepth 100000 in
theorem cb_writeText_b (l : Launch) {G : va_G} {kT : Nat → ClassId} {L : List Nat} {K : Nat → Nat} {R : pR} {I : pI} {A : mD} {Q : pR} {N : Nat → Nat} (hst : l.stackTraces = false) {T : mT} {D : mD} {ad : pD} (HB : Rep T D ad L K R I A Q N) {w : Nat} {x x1 x2 : Int32} (hw : w < 3) (h : oN x 4) : cMt l yX6_writeText wsX6_writeText ({ frames := 8, cells := 1, slots := 6, locals := 147 } : Room) G kT [.ref (ad 0 0), .int (nI (w)), .int (x), .int (x1), .int (x2)] L K R I A Q N "java/lang/IndexOutOfBoundsException" := by
  refine cstt (cc := cX6_writeText) (maxL := 5) (ret := (some .int)) hst (by decide) rfl (Nat.le_of_ble_eq_true rfl) (fun p e s m args below meth c Z Y X hW ls hl => ?_)
  have X : CallFix p m c cX6_writeText 5 s args wsX6_writeText RX6 := X
  have hl : lv_has ls 5 [(0, .ref (ad 0 0)), (1, .int (nI (w))), (2, .int (x)), (3, .int (x1)), (4, .int (x2))] := hl
  have hin3 : ∀ w ∈ wsX30, w ∈ wsX6_writeText := fun w h => List.mem_cons_of_mem _ (List.mem_append_left _ (List.mem_append_left _ (List.mem_append_left _ (List.mem_append_left _ (List.mem_append_right _ (h))))))
  have hin4 : ∀ w ∈ wsX40, w ∈ wsX6_writeText := fun w h => List.mem_cons_of_mem _ (List.mem_append_left _ (List.mem_append_left _ (List.mem_append_left _ (List.mem_append_right _ (h)))))
  have hin6 : ∀ w ∈ wsX60, w ∈ wsX6_writeText := fun w h => List.mem_cons_of_mem _ (List.mem_append_left _ (List.mem_append_left _ (List.mem_append_left _ (List.mem_append_left _ (List.mem_append_left _ (List.mem_append_right _ (h)))))))
  have hwr := HB.wr (show w < 6 by omega)
  refine lv_aload_n X.1 X.2.1 dX6_writeText_0 rfl (lv_at hl 0 rfl) ?_
  refine lv_aload_n X.1 X.2.1 dX6_writeText_1 rfl (lv_at hl 0 rfl) ?_
  refine lv_iload_n X.1 X.2.1 dX6_writeText_2 rfl (lv_at hl 1 rfl) ?_
  refine cVr X hW (HB.mem lv_0) (pC_6 (HB.kn lv_0 rfl)) rfl (cg_textWriterAt l HB (r := w) (by omega)) (cwV 1 X.2.2.2.2 gX6_writeText_X6_textWriterAt rfl rfl rfl (by decide +kernel) ⟨Nat.le_of_ble_eq_true rfl, Nat.le_of_ble_eq_true rfl⟩) rfl rfl hl.1 (Nat.le_of_ble_eq_true rfl) dX6_writeText_3 ⟨Nat.zero_le _, Nat.zero_le _⟩ (fun H locs hW => ?_)
  refine lv_iload_n X.1 X.2.1 dX6_writeText_6 rfl (lv_at hl 2 rfl) ?_
  refine lv_iload_n X.1 X.2.1 dX6_writeText_7 rfl (lv_at hl 3 rfl) ?_
  refine lv_iload X.1 X.2.1 dX6_writeText_8 (lv_at hl 4 rfl) ?_
  exact cXV Y X hW (HB.mem lv_0) (pC_6 (HB.kn lv_0 rfl)) rfl (cz_addPart_a l hst HB (w := w) (by omega) h) (cwV 4 X.2.2.2.2 gX6_writeText_X6_addPart rfl rfl rfl (by decide +kernel) ⟨Nat.le_of_ble_eq_true rfl, Nat.le_of_ble_eq_true rfl⟩) rfl rfl hl.1 (Nat.le_of_ble_eq_true rfl) dX6_writeText_10 ⟨Nat.le_of_ble_eq_true rfl, Nat.le_of_ble_eq_true rfl⟩
set_option maxHeartbeats 4000000 in
set_option maxRecDepth 100000 in
theorem cb_writeText_c (l : Launch) {G : va_G} {kT : Nat → ClassId} {L : List Nat} {K : Nat → Nat} {R : pR} {I : pI} {A : mD} {Q : pR} {N : Nat → Nat} (hst : l.stackTraces = false) {T : mT} {D : mD} {ad : pD} (HB : Rep T D ad L K R I A Q N) {w r : Nat} {x x2 : Int32} (hw : w < 3) (hr : r < 4) (h : oP (T 1 (T 2 r)) x x2) : cMt l yX6_writeText wsX6_writeText ({ frames := 8, cells := 1, slots := 6, locals := 147 } : Room) G kT [.ref (ad 0 0), .int (nI (w)), .int (nI (r)), .int (x), .int (x2)] L K R I A Q N "java/lang/IndexOutOfBoundsException" := by
  refine cstt (cc := cX6_writeText) (maxL := 5) (ret := (some .int)) hst (by decide) rfl (Nat.le_of_ble_eq_true rfl) (fun p e s m args below meth c Z Y X hW ls hl => ?_)
  have X : CallFix p m c cX6_writeText 5 s args wsX6_writeText RX6 := X
  have hl : lv_has ls 5 [(0, .ref (ad 0 0)), (1, .int (nI (w))), (2, .int (nI (r))), (3, .int (x)), (4, .int (x2))] := hl
  have hin3 : ∀ w ∈ wsX30, w ∈ wsX6_writeText := fun w h => List.mem_cons_of_mem _ (List.mem_append_left _ (List.mem_append_left _ (List.mem_append_left _ (List.mem_append_left _ (List.mem_append_right _ (h))))))
  have hin4 : ∀ w ∈ wsX40, w ∈ wsX6_writeText := fun w h => List.mem_cons_of_mem _ (List.mem_append_left _ (List.mem_append_left _ (List.mem_append_left _ (List.mem_append_right _ (h)))))
  have hin6 : ∀ w ∈ wsX60, w ∈ wsX6_writeText := fun w h => List.mem_cons_of_mem _ (List.mem_append_left _ (List.mem_append_left _ (List.mem_append_left _ (List.mem_append_left _ (List.mem_append_left _ (List.mem_append_right _ (h)))))))
  have hwr := HB.wr (show w < 6 by omega)
  refine lv_aload_n X.1 X.2.1 dX6_writeText_0 rfl (lv_at hl 0 rfl) ?_
  refine lv_aload_n X.1 X.2.1 dX6_writeText_1 rfl (lv_at hl 0 rfl) ?_
  refine lv_iload_n X.1 X.2.1 dX6_writeText_2 rfl (lv_at hl 1 rfl) ?_
  refine cVr X hW (HB.mem lv_0) (pC_6 (HB.kn lv_0 rfl)) rfl (cg_textWriterAt l HB (r := w) (by omega)) (cwV 1 X.2.2.2.2 gX6_writeText_X6_textWriterAt rfl rfl rfl (by decide +kernel) ⟨Nat.le_of_ble_eq_true rfl, Nat.le_of_ble_eq_true rfl⟩) rfl rfl hl.1 (Nat.le_of_ble_eq_true rfl) dX6_writeText_3 ⟨Nat.zero_le _, Nat.zero_le _⟩ (fun H locs hW => ?_)
  refine lv_iload_n X.1 X.2.1 dX6_writeText_6 rfl (lv_at hl 2 rfl) ?_
  refine lv_iload_n X.1 X.2.1 dX6_writeText_7 rfl (lv_at hl 3 rfl) ?_
  refine lv_iload X.1 X.2.1 dX6_writeText_8 (lv_at hl 4 rfl) ?_
  exact cXV Y X hW (HB.mem lv_0) (pC_6 (HB.kn lv_0 rfl)) rfl (cz_addPart_b l hst HB (w := w) (by omega) hr h) (cwV 4 X.2.2.2.2 gX6_writeText_X6_addPart rfl rfl rfl (by decide +kernel) ⟨Nat.le_of_ble_eq_true rfl, Nat.le_of_ble_eq_true rfl⟩) rfl rfl hl.1 (Nat.le_of_ble_eq_true rfl) dX6_writeText_10 ⟨Nat.le_of_ble_eq_true rfl, Nat.le_of_ble_eq_true rfl⟩
set_option maxHeartbeats 4000000 in
set_option maxRecDepth 100000 in
theorem cb_writeText_d (l : Launch) {G : va_G} {kT : Nat → ClassId} {L : List Nat} {K : Nat → Nat} {R : pR} {I : pI} {A : mD} {Q : pR} {N : Nat → Nat} (hst : l.stackTraces = false) {T : mT} {D : mD} {ad : pD} (HB : Rep T D ad L K R I A Q N) {w r f j : Nat} (hw : w < 3) (hr : r < 4) (hf : f + j ≤ T 1 (T 2 r)) (h : 256 < T 7 w + j) : cMt l yX6_writeText wsX6_writeText ({ frames := 8, cells := 1, slots := 6, locals := 147 } : Room) G kT [.ref (ad 0 0), .int (nI (w)), .int (nI (r)), .int (nI (f)), .int (nI (j))] L K R I A Q N "java/lang/IllegalStateException" := by
  refine cstt (cc := cX6_writeText) (maxL := 5) (ret := (some .int)) hst (by decide) rfl (Nat.le_of_ble_eq_true rfl) (fun p e s m args below meth c Z Y X hW ls hl => ?_)
  have X : CallFix p m c cX6_writeText 5 s args wsX6_writeText RX6 := X
  have hl : lv_has ls 5 [(0, .ref (ad 0 0)), (1, .int (nI (w))), (2, .int (nI (r))), (3, .int (nI (f))), (4, .int (nI (j)))] := hl
  have hin3 : ∀ w ∈ wsX30, w ∈ wsX6_writeText := fun w h => List.mem_cons_of_mem _ (List.mem_append_left _ (List.mem_append_left _ (List.mem_append_left _ (List.mem_append_left _ (List.mem_append_right _ (h))))))
  have hin4 : ∀ w ∈ wsX40, w ∈ wsX6_writeText := fun w h => List.mem_cons_of_mem _ (List.mem_append_left _ (List.mem_append_left _ (List.mem_append_left _ (List.mem_append_right _ (h)))))
  have hin6 : ∀ w ∈ wsX60, w ∈ wsX6_writeText := fun w h => List.mem_cons_of_mem _ (List.mem_append_left _ (List.mem_append_left _ (List.mem_append_left _ (List.mem_append_left _ (List.mem_append_left _ (List.mem_append_right _ (h)))))))
  have hwr := HB.wr (show w < 6 by omega)
  refine lv_aload_n X.1 X.2.1 dX6_writeText_0 rfl (lv_at hl 0 rfl) ?_
  refine lv_aload_n X.1 X.2.1 dX6_writeText_1 rfl (lv_at hl 0 rfl) ?_
  refine lv_iload_n X.1 X.2.1 dX6_writeText_2 rfl (lv_at hl 1 rfl) ?_
  refine cVr X hW (HB.mem lv_0) (pC_6 (HB.kn lv_0 rfl)) rfl (cg_textWriterAt l HB (r := w) (by omega)) (cwV 1 X.2.2.2.2 gX6_writeText_X6_textWriterAt rfl rfl rfl (by decide +kernel) ⟨Nat.le_of_ble_eq_true rfl, Nat.le_of_ble_eq_true rfl⟩) rfl rfl hl.1 (Nat.le_of_ble_eq_true rfl) dX6_writeText_3 ⟨Nat.zero_le _, Nat.zero_le _⟩ (fun H locs hW => ?_)
  refine lv_iload_n X.1 X.2.1 dX6_writeText_6 rfl (lv_at hl 2 rfl) ?_
  refine lv_iload_n X.1 X.2.1 dX6_writeText_7 rfl (lv_at hl 3 rfl) ?_
  refine lv_iload X.1 X.2.1 dX6_writeText_8 (lv_at hl 4 rfl) ?_
  exact cXV Y X hW (HB.mem lv_0) (pC_6 (HB.kn lv_0 rfl)) rfl (cz_addPart_c l hst HB (w := w) (by omega) hr hf h) (cwV 4 X.2.2.2.2 gX6_writeText_X6_addPart rfl rfl rfl (by decide +kernel) ⟨Nat.le_of_ble_eq_true rfl, Nat.le_of_ble_eq_true rfl⟩) rfl rfl hl.1 (Nat.le_of_ble_eq_true rfl) dX6_writeText_10 ⟨Nat.le_of_ble_eq_true rfl, Nat.le_of_ble_eq_true rfl⟩
set_option maxHeartbeats 4000000 in
set_option maxRecDepth 100000 in
theorem cb_writeSigns_a (l : Launch) {G : va_G} {kT : Nat → ClassId} {L : List Nat} {K : Nat → Nat} {R : pR} {I : pI} {A : mD} {Q : pR} {N : Nat → Nat} (hst : l.stackTraces = false) {T : mT} {D : mD} {ad : pD} (HB : Rep T D ad L K R I A Q N) {x x1 x2 x3 : Int32} (h : oN x 3) : cMt l yX6_writeSigns wsX6_writeSigns ({ frames := 8, cells := 1, slots := 6, locals := 147 } : Room) G kT [.ref (ad 0 0), .int (x), .int (x1), .int (x2), .int (x3)] L K R I A Q N "java/lang/IndexOutOfBoundsException" := by
  refine cstt (cc := cX6_writeSigns) (maxL := 5) (ret := (some .int)) hst (by decide) rfl (Nat.le_of_ble_eq_true rfl) (fun p e s m args below meth c Z Y X hW ls hl => ?_)
  have X : CallFix p m c cX6_writeSigns 5 s args wsX6_writeSigns RX6 := X
  have hl : lv_has ls 5 [(0, .ref (ad 0 0)), (1, .int (x)), (2, .int (x1)), (3, .int (x2)), (4, .int (x3))] := hl
  have hin3 : ∀ w ∈ wsX30, w ∈ wsX6_writeSigns := fun w h => List.mem_cons_of_mem _ (List.mem_append_left _ (List.mem_append_left _ (List.mem_append_left _ (List.mem_append_left _ (List.mem_append_right _ (h))))))
  have hin4 : ∀ w ∈ wsX40, w ∈ wsX6_writeSigns := fun w h => List.mem_cons_of_mem _ (List.mem_append_left _ (List.mem_append_left _ (List.mem_append_left _ (List.mem_append_right _ (h)))))
  have hin6 : ∀ w ∈ wsX60, w ∈ wsX6_writeSigns := fun w h => List.mem_cons_of_mem _ (List.mem_append_left _ (List.mem_append_left _ (List.mem_append_left _ (List.mem_append_left _ (List.mem_append_left _ (List.mem_append_right _ (h)))))))
  refine lv_aload_n X.1 X.2.1 dX6_writeSigns_0 rfl (lv_at hl 0 rfl) ?_
  refine lv_aload_n X.1 X.2.1 dX6_writeSigns_1 rfl (lv_at hl 0 rfl) ?_
  refine lv_iload_n X.1 X.2.1 dX6_writeSigns_2 rfl (lv_at hl 1 rfl) ?_
  exact cXV Y X hW (HB.mem lv_0) (pC_6 (HB.kn lv_0 rfl)) rfl (cz_textWriterAt l hst HB h) (cwV 1 X.2.2.2.2 gX6_writeSigns_X6_textWriterAt rfl rfl rfl (by decide +kernel) ⟨Nat.le_of_ble_eq_true rfl, Nat.le_of_ble_eq_true rfl⟩) rfl rfl hl.1 (Nat.le_of_ble_eq_true rfl) dX6_writeSigns_3 ⟨Nat.le_of_ble_eq_true rfl, Nat.le_of_ble_eq_true rfl⟩
set_option maxHeartbeats 4000000 in
set_option maxRecDepth 100000 in
theorem cb_writeSigns_b (l : Launch) {G : va_G} {kT : Nat → ClassId} {L : List Nat} {K : Nat → Nat} {R : pR} {I : pI} {A : mD} {Q : pR} {N : Nat → Nat} (hst : l.stackTraces = false) {T : mT} {D : mD} {ad : pD} (HB : Rep T D ad L K R I A Q N) {w : Nat} {x x1 x2 : Int32} (hw : w < 3) (h : oN x 4) : cMt l yX6_writeSigns wsX6_writeSigns ({ frames := 8, cells := 1, slots := 6, locals := 147 } : Room) G kT [.ref (ad 0 0), .int (nI (w)), .int (x), .int (x1), .int (x2)] L K R I A Q N "java/lang/IndexOutOfBoundsException" := by
  refine cstt (cc := cX6_writeSigns) (maxL := 5) (ret := (some .int)) hst (by decide) rfl (Nat.le_of_ble_eq_true rfl) (fun p e s m args below meth c Z Y X hW ls hl => ?_)
  have X : CallFix p m c cX6_writeSigns 5 s args wsX6_writeSigns RX6 := X
  have hl : lv_has ls 5 [(0, .ref (ad 0 0)), (1, .int (nI (w))), (2, .int (x)), (3, .int (x1)), (4, .int (x2))] := hl
  have hin3 : ∀ w ∈ wsX30, w ∈ wsX6_writeSigns := fun w h => List.mem_cons_of_mem _ (List.mem_append_left _ (List.mem_append_left _ (List.mem_append_left _ (List.mem_append_left _ (List.mem_append_right _ (h))))))
  have hin4 : ∀ w ∈ wsX40, w ∈ wsX6_writeSigns := fun w h => List.mem_cons_of_mem _ (List.mem_append_left _ (List.mem_append_left _ (List.mem_append_left _ (List.mem_append_right _ (h)))))
  have hin6 : ∀ w ∈ wsX60, w ∈ wsX6_writeSigns := fun w h => List.mem_cons_of_mem _ (List.mem_append_left _ (List.mem_append_left _ (List.mem_append_left _ (List.mem_append_left _ (List.mem_append_left _ (List.mem_append_right _ (h)))))))
  have hwr := HB.wr (show w < 6 by omega)
  refine lv_aload_n X.1 X.2.1 dX6_writeSigns_0 rfl (lv_at hl 0 rfl) ?_
  refine lv_aload_n X.1 X.2.1 dX6_writeSigns_1 rfl (lv_at hl 0 rfl) ?_
  refine lv_iload_n X.1 X.2.1 dX6_writeSigns_2 rfl (lv_at hl 1 rfl) ?_
  refine cVr X hW (HB.mem lv_0) (pC_6 (HB.kn lv_0 rfl)) rfl (cg_textWriterAt l HB (r := w) (by omega)) (cwV 1 X.2.2.2.2 gX6_writeSigns_X6_textWriterAt rfl rfl rfl (by decide +kernel) ⟨Nat.le_of_ble_eq_true rfl, Nat.le_of_ble_eq_true rfl⟩) rfl rfl hl.1 (Nat.le_of_ble_eq_true rfl) dX6_writeSigns_3 ⟨Nat.zero_le _, Nat.zero_le _⟩ (fun H locs hW => ?_)
  refine lv_iload_n X.1 X.2.1 dX6_writeSigns_6 rfl (lv_at hl 2 rfl) ?_
  refine lv_iload_n X.1 X.2.1 dX6_writeSigns_7 rfl (lv_at hl 3 rfl) ?_
  refine lv_iload X.1 X.2.1 dX6_writeSigns_8 (lv_at hl 4 rfl) ?_
  exact cXV Y X hW (HB.mem lv_0) (pC_6 (HB.kn lv_0 rfl)) rfl (cz_addPart_a l hst HB (w := w) (by omega) h) (cwV 4 X.2.2.2.2 gX6_writeSigns_X6_addPart rfl rfl rfl (by decide +kernel) ⟨Nat.le_of_ble_eq_true rfl, Nat.le_of_ble_eq_true rfl⟩) rfl rfl hl.1 (Nat.le_of_ble_eq_true rfl) dX6_writeSigns_10 ⟨Nat.le_of_ble_eq_true rfl, Nat.le_of_ble_eq_true rfl⟩
set_option maxHeartbeats 4000000 in
set_option maxRecDepth 100000 in
theorem cb_writeSigns_c (l : Launch) {G : va_G} {kT : Nat → ClassId} {L : List Nat} {K : Nat → Nat} {R : pR} {I : pI} {A : mD} {Q : pR} {N : Nat → Nat} (hst : l.stackTraces = false) {T : mT} {D : mD} {ad : pD} (HB : Rep T D ad L K R I A Q N) {w r : Nat} {x x2 : Int32} (hw : w < 3) (hr : r < 4) (h : oP (T 1 (T 2 r)) x x2) : cMt l yX6_writeSigns wsX6_writeSigns ({ frames := 8, cells := 1, slots := 6, locals := 147 } : Room) G kT [.ref (ad 0 0), .int (nI (w)), .int (nI (r)), .int (x), .int (x2)] L K R I A Q N "java/lang/IndexOutOfBoundsException" := by
  refine cstt (cc := cX6_writeSigns) (maxL := 5) (ret := (some .int)) hst (by decide) rfl (Nat.le_of_ble_eq_true rfl) (fun p e s m args below meth c Z Y X hW ls hl => ?_)
  have X : CallFix p m c cX6_writeSigns 5 s args wsX6_writeSigns RX6 := X
  have hl : lv_has ls 5 [(0, .ref (ad 0 0)), (1, .int (nI (w))), (2, .int (nI (r))), (3, .int (x)), (4, .int (x2))] := hl
  have hin3 : ∀ w ∈ wsX30, w ∈ wsX6_writeSigns := fun w h => List.mem_cons_of_mem _ (List.mem_append_left _ (List.mem_append_left _ (List.mem_append_left _ (List.mem_append_left _ (List.mem_append_right _ (h))))))
  have hin4 : ∀ w ∈ wsX40, w ∈ wsX6_writeSigns := fun w h => List.mem_cons_of_mem _ (List.mem_append_left _ (List.mem_append_left _ (List.mem_append_left _ (List.mem_append_right _ (h)))))
  have hin6 : ∀ w ∈ wsX60, w ∈ wsX6_writeSigns := fun w h => List.mem_cons_of_mem _ (List.mem_append_left _ (List.mem_append_left _ (List.mem_append_left _ (List.mem_append_left _ (List.mem_append_left _ (List.mem_append_right _ (h)))))))
  have hwr := HB.wr (show w < 6 by omega)
  refine lv_aload_n X.1 X.2.1 dX6_writeSigns_0 rfl (lv_at hl 0 rfl) ?_
  refine lv_aload_n X.1 X.2.1 dX6_writeSigns_1 rfl (lv_at hl 0 rfl) ?_
  refine lv_iload_n X.1 X.2.1 dX6_writeSigns_2 rfl (lv_at hl 1 rfl) ?_
  refine cVr X hW (HB.mem lv_0) (pC_6 (HB.kn lv_0 rfl)) rfl (cg_textWriterAt l HB (r := w) (by omega)) (cwV 1 X.2.2.2.2 gX6_writeSigns_X6_textWriterAt rfl rfl rfl (by decide +kernel) ⟨Nat.le_of_ble_eq_true rfl, Nat.le_of_ble_eq_true rfl⟩) rfl rfl hl.1 (Nat.le_of_ble_eq_true rfl) dX6_writeSigns_3 ⟨Nat.zero_le _, Nat.zero_le _⟩ (fun H locs hW => ?_)
  refine lv_iload_n X.1 X.2.1 dX6_writeSigns_6 rfl (lv_at hl 2 rfl) ?_
  refine lv_iload_n X.1 X.2.1 dX6_writeSigns_7 rfl (lv_at hl 3 rfl) ?_
  refine lv_iload X.1 X.2.1 dX6_writeSigns_8 (lv_at hl 4 rfl) ?_
  exact cXV Y X hW (HB.mem lv_0) (pC_6 (HB.kn lv_0 rfl)) rfl (cz_addPart_b l hst HB (w := w) (by omega) hr h) (cwV 4 X.2.2.2.2 gX6_writeSigns_X6_addPart rfl rfl rfl (by decide +kernel) ⟨Nat.le_of_ble_eq_true rfl, Nat.le_of_ble_eq_true rfl⟩) rfl rfl hl.1 (Nat.le_of_ble_eq_true rfl) dX6_writeSigns_10 ⟨Nat.le_of_ble_eq_true rfl, Nat.le_of_ble_eq_true rfl⟩
set_option maxHeartbeats 4000000 in
set_option maxRecDepth 100000 in
theorem cb_writeSigns_d (l : Launch) {G : va_G} {kT : Nat → ClassId} {L : List Nat} {K : Nat → Nat} {R : pR} {I : pI} {A : mD} {Q : pR} {N : Nat → Nat} (hst : l.stackTraces = false) {T : mT} {D : mD} {ad : pD} (HB : Rep T D ad L K R I A Q N) {w r f j : Nat} (hw : w < 3) (hr : r < 4) (hf : f + j ≤ T 1 (T 2 r)) (h : 256 < T 7 w + j) : cMt l yX6_writeSigns wsX6_writeSigns ({ frames := 8, cells := 1, slots := 6, locals := 147 } : Room) G kT [.ref (ad 0 0), .int (nI (w)), .int (nI (r)), .int (nI (f)), .int (nI (j))] L K R I A Q N "java/lang/IllegalStateException" := by
  refine cstt (cc := cX6_writeSigns) (maxL := 5) (ret := (some .int)) hst (by decide) rfl (Nat.le_of_ble_eq_true rfl) (fun p e s m args below meth c Z Y X hW ls hl => ?_)
  have X : CallFix p m c cX6_writeSigns 5 s args wsX6_writeSigns RX6 := X
  have hl : lv_has ls 5 [(0, .ref (ad 0 0)), (1, .int (nI (w))), (2, .int (nI (r))), (3, .int (nI (f))), (4, .int (nI (j)))] := hl
  have hin3 : ∀ w ∈ wsX30, w ∈ wsX6_writeSigns := fun w h => List.mem_cons_of_mem _ (List.mem_append_left _ (List.mem_append_left _ (List.mem_append_left _ (List.mem_append_left _ (List.mem_append_right _ (h))))))
  have hin4 : ∀ w ∈ wsX40, w ∈ wsX6_writeSigns := fun w h => List.mem_cons_of_mem _ (List.mem_append_left _ (List.mem_append_left _ (List.mem_append_left _ (List.mem_append_right _ (h)))))
  have hin6 : ∀ w ∈ wsX60, w ∈ wsX6_writeSigns := fun w h => List.mem_cons_of_mem _ (List.mem_append_left _ (List.mem_append_left _ (List.mem_append_left _ (List.mem_append_left _ (List.mem_append_left _ (List.mem_append_right _ (h)))))))
  have hwr := HB.wr (show w < 6 by omega)
  refine lv_aload_n X.1 X.2.1 dX6_writeSigns_0 rfl (lv_at hl 0 rfl) ?_
  refine lv_aload_n X.1 X.2.1 dX6_writeSigns_1 rfl (lv_at hl 0 rfl) ?_
  refine lv_iload_n X.1 X.2.1 dX6_writeSigns_2 rfl (lv_at hl 1 rfl) ?_
  refine cVr X hW (HB.mem lv_0) (pC_6 (HB.kn lv_0 rfl)) rfl (cg_textWriterAt l HB (r := w) (by omega)) (cwV 1 X.2.2.2.2 gX6_writeSigns_X6_textWriterAt rfl rfl rfl (by decide +kernel) ⟨Nat.le_of_ble_eq_true rfl, Nat.le_of_ble_eq_true rfl⟩) rfl rfl hl.1 (Nat.le_of_ble_eq_true rfl) dX6_writeSigns_3 ⟨Nat.zero_le _, Nat.zero_le _⟩ (fun H locs hW => ?_)
  refine lv_iload_n X.1 X.2.1 dX6_writeSigns_6 rfl (lv_at hl 2 rfl) ?_
  refine lv_iload_n X.1 X.2.1 dX6_writeSigns_7 rfl (lv_at hl 3 rfl) ?_
  refine lv_iload X.1 X.2.1 dX6_writeSigns_8 (lv_at hl 4 rfl) ?_
  exact cXV Y X hW (HB.mem lv_0) (pC_6 (HB.kn lv_0 rfl)) rfl (cz_addPart_c l hst HB (w := w) (by omega) hr hf h) (cwV 4 X.2.2.2.2 gX6_writeSigns_X6_addPart rfl rfl rfl (by decide +kernel) ⟨Nat.le_of_ble_eq_true rfl, Nat.le_of_ble_eq_true rfl⟩) rfl rfl hl.1 (Nat.le_of_ble_eq_true rfl) dX6_writeSigns_10 ⟨Nat.le_of_ble_eq_true rfl, Nat.le_of_ble_eq_true rfl⟩
set_option maxHeartbeats 4000000 in
set_option maxRecDepth 100000 in
theorem cb_arrayText_a (l : Launch) {G : va_G} {kT : Nat → ClassId} {L : List Nat} {K : Nat → Nat} {R : pR} {I : pI} {A : mD} {Q : pR} {N : Nat → Nat} (hst : l.stackTraces = false) {T : mT} {D : mD} {ad : pD} (HB : Rep T D ad L K R I A Q N) {x x1 x2 x3 : Int32} (h : oN x 3) : cMt l yX6_arrayText wsX6_arrayText ({ frames := 8, cells := 1, slots := 6, locals := 147 } : Room) G kT [.ref (ad 0 0), .int (x), .int (x1), .int (x2), .int (x3)] L K R I A Q N "java/lang/IndexOutOfBoundsException" := by
  refine cstt (cc := cX6_arrayText) (maxL := 5) (ret := (some .int)) hst (by decide) rfl (Nat.le_of_ble_eq_true rfl) (fun p e s m args below meth c Z Y X hW ls hl => ?_)
  have X : CallFix p m c cX6_arrayText 5 s args wsX6_arrayText RX6 := X
  have hl : lv_has ls 5 [(0, .ref (ad 0 0)), (1, .int (x)), (2, .int (x1)), (3, .int (x2)), (4, .int (x3))] := hl
  have hin3 : ∀ w ∈ wsX30, w ∈ wsX6_arrayText := fun w h => List.mem_cons_of_mem _ (List.mem_append_left _ (List.mem_append_left _ (List.mem_append_left _ (List.mem_append_left _ (List.mem_append_right _ (h))))))
  have hin4 : ∀ w ∈ wsX40, w ∈ wsX6_arrayText := fun w h => List.mem_cons_of_mem _ (List.mem_append_left _ (List.mem_append_left _ (List.mem_append_left _ (List.mem_append_right _ (h)))))
  have hin6 : ∀ w ∈ wsX60, w ∈ wsX6_arrayText := fun w h => List.mem_cons_of_mem _ (List.mem_append_left _ (List.mem_append_left _ (List.mem_append_left _ (List.mem_append_left _ (List.mem_append_left _ (List.mem_append_right _ (h)))))))
  refine lv_aload_n X.1 X.2.1 dX6_arrayText_0 rfl (lv_at hl 0 rfl) ?_
  refine lv_aload_n X.1 X.2.1 dX6_arrayText_1 rfl (lv_at hl 0 rfl) ?_
  refine lv_iload_n X.1 X.2.1 dX6_arrayText_2 rfl (lv_at hl 1 rfl) ?_
  exact cXV Y X hW (HB.mem lv_0) (pC_6 (HB.kn lv_0 rfl)) rfl (cz_arrayWriterAt l hst HB h) (cwV 1 X.2.2.2.2 gX6_arrayText_X6_arrayWriterAt rfl rfl rfl (by decide +kernel) ⟨Nat.le_of_ble_eq_true rfl, Nat.le_of_ble_eq_true rfl⟩) rfl rfl hl.1 (Nat.le_of_ble_eq_true rfl) dX6_arrayText_3 ⟨Nat.le_of_ble_eq_true rfl, Nat.le_of_ble_eq_true rfl⟩
set_option maxHeartbeats 4000000 in
set_option maxRecDepth 100000 in
theorem cb_arrayText_b (l : Launch) {G : va_G} {kT : Nat → ClassId} {L : List Nat} {K : Nat → Nat} {R : pR} {I : pI} {A : mD} {Q : pR} {N : Nat → Nat} (hst : l.stackTraces = false) {T : mT} {D : mD} {ad : pD} (HB : Rep T D ad L K R I A Q N) {w : Nat} {x x1 x2 : Int32} (hw : w < 3) (h : oN x 4) : cMt l yX6_arrayText wsX6_arrayText ({ frames := 8, cells := 1, slots := 6, locals := 147 } : Room) G kT [.ref (ad 0 0), .int (nI (w)), .int (x), .int (x1), .int (x2)] L K R I A Q N "java/lang/IndexOutOfBoundsException" := by
  refine cstt (cc := cX6_arrayText) (maxL := 5) (ret := (some .int)) hst (by decide) rfl (Nat.le_of_ble_eq_true rfl) (fun p e s m args below meth c Z Y X hW ls hl => ?_)
  have X : CallFix p m c cX6_arrayText 5 s args wsX6_arrayText RX6 := X
  have hl : lv_has ls 5 [(0, .ref (ad 0 0)), (1, .int (nI (w))), (2, .int (x)), (3, .int (x1)), (4, .int (x2))] := hl
  have hin3 : ∀ w ∈ wsX30, w ∈ wsX6_arrayText := fun w h => List.mem_cons_of_mem _ (List.mem_append_left _ (List.mem_append_left _ (List.mem_append_left _ (List.mem_append_left _ (List.mem_append_right _ (h))))))
  have hin4 : ∀ w ∈ wsX40, w ∈ wsX6_arrayText := fun w h => List.mem_cons_of_mem _ (List.mem_append_left _ (List.mem_append_left _ (List.mem_append_left _ (List.mem_append_right _ (h)))))
  have hin6 : ∀ w ∈ wsX60, w ∈ wsX6_arrayText := fun w h => List.mem_cons_of_mem _ (List.mem_append_left _ (List.mem_append_left _ (List.mem_append_left _ (List.mem_append_left _ (List.mem_append_left _ (List.mem_append_right _ (h)))))))
  have hwr := HB.wr (show 3 + w < 6 by omega)
  refine lv_aload_n X.1 X.2.1 dX6_arrayText_0 rfl (lv_at hl 0 rfl) ?_
  refine lv_aload_n X.1 X.2.1 dX6_arrayText_1 rfl (lv_at hl 0 rfl) ?_
  refine lv_iload_n X.1 X.2.1 dX6_arrayText_2 rfl (lv_at hl 1 rfl) ?_
  refine cVr X hW (HB.mem lv_0) (pC_6 (HB.kn lv_0 rfl)) rfl (cg_arrayWriterAt l HB (r := w) (by omega)) (cwV 1 X.2.2.2.2 gX6_arrayText_X6_arrayWriterAt rfl rfl rfl (by decide +kernel) ⟨Nat.le_of_ble_eq_true rfl, Nat.le_of_ble_eq_true rfl⟩) rfl rfl hl.1 (Nat.le_of_ble_eq_true rfl) dX6_arrayText_3 ⟨Nat.zero_le _, Nat.zero_le _⟩ (fun H locs hW => ?_)
  refine lv_iload_n X.1 X.2.1 dX6_arrayText_6 rfl (lv_at hl 2 rfl) ?_
  refine lv_iload_n X.1 X.2.1 dX6_arrayText_7 rfl (lv_at hl 3 rfl) ?_
  refine lv_iload X.1 X.2.1 dX6_arrayText_8 (lv_at hl 4 rfl) ?_
  exact cXV Y X hW (HB.mem lv_0) (pC_6 (HB.kn lv_0 rfl)) rfl (cz_addPart_a l hst HB (w := 3 + w) (by omega) h) (cwV 4 X.2.2.2.2 gX6_arrayText_X6_addPart rfl rfl rfl (by decide +kernel) ⟨Nat.le_of_ble_eq_true rfl, Nat.le_of_ble_eq_true rfl⟩) rfl rfl hl.1 (Nat.le_of_ble_eq_true rfl) dX6_arrayText_10 ⟨Nat.le_of_ble_eq_true rfl, Nat.le_of_ble_eq_true rfl⟩
set_option maxHeartbeats 4000000 in
set_option maxRecDepth 100000 in
theorem cb_arrayText_c (l : Launch) {G : va_G} {kT : Nat → ClassId} {L : List Nat} {K : Nat → Nat} {R : pR} {I : pI} {A : mD} {Q : pR} {N : Nat → Nat} (hst : l.stackTraces = false) {T : mT} {D : mD} {ad : pD} (HB : Rep T D ad L K R I A Q N) {w r : Nat} {x x2 : Int32} (hw : w < 3) (hr : r < 4) (h : oP (T 1 (T 2 r)) x x2) : cMt l yX6_arrayText wsX6_arrayText ({ frames := 8, cells := 1, slots := 6, locals := 147 } : Room) G kT [.ref (ad 0 0), .int (nI (w)), .int (nI (r)), .int (x), .int (x2)] L K R I A Q N "java/lang/IndexOutOfBoundsException" := by
  refine cstt (cc := cX6_arrayText) (maxL := 5) (ret := (some .int)) hst (by decide) rfl (Nat.le_of_ble_eq_true rfl) (fun p e s m args below meth c Z Y X hW ls hl => ?_)
  have X : CallFix p m c cX6_arrayText 5 s args wsX6_arrayText RX6 := X
  have hl : lv_has ls 5 [(0, .ref (ad 0 0)), (1, .int (nI (w))), (2, .int (nI (r))), (3, .int (x)), (4, .int (x2))] := hl
  have hin3 : ∀ w ∈ wsX30, w ∈ wsX6_arrayText := fun w h => List.mem_cons_of_mem _ (List.mem_append_left _ (List.mem_append_left _ (List.mem_append_left _ (List.mem_append_left _ (List.mem_append_right _ (h))))))
  have hin4 : ∀ w ∈ wsX40, w ∈ wsX6_arrayText := fun w h => List.mem_cons_of_mem _ (List.mem_append_left _ (List.mem_append_left _ (List.mem_append_left _ (List.mem_append_right _ (h)))))
  have hin6 : ∀ w ∈ wsX60, w ∈ wsX6_arrayText := fun w h => List.mem_cons_of_mem _ (List.mem_append_left _ (List.mem_append_left _ (List.mem_append_left _ (List.mem_append_left _ (List.mem_append_left _ (List.mem_append_right _ (h)))))))
  have hwr := HB.wr (show 3 + w < 6 by omega)
  refine lv_aload_n X.1 X.2.1 dX6_arrayText_0 rfl (lv_at hl 0 rfl) ?_
  refine lv_aload_n X.1 X.2.1 dX6_arrayText_1 rfl (lv_at hl 0 rfl) ?_
  refine lv_iload_n X.1 X.2.1 dX6_arrayText_2 rfl (lv_at hl 1 rfl) ?_
  refine cVr X hW (HB.mem lv_0) (pC_6 (HB.kn lv_0 rfl)) rfl (cg_arrayWriterAt l HB (r := w) (by omega)) (cwV 1 X.2.2.2.2 gX6_arrayText_X6_arrayWriterAt rfl rfl rfl (by decide +kernel) ⟨Nat.le_of_ble_eq_true rfl, Nat.le_of_ble_eq_true rfl⟩) rfl rfl hl.1 (Nat.le_of_ble_eq_true rfl) dX6_arrayText_3 ⟨Nat.zero_le _, Nat.zero_le _⟩ (fun H locs hW => ?_)
  refine lv_iload_n X.1 X.2.1 dX6_arrayText_6 rfl (lv_at hl 2 rfl) ?_
  refine lv_iload_n X.1 X.2.1 dX6_arrayText_7 rfl (lv_at hl 3 rfl) ?_
  refine lv_iload X.1 X.2.1 dX6_arrayText_8 (lv_at hl 4 rfl) ?_
  exact cXV Y X hW (HB.mem lv_0) (pC_6 (HB.kn lv_0 rfl)) rfl (cz_addPart_b l hst HB (w := 3 + w) (by omega) hr h) (cwV 4 X.2.2.2.2 gX6_arrayText_X6_addPart rfl rfl rfl (by decide +kernel) ⟨Nat.le_of_ble_eq_true rfl, Nat.le_of_ble_eq_true rfl⟩) rfl rfl hl.1 (Nat.le_of_ble_eq_true rfl) dX6_arrayText_10 ⟨Nat.le_of_ble_eq_true rfl, Nat.le_of_ble_eq_true rfl⟩
set_option maxHeartbeats 4000000 in
set_option maxRecDepth 100000 in
theorem cb_arrayText_d (l : Launch) {G : va_G} {kT : Nat → ClassId} {L : List Nat} {K : Nat → Nat} {R : pR} {I : pI} {A : mD} {Q : pR} {N : Nat → Nat} (hst : l.stackTraces = false) {T : mT} {D : mD} {ad : pD} (HB : Rep T D ad L K R I A Q N) {w r f j : Nat} (hw : w < 3) (hr : r < 4) (hf : f + j ≤ T 1 (T 2 r)) (h : 256 < T 7 (3 + w) + j) : cMt l yX6_arrayText wsX6_arrayText ({ frames := 8, cells := 1, slots := 6, locals := 147 } : Room) G kT [.ref (ad 0 0), .int (nI (w)), .int (nI (r)), .int (nI (f)), .int (nI (j))] L K R I A Q N "java/lang/IllegalStateException" := by
  refine cstt (cc := cX6_arrayText) (maxL := 5) (ret := (some .int)) hst (by decide) rfl (Nat.le_of_ble_eq_true rfl) (fun p e s m args below meth c Z Y X hW ls hl => ?_)
  have X : CallFix p m c cX6_arrayText 5 s args wsX6_arrayText RX6 := X
  have hl : lv_has ls 5 [(0, .ref (ad 0 0)), (1, .int (nI (w))), (2, .int (nI (r))), (3, .int (nI (f))), (4, .int (nI (j)))] := hl
  have hin3 : ∀ w ∈ wsX30, w ∈ wsX6_arrayText := fun w h => List.mem_cons_of_mem _ (List.mem_append_left _ (List.mem_append_left _ (List.mem_append_left _ (List.mem_append_left _ (List.mem_append_right _ (h))))))
  have hin4 : ∀ w ∈ wsX40, w ∈ wsX6_arrayText := fun w h => List.mem_cons_of_mem _ (List.mem_append_left _ (List.mem_append_left _ (List.mem_append_left _ (List.mem_append_right _ (h)))))
  have hin6 : ∀ w ∈ wsX60, w ∈ wsX6_arrayText := fun w h => List.mem_cons_of_mem _ (List.mem_append_left _ (List.mem_append_left _ (List.mem_append_left _ (List.mem_append_left _ (List.mem_append_left _ (List.mem_append_right _ (h)))))))
  have hwr := HB.wr (show 3 + w < 6 by omega)
  refine lv_aload_n X.1 X.2.1 dX6_arrayText_0 rfl (lv_at hl 0 rfl) ?_
  refine lv_aload_n X.1 X.2.1 dX6_arrayText_1 rfl (lv_at hl 0 rfl) ?_
  refine lv_iload_n X.1 X.2.1 dX6_arrayText_2 rfl (lv_at hl 1 rfl) ?_
  refine cVr X hW (HB.mem lv_0) (pC_6 (HB.kn lv_0 rfl)) rfl (cg_arrayWriterAt l HB (r := w) (by omega)) (cwV 1 X.2.2.2.2 gX6_arrayText_X6_arrayWriterAt rfl rfl rfl (by decide +kernel) ⟨Nat.le_of_ble_eq_true rfl, Nat.le_of_ble_eq_true rfl⟩) rfl rfl hl.1 (Nat.le_of_ble_eq_true rfl) dX6_arrayText_3 ⟨Nat.zero_le _, Nat.zero_le _⟩ (fun H locs hW => ?_)
  refine lv_iload_n X.1 X.2.1 dX6_arrayText_6 rfl (lv_at hl 2 rfl) ?_
  refine lv_iload_n X.1 X.2.1 dX6_arrayText_7 rfl (lv_at hl 3 rfl) ?_
  refine lv_iload X.1 X.2.1 dX6_arrayText_8 (lv_at hl 4 rfl) ?_
  exact cXV Y X hW (HB.mem lv_0) (pC_6 (HB.kn lv_0 rfl)) rfl (cz_addPart_c l hst HB (w := 3 + w) (by omega) hr hf h) (cwV 4 X.2.2.2.2 gX6_arrayText_X6_addPart rfl rfl rfl (by decide +kernel) ⟨Nat.le_of_ble_eq_true rfl, Nat.le_of_ble_eq_true rfl⟩) rfl rfl hl.1 (Nat.le_of_ble_eq_true rfl) dX6_arrayText_10 ⟨Nat.le_of_ble_eq_true rfl, Nat.le_of_ble_eq_true rfl⟩
set_option maxHeartbeats 4000000 in
set_option maxRecDepth 100000 in
theorem cb_arraySigns_a (l : Launch) {G : va_G} {kT : Nat → ClassId} {L : List Nat} {K : Nat → Nat} {R : pR} {I : pI} {A : mD} {Q : pR} {N : Nat → Nat} (hst : l.stackTraces = false) {T : mT} {D : mD} {ad : pD} (HB : Rep T D ad L K R I A Q N) {x x1 x2 x3 : Int32} (h : oN x 3) : cMt l yX6_arraySigns wsX6_arraySigns ({ frames := 8, cells := 1, slots := 6, locals := 147 } : Room) G kT [.ref (ad 0 0), .int (x), .int (x1), .int (x2), .int (x3)] L K R I A Q N "java/lang/IndexOutOfBoundsException" := by
  refine cstt (cc := cX6_arraySigns) (maxL := 5) (ret := (some .int)) hst (by decide) rfl (Nat.le_of_ble_eq_true rfl) (fun p e s m args below meth c Z Y X hW ls hl => ?_)
  have X : CallFix p m c cX6_arraySigns 5 s args wsX6_arraySigns RX6 := X
  have hl : lv_has ls 5 [(0, .ref (ad 0 0)), (1, .int (x)), (2, .int (x1)), (3, .int (x2)), (4, .int (x3))] := hl
  have hin3 : ∀ w ∈ wsX30, w ∈ wsX6_arraySigns := fun w h => List.mem_cons_of_mem _ (List.mem_append_left _ (List.mem_append_left _ (List.mem_append_left _ (List.mem_append_left _ (List.mem_append_right _ (h))))))
  have hin4 : ∀ w ∈ wsX40, w ∈ wsX6_arraySigns := fun w h => List.mem_cons_of_mem _ (List.mem_append_left _ (List.mem_append_left _ (List.mem_append_left _ (List.mem_append_right _ (h)))))
  have hin6 : ∀ w ∈ wsX60, w ∈ wsX6_arraySigns := fun w h => List.mem_cons_of_mem _ (List.mem_append_left _ (List.mem_append_left _ (List.mem_append_left _ (List.mem_append_left _ (List.mem_append_left _ (List.mem_append_right _ (h)))))))
  refine lv_aload_n X.1 X.2.1 dX6_arraySigns_0 rfl (lv_at hl 0 rfl) ?_
  refine lv_aload_n X.1 X.2.1 dX6_arraySigns_1 rfl (lv_at hl 0 rfl) ?_
  refine lv_iload_n X.1 X.2.1 dX6_arraySigns_2 rfl (lv_at hl 1 rfl) ?_
  exact cXV Y X hW (HB.mem lv_0) (pC_6 (HB.kn lv_0 rfl)) rfl (cz_arrayWriterAt l hst HB h) (cwV 1 X.2.2.2.2 gX6_arraySigns_X6_arrayWriterAt rfl rfl rfl (by decide +kernel) ⟨Nat.le_of_ble_eq_true rfl, Nat.le_of_ble_eq_true rfl⟩) rfl rfl hl.1 (Nat.le_of_ble_eq_true rfl) dX6_arraySigns_3 ⟨Nat.le_of_ble_eq_true rfl, Nat.le_of_ble_eq_true rfl⟩
set_option maxHeartbeats 4000000 in
set_option maxRecDepth 100000 in
theorem cb_arraySigns_b (l : Launch) {G : va_G} {kT : Nat → ClassId} {L : List Nat} {K : Nat → Nat} {R : pR} {I : pI} {A : mD} {Q : pR} {N : Nat → Nat} (hst : l.stackTraces = false) {T : mT} {D : mD} {ad : pD} (HB : Rep T D ad L K R I A Q N) {w : Nat} {x x1 x2 : Int32} (hw : w < 3) (h : oN x 4) : cMt l yX6_arraySigns wsX6_arraySigns ({ frames := 8, cells := 1, slots := 6, locals := 147 } : Room) G kT [.ref (ad 0 0), .int (nI (w)), .int (x), .int (x1), .int (x2)] L K R I A Q N "java/lang/IndexOutOfBoundsException" := by
  refine cstt (cc := cX6_arraySigns) (maxL := 5) (ret := (some .int)) hst (by decide) rfl (Nat.le_of_ble_eq_true rfl) (fun p e s m args below meth c Z Y X hW ls hl => ?_)
  have X : CallFix p m c cX6_arraySigns 5 s args wsX6_arraySigns RX6 := X
  have hl : lv_has ls 5 [(0, .ref (ad 0 0)), (1, .int (nI (w))), (2, .int (x)), (3, .int (x1)), (4, .int (x2))] := hl
  have hin3 : ∀ w ∈ wsX30, w ∈ wsX6_arraySigns := fun w h => List.mem_cons_of_mem _ (List.mem_append_left _ (List.mem_append_left _ (List.mem_append_left _ (List.mem_append_left _ (List.mem_append_right _ (h))))))
  have hin4 : ∀ w ∈ wsX40, w ∈ wsX6_arraySigns := fun w h => List.mem_cons_of_mem _ (List.mem_append_left _ (List.mem_append_left _ (List.mem_append_left _ (List.mem_append_right _ (h)))))
  have hin6 : ∀ w ∈ wsX60, w ∈ wsX6_arraySigns := fun w h => List.mem_cons_of_mem _ (List.mem_append_left _ (List.mem_append_left _ (List.mem_append_left _ (List.mem_append_left _ (List.mem_append_left _ (List.mem_append_right _ (h)))))))
  have hwr := HB.wr (show 3 + w < 6 by omega)
  refine lv_aload_n X.1 X.2.1 dX6_arraySigns_0 rfl (lv_at hl 0 rfl) ?_
  refine lv_aload_n X.1 X.2.1 dX6_arraySigns_1 rfl (lv_at hl 0 rfl) ?_
  refine lv_iload_n X.1 X.2.1 dX6_arraySigns_2 rfl (lv_at hl 1 rfl) ?_
  refine cVr X hW (HB.mem lv_0) (pC_6 (HB.kn lv_0 rfl)) rfl (cg_arrayWriterAt l HB (r := w) (by omega)) (cwV 1 X.2.2.2.2 gX6_arraySigns_X6_arrayWriterAt rfl rfl rfl (by decide +kernel) ⟨Nat.le_of_ble_eq_true rfl, Nat.le_of_ble_eq_true rfl⟩) rfl rfl hl.1 (Nat.le_of_ble_eq_true rfl) dX6_arraySigns_3 ⟨Nat.zero_le _, Nat.zero_le _⟩ (fun H locs hW => ?_)
  refine lv_iload_n X.1 X.2.1 dX6_arraySigns_6 rfl (lv_at hl 2 rfl) ?_
  refine lv_iload_n X.1 X.2.1 dX6_arraySigns_7 rfl (lv_at hl 3 rfl) ?_
  refine lv_iload X.1 X.2.1 dX6_arraySigns_8 (lv_at hl 4 rfl) ?_
  exact cXV Y X hW (HB.mem lv_0) (pC_6 (HB.kn lv_0 rfl)) rfl (cz_addPart_a l hst HB (w := 3 + w) (by omega) h) (cwV 4 X.2.2.2.2 gX6_arraySigns_X6_addPart rfl rfl rfl (by decide +kernel) ⟨Nat.le_of_ble_eq_true rfl, Nat.le_of_ble_eq_true rfl⟩) rfl rfl hl.1 (Nat.le_of_ble_eq_true rfl) dX6_arraySigns_10 ⟨Nat.le_of_ble_eq_true rfl, Nat.le_of_ble_eq_true rfl⟩
set_option maxHeartbeats 4000000 in
set_option maxRecDepth 100000 in
theorem cb_arraySigns_c (l : Launch) {G : va_G} {kT : Nat → ClassId} {L : List Nat} {K : Nat → Nat} {R : pR} {I : pI} {A : mD} {Q : pR} {N : Nat → Nat} (hst : l.stackTraces = false) {T : mT} {D : mD} {ad : pD} (HB : Rep T D ad L K R I A Q N) {w r : Nat} {x x2 : Int32} (hw : w < 3) (hr : r < 4) (h : oP (T 1 (T 2 r)) x x2) : cMt l yX6_arraySigns wsX6_arraySigns ({ frames := 8, cells := 1, slots := 6, locals := 147 } : Room) G kT [.ref (ad 0 0), .int (nI (w)), .int (nI (r)), .int (x), .int (x2)] L K R I A Q N "java/lang/IndexOutOfBoundsException" := by
  refine cstt (cc := cX6_arraySigns) (maxL := 5) (ret := (some .int)) hst (by decide) rfl (Nat.le_of_ble_eq_true rfl) (fun p e s m args below meth c Z Y X hW ls hl => ?_)
  have X : CallFix p m c cX6_arraySigns 5 s args wsX6_arraySigns RX6 := X
  have hl : lv_has ls 5 [(0, .ref (ad 0 0)), (1, .int (nI (w))), (2, .int (nI (r))), (3, .int (x)), (4, .int (x2))] := hl
  have hin3 : ∀ w ∈ wsX30, w ∈ wsX6_arraySigns := fun w h => List.mem_cons_of_mem _ (List.mem_append_left _ (List.mem_append_left _ (List.mem_append_left _ (List.mem_append_left _ (List.mem_append_right _ (h))))))
  have hin4 : ∀ w ∈ wsX40, w ∈ wsX6_arraySigns := fun w h => List.mem_cons_of_mem _ (List.mem_append_left _ (List.mem_append_left _ (List.mem_append_left _ (List.mem_append_right _ (h)))))
  have hin6 : ∀ w ∈ wsX60, w ∈ wsX6_arraySigns := fun w h => List.mem_cons_of_mem _ (List.mem_append_left _ (List.mem_append_left _ (List.mem_append_left _ (List.mem_append_left _ (List.mem_append_left _ (List.mem_append_right _ (h)))))))
  have hwr := HB.wr (show 3 + w < 6 by omega)
  refine lv_aload_n X.1 X.2.1 dX6_arraySigns_0 rfl (lv_at hl 0 rfl) ?_
  refine lv_aload_n X.1 X.2.1 dX6_arraySigns_1 rfl (lv_at hl 0 rfl) ?_
  refine lv_iload_n X.1 X.2.1 dX6_arraySigns_2 rfl (lv_at hl 1 rfl) ?_
  refine cVr X hW (HB.mem lv_0) (pC_6 (HB.kn lv_0 rfl)) rfl (cg_arrayWriterAt l HB (r := w) (by omega)) (cwV 1 X.2.2.2.2 gX6_arraySigns_X6_arrayWriterAt rfl rfl rfl (by decide +kernel) ⟨Nat.le_of_ble_eq_true rfl, Nat.le_of_ble_eq_true rfl⟩) rfl rfl hl.1 (Nat.le_of_ble_eq_true rfl) dX6_arraySigns_3 ⟨Nat.zero_le _, Nat.zero_le _⟩ (fun H locs hW => ?_)
  refine lv_iload_n X.1 X.2.1 dX6_arraySigns_6 rfl (lv_at hl 2 rfl) ?_
  refine lv_iload_n X.1 X.2.1 dX6_arraySigns_7 rfl (lv_at hl 3 rfl) ?_
  refine lv_iload X.1 X.2.1 dX6_arraySigns_8 (lv_at hl 4 rfl) ?_
  exact cXV Y X hW (HB.mem lv_0) (pC_6 (HB.kn lv_0 rfl)) rfl (cz_addPart_b l hst HB (w := 3 + w) (by omega) hr h) (cwV 4 X.2.2.2.2 gX6_arraySigns_X6_addPart rfl rfl rfl (by decide +kernel) ⟨Nat.le_of_ble_eq_true rfl, Nat.le_of_ble_eq_true rfl⟩) rfl rfl hl.1 (Nat.le_of_ble_eq_true rfl) dX6_arraySigns_10 ⟨Nat.le_of_ble_eq_true rfl, Nat.le_of_ble_eq_true rfl⟩
set_option maxHeartbeats 4000000 in
set_option maxRecDepth 100000 in
theorem cb_arraySigns_d (l : Launch) {G : va_G} {kT : Nat → ClassId} {L : List Nat} {K : Nat → Nat} {R : pR} {I : pI} {A : mD} {Q : pR} {N : Nat → Nat} (hst : l.stackTraces = false) {T : mT} {D : mD} {ad : pD} (HB : Rep T D ad L K R I A Q N) {w r f j : Nat} (hw : w < 3) (hr : r < 4) (hf : f + j ≤ T 1 (T 2 r)) (h : 256 < T 7 (3 + w) + j) : cMt l yX6_arraySigns wsX6_arraySigns ({ frames := 8, cells := 1, slots := 6, locals := 147 } : Room) G kT [.ref (ad 0 0), .int (nI (w)), .int (nI (r)), .int (nI (f)), .int (nI (j))] L K R I A Q N "java/lang/IllegalStateException" := by
  refine cstt (cc := cX6_arraySigns) (maxL := 5) (ret := (some .int)) hst (by decide) rfl (Nat.le_of_ble_eq_true rfl) (fun p e s m args below meth c Z Y X hW ls hl => ?_)
  have X : CallFix p m c cX6_arraySigns 5 s args wsX6_arraySigns RX6 := X
  have hl : lv_has ls 5 [(0, .ref (ad 0 0)), (1, .int (nI (w))), (2, .int (nI (r))), (3, .int (nI (f))), (4, .int (nI (j)))] := hl
  have hin3 : ∀ w ∈ wsX30, w ∈ wsX6_arraySigns := fun w h => List.mem_cons_of_mem _ (List.mem_append_left _ (List.mem_append_left _ (List.mem_append_left _ (List.mem_append_left _ (List.mem_append_right _ (h))))))
  have hin4 : ∀ w ∈ wsX40, w ∈ wsX6_arraySigns := fun w h => List.mem_cons_of_mem _ (List.mem_append_left _ (List.mem_append_left _ (List.mem_append_left _ (List.mem_append_right _ (h)))))
  have hin6 : ∀ w ∈ wsX60, w ∈ wsX6_arraySigns := fun w h => List.mem_cons_of_mem _ (List.mem_append_left _ (List.mem_append_left _ (List.mem_append_left _ (List.mem_append_left _ (List.mem_append_left _ (List.mem_append_right _ (h)))))))
  have hwr := HB.wr (show 3 + w < 6 by omega)
  refine lv_aload_n X.1 X.2.1 dX6_arraySigns_0 rfl (lv_at hl 0 rfl) ?_
  refine lv_aload_n X.1 X.2.1 dX6_arraySigns_1 rfl (lv_at hl 0 rfl) ?_
  refine lv_iload_n X.1 X.2.1 dX6_arraySigns_2 rfl (lv_at hl 1 rfl) ?_
  refine cVr X hW (HB.mem lv_0) (pC_6 (HB.kn lv_0 rfl)) rfl (cg_arrayWriterAt l HB (r := w) (by omega)) (cwV 1 X.2.2.2.2 gX6_arraySigns_X6_arrayWriterAt rfl rfl rfl (by decide +kernel) ⟨Nat.le_of_ble_eq_true rfl, Nat.le_of_ble_eq_true rfl⟩) rfl rfl hl.1 (Nat.le_of_ble_eq_true rfl) dX6_arraySigns_3 ⟨Nat.zero_le _, Nat.zero_le _⟩ (fun H locs hW => ?_)
  refine lv_iload_n X.1 X.2.1 dX6_arraySigns_6 rfl (lv_at hl 2 rfl) ?_
  refine lv_iload_n X.1 X.2.1 dX6_arraySigns_7 rfl (lv_at hl 3 rfl) ?_
  refine lv_iload X.1 X.2.1 dX6_arraySigns_8 (lv_at hl 4 rfl) ?_
  exact cXV Y X hW (HB.mem lv_0) (pC_6 (HB.kn lv_0 rfl)) rfl (cz_addPart_c l hst HB (w := 3 + w) (by omega) hr hf h) (cwV 4 X.2.2.2.2 gX6_arraySigns_X6_addPart rfl rfl rfl (by decide +kernel) ⟨Nat.le_of_ble_eq_true rfl, Nat.le_of_ble_eq_true rfl⟩) rfl rfl hl.1 (Nat.le_of_ble_eq_true rfl) dX6_arraySigns_10 ⟨Nat.le_of_ble_eq_true rfl, Nat.le_of_ble_eq_true rfl⟩
set_option maxHeartbeats 4000000 in
set_option maxRecDepth 100000 in
theorem cb_begin_a (l : Launch) {G : va_G} {kT : Nat → ClassId} {L : List Nat} {K : Nat → Nat} {R : pR} {I : pI} {A : mD} {Q : pR} {N : Nat → Nat} (hst : l.stackTraces = false) {T : mT} {D : mD} {ad : pD} (HB : Rep T D ad L K R I A Q N) {x : Int32} (h : oN x 3) : cMt l yX6_begin wsX6_begin ({ frames := 7, cells := 1, slots := 6, locals := 121 } : Room) G kT [.ref (ad 0 0), .int (x)] L K R I A Q N "java/lang/IndexOutOfBoundsException" := by
  refine cstt (cc := cX6_begin) (maxL := 2) (ret := (some .int)) hst (by decide) rfl (Nat.le_of_ble_eq_true rfl) (fun p e s m args below meth c Z Y X hW ls hl => ?_)
  have X : CallFix p m c cX6_begin 2 s args wsX6_begin RX6 := X
  have hl : lv_has ls 2 [(0, .ref (ad 0 0)), (1, .int (x))] := hl
  have hin4 : ∀ w ∈ wsX40, w ∈ wsX6_begin := fun w h => List.mem_cons_of_mem _ (List.mem_append_left _ (List.mem_append_right _ (h)))
  have hin6 : ∀ w ∈ wsX60, w ∈ wsX6_begin := fun w h => List.mem_cons_of_mem _ (List.mem_append_left _ (List.mem_append_left _ (List.mem_append_right _ (h))))
  refine lv_aload_n X.1 X.2.1 dX6_begin_0 rfl (lv_at hl 0 rfl) ?_
  refine lv_iload_n X.1 X.2.1 dX6_begin_1 rfl (lv_at hl 1 rfl) ?_
  exact cXV Y X hW (HB.mem lv_0) (pC_6 (HB.kn lv_0 rfl)) rfl (cz_textWriterAt l hst HB h) (cwV 1 X.2.2.2.2 gX6_begin_X6_textWriterAt rfl rfl rfl (by decide +kernel) ⟨Nat.le_of_ble_eq_true rfl, Nat.le_of_ble_eq_true rfl⟩) rfl rfl hl.1 (Nat.le_of_ble_eq_true rfl) dX6_begin_2 ⟨Nat.le_of_ble_eq_true rfl, Nat.le_of_ble_eq_true rfl⟩
set_option maxHeartbeats 4000000 in
set_option maxRecDepth 100000 in
theorem cb_empty_a (l : Launch) {G : va_G} {kT : Nat → ClassId} {L : List Nat} {K : Nat → Nat} {R : pR} {I : pI} {A : mD} {Q : pR} {N : Nat → Nat} (hst : l.stackTraces = false) {T : mT} {D : mD} {ad : pD} (HB : Rep T D ad L K R I A Q N) {x : Int32} (h : oN x 3) : cMt l yX6_empty wsX6_empty ({ frames := 7, cells := 1, slots := 6, locals := 121 } : Room) G kT [.ref (ad 0 0), .int (x)] L K R I A Q N "java/lang/IndexOutOfBoundsException" := by
  refine cstt (cc := cX6_empty) (maxL := 2) (ret := (some .int)) hst (by decide) rfl (Nat.le_of_ble_eq_true rfl) (fun p e s m args below meth c Z Y X hW ls hl => ?_)
  have X : CallFix p m c cX6_empty 2 s args wsX6_empty RX6 := X
  have hl : lv_has ls 2 [(0, .ref (ad 0 0)), (1, .int (x))] := hl
  have hin4 : ∀ w ∈ wsX40, w ∈ wsX6_empty := fun w h => List.mem_cons_of_mem _ (List.mem_append_left _ (List.mem_append_right _ (h)))
  have hin6 : ∀ w ∈ wsX60, w ∈ wsX6_empty := fun w h => List.mem_cons_of_mem _ (List.mem_append_left _ (List.mem_append_left _ (List.mem_append_right _ (h))))
  refine lv_aload_n X.1 X.2.1 dX6_empty_0 rfl (lv_at hl 0 rfl) ?_
  refine lv_iload_n X.1 X.2.1 dX6_empty_1 rfl (lv_at hl 1 rfl) ?_
  exact cXV Y X hW (HB.mem lv_0) (pC_6 (HB.kn lv_0 rfl)) rfl (cz_arrayWriterAt l hst HB h) (cwV 1 X.2.2.2.2 gX6_empty_X6_arrayWriterAt rfl rfl rfl (by decide +kernel) ⟨Nat.le_of_ble_eq_true rfl, Nat.le_of_ble_eq_true rfl⟩) rfl rfl hl.1 (Nat.le_of_ble_eq_true rfl) dX6_empty_2 ⟨Nat.le_of_ble_eq_true rfl, Nat.le_of_ble_eq_true rfl⟩
set_option maxHeartbeats 4000000 in
set_option maxRecDepth 100000 in
theorem cb_take_a (l : Launch) {G : va_G} {kT : Nat → ClassId} {L : List Nat} {K : Nat → Nat} {R : pR} {I : pI} {A : mD} {Q : pR} {N : Nat → Nat} (hst : l.stackTraces = false) {T : mT} {D : mD} {ad : pD} (HB : Rep T D ad L K R I A Q N) {x x1 : Int32} (h : oN x 3) : cMt l yX6_take wsX6_take ({ frames := 8, cells := 1, slots := 6, locals := 144 } : Room) G kT [.ref (ad 0 0), .int (x), .int (x1)] L K R I A Q N "java/lang/IndexOutOfBoundsException" := by
  refine cstt (cc := cX6_take) (maxL := 3) (ret := (some .int)) hst (by decide) rfl (Nat.le_of_ble_eq_true rfl) (fun p e s m args below meth c Z Y X hW ls hl => ?_)
  have X : CallFix p m c cX6_take 3 s args wsX6_take RX6 := X
  have hl : lv_has ls 3 [(0, .ref (ad 0 0)), (1, .int (x)), (2, .int (x1))] := hl
  have hin3 : ∀ w ∈ wsX30, w ∈ wsX6_take := fun w h => List.mem_cons_of_mem _ (List.mem_append_left _ (List.mem_append_left _ (List.mem_append_left _ (List.mem_append_right _ (h)))))
  have hin4 : ∀ w ∈ wsX40, w ∈ wsX6_take := fun w h => List.mem_cons_of_mem _ (List.mem_append_left _ (List.mem_append_left _ (List.mem_append_right _ (h))))
  have hin6 : ∀ w ∈ wsX60, w ∈ wsX6_take := fun w h => List.mem_cons_of_mem _ (List.mem_append_left _ (List.mem_append_left _ (List.mem_append_left _ (List.mem_append_left _ (List.mem_append_right _ (h))))))
  refine lv_aload_n X.1 X.2.1 dX6_take_0 rfl (lv_at hl 0 rfl) ?_
  refine lv_aload_n X.1 X.2.1 dX6_take_1 rfl (lv_at hl 0 rfl) ?_
  refine lv_iload_n X.1 X.2.1 dX6_take_2 rfl (lv_at hl 1 rfl) ?_
  exact cXV Y X hW (HB.mem lv_0) (pC_6 (HB.kn lv_0 rfl)) rfl (cz_textWriterAt l hst HB h) (cwV 1 X.2.2.2.2 gX6_take_X6_textWriterAt rfl rfl rfl (by decide +kernel) ⟨Nat.le_of_ble_eq_true rfl, Nat.le_of_ble_eq_true rfl⟩) rfl rfl hl.1 (Nat.le_of_ble_eq_true rfl) dX6_take_3 ⟨Nat.le_of_ble_eq_true rfl, Nat.le_of_ble_eq_true rfl⟩
set_option maxHeartbeats 4000000 in
set_option maxRecDepth 100000 in
theorem cb_take_b (l : Launch) {G : va_G} {kT : Nat → ClassId} {L : List Nat} {K : Nat → Nat} {R : pR} {I : pI} {A : mD} {Q : pR} {N : Nat → Nat} (hst : l.stackTraces = false) {T : mT} {D : mD} {ad : pD} (HB : Rep T D ad L K R I A Q N) {w : Nat} {x : Int32} (hw : w < 3) (h : oN x 4) : cMt l yX6_take wsX6_take ({ frames := 8, cells := 1, slots := 6, locals := 144 } : Room) G kT [.ref (ad 0 0), .int (nI (w)), .int (x)] L K R I A Q N "java/lang/IndexOutOfBoundsException" := by
  refine cstt (cc := cX6_take) (maxL := 3) (ret := (some .int)) hst (by decide) rfl (Nat.le_of_ble_eq_true rfl) (fun p e s m args below meth c Z Y X hW ls hl => ?_)
  have X : CallFix p m c cX6_take 3 s args wsX6_take RX6 := X
  have hl : lv_has ls 3 [(0, .ref (ad 0 0)), (1, .int (nI (w))), (2, .int (x))] := hl
  have hin3 : ∀ w ∈ wsX30, w ∈ wsX6_take := fun w h => List.mem_cons_of_mem _ (List.mem_append_left _ (List.mem_append_left _ (List.mem_append_left _ (List.mem_append_right _ (h)))))
  have hin4 : ∀ w ∈ wsX40, w ∈ wsX6_take := fun w h => List.mem_cons_of_mem _ (List.mem_append_left _ (List.mem_append_left _ (List.mem_append_right _ (h))))
  have hin6 : ∀ w ∈ wsX60, w ∈ wsX6_take := fun w h => List.mem_cons_of_mem _ (List.mem_append_left _ (List.mem_append_left _ (List.mem_append_left _ (List.mem_append_left _ (List.mem_append_right _ (h))))))
  have hwr := HB.wr (show w < 6 by omega)
  refine lv_aload_n X.1 X.2.1 dX6_take_0 rfl (lv_at hl 0 rfl) ?_
  refine lv_aload_n X.1 X.2.1 dX6_take_1 rfl (lv_at hl 0 rfl) ?_
  refine lv_iload_n X.1 X.2.1 dX6_take_2 rfl (lv_at hl 1 rfl) ?_
  refine cVr X hW (HB.mem lv_0) (pC_6 (HB.kn lv_0 rfl)) rfl (cg_textWriterAt l HB (r := w) (by omega)) (cwV 1 X.2.2.2.2 gX6_take_X6_textWriterAt rfl rfl rfl (by decide +kernel) ⟨Nat.le_of_ble_eq_true rfl, Nat.le_of_ble_eq_true rfl⟩) rfl rfl hl.1 (Nat.le_of_ble_eq_true rfl) dX6_take_3 ⟨Nat.zero_le _, Nat.zero_le _⟩ (fun H locs hW => ?_)
  refine lv_iload_n X.1 X.2.1 dX6_take_6 rfl (lv_at hl 2 rfl) ?_
  exact cXV Y X hW (HB.mem lv_0) (pC_6 (HB.kn lv_0 rfl)) rfl (cz_takeInto l hst HB (w := w) (by omega) h) (cwV 2 X.2.2.2.2 gX6_take_X6_takeInto rfl rfl rfl (by decide +kernel) ⟨Nat.le_of_ble_eq_true rfl, Nat.le_of_ble_eq_true rfl⟩) rfl rfl hl.1 (Nat.le_of_ble_eq_true rfl) dX6_take_7 ⟨Nat.le_of_ble_eq_true rfl, Nat.le_of_ble_eq_true rfl⟩
set_option maxHeartbeats 4000000 in
set_option maxRecDepth 100000 in
theorem cb_arrayTake_a (l : Launch) {G : va_G} {kT : Nat → ClassId} {L : List Nat} {K : Nat → Nat} {R : pR} {I : pI} {A : mD} {Q : pR} {N : Nat → Nat} (hst : l.stackTraces = false) {T : mT} {D : mD} {ad : pD} (HB : Rep T D ad L K R I A Q N) {x x1 : Int32} (h : oN x 3) : cMt l yX6_arrayTake wsX6_arrayTake ({ frames := 8, cells := 1, slots := 6, locals := 144 } : Room) G kT [.ref (ad 0 0), .int (x), .int (x1)] L K R I A Q N "java/lang/IndexOutOfBoundsException" := by
  refine cstt (cc := cX6_arrayTake) (maxL := 3) (ret := (some .int)) hst (by decide) rfl (Nat.le_of_ble_eq_true rfl) (fun p e s m args below meth c Z Y X hW ls hl => ?_)
  have X : CallFix p m c cX6_arrayTake 3 s args wsX6_arrayTake RX6 := X
  have hl : lv_has ls 3 [(0, .ref (ad 0 0)), (1, .int (x)), (2, .int (x1))] := hl
  have hin3 : ∀ w ∈ wsX30, w ∈ wsX6_arrayTake := fun w h => List.mem_cons_of_mem _ (List.mem_append_left _ (List.mem_append_left _ (List.mem_append_left _ (List.mem_append_right _ (h)))))
  have hin4 : ∀ w ∈ wsX40, w ∈ wsX6_arrayTake := fun w h => List.mem_cons_of_mem _ (List.mem_append_left _ (List.mem_append_left _ (List.mem_append_right _ (h))))
  have hin6 : ∀ w ∈ wsX60, w ∈ wsX6_arrayTake := fun w h => List.mem_cons_of_mem _ (List.mem_append_left _ (List.mem_append_left _ (List.mem_append_left _ (List.mem_append_left _ (List.mem_append_right _ (h))))))
  refine lv_aload_n X.1 X.2.1 dX6_arrayTake_0 rfl (lv_at hl 0 rfl) ?_
  refine lv_aload_n X.1 X.2.1 dX6_arrayTake_1 rfl (lv_at hl 0 rfl) ?_
  refine lv_iload_n X.1 X.2.1 dX6_arrayTake_2 rfl (lv_at hl 1 rfl) ?_
  exact cXV Y X hW (HB.mem lv_0) (pC_6 (HB.kn lv_0 rfl)) rfl (cz_arrayWriterAt l hst HB h) (cwV 1 X.2.2.2.2 gX6_arrayTake_X6_arrayWriterAt rfl rfl rfl (by decide +kernel) ⟨Nat.le_of_ble_eq_true rfl, Nat.le_of_ble_eq_true rfl⟩) rfl rfl hl.1 (Nat.le_of_ble_eq_true rfl) dX6_arrayTake_3 ⟨Nat.le_of_ble_eq_true rfl, Nat.le_of_ble_eq_true rfl⟩
set_option maxHeartbeats 4000000 in
set_option maxRecDepth 100000 in
theorem cb_arrayTake_b (l : Launch) {G : va_G} {kT : Nat → ClassId} {L : List Nat} {K : Nat → Nat} {R : pR} {I : pI} {A : mD} {Q : pR} {N : Nat → Nat} (hst : l.stackTraces = false) {T : mT} {D : mD} {ad : pD} (HB : Rep T D ad L K R I A Q N) {w : Nat} {x : Int32} (hw : w < 3) (h : oN x 4) : cMt l yX6_arrayTake wsX6_arrayTake ({ frames := 8, cells := 1, slots := 6, locals := 144 } : Room) G kT [.ref (ad 0 0), .int (nI (w)), .int (x)] L K R I A Q N "java/lang/IndexOutOfBoundsException" := by
  refine cstt (cc := cX6_arrayTake) (maxL := 3) (ret := (some .int)) hst (by decide) rfl (Nat.le_of_ble_eq_true rfl) (fun p e s m args below meth c Z Y X hW ls hl => ?_)
  have X : CallFix p m c cX6_arrayTake 3 s args wsX6_arrayTake RX6 := X
  have hl : lv_has ls 3 [(0, .ref (ad 0 0)), (1, .int (nI (w))), (2, .int (x))] := hl
  have hin3 : ∀ w ∈ wsX30, w ∈ wsX6_arrayTake := fun w h => List.mem_cons_of_mem _ (List.mem_append_left _ (List.mem_append_left _ (List.mem_append_left _ (List.mem_append_right _ (h)))))
  have hin4 : ∀ w ∈ wsX40, w ∈ wsX6_arrayTake := fun w h => List.mem_cons_of_mem _ (List.mem_append_left _ (List.mem_append_left _ (List.mem_append_right _ (h))))
  have hin6 : ∀ w ∈ wsX60, w ∈ wsX6_arrayTake := fun w h => List.mem_cons_of_mem _ (List.mem_append_left _ (List.mem_append_left _ (List.mem_append_left _ (List.mem_append_left _ (List.mem_append_right _ (h))))))
  have hwr := HB.wr (show 3 + w < 6 by omega)
  refine lv_aload_n X.1 X.2.1 dX6_arrayTake_0 rfl (lv_at hl 0 rfl) ?_
  refine lv_aload_n X.1 X.2.1 dX6_arrayTake_1 rfl (lv_at hl 0 rfl) ?_
  refine lv_iload_n X.1 X.2.1 dX6_arrayTake_2 rfl (lv_at hl 1 rfl) ?_
  refine cVr X hW (HB.mem lv_0) (pC_6 (HB.kn lv_0 rfl)) rfl (cg_arrayWriterAt l HB (r := w) (by omega)) (cwV 1 X.2.2.2.2 gX6_arrayTake_X6_arrayWriterAt rfl rfl rfl (by decide +kernel) ⟨Nat.le_of_ble_eq_true rfl, Nat.le_of_ble_eq_true rfl⟩) rfl rfl hl.1 (Nat.le_of_ble_eq_true rfl) dX6_arrayTake_3 ⟨Nat.zero_le _, Nat.zero_le _⟩ (fun H locs hW => ?_)
  refine lv_iload_n X.1 X.2.1 dX6_arrayTake_6 rfl (lv_at hl 2 rfl) ?_
  exact cXV Y X hW (HB.mem lv_0) (pC_6 (HB.kn lv_0 rfl)) rfl (cz_takeInto l hst HB (w := 3 + w) (by omega) h) (cwV 2 X.2.2.2.2 gX6_arrayTake_X6_takeInto rfl rfl rfl (by decide +kernel) ⟨Nat.le_of_ble_eq_true rfl, Nat.le_of_ble_eq_true rfl⟩) rfl rfl hl.1 (Nat.le_of_ble_eq_true rfl) dX6_arrayTake_7 ⟨Nat.le_of_ble_eq_true rfl, Nat.le_of_ble_eq_true rfl⟩
set_option maxHeartbeats 4000000 in
set_option maxRecDepth 100000 in
theorem cb_areLike_a (l : Launch) {G : va_G} {kT : Nat → ClassId} {L : List Nat} {K : Nat → Nat} {R : pR} {I : pI} {A : mD} {Q : pR} {N : Nat → Nat} (hst : l.stackTraces = false) {T : mT} {D : mD} {ad : pD} (HB : Rep T D ad L K R I A Q N) {x x1 : Int32} (h : oN x 3) : cMt l yX6_areLike wsX6_areLike ({ frames := 7, cells := 1, slots := 6, locals := 121 } : Room) G kT [.ref (ad 0 0), .int (x), .int (x1)] L K R I A Q N "java/lang/IndexOutOfBoundsException" := by
  refine cstt (cc := cX6_areLike) (maxL := 3) (ret := (some .boolean)) hst (by decide) rfl (Nat.le_of_ble_eq_true rfl) (fun p e s m args below meth c Z Y X hW ls hl => ?_)
  have X : CallFix p m c cX6_areLike 3 s args wsX6_areLike RX6 := X
  have hl : lv_has ls 3 [(0, .ref (ad 0 0)), (1, .int (x)), (2, .int (x1))] := hl
  have hin4 : ∀ w ∈ wsX40, w ∈ wsX6_areLike := fun w h => List.mem_cons_of_mem _ (List.mem_append_left _ (List.mem_append_left _ (List.mem_append_right _ (h))))
  have hin6 : ∀ w ∈ wsX60, w ∈ wsX6_areLike := fun w h => List.mem_cons_of_mem _ (List.mem_append_left _ (List.mem_append_left _ (List.mem_append_left _ (List.mem_append_right _ (h)))))
  refine lv_aload_n X.1 X.2.1 dX6_areLike_0 rfl (lv_at hl 0 rfl) ?_
  refine lv_iload_n X.1 X.2.1 dX6_areLike_1 rfl (lv_at hl 1 rfl) ?_
  exact cXV Y X hW (HB.mem lv_0) (pC_6 (HB.kn lv_0 rfl)) rfl (cz_textWriterAt l hst HB h) (cwV 1 X.2.2.2.2 gX6_areLike_X6_textWriterAt rfl rfl rfl (by decide +kernel) ⟨Nat.le_of_ble_eq_true rfl, Nat.le_of_ble_eq_true rfl⟩) rfl rfl hl.1 (Nat.le_of_ble_eq_true rfl) dX6_areLike_2 ⟨Nat.le_of_ble_eq_true rfl, Nat.le_of_ble_eq_true rfl⟩
set_option maxHeartbeats 4000000 in
set_option maxRecDepth 100000 in
theorem cb_areLike_b (l : Launch) {G : va_G} {kT : Nat → ClassId} {L : List Nat} {K : Nat → Nat} {R : pR} {I : pI} {A : mD} {Q : pR} {N : Nat → Nat} (hst : l.stackTraces = false) {T : mT} {D : mD} {ad : pD} (HB : Rep T D ad L K R I A Q N) {w : Nat} {x : Int32} (hw : w < 3) (h : oN x 3) : cMt l yX6_areLike wsX6_areLike ({ frames := 7, cells := 1, slots := 6, locals := 121 } : Room) G kT [.ref (ad 0 0), .int (nI (w)), .int (x)] L K R I A Q N "java/lang/IndexOutOfBoundsException" := by
  refine cstt (cc := cX6_areLike) (maxL := 3) (ret := (some .boolean)) hst (by decide) rfl (Nat.le_of_ble_eq_true rfl) (fun p e s m args below meth c Z Y X hW ls hl => ?_)
  have X : CallFix p m c cX6_areLike 3 s args wsX6_areLike RX6 := X
  have hl : lv_has ls 3 [(0, .ref (ad 0 0)), (1, .int (nI (w))), (2, .int (x))] := hl
  have hin4 : ∀ w ∈ wsX40, w ∈ wsX6_areLike := fun w h => List.mem_cons_of_mem _ (List.mem_append_left _ (List.mem_append_left _ (List.mem_append_right _ (h))))
  have hin6 : ∀ w ∈ wsX60, w ∈ wsX6_areLike := fun w h => List.mem_cons_of_mem _ (List.mem_append_left _ (List.mem_append_left _ (List.mem_append_left _ (List.mem_append_right _ (h)))))
  refine lv_aload_n X.1 X.2.1 dX6_areLike_0 rfl (lv_at hl 0 rfl) ?_
  refine lv_iload_n X.1 X.2.1 dX6_areLike_1 rfl (lv_at hl 1 rfl) ?_
  refine cVr X hW (HB.mem lv_0) (pC_6 (HB.kn lv_0 rfl)) rfl (cg_textWriterAt l HB (r := w) (by omega)) (cwV 1 X.2.2.2.2 gX6_areLike_X6_textWriterAt rfl rfl rfl (by decide +kernel) ⟨Nat.le_of_ble_eq_true rfl, Nat.le_of_ble_eq_true rfl⟩) rfl rfl hl.1 (Nat.le_of_ble_eq_true rfl) dX6_areLike_2 ⟨Nat.zero_le _, Nat.zero_le _⟩ (fun H locs hW => ?_)
  refine lv_aload_n X.1 X.2.1 dX6_areLike_5 rfl (lv_at hl 0 rfl) ?_
  refine lv_iload_n X.1 X.2.1 dX6_areLike_6 rfl (lv_at hl 2 rfl) ?_
  exact cXV Y X hW (HB.mem lv_0) (pC_6 (HB.kn lv_0 rfl)) rfl (cz_arrayWriterAt l hst HB h) (cwV 1 X.2.2.2.2 gX6_areLike_X6_arrayWriterAt rfl rfl rfl (by decide +kernel) ⟨Nat.le_of_ble_eq_true rfl, Nat.le_of_ble_eq_true rfl⟩) rfl rfl hl.1 (Nat.le_of_ble_eq_true rfl) dX6_areLike_7 ⟨Nat.le_of_ble_eq_true rfl, Nat.le_of_ble_eq_true rfl⟩
set_option maxHeartbeats 4000000 in
set_option maxRecDepth 100000 in
theorem cb_open_a (l : Launch) {G : va_G} {kT : Nat → ClassId} {L : List Nat} {K : Nat → Nat} {R : pR} {I : pI} {A : mD} {Q : pR} {N : Nat → Nat} (hst : l.stackTraces = false) {T : mT} {D : mD} {ad : pD} (HB : Rep T D ad L K R I A Q N) {x x1 x2 x3 : Int32} (h : oN x 3) : cMt l yX6_open wsX6_open ({ frames := 7, cells := 1, slots := 6, locals := 122 } : Room) G kT [.ref (ad 0 0), .int (x), .int (x1), .int (x2), .int (x3)] L K R I A Q N "java/lang/IndexOutOfBoundsException" := by
  refine cstt (cc := cX6_open) (maxL := 7) (ret := (some .int)) hst (by decide) rfl (Nat.le_of_ble_eq_true rfl) (fun p e s m args below meth c Z Y X hW ls hl => ?_)
  have X : CallFix p m c cX6_open 7 s args wsX6_open RX6 := X
  have hl : lv_has ls 7 [(0, .ref (ad 0 0)), (1, .int (x)), (2, .int (x1)), (3, .int (x2)), (4, .int (x3))] := hl
  have hin2 : ∀ w ∈ wsX20, w ∈ wsX6_open := fun w h => List.mem_cons_of_mem _ (List.mem_append_left _ (List.mem_append_left _ (List.mem_append_right _ (h))))
  have hin3 : ∀ w ∈ wsX30, w ∈ wsX6_open := fun w h => List.mem_cons_of_mem _ (List.mem_append_left _ (List.mem_append_left _ (List.mem_append_left _ (List.mem_append_left _ (List.mem_append_right _ (h))))))
  have hin6 : ∀ w ∈ wsX60, w ∈ wsX6_open := fun w h => List.mem_cons_of_mem _ (List.mem_append_left _ (List.mem_append_left _ (List.mem_append_left _ (List.mem_append_right _ (h)))))
  refine lv_aload_n X.1 X.2.1 dX6_open_0 rfl (lv_at hl 0 rfl) ?_
  refine lv_iload_n X.1 X.2.1 dX6_open_1 rfl (lv_at hl 1 rfl) ?_
  exact cXV Y X hW (HB.mem lv_0) (pC_6 (HB.kn lv_0 rfl)) rfl (cz_readerAt l hst HB h) (cwV 1 X.2.2.2.2 gX6_open_X6_readerAt rfl rfl rfl (by decide +kernel) ⟨Nat.le_of_ble_eq_true rfl, Nat.le_of_ble_eq_true rfl⟩) rfl rfl hl.1 (Nat.le_of_ble_eq_true rfl) dX6_open_2 ⟨Nat.le_of_ble_eq_true rfl, Nat.le_of_ble_eq_true rfl⟩
set_option maxHeartbeats 4000000 in
set_option maxRecDepth 100000 in
theorem cb_open_b (l : Launch) {G : va_G} {kT : Nat → ClassId} {L : List Nat} {K : Nat → Nat} {R : pR} {I : pI} {A : mD} {Q : pR} {N : Nat → Nat} (hst : l.stackTraces = false) {T : mT} {D : mD} {ad : pD} (HB : Rep T D ad L K R I A Q N) {i : Nat} {x x1 x2 : Int32} (hi : i < 3) (h : oN x 4) : cMt l yX6_open wsX6_open ({ frames := 7, cells := 1, slots := 6, locals := 122 } : Room) G kT [.ref (ad 0 0), .int (nI (i)), .int (x), .int (x1), .int (x2)] L K R I A Q N "java/lang/IndexOutOfBoundsException" := by
  refine cstt (cc := cX6_open) (maxL := 7) (ret := (some .int)) hst (by decide) rfl (Nat.le_of_ble_eq_true rfl) (fun p e s m args below meth c Z Y X hW ls hl => ?_)
  have X : CallFix p m c cX6_open 7 s args wsX6_open RX6 := X
  have hl : lv_has ls 7 [(0, .ref (ad 0 0)), (1, .int (nI (i))), (2, .int (x)), (3, .int (x1)), (4, .int (x2))] := hl
  have hin2 : ∀ w ∈ wsX20, w ∈ wsX6_open := fun w h => List.mem_cons_of_mem _ (List.mem_append_left _ (List.mem_append_left _ (List.mem_append_right _ (h))))
  have hin3 : ∀ w ∈ wsX30, w ∈ wsX6_open := fun w h => List.mem_cons_of_mem _ (List.mem_append_left _ (List.mem_append_left _ (List.mem_append_left _ (List.mem_append_left _ (List.mem_append_right _ (h))))))
  have hin6 : ∀ w ∈ wsX60, w ∈ wsX6_open := fun w h => List.mem_cons_of_mem _ (List.mem_append_left _ (List.mem_append_left _ (List.mem_append_left _ (List.mem_append_right _ (h)))))
  refine lv_aload_n X.1 X.2.1 dX6_open_0 rfl (lv_at hl 0 rfl) ?_
  refine lv_iload_n X.1 X.2.1 dX6_open_1 rfl (lv_at hl 1 rfl) ?_
  refine cVr X hW (HB.mem lv_0) (pC_6 (HB.kn lv_0 rfl)) rfl (cg_readerAt l HB (r := i) (by omega)) (cwV 1 X.2.2.2.2 gX6_open_X6_readerAt rfl rfl rfl (by decide +kernel) ⟨Nat.le_of_ble_eq_true rfl, Nat.le_of_ble_eq_true rfl⟩) rfl rfl hl.1 (Nat.le_of_ble_eq_true rfl) dX6_open_2 ⟨Nat.zero_le _, Nat.zero_le _⟩ (fun H locs hW => ?_)
  refine lv_astore (lv' := [(5, .ref (ad 9 i)), (0, .ref (ad 0 0)), (1, .int (nI (i))), (2, .int (x)), (3, .int (x1)), (4, .int (x2))]) X.1 X.2.1 dX6_open_5 hl (by decide) rfl (fun ls hl => ?_)
  refine lv_aload_n X.1 X.2.1 dX6_open_7 rfl (lv_at hl 1 rfl) ?_
  refine lv_iload_n X.1 X.2.1 dX6_open_8 rfl (lv_at hl 3 rfl) ?_
  exact cXV Y X hW (HB.mem lv_0) (pC_6 (HB.kn lv_0 rfl)) rfl (cz_signRowAt l hst HB h) (cwV 1 X.2.2.2.2 gX6_open_X6_signRowAt rfl rfl rfl (by decide +kernel) ⟨Nat.le_of_ble_eq_true rfl, Nat.le_of_ble_eq_true rfl⟩) rfl rfl hl.1 (Nat.le_of_ble_eq_true rfl) dX6_open_9 ⟨Nat.le_of_ble_eq_true rfl, Nat.le_of_ble_eq_true rfl⟩
set_option maxHeartbeats 4000000 in
set_option maxRecDepth 100000 in
theorem cb_open_c (l : Launch) {G : va_G} {kT : Nat → ClassId} {L : List Nat} {K : Nat → Nat} {R : pR} {I : pI} {A : mD} {Q : pR} {N : Nat → Nat} (hst : l.stackTraces = false) {T : mT} {D : mD} {ad : pD} (HB : Rep T D ad L K R I A Q N) {i r : Nat} {x x1 : Int32} (hi : i < 3) (hr : r < 4) (h : oP (T 1 (T 2 r)) x (nI 0)) : cMt l yX6_open wsX6_open ({ frames := 7, cells := 1, slots := 6, locals := 122 } : Room) G kT [.ref (ad 0 0), .int (nI (i)), .int (nI (r)), .int (x), .int (x1)] L K R I A Q N "java/lang/IndexOutOfBoundsException" := by
  refine cstt (cc := cX6_open) (maxL := 7) (ret := (some .int)) hst (by decide) rfl (Nat.le_of_ble_eq_true rfl) (fun p e s m args below meth c Z Y X hW ls hl => ?_)
  have X : CallFix p m c cX6_open 7 s args wsX6_open RX6 := X
  have hl : lv_has ls 7 [(0, .ref (ad 0 0)), (1, .int (nI (i))), (2, .int (nI (r))), (3, .int (x)), (4, .int (x1))] := hl
  have hin2 : ∀ w ∈ wsX20, w ∈ wsX6_open := fun w h => List.mem_cons_of_mem _ (List.mem_append_left _ (List.mem_append_left _ (List.mem_append_right _ (h))))
  have hin3 : ∀ w ∈ wsX30, w ∈ wsX6_open := fun w h => List.mem_cons_of_mem _ (List.mem_append_left _ (List.mem_append_left _ (List.mem_append_left _ (List.mem_append_left _ (List.mem_append_right _ (h))))))
  have hin6 : ∀ w ∈ wsX60, w ∈ wsX6_open := fun w h => List.mem_cons_of_mem _ (List.mem_append_left _ (List.mem_append_left _ (List.mem_append_left _ (List.mem_append_right _ (h)))))
  have hu := uS_row (T := T) hr
  have hsr := HB.sr hu
  have hl9 := hsr.2.2.2.2.2.2
  refine lv_aload_n X.1 X.2.1 dX6_open_0 rfl (lv_at hl 0 rfl) ?_
  refine lv_iload_n X.1 X.2.1 dX6_open_1 rfl (lv_at hl 1 rfl) ?_
  refine cVr X hW (HB.mem lv_0) (pC_6 (HB.kn lv_0 rfl)) rfl (cg_readerAt l HB (r := i) (by omega)) (cwV 1 X.2.2.2.2 gX6_open_X6_readerAt rfl rfl rfl (by decide +kernel) ⟨Nat.le_of_ble_eq_true rfl, Nat.le_of_ble_eq_true rfl⟩) rfl rfl hl.1 (Nat.le_of_ble_eq_true rfl) dX6_open_2 ⟨Nat.zero_le _, Nat.zero_le _⟩ (fun H locs hW => ?_)
  refine lv_astore (lv' := [(5, .ref (ad 9 i)), (0, .ref (ad 0 0)), (1, .int (nI (i))), (2, .int (nI (r))), (3, .int (x)), (4, .int (x1))]) X.1 X.2.1 dX6_open_5 hl (by decide) rfl (fun ls hl => ?_)
  refine lv_aload_n X.1 X.2.1 dX6_open_7 rfl (lv_at hl 1 rfl) ?_
  refine lv_iload_n X.1 X.2.1 dX6_open_8 rfl (lv_at hl 3 rfl) ?_
  refine cVr X hW (HB.mem lv_0) (pC_6 (HB.kn lv_0 rfl)) rfl (cg_signRowAt l HB (r := r) (by omega)) (cwV 1 X.2.2.2.2 gX6_open_X6_signRowAt rfl rfl rfl (by decide +kernel) ⟨Nat.le_of_ble_eq_true rfl, Nat.le_of_ble_eq_true rfl⟩) rfl rfl hl.1 (Nat.le_of_ble_eq_true rfl) dX6_open_9 ⟨Nat.zero_le _, Nat.zero_le _⟩ (fun H locs hW => ?_)
  refine lv_astore (lv' := [(6, .ref (ad 3 (T 2 r))), (5, .ref (ad 9 i)), (0, .ref (ad 0 0)), (1, .int (nI (i))), (2, .int (nI (r))), (3, .int (x)), (4, .int (x1))]) X.1 X.2.1 dX6_open_12 hl (by decide) rfl (fun ls hl => ?_)
  refine lv_iload_n X.1 X.2.1 dX6_open_14 rfl (lv_at hl 5 rfl) ?_
  refine lv_iconst (v := nI 0) X.1 X.2.1 dX6_open_15 (by decide) ?_
  refine lv_aload X.1 X.2.1 dX6_open_16 (lv_at hl 0 rfl) ?_
  refine cg_3_signs X hin3 hW (hsr.1) (hsr.2.1) (hsr.2.2.1) (X.2.2.2.2 (.fieldLink RX6 60 "Strandbook$SignRow" "signs" "[C") (List.mem_cons_of_mem _ (List.mem_append_left _ (List.mem_append_left _ (List.mem_append_left _ (List.mem_append_left _ (List.mem_append_left _ (List.mem_append_left _ (List.mem_of_getElem? (i := 0) rfl))))))))) dX6_open_18 ?_
  refine cln_8 X hW (hsr.2.2.2.1) (hsr.2.2.2.2.1) (hsr.2.2.2.2.2.1) dX6_open_21 ?_
  exact cXS Y X hW (cz_requirePlaces l hst (by omega) h) (va_cwS 3 X.2.2.2.2 gX6_open_X6_requirePlaces rfl rfl rfl (by decide +kernel) ⟨Nat.le_of_ble_eq_true rfl, Nat.le_of_ble_eq_true rfl⟩) rfl rfl hl.1 (Nat.le_of_ble_eq_true rfl) dX6_open_22 ⟨Nat.le_of_ble_eq_true rfl, Nat.le_of_ble_eq_true rfl⟩
theorem lg_neg {x : Int32} (h : x < 0) : x.toInt64 < 0 := by
  rw [Int64.lt_iff_toInt_lt, Int32.toInt_toInt64]
  rw [Int32.lt_iff_toInt_lt] at h
  exact h
set_option maxHeartbeats 4000000 in
set_option maxRecDepth 100000 in
theorem cb_open_d (l : Launch) {G : va_G} {kT : Nat → ClassId} {L : List Nat} {K : Nat → Nat} {R : pR} {I : pI} {A : mD} {Q : pR} {N : Nat → Nat} (hst : l.stackTraces = false) {T : mT} {D : mD} {ad : pD} (HB : Rep T D ad L K R I A Q N) {i r f : Nat} {x : Int32} (hi : i < 3) (hr : r < 4) (hf : f ≤ T 1 (T 2 r)) (h : oN x 1001) : cMt l yX6_open wsX6_open ({ frames := 7, cells := 1, slots := 6, locals := 122 } : Room) G kT [.ref (ad 0 0), .int (nI (i)), .int (nI (r)), .int (nI (f)), .int (x)] L K R I A Q N "java/lang/IllegalArgumentException" := by
  by_cases h0 : x < 0
  · skip
    refine cstt (cc := cX6_open) (maxL := 7) (ret := (some .int)) hst (by decide) rfl (Nat.le_of_ble_eq_true rfl) (fun p e s m args below meth c Z Y X hW ls hl => ?_)
    have X : CallFix p m c cX6_open 7 s args wsX6_open RX6 := X
    have hl : lv_has ls 7 [(0, .ref (ad 0 0)), (1, .int (nI (i))), (2, .int (nI (r))), (3, .int (nI (f))), (4, .int (x))] := hl
    have hin2 : ∀ w ∈ wsX20, w ∈ wsX6_open := fun w h => List.mem_cons_of_mem _ (List.mem_append_left _ (List.mem_append_left _ (List.mem_append_right _ (h))))
    have hin3 : ∀ w ∈ wsX30, w ∈ wsX6_open := fun w h => List.mem_cons_of_mem _ (List.mem_append_left _ (List.mem_append_left _ (List.mem_append_left _ (List.mem_append_left _ (List.mem_append_right _ (h))))))
    have hin6 : ∀ w ∈ wsX60, w ∈ wsX6_open := fun w h => List.mem_cons_of_mem _ (List.mem_append_left _ (List.mem_append_left _ (List.mem_append_left _ (List.mem_append_right _ (h)))))
    have hu := uS_row (T := T) hr
    have hsr := HB.sr hu
    have hl9 := hsr.2.2.2.2.2.2
    refine lv_aload_n X.1 X.2.1 dX6_open_0 rfl (lv_at hl 0 rfl) ?_
    refine lv_iload_n X.1 X.2.1 dX6_open_1 rfl (lv_at hl 1 rfl) ?_
    refine cVr X hW (HB.mem lv_0) (pC_6 (HB.kn lv_0 rfl)) rfl (cg_readerAt l HB (r := i) (by omega)) (cwV 1 X.2.2.2.2 gX6_open_X6_readerAt rfl rfl rfl (by decide +kernel) ⟨Nat.le_of_ble_eq_true rfl, Nat.le_of_ble_eq_true rfl⟩) rfl rfl hl.1 (Nat.le_of_ble_eq_true rfl) dX6_open_2 ⟨Nat.zero_le _, Nat.zero_le _⟩ (fun H locs hW => ?_)
    refine lv_astore (lv' := [(5, .ref (ad 9 i)), (0, .ref (ad 0 0)), (1, .int (nI (i))), (2, .int (nI (r))), (3, .int (nI (f))), (4, .int (x))]) X.1 X.2.1 dX6_open_5 hl (by decide) rfl (fun ls hl => ?_)
    refine lv_aload_n X.1 X.2.1 dX6_open_7 rfl (lv_at hl 1 rfl) ?_
    refine lv_iload_n X.1 X.2.1 dX6_open_8 rfl (lv_at hl 3 rfl) ?_
    refine cVr X hW (HB.mem lv_0) (pC_6 (HB.kn lv_0 rfl)) rfl (cg_signRowAt l HB (r := r) (by omega)) (cwV 1 X.2.2.2.2 gX6_open_X6_signRowAt rfl rfl rfl (by decide +kernel) ⟨Nat.le_of_ble_eq_true rfl, Nat.le_of_ble_eq_true rfl⟩) rfl rfl hl.1 (Nat.le_of_ble_eq_true rfl) dX6_open_9 ⟨Nat.zero_le _, Nat.zero_le _⟩ (fun H locs hW => ?_)
    refine lv_astore (lv' := [(6, .ref (ad 3 (T 2 r))), (5, .ref (ad 9 i)), (0, .ref (ad 0 0)), (1, .int (nI (i))), (2, .int (nI (r))), (3, .int (nI (f))), (4, .int (x))]) X.1 X.2.1 dX6_open_12 hl (by decide) rfl (fun ls hl => ?_)
    refine lv_iload_n X.1 X.2.1 dX6_open_14 rfl (lv_at hl 5 rfl) ?_
    refine lv_iconst (v := nI 0) X.1 X.2.1 dX6_open_15 (by decide) ?_
    refine lv_aload X.1 X.2.1 dX6_open_16 (lv_at hl 0 rfl) ?_
    refine cg_3_signs X hin3 hW (hsr.1) (hsr.2.1) (hsr.2.2.1) (X.2.2.2.2 (.fieldLink RX6 60 "Strandbook$SignRow" "signs" "[C") (List.mem_cons_of_mem _ (List.mem_append_left _ (List.mem_append_left _ (List.mem_append_left _ (List.mem_append_left _ (List.mem_append_left _ (List.mem_append_left _ (List.mem_of_getElem? (i := 0) rfl))))))))) dX6_open_18 ?_
    refine cln_8 X hW (hsr.2.2.2.1) (hsr.2.2.2.2.1) (hsr.2.2.2.2.2.1) dX6_open_21 ?_
    refine cSv X hW (cg_requirePlaces l (f := f) (j := 0) (n := T 1 (T 2 r)) (by omega) (by omega)) (va_cwS 3 X.2.2.2.2 gX6_open_X6_requirePlaces rfl rfl rfl (by decide +kernel) ⟨Nat.le_of_ble_eq_true rfl, Nat.le_of_ble_eq_true rfl⟩) rfl rfl hl.1 (Nat.le_of_ble_eq_true rfl) dX6_open_22 ⟨Nat.zero_le _, Nat.zero_le _⟩ (fun H locs hW => ?_)
    refine lv_iload X.1 X.2.1 dX6_open_25 (lv_at hl 6 rfl) ?_
    refine lv_i2l (v := x.toInt64) X.1 X.2.1 dX6_open_27 rfl ?_
    exact cXS Y X hW (cz_requireWanted l hst (Or.inl (lg_neg h0))) (va_cwS 1 X.2.2.2.2 gX6_open_X6_requireWanted rfl rfl rfl (by decide +kernel) ⟨Nat.le_of_ble_eq_true rfl, Nat.le_of_ble_eq_true rfl⟩) rfl rfl hl.1 (Nat.le_of_ble_eq_true rfl) dX6_open_28 ⟨Nat.le_of_ble_eq_true rfl, Nat.le_of_ble_eq_true rfl⟩
  · obtain ⟨j, hj, hn, rfl⟩ := oN_ge h h0
    refine cstt (cc := cX6_open) (maxL := 7) (ret := (some .int)) hst (by decide) rfl (Nat.le_of_ble_eq_true rfl) (fun p e s m args below meth c Z Y X hW ls hl => ?_)
    have X : CallFix p m c cX6_open 7 s args wsX6_open RX6 := X
    have hl : lv_has ls 7 [(0, .ref (ad 0 0)), (1, .int (nI (i))), (2, .int (nI (r))), (3, .int (nI (f))), (4, .int (nI (j)))] := hl
    have hin2 : ∀ w ∈ wsX20, w ∈ wsX6_open := fun w h => List.mem_cons_of_mem _ (List.mem_append_left _ (List.mem_append_left _ (List.mem_append_right _ (h))))
    have hin3 : ∀ w ∈ wsX30, w ∈ wsX6_open := fun w h => List.mem_cons_of_mem _ (List.mem_append_left _ (List.mem_append_left _ (List.mem_append_left _ (List.mem_append_left _ (List.mem_append_right _ (h))))))
    have hin6 : ∀ w ∈ wsX60, w ∈ wsX6_open := fun w h => List.mem_cons_of_mem _ (List.mem_append_left _ (List.mem_append_left _ (List.mem_append_left _ (List.mem_append_right _ (h)))))
    have hu := uS_row (T := T) hr
    have hsr := HB.sr hu
    have hl9 := hsr.2.2.2.2.2.2
    refine lv_aload_n X.1 X.2.1 dX6_open_0 rfl (lv_at hl 0 rfl) ?_
    refine lv_iload_n X.1 X.2.1 dX6_open_1 rfl (lv_at hl 1 rfl) ?_
    refine cVr X hW (HB.mem lv_0) (pC_6 (HB.kn lv_0 rfl)) rfl (cg_readerAt l HB (r := i) (by omega)) (cwV 1 X.2.2.2.2 gX6_open_X6_readerAt rfl rfl rfl (by decide +kernel) ⟨Nat.le_of_ble_eq_true rfl, Nat.le_of_ble_eq_true rfl⟩) rfl rfl hl.1 (Nat.le_of_ble_eq_true rfl) dX6_open_2 ⟨Nat.zero_le _, Nat.zero_le _⟩ (fun H locs hW => ?_)
    refine lv_astore (lv' := [(5, .ref (ad 9 i)), (0, .ref (ad 0 0)), (1, .int (nI (i))), (2, .int (nI (r))), (3, .int (nI (f))), (4, .int (nI (j)))]) X.1 X.2.1 dX6_open_5 hl (by decide) rfl (fun ls hl => ?_)
    refine lv_aload_n X.1 X.2.1 dX6_open_7 rfl (lv_at hl 1 rfl) ?_
    refine lv_iload_n X.1 X.2.1 dX6_open_8 rfl (lv_at hl 3 rfl) ?_
    refine cVr X hW (HB.mem lv_0) (pC_6 (HB.kn lv_0 rfl)) rfl (cg_signRowAt l HB (r := r) (by omega)) (cwV 1 X.2.2.2.2 gX6_open_X6_signRowAt rfl rfl rfl (by decide +kernel) ⟨Nat.le_of_ble_eq_true rfl, Nat.le_of_ble_eq_true rfl⟩) rfl rfl hl.1 (Nat.le_of_ble_eq_true rfl) dX6_open_9 ⟨Nat.zero_le _, Nat.zero_le _⟩ (fun H locs hW => ?_)
    refine lv_astore (lv' := [(6, .ref (ad 3 (T 2 r))), (5, .ref (ad 9 i)), (0, .ref (ad 0 0)), (1, .int (nI (i))), (2, .int (nI (r))), (3, .int (nI (f))), (4, .int (nI (j)))]) X.1 X.2.1 dX6_open_12 hl (by decide) rfl (fun ls hl => ?_)
    refine lv_iload_n X.1 X.2.1 dX6_open_14 rfl (lv_at hl 5 rfl) ?_
    refine lv_iconst (v := nI 0) X.1 X.2.1 dX6_open_15 (by decide) ?_
    refine lv_aload X.1 X.2.1 dX6_open_16 (lv_at hl 0 rfl) ?_
    refine cg_3_signs X hin3 hW (hsr.1) (hsr.2.1) (hsr.2.2.1) (X.2.2.2.2 (.fieldLink RX6 60 "Strandbook$SignRow" "signs" "[C") (List.mem_cons_of_mem _ (List.mem_append_left _ (List.mem_append_left _ (List.mem_append_left _ (List.mem_append_left _ (List.mem_append_left _ (List.mem_append_left _ (List.mem_of_getElem? (i := 0) rfl))))))))) dX6_open_18 ?_
    refine cln_8 X hW (hsr.2.2.2.1) (hsr.2.2.2.2.1) (hsr.2.2.2.2.2.1) dX6_open_21 ?_
    refine cSv X hW (cg_requirePlaces l (f := f) (j := 0) (n := T 1 (T 2 r)) (by omega) (by omega)) (va_cwS 3 X.2.2.2.2 gX6_open_X6_requirePlaces rfl rfl rfl (by decide +kernel) ⟨Nat.le_of_ble_eq_true rfl, Nat.le_of_ble_eq_true rfl⟩) rfl rfl hl.1 (Nat.le_of_ble_eq_true rfl) dX6_open_22 ⟨Nat.zero_le _, Nat.zero_le _⟩ (fun H locs hW => ?_)
    refine lv_iload X.1 X.2.1 dX6_open_25 (lv_at hl 6 rfl) ?_
    refine lv_i2l (v := lN (j)) X.1 X.2.1 dX6_open_27 (nI_l (by omega)) ?_
    exact cXS Y X hW (cz_requireWanted l hst (Or.inr ((pk_lLT (a := 1000) (by decide) (by omega)).mpr (by omega)))) (va_cwS 1 X.2.2.2.2 gX6_open_X6_requireWanted rfl rfl rfl (by decide +kernel) ⟨Nat.le_of_ble_eq_true rfl, Nat.le_of_ble_eq_true rfl⟩) rfl rfl hl.1 (Nat.le_of_ble_eq_true rfl) dX6_open_28 ⟨Nat.le_of_ble_eq_true rfl, Nat.le_of_ble_eq_true rfl⟩
set_option maxHeartbeats 4000000 in
set_option maxRecDepth 100000 in
theorem cb_shut_a (l : Launch) {G : va_G} {kT : Nat → ClassId} {L : List Nat} {K : Nat → Nat} {R : pR} {I : pI} {A : mD} {Q : pR} {N : Nat → Nat} (hst : l.stackTraces = false) {T : mT} {D : mD} {ad : pD} (HB : Rep T D ad L K R I A Q N) {x : Int32} (h : oN x 3) : cMt l yX6_shut wsX6_shut ({ frames := 7, cells := 1, slots := 6, locals := 121 } : Room) G kT [.ref (ad 0 0), .int (x)] L K R I A Q N "java/lang/IndexOutOfBoundsException" := by
  refine cstt (cc := cX6_shut) (maxL := 4) (ret := (some .int)) hst (by decide) rfl (Nat.le_of_ble_eq_true rfl) (fun p e s m args below meth c Z Y X hW ls hl => ?_)
  have X : CallFix p m c cX6_shut 4 s args wsX6_shut RX6 := X
  have hl : lv_has ls 4 [(0, .ref (ad 0 0)), (1, .int (x))] := hl
  have hin2 : ∀ w ∈ wsX20, w ∈ wsX6_shut := fun w h => List.mem_cons_of_mem _ (List.mem_append_left _ (List.mem_append_left _ (List.mem_append_left _ (List.mem_append_right _ (h)))))
  have hin6 : ∀ w ∈ wsX60, w ∈ wsX6_shut := fun w h => List.mem_cons_of_mem _ (List.mem_append_left _ (List.mem_append_left _ (List.mem_append_right _ (h))))
  refine lv_aload_n X.1 X.2.1 dX6_shut_0 rfl (lv_at hl 0 rfl) ?_
  refine lv_iload_n X.1 X.2.1 dX6_shut_1 rfl (lv_at hl 1 rfl) ?_
  exact cXV Y X hW (HB.mem lv_0) (pC_6 (HB.kn lv_0 rfl)) rfl (cz_readerAt l hst HB h) (cwV 1 X.2.2.2.2 gX6_shut_X6_readerAt rfl rfl rfl (by decide +kernel) ⟨Nat.le_of_ble_eq_true rfl, Nat.le_of_ble_eq_true rfl⟩) rfl rfl hl.1 (Nat.le_of_ble_eq_true rfl) dX6_shut_2 ⟨Nat.le_of_ble_eq_true rfl, Nat.le_of_ble_eq_true rfl⟩
set_option maxHeartbeats 4000000 in
set_option maxRecDepth 100000 in
theorem cb_shut_b (l : Launch) {G : va_G} {kT : Nat → ClassId} {L : List Nat} {K : Nat → Nat} {R : pR} {I : pI} {A : mD} {Q : pR} {N : Nat → Nat} (hst : l.stackTraces = false) {T : mT} {D : mD} {ad : pD} (HB : Rep T D ad L K R I A Q N) {i : Nat} (hi : i < 3) (h8 : T 8 i = 0) : cMt l yX6_shut wsX6_shut ({ frames := 7, cells := 1, slots := 6, locals := 121 } : Room) G kT [.ref (ad 0 0), .int (nI (i))] L K R I A Q N "java/lang/UnsupportedOperationException" := by
  refine cstt (cc := cX6_shut) (maxL := 4) (ret := (some .int)) hst (by decide) rfl (Nat.le_of_ble_eq_true rfl) (fun p e s m args below meth c Z Y X hW ls hl => ?_)
  have X : CallFix p m c cX6_shut 4 s args wsX6_shut RX6 := X
  have hl : lv_has ls 4 [(0, .ref (ad 0 0)), (1, .int (nI (i)))] := hl
  have hin2 : ∀ w ∈ wsX20, w ∈ wsX6_shut := fun w h => List.mem_cons_of_mem _ (List.mem_append_left _ (List.mem_append_left _ (List.mem_append_left _ (List.mem_append_right _ (h)))))
  have hin6 : ∀ w ∈ wsX60, w ∈ wsX6_shut := fun w h => List.mem_cons_of_mem _ (List.mem_append_left _ (List.mem_append_left _ (List.mem_append_right _ (h))))
  refine lv_aload_n X.1 X.2.1 dX6_shut_0 rfl (lv_at hl 0 rfl) ?_
  refine lv_iload_n X.1 X.2.1 dX6_shut_1 rfl (lv_at hl 1 rfl) ?_
  refine cVr X hW (HB.mem lv_0) (pC_6 (HB.kn lv_0 rfl)) rfl (cg_readerAt l HB (r := i) (by omega)) (cwV 1 X.2.2.2.2 gX6_shut_X6_readerAt rfl rfl rfl (by decide +kernel) ⟨Nat.le_of_ble_eq_true rfl, Nat.le_of_ble_eq_true rfl⟩) rfl rfl hl.1 (Nat.le_of_ble_eq_true rfl) dX6_shut_2 ⟨Nat.zero_le _, Nat.zero_le _⟩ (fun H locs hW => ?_)
  refine lv_astore_n (lv' := [(2, .ref (ad 9 i)), (0, .ref (ad 0 0)), (1, .int (nI (i)))]) X.1 X.2.1 dX6_shut_5 rfl hl (by decide) rfl (fun ls hl => ?_)
  refine lv_aload_n X.1 X.2.1 dX6_shut_6 rfl (lv_at hl 0 rfl) ?_
  refine cg_2_isThere X hin2 hW (HB.mem (lv_9 (by omega))) (HB.kn (lv_9 (by omega)) rfl) (((HB.rr i hi).1 h8)) (X.2.2.2.2 (.fieldLink RX6 143 "Strandbook$SignReader" "isThere" "Z") (List.mem_cons_of_mem _ (List.mem_append_left _ (List.mem_append_left _ (List.mem_append_left _ (List.mem_append_left _ (List.mem_of_getElem? (i := 2) rfl))))))) dX6_shut_7 ?_
  refine n_if_ne_f (tgt := 23) X.1 X.2.1 dX6_shut_10 (by decide) (by decide) (by omega) ?_
  exact cTH Y X hW (text := "the reader is not there") (ik := 147) (is := 149) (ic := 151) (by decide +kernel) (List.mem_cons_of_mem _ (List.mem_append_left _ (List.mem_append_left _ (List.mem_append_left _ (List.mem_append_left _ (List.mem_of_getElem? (i := 0) rfl)))))) (List.mem_cons_of_mem _ (List.mem_append_left _ (List.mem_append_left _ (List.mem_append_left _ (List.mem_append_left _ (List.mem_of_getElem? (i := 1) rfl)))))) (by decide +kernel) (fun w h => List.mem_cons_of_mem _ (List.mem_append_left _ (List.mem_append_right _ (h)))) (by decide +kernel) (by decide +kernel) hl.1 dX6_shut_13 dX6_shut_16 dX6_shut_17 dX6_shut_19 dX6_shut_22 (Nat.le_of_ble_eq_true rfl) (Nat.le_of_ble_eq_true rfl) (Nat.le_of_ble_eq_true rfl) (Nat.le_of_ble_eq_true rfl)
set_option maxHeartbeats 4000000 in
set_option maxRecDepth 100000 in
theorem cb_read_a (l : Launch) {G : va_G} {kT : Nat → ClassId} {L : List Nat} {K : Nat → Nat} {R : pR} {I : pI} {A : mD} {Q : pR} {N : Nat → Nat} (hst : l.stackTraces = false) {T : mT} {D : mD} {ad : pD} (HB : Rep T D ad L K R I A Q N) {x : Int32} (h : oN x 3) : cMt l yX6_read wsX6_read ({ frames := 8, cells := 1, slots := 6, locals := 143 } : Room) G kT [.ref (ad 0 0), .int (x)] L K R I A Q N "java/lang/IndexOutOfBoundsException" := by
  refine cstt (cc := cX6_read) (maxL := 2) (ret := (some .int)) hst (by decide) rfl (Nat.le_of_ble_eq_true rfl) (fun p e s m args below meth c Z Y X hW ls hl => ?_)
  have X : CallFix p m c cX6_read 2 s args wsX6_read RX6 := X
  have hl : lv_has ls 2 [(0, .ref (ad 0 0)), (1, .int (x))] := hl
  have hin2 : ∀ w ∈ wsX20, w ∈ wsX6_read := fun w h => List.mem_cons_of_mem _ (List.mem_append_left _ (List.mem_append_left _ (List.mem_append_left _ (List.mem_append_left _ (List.mem_append_left _ (List.mem_append_right _ (h)))))))
  have hin3 : ∀ w ∈ wsX30, w ∈ wsX6_read := fun w h => List.mem_cons_of_mem _ (List.mem_append_left _ (List.mem_append_left _ (List.mem_append_left _ (List.mem_append_right _ (h)))))
  have hin6 : ∀ w ∈ wsX60, w ∈ wsX6_read := fun w h => List.mem_cons_of_mem _ (List.mem_append_left _ (List.mem_append_left _ (List.mem_append_left _ (List.mem_append_left _ (List.mem_append_right _ (h))))))
  refine lv_aload_n X.1 X.2.1 dX6_read_0 rfl (lv_at hl 0 rfl) ?_
  refine lv_iload_n X.1 X.2.1 dX6_read_1 rfl (lv_at hl 1 rfl) ?_
  exact cXV Y X hW (HB.mem lv_0) (pC_6 (HB.kn lv_0 rfl)) rfl (cz_openReaderAt1 l hst HB h) (cwV 1 X.2.2.2.2 gX6_read_X6_openReaderAt rfl rfl rfl (by decide +kernel) ⟨Nat.le_of_ble_eq_true rfl, Nat.le_of_ble_eq_true rfl⟩) rfl rfl hl.1 (Nat.le_of_ble_eq_true rfl) dX6_read_2 ⟨Nat.le_of_ble_eq_true rfl, Nat.le_of_ble_eq_true rfl⟩
set_option maxHeartbeats 4000000 in
set_option maxRecDepth 100000 in
theorem cb_read_b (l : Launch) {G : va_G} {kT : Nat → ClassId} {L : List Nat} {K : Nat → Nat} {R : pR} {I : pI} {A : mD} {Q : pR} {N : Nat → Nat} (hst : l.stackTraces = false) {T : mT} {D : mD} {ad : pD} (HB : Rep T D ad L K R I A Q N) {i : Nat} (hi : i < 3) (h : clo T i) : cMt l yX6_read wsX6_read ({ frames := 8, cells := 1, slots := 6, locals := 143 } : Room) G kT [.ref (ad 0 0), .int (nI (i))] L K R I A Q N "java/lang/UnsupportedOperationException" := by
  refine cstt (cc := cX6_read) (maxL := 2) (ret := (some .int)) hst (by decide) rfl (Nat.le_of_ble_eq_true rfl) (fun p e s m args below meth c Z Y X hW ls hl => ?_)
  have X : CallFix p m c cX6_read 2 s args wsX6_read RX6 := X
  have hl : lv_has ls 2 [(0, .ref (ad 0 0)), (1, .int (nI (i)))] := hl
  have hin2 : ∀ w ∈ wsX20, w ∈ wsX6_read := fun w h => List.mem_cons_of_mem _ (List.mem_append_left _ (List.mem_append_left _ (List.mem_append_left _ (List.mem_append_left _ (List.mem_append_left _ (List.mem_append_right _ (h)))))))
  have hin3 : ∀ w ∈ wsX30, w ∈ wsX6_read := fun w h => List.mem_cons_of_mem _ (List.mem_append_left _ (List.mem_append_left _ (List.mem_append_left _ (List.mem_append_right _ (h)))))
  have hin6 : ∀ w ∈ wsX60, w ∈ wsX6_read := fun w h => List.mem_cons_of_mem _ (List.mem_append_left _ (List.mem_append_left _ (List.mem_append_left _ (List.mem_append_left _ (List.mem_append_right _ (h))))))
  refine lv_aload_n X.1 X.2.1 dX6_read_0 rfl (lv_at hl 0 rfl) ?_
  refine lv_iload_n X.1 X.2.1 dX6_read_1 rfl (lv_at hl 1 rfl) ?_
  exact cXV Y X hW (HB.mem lv_0) (pC_6 (HB.kn lv_0 rfl)) rfl (cz_openReaderAt l hst HB hi h) (cwV 1 X.2.2.2.2 gX6_read_X6_openReaderAt rfl rfl rfl (by decide +kernel) ⟨Nat.le_of_ble_eq_true rfl, Nat.le_of_ble_eq_true rfl⟩) rfl rfl hl.1 (Nat.le_of_ble_eq_true rfl) dX6_read_2 ⟨Nat.le_of_ble_eq_true rfl, Nat.le_of_ble_eq_true rfl⟩
set_option maxHeartbeats 4000000 in
set_option maxRecDepth 100000 in
theorem cb_skip_a (l : Launch) {G : va_G} {kT : Nat → ClassId} {L : List Nat} {K : Nat → Nat} {R : pR} {I : pI} {A : mD} {Q : pR} {N : Nat → Nat} (hst : l.stackTraces = false) {T : mT} {D : mD} {ad : pD} (HB : Rep T D ad L K R I A Q N) {lm : Int64} {x : Int32} (h : oN x 3) : cMt l yX6_skip wsX6_skip ({ frames := 8, cells := 1, slots := 6, locals := 143 } : Room) G kT [.ref (ad 0 0), .int (x), .long (lm)] L K R I A Q N "java/lang/IndexOutOfBoundsException" := by
  refine cstt (cc := cX6_skip) (maxL := 4) (ret := (some .long)) hst (by decide) rfl (Nat.le_of_ble_eq_true rfl) (fun p e s m args below meth c Z Y X hW ls hl => ?_)
  have X : CallFix p m c cX6_skip 4 s args wsX6_skip RX6 := X
  have hl : lv_has ls 4 [(0, .ref (ad 0 0)), (1, .int (x)), (2, .long (lm))] := hl
  have hin2 : ∀ w ∈ wsX20, w ∈ wsX6_skip := fun w h => List.mem_cons_of_mem _ (List.mem_append_left _ (List.mem_append_left _ (List.mem_append_left _ (List.mem_append_right _ (h)))))
  have hin6 : ∀ w ∈ wsX60, w ∈ wsX6_skip := fun w h => List.mem_cons_of_mem _ (List.mem_append_left _ (List.mem_append_left _ (List.mem_append_right _ (h))))
  refine lv_aload_n X.1 X.2.1 dX6_skip_0 rfl (lv_at hl 0 rfl) ?_
  refine lv_iload_n X.1 X.2.1 dX6_skip_1 rfl (lv_at hl 1 rfl) ?_
  exact cXV Y X hW (HB.mem lv_0) (pC_6 (HB.kn lv_0 rfl)) rfl (cz_openReaderAt1 l hst HB h) (cwV 1 X.2.2.2.2 gX6_skip_X6_openReaderAt rfl rfl rfl (by decide +kernel) ⟨Nat.le_of_ble_eq_true rfl, Nat.le_of_ble_eq_true rfl⟩) rfl rfl hl.1 (Nat.le_of_ble_eq_true rfl) dX6_skip_2 ⟨Nat.le_of_ble_eq_true rfl, Nat.le_of_ble_eq_true rfl⟩
set_option maxHeartbeats 4000000 in
set_option maxRecDepth 100000 in
theorem cb_skip_b (l : Launch) {G : va_G} {kT : Nat → ClassId} {L : List Nat} {K : Nat → Nat} {R : pR} {I : pI} {A : mD} {Q : pR} {N : Nat → Nat} (hst : l.stackTraces = false) {T : mT} {D : mD} {ad : pD} (HB : Rep T D ad L K R I A Q N) {lm : Int64} {i : Nat} (hi : i < 3) (h : clo T i) : cMt l yX6_skip wsX6_skip ({ frames := 8, cells := 1, slots := 6, locals := 143 } : Room) G kT [.ref (ad 0 0), .int (nI (i)), .long (lm)] L K R I A Q N "java/lang/UnsupportedOperationException" := by
  refine cstt (cc := cX6_skip) (maxL := 4) (ret := (some .long)) hst (by decide) rfl (Nat.le_of_ble_eq_true rfl) (fun p e s m args below meth c Z Y X hW ls hl => ?_)
  have X : CallFix p m c cX6_skip 4 s args wsX6_skip RX6 := X
  have hl : lv_has ls 4 [(0, .ref (ad 0 0)), (1, .int (nI (i))), (2, .long (lm))] := hl
  have hin2 : ∀ w ∈ wsX20, w ∈ wsX6_skip := fun w h => List.mem_cons_of_mem _ (List.mem_append_left _ (List.mem_append_left _ (List.mem_append_left _ (List.mem_append_right _ (h)))))
  have hin6 : ∀ w ∈ wsX60, w ∈ wsX6_skip := fun w h => List.mem_cons_of_mem _ (List.mem_append_left _ (List.mem_append_left _ (List.mem_append_right _ (h))))
  refine lv_aload_n X.1 X.2.1 dX6_skip_0 rfl (lv_at hl 0 rfl) ?_
  refine lv_iload_n X.1 X.2.1 dX6_skip_1 rfl (lv_at hl 1 rfl) ?_
  exact cXV Y X hW (HB.mem lv_0) (pC_6 (HB.kn lv_0 rfl)) rfl (cz_openReaderAt l hst HB hi h) (cwV 1 X.2.2.2.2 gX6_skip_X6_openReaderAt rfl rfl rfl (by decide +kernel) ⟨Nat.le_of_ble_eq_true rfl, Nat.le_of_ble_eq_true rfl⟩) rfl rfl hl.1 (Nat.le_of_ble_eq_true rfl) dX6_skip_2 ⟨Nat.le_of_ble_eq_true rfl, Nat.le_of_ble_eq_true rfl⟩
set_option maxHeartbeats 4000000 in
set_option maxRecDepth 100000 in
theorem cb_back_a (l : Launch) {G : va_G} {kT : Nat → ClassId} {L : List Nat} {K : Nat → Nat} {R : pR} {I : pI} {A : mD} {Q : pR} {N : Nat → Nat} (hst : l.stackTraces = false) {T : mT} {D : mD} {ad : pD} (HB : Rep T D ad L K R I A Q N) {x : Int32} (h : oN x 3) : cMt l yX6_back wsX6_back ({ frames := 8, cells := 1, slots := 6, locals := 143 } : Room) G kT [.ref (ad 0 0), .int (x)] L K R I A Q N "java/lang/IndexOutOfBoundsException" := by
  refine cstt (cc := cX6_back) (maxL := 3) (ret := (some .int)) hst (by decide) rfl (Nat.le_of_ble_eq_true rfl) (fun p e s m args below meth c Z Y X hW ls hl => ?_)
  have X : CallFix p m c cX6_back 3 s args wsX6_back RX6 := X
  have hl : lv_has ls 3 [(0, .ref (ad 0 0)), (1, .int (x))] := hl
  have hin2 : ∀ w ∈ wsX20, w ∈ wsX6_back := fun w h => List.mem_cons_of_mem _ (List.mem_append_left _ (List.mem_append_left _ (List.mem_append_left _ (List.mem_append_right _ (h)))))
  have hin6 : ∀ w ∈ wsX60, w ∈ wsX6_back := fun w h => List.mem_cons_of_mem _ (List.mem_append_left _ (List.mem_append_left _ (List.mem_append_right _ (h))))
  refine lv_aload_n X.1 X.2.1 dX6_back_0 rfl (lv_at hl 0 rfl) ?_
  refine lv_iload_n X.1 X.2.1 dX6_back_1 rfl (lv_at hl 1 rfl) ?_
  exact cXV Y X hW (HB.mem lv_0) (pC_6 (HB.kn lv_0 rfl)) rfl (cz_openReaderAt1 l hst HB h) (cwV 1 X.2.2.2.2 gX6_back_X6_openReaderAt rfl rfl rfl (by decide +kernel) ⟨Nat.le_of_ble_eq_true rfl, Nat.le_of_ble_eq_true rfl⟩) rfl rfl hl.1 (Nat.le_of_ble_eq_true rfl) dX6_back_2 ⟨Nat.le_of_ble_eq_true rfl, Nat.le_of_ble_eq_true rfl⟩
set_option maxHeartbeats 4000000 in
set_option maxRecDepth 100000 in
theorem cb_back_b (l : Launch) {G : va_G} {kT : Nat → ClassId} {L : List Nat} {K : Nat → Nat} {R : pR} {I : pI} {A : mD} {Q : pR} {N : Nat → Nat} (hst : l.stackTraces = false) {T : mT} {D : mD} {ad : pD} (HB : Rep T D ad L K R I A Q N) {i : Nat} (hi : i < 3) (h : clo T i) : cMt l yX6_back wsX6_back ({ frames := 8, cells := 1, slots := 6, locals := 143 } : Room) G kT [.ref (ad 0 0), .int (nI (i))] L K R I A Q N "java/lang/UnsupportedOperationException" := by
  refine cstt (cc := cX6_back) (maxL := 3) (ret := (some .int)) hst (by decide) rfl (Nat.le_of_ble_eq_true rfl) (fun p e s m args below meth c Z Y X hW ls hl => ?_)
  have X : CallFix p m c cX6_back 3 s args wsX6_back RX6 := X
  have hl : lv_has ls 3 [(0, .ref (ad 0 0)), (1, .int (nI (i)))] := hl
  have hin2 : ∀ w ∈ wsX20, w ∈ wsX6_back := fun w h => List.mem_cons_of_mem _ (List.mem_append_left _ (List.mem_append_left _ (List.mem_append_left _ (List.mem_append_right _ (h)))))
  have hin6 : ∀ w ∈ wsX60, w ∈ wsX6_back := fun w h => List.mem_cons_of_mem _ (List.mem_append_left _ (List.mem_append_left _ (List.mem_append_right _ (h))))
  refine lv_aload_n X.1 X.2.1 dX6_back_0 rfl (lv_at hl 0 rfl) ?_
  refine lv_iload_n X.1 X.2.1 dX6_back_1 rfl (lv_at hl 1 rfl) ?_
  exact cXV Y X hW (HB.mem lv_0) (pC_6 (HB.kn lv_0 rfl)) rfl (cz_openReaderAt l hst HB hi h) (cwV 1 X.2.2.2.2 gX6_back_X6_openReaderAt rfl rfl rfl (by decide +kernel) ⟨Nat.le_of_ble_eq_true rfl, Nat.le_of_ble_eq_true rfl⟩) rfl rfl hl.1 (Nat.le_of_ble_eq_true rfl) dX6_back_2 ⟨Nat.le_of_ble_eq_true rfl, Nat.le_of_ble_eq_true rfl⟩
set_option maxHeartbeats 4000000 in
set_option maxRecDepth 100000 in
theorem cb_mark_a (l : Launch) {G : va_G} {kT : Nat → ClassId} {L : List Nat} {K : Nat → Nat} {R : pR} {I : pI} {A : mD} {Q : pR} {N : Nat → Nat} (hst : l.stackTraces = false) {T : mT} {D : mD} {ad : pD} (HB : Rep T D ad L K R I A Q N) {x x1 : Int32} (h : oN x 3) : cMt l yX6_mark wsX6_mark ({ frames := 8, cells := 1, slots := 6, locals := 143 } : Room) G kT [.ref (ad 0 0), .int (x), .int (x1)] L K R I A Q N "java/lang/IndexOutOfBoundsException" := by
  refine cstt (cc := cX6_mark) (maxL := 4) (ret := (some .int)) hst (by decide) rfl (Nat.le_of_ble_eq_true rfl) (fun p e s m args below meth c Z Y X hW ls hl => ?_)
  have X : CallFix p m c cX6_mark 4 s args wsX6_mark RX6 := X
  have hl : lv_has ls 4 [(0, .ref (ad 0 0)), (1, .int (x)), (2, .int (x1))] := hl
  have hin2 : ∀ w ∈ wsX20, w ∈ wsX6_mark := fun w h => List.mem_cons_of_mem _ (List.mem_append_left _ (List.mem_append_left _ (List.mem_append_left _ (List.mem_append_left _ (List.mem_append_right _ (h))))))
  have hin6 : ∀ w ∈ wsX60, w ∈ wsX6_mark := fun w h => List.mem_cons_of_mem _ (List.mem_append_left _ (List.mem_append_left _ (List.mem_append_left _ (List.mem_append_right _ (h)))))
  refine lv_aload_n X.1 X.2.1 dX6_mark_0 rfl (lv_at hl 0 rfl) ?_
  refine lv_iload_n X.1 X.2.1 dX6_mark_1 rfl (lv_at hl 1 rfl) ?_
  exact cXV Y X hW (HB.mem lv_0) (pC_6 (HB.kn lv_0 rfl)) rfl (cz_readerAt l hst HB h) (cwV 1 X.2.2.2.2 gX6_mark_X6_readerAt rfl rfl rfl (by decide +kernel) ⟨Nat.le_of_ble_eq_true rfl, Nat.le_of_ble_eq_true rfl⟩) rfl rfl hl.1 (Nat.le_of_ble_eq_true rfl) dX6_mark_2 ⟨Nat.le_of_ble_eq_true rfl, Nat.le_of_ble_eq_true rfl⟩
set_option maxHeartbeats 4000000 in
set_option maxRecDepth 100000 in
theorem cb_mark_b (l : Launch) {G : va_G} {kT : Nat → ClassId} {L : List Nat} {K : Nat → Nat} {R : pR} {I : pI} {A : mD} {Q : pR} {N : Nat → Nat} (hst : l.stackTraces = false) {T : mT} {D : mD} {ad : pD} (HB : Rep T D ad L K R I A Q N) {i : Nat} {x : Int32} (hi : i < 3) (h : x < 0) : cMt l yX6_mark wsX6_mark ({ frames := 8, cells := 1, slots := 6, locals := 143 } : Room) G kT [.ref (ad 0 0), .int (nI (i)), .int (x)] L K R I A Q N "java/lang/IllegalArgumentException" := by
  refine cstt (cc := cX6_mark) (maxL := 4) (ret := (some .int)) hst (by decide) rfl (Nat.le_of_ble_eq_true rfl) (fun p e s m args below meth c Z Y X hW ls hl => ?_)
  have X : CallFix p m c cX6_mark 4 s args wsX6_mark RX6 := X
  have hl : lv_has ls 4 [(0, .ref (ad 0 0)), (1, .int (nI (i))), (2, .int (x))] := hl
  have hin2 : ∀ w ∈ wsX20, w ∈ wsX6_mark := fun w h => List.mem_cons_of_mem _ (List.mem_append_left _ (List.mem_append_left _ (List.mem_append_left _ (List.mem_append_left _ (List.mem_append_right _ (h))))))
  have hin6 : ∀ w ∈ wsX60, w ∈ wsX6_mark := fun w h => List.mem_cons_of_mem _ (List.mem_append_left _ (List.mem_append_left _ (List.mem_append_left _ (List.mem_append_right _ (h)))))
  refine lv_aload_n X.1 X.2.1 dX6_mark_0 rfl (lv_at hl 0 rfl) ?_
  refine lv_iload_n X.1 X.2.1 dX6_mark_1 rfl (lv_at hl 1 rfl) ?_
  refine cVr X hW (HB.mem lv_0) (pC_6 (HB.kn lv_0 rfl)) rfl (cg_readerAt l HB (r := i) (by omega)) (cwV 1 X.2.2.2.2 gX6_mark_X6_readerAt rfl rfl rfl (by decide +kernel) ⟨Nat.le_of_ble_eq_true rfl, Nat.le_of_ble_eq_true rfl⟩) rfl rfl hl.1 (Nat.le_of_ble_eq_true rfl) dX6_mark_2 ⟨Nat.zero_le _, Nat.zero_le _⟩ (fun H locs hW => ?_)
  refine lv_pop X.1 X.2.1 dX6_mark_5 rfl ?_
  refine lv_iload_n X.1 X.2.1 dX6_mark_6 rfl (lv_at hl 2 rfl) ?_
  refine x_if_ge_f (tgt := 20) X.1 X.2.1 dX6_mark_7 (by decide) (Int32.not_le.mpr h) ?_
  exact cTH Y X hW (text := "the limit is below 0") (ik := 64) (is := 181) (ic := 68) (by decide +kernel) (List.mem_cons_of_mem _ (List.mem_append_left _ (List.mem_append_left _ (List.mem_append_left _ (List.mem_append_left _ (List.mem_append_left _ (List.mem_append_left _ (List.mem_of_getElem? (i := 0) rfl)))))))) (List.mem_cons_of_mem _ (List.mem_append_left _ (List.mem_append_left _ (List.mem_append_left _ (List.mem_append_left _ (List.mem_append_left _ (List.mem_append_left _ (List.mem_of_getElem? (i := 1) rfl)))))))) (by decide +kernel) (fun w h => List.mem_cons_of_mem _ (List.mem_append_left _ (List.mem_append_left _ (List.mem_append_right _ (h))))) (by decide +kernel) (by decide +kernel) hl.1 dX6_mark_10 dX6_mark_13 dX6_mark_14 dX6_mark_16 dX6_mark_19 (Nat.le_of_ble_eq_true rfl) (Nat.le_of_ble_eq_true rfl) (Nat.le_of_ble_eq_true rfl) (Nat.le_of_ble_eq_true rfl)
set_option maxHeartbeats 4000000 in
set_option maxRecDepth 100000 in
theorem cb_mark_c (l : Launch) {G : va_G} {kT : Nat → ClassId} {L : List Nat} {K : Nat → Nat} {R : pR} {I : pI} {A : mD} {Q : pR} {N : Nat → Nat} (hst : l.stackTraces = false) {T : mT} {D : mD} {ad : pD} (HB : Rep T D ad L K R I A Q N) {i : Nat} {x : Int32} (hi : i < 3) (hx : ¬ x < 0) (h : clo T i) : cMt l yX6_mark wsX6_mark ({ frames := 8, cells := 1, slots := 6, locals := 143 } : Room) G kT [.ref (ad 0 0), .int (nI (i)), .int (x)] L K R I A Q N "java/lang/UnsupportedOperationException" := by
  refine cstt (cc := cX6_mark) (maxL := 4) (ret := (some .int)) hst (by decide) rfl (Nat.le_of_ble_eq_true rfl) (fun p e s m args below meth c Z Y X hW ls hl => ?_)
  have X : CallFix p m c cX6_mark 4 s args wsX6_mark RX6 := X
  have hl : lv_has ls 4 [(0, .ref (ad 0 0)), (1, .int (nI (i))), (2, .int (x))] := hl
  have hin2 : ∀ w ∈ wsX20, w ∈ wsX6_mark := fun w h => List.mem_cons_of_mem _ (List.mem_append_left _ (List.mem_append_left _ (List.mem_append_left _ (List.mem_append_left _ (List.mem_append_right _ (h))))))
  have hin6 : ∀ w ∈ wsX60, w ∈ wsX6_mark := fun w h => List.mem_cons_of_mem _ (List.mem_append_left _ (List.mem_append_left _ (List.mem_append_left _ (List.mem_append_right _ (h)))))
  refine lv_aload_n X.1 X.2.1 dX6_mark_0 rfl (lv_at hl 0 rfl) ?_
  refine lv_iload_n X.1 X.2.1 dX6_mark_1 rfl (lv_at hl 1 rfl) ?_
  refine cVr X hW (HB.mem lv_0) (pC_6 (HB.kn lv_0 rfl)) rfl (cg_readerAt l HB (r := i) (by omega)) (cwV 1 X.2.2.2.2 gX6_mark_X6_readerAt rfl rfl rfl (by decide +kernel) ⟨Nat.le_of_ble_eq_true rfl, Nat.le_of_ble_eq_true rfl⟩) rfl rfl hl.1 (Nat.le_of_ble_eq_true rfl) dX6_mark_2 ⟨Nat.zero_le _, Nat.zero_le _⟩ (fun H locs hW => ?_)
  refine lv_pop X.1 X.2.1 dX6_mark_5 rfl ?_
  refine lv_iload_n X.1 X.2.1 dX6_mark_6 rfl (lv_at hl 2 rfl) ?_
  refine x_if_ge_t (tgt := 20) X.1 X.2.1 dX6_mark_7 (by decide) (Int32.not_lt.mp hx) ?_
  refine lv_aload_n X.1 X.2.1 dX6_mark_20 rfl (lv_at hl 0 rfl) ?_
  refine lv_iload_n X.1 X.2.1 dX6_mark_21 rfl (lv_at hl 1 rfl) ?_
  exact cXV Y X hW (HB.mem lv_0) (pC_6 (HB.kn lv_0 rfl)) rfl (cz_openReaderAt l hst HB hi h) (cwV 1 X.2.2.2.2 gX6_mark_X6_openReaderAt rfl rfl rfl (by decide +kernel) ⟨Nat.le_of_ble_eq_true rfl, Nat.le_of_ble_eq_true rfl⟩) rfl rfl hl.1 (Nat.le_of_ble_eq_true rfl) dX6_mark_22 ⟨Nat.le_of_ble_eq_true rfl, Nat.le_of_ble_eq_true rfl⟩
set_option maxHeartbeats 4000000 in
set_option maxRecDepth 100000 in
theorem cb_readPart_a (l : Launch) {G : va_G} {kT : Nat → ClassId} {L : List Nat} {K : Nat → Nat} {R : pR} {I : pI} {A : mD} {Q : pR} {N : Nat → Nat} (hst : l.stackTraces = false) {T : mT} {D : mD} {ad : pD} (HB : Rep T D ad L K R I A Q N) {x x1 x2 x3 : Int32} (h : oN x 3) : cMt l yX6_readPart wsX6_readPart ({ frames := 8, cells := 1, slots := 6, locals := 143 } : Room) G kT [.ref (ad 0 0), .int (x), .int (x1), .int (x2), .int (x3)] L K R I A Q N "java/lang/IndexOutOfBoundsException" := by
  refine cstt (cc := cX6_readPart) (maxL := 7) (ret := (some .int)) hst (by decide) rfl (Nat.le_of_ble_eq_true rfl) (fun p e s m args below meth c Z Y X hW ls hl => ?_)
  have X : CallFix p m c cX6_readPart 7 s args wsX6_readPart RX6 := X
  have hl : lv_has ls 7 [(0, .ref (ad 0 0)), (1, .int (x)), (2, .int (x1)), (3, .int (x2)), (4, .int (x3))] := hl
  have hin2 : ∀ w ∈ wsX20, w ∈ wsX6_readPart := fun w h => List.mem_cons_of_mem _ (List.mem_append_left _ (List.mem_append_left _ (List.mem_append_left _ (List.mem_append_left _ (List.mem_append_left _ (List.mem_append_left _ (List.mem_append_right _ (h))))))))
  have hin3 : ∀ w ∈ wsX30, w ∈ wsX6_readPart := fun w h => List.mem_cons_of_mem _ (List.mem_append_left _ (List.mem_append_left _ (List.mem_append_left _ (List.mem_append_left _ (List.mem_append_left _ (List.mem_append_left _ (List.mem_append_left _ (List.mem_append_right _ (h)))))))))
  have hin6 : ∀ w ∈ wsX60, w ∈ wsX6_readPart := fun w h => List.mem_cons_of_mem _ (List.mem_append_left _ (List.mem_append_left _ (List.mem_append_left _ (List.mem_append_left _ (List.mem_append_left _ (List.mem_append_right _ (h)))))))
  refine lv_aload_n X.1 X.2.1 dX6_readPart_0 rfl (lv_at hl 0 rfl) ?_
  refine lv_iload_n X.1 X.2.1 dX6_readPart_1 rfl (lv_at hl 1 rfl) ?_
  exact cXV Y X hW (HB.mem lv_0) (pC_6 (HB.kn lv_0 rfl)) rfl (cz_readerAt l hst HB h) (cwV 1 X.2.2.2.2 gX6_readPart_X6_readerAt rfl rfl rfl (by decide +kernel) ⟨Nat.le_of_ble_eq_true rfl, Nat.le_of_ble_eq_true rfl⟩) rfl rfl hl.1 (Nat.le_of_ble_eq_true rfl) dX6_readPart_2 ⟨Nat.le_of_ble_eq_true rfl, Nat.le_of_ble_eq_true rfl⟩
set_option maxHeartbeats 4000000 in
set_option maxRecDepth 100000 in
theorem cb_readPart_b (l : Launch) {G : va_G} {kT : Nat → ClassId} {L : List Nat} {K : Nat → Nat} {R : pR} {I : pI} {A : mD} {Q : pR} {N : Nat → Nat} (hst : l.stackTraces = false) {T : mT} {D : mD} {ad : pD} (HB : Rep T D ad L K R I A Q N) {i : Nat} {x x1 x2 : Int32} (hi : i < 3) (h : oN x 4) : cMt l yX6_readPart wsX6_readPart ({ frames := 8, cells := 1, slots := 6, locals := 143 } : Room) G kT [.ref (ad 0 0), .int (nI (i)), .int (x), .int (x1), .int (x2)] L K R I A Q N "java/lang/IndexOutOfBoundsException" := by
  refine cstt (cc := cX6_readPart) (maxL := 7) (ret := (some .int)) hst (by decide) rfl (Nat.le_of_ble_eq_true rfl) (fun p e s m args below meth c Z Y X hW ls hl => ?_)
  have X : CallFix p m c cX6_readPart 7 s args wsX6_readPart RX6 := X
  have hl : lv_has ls 7 [(0, .ref (ad 0 0)), (1, .int (nI (i))), (2, .int (x)), (3, .int (x1)), (4, .int (x2))] := hl
  have hin2 : ∀ w ∈ wsX20, w ∈ wsX6_readPart := fun w h => List.mem_cons_of_mem _ (List.mem_append_left _ (List.mem_append_left _ (List.mem_append_left _ (List.mem_append_left _ (List.mem_append_left _ (List.mem_append_left _ (List.mem_append_right _ (h))))))))
  have hin3 : ∀ w ∈ wsX30, w ∈ wsX6_readPart := fun w h => List.mem_cons_of_mem _ (List.mem_append_left _ (List.mem_append_left _ (List.mem_append_left _ (List.mem_append_left _ (List.mem_append_left _ (List.mem_append_left _ (List.mem_append_left _ (List.mem_append_right _ (h)))))))))
  have hin6 : ∀ w ∈ wsX60, w ∈ wsX6_readPart := fun w h => List.mem_cons_of_mem _ (List.mem_append_left _ (List.mem_append_left _ (List.mem_append_left _ (List.mem_append_left _ (List.mem_append_left _ (List.mem_append_right _ (h)))))))
  refine lv_aload_n X.1 X.2.1 dX6_readPart_0 rfl (lv_at hl 0 rfl) ?_
  refine lv_iload_n X.1 X.2.1 dX6_readPart_1 rfl (lv_at hl 1 rfl) ?_
  refine cVr X hW (HB.mem lv_0) (pC_6 (HB.kn lv_0 rfl)) rfl (cg_readerAt l HB (r := i) (by omega)) (cwV 1 X.2.2.2.2 gX6_readPart_X6_readerAt rfl rfl rfl (by decide +kernel) ⟨Nat.le_of_ble_eq_true rfl, Nat.le_of_ble_eq_true rfl⟩) rfl rfl hl.1 (Nat.le_of_ble_eq_true rfl) dX6_readPart_2 ⟨Nat.zero_le _, Nat.zero_le _⟩ (fun H locs hW => ?_)
  refine lv_pop X.1 X.2.1 dX6_readPart_5 rfl ?_
  refine lv_aload_n X.1 X.2.1 dX6_readPart_6 rfl (lv_at hl 0 rfl) ?_
  refine lv_iload_n X.1 X.2.1 dX6_readPart_7 rfl (lv_at hl 2 rfl) ?_
  exact cXV Y X hW (HB.mem lv_0) (pC_6 (HB.kn lv_0 rfl)) rfl (cz_signRowAt l hst HB h) (cwV 1 X.2.2.2.2 gX6_readPart_X6_signRowAt rfl rfl rfl (by decide +kernel) ⟨Nat.le_of_ble_eq_true rfl, Nat.le_of_ble_eq_true rfl⟩) rfl rfl hl.1 (Nat.le_of_ble_eq_true rfl) dX6_readPart_8 ⟨Nat.le_of_ble_eq_true rfl, Nat.le_of_ble_eq_true rfl⟩
set_option maxHeartbeats 4000000 in
set_option maxRecDepth 100000 in
theorem cb_readPart_c (l : Launch) {G : va_G} {kT : Nat → ClassId} {L : List Nat} {K : Nat → Nat} {R : pR} {I : pI} {A : mD} {Q : pR} {N : Nat → Nat} (hst : l.stackTraces = false) {T : mT} {D : mD} {ad : pD} (HB : Rep T D ad L K R I A Q N) {i r : Nat} {x x1 : Int32} (hi : i < 3) (hr : r < 4) (h : oP (T 1 (T 2 r)) x x1) : cMt l yX6_readPart wsX6_readPart ({ frames := 8, cells := 1, slots := 6, locals := 143 } : Room) G kT [.ref (ad 0 0), .int (nI (i)), .int (nI (r)), .int (x), .int (x1)] L K R I A Q N "java/lang/IndexOutOfBoundsException" := by
  refine cstt (cc := cX6_readPart) (maxL := 7) (ret := (some .int)) hst (by decide) rfl (Nat.le_of_ble_eq_true rfl) (fun p e s m args below meth c Z Y X hW ls hl => ?_)
  have X : CallFix p m c cX6_readPart 7 s args wsX6_readPart RX6 := X
  have hl : lv_has ls 7 [(0, .ref (ad 0 0)), (1, .int (nI (i))), (2, .int (nI (r))), (3, .int (x)), (4, .int (x1))] := hl
  have hin2 : ∀ w ∈ wsX20, w ∈ wsX6_readPart := fun w h => List.mem_cons_of_mem _ (List.mem_append_left _ (List.mem_append_left _ (List.mem_append_left _ (List.mem_append_left _ (List.mem_append_left _ (List.mem_append_left _ (List.mem_append_right _ (h))))))))
  have hin3 : ∀ w ∈ wsX30, w ∈ wsX6_readPart := fun w h => List.mem_cons_of_mem _ (List.mem_append_left _ (List.mem_append_left _ (List.mem_append_left _ (List.mem_append_left _ (List.mem_append_left _ (List.mem_append_left _ (List.mem_append_left _ (List.mem_append_right _ (h)))))))))
  have hin6 : ∀ w ∈ wsX60, w ∈ wsX6_readPart := fun w h => List.mem_cons_of_mem _ (List.mem_append_left _ (List.mem_append_left _ (List.mem_append_left _ (List.mem_append_left _ (List.mem_append_left _ (List.mem_append_right _ (h)))))))
  have hu := uS_row (T := T) hr
  have hsr := HB.sr hu
  have hl9 := hsr.2.2.2.2.2.2
  refine lv_aload_n X.1 X.2.1 dX6_readPart_0 rfl (lv_at hl 0 rfl) ?_
  refine lv_iload_n X.1 X.2.1 dX6_readPart_1 rfl (lv_at hl 1 rfl) ?_
  refine cVr X hW (HB.mem lv_0) (pC_6 (HB.kn lv_0 rfl)) rfl (cg_readerAt l HB (r := i) (by omega)) (cwV 1 X.2.2.2.2 gX6_readPart_X6_readerAt rfl rfl rfl (by decide +kernel) ⟨Nat.le_of_ble_eq_true rfl, Nat.le_of_ble_eq_true rfl⟩) rfl rfl hl.1 (Nat.le_of_ble_eq_true rfl) dX6_readPart_2 ⟨Nat.zero_le _, Nat.zero_le _⟩ (fun H locs hW => ?_)
  refine lv_pop X.1 X.2.1 dX6_readPart_5 rfl ?_
  refine lv_aload_n X.1 X.2.1 dX6_readPart_6 rfl (lv_at hl 0 rfl) ?_
  refine lv_iload_n X.1 X.2.1 dX6_readPart_7 rfl (lv_at hl 2 rfl) ?_
  refine cVr X hW (HB.mem lv_0) (pC_6 (HB.kn lv_0 rfl)) rfl (cg_signRowAt l HB (r := r) (by omega)) (cwV 1 X.2.2.2.2 gX6_readPart_X6_signRowAt rfl rfl rfl (by decide +kernel) ⟨Nat.le_of_ble_eq_true rfl, Nat.le_of_ble_eq_true rfl⟩) rfl rfl hl.1 (Nat.le_of_ble_eq_true rfl) dX6_readPart_8 ⟨Nat.zero_le _, Nat.zero_le _⟩ (fun H locs hW => ?_)
  refine lv_astore (lv' := [(5, .ref (ad 3 (T 2 r))), (0, .ref (ad 0 0)), (1, .int (nI (i))), (2, .int (nI (r))), (3, .int (x)), (4, .int (x1))]) X.1 X.2.1 dX6_readPart_11 hl (by decide) rfl (fun ls hl => ?_)
  refine lv_iload_n X.1 X.2.1 dX6_readPart_13 rfl (lv_at hl 4 rfl) ?_
  refine lv_iload X.1 X.2.1 dX6_readPart_14 (lv_at hl 5 rfl) ?_
  refine lv_aload X.1 X.2.1 dX6_readPart_16 (lv_at hl 0 rfl) ?_
  refine cg_3_signs X hin3 hW (hsr.1) (hsr.2.1) (hsr.2.2.1) (X.2.2.2.2 (.fieldLink RX6 60 "Strandbook$SignRow" "signs" "[C") (List.mem_cons_of_mem _ (List.mem_append_left _ (List.mem_append_left _ (List.mem_append_left _ (List.mem_append_left _ (List.mem_append_left _ (List.mem_append_left _ (List.mem_append_left _ (List.mem_append_left _ (List.mem_append_left _ (List.mem_of_getElem? (i := 2) rfl)))))))))))) dX6_readPart_18 ?_
  refine cln_8 X hW (hsr.2.2.2.1) (hsr.2.2.2.2.1) (hsr.2.2.2.2.2.1) dX6_readPart_21 ?_
  exact cXS Y X hW (cz_requirePlaces l hst (by omega) h) (va_cwS 3 X.2.2.2.2 gX6_readPart_X6_requirePlaces rfl rfl rfl (by decide +kernel) ⟨Nat.le_of_ble_eq_true rfl, Nat.le_of_ble_eq_true rfl⟩) rfl rfl hl.1 (Nat.le_of_ble_eq_true rfl) dX6_readPart_22 ⟨Nat.le_of_ble_eq_true rfl, Nat.le_of_ble_eq_true rfl⟩
set_option maxHeartbeats 4000000 in
set_option maxRecDepth 100000 in
theorem cb_readPart_d (l : Launch) {G : va_G} {kT : Nat → ClassId} {L : List Nat} {K : Nat → Nat} {R : pR} {I : pI} {A : mD} {Q : pR} {N : Nat → Nat} (hst : l.stackTraces = false) {T : mT} {D : mD} {ad : pD} (HB : Rep T D ad L K R I A Q N) {i r f : Nat} (hi : i < 3) (hr : r < 4) (hf : f + 0 ≤ T 1 (T 2 r)) : cMt l yX6_readPart wsX6_readPart ({ frames := 8, cells := 1, slots := 6, locals := 143 } : Room) G kT [.ref (ad 0 0), .int (nI (i)), .int (nI (r)), .int (nI (f)), .int (nI (0))] L K R I A Q N "java/lang/IllegalArgumentException" := by
  refine cstt (cc := cX6_readPart) (maxL := 7) (ret := (some .int)) hst (by decide) rfl (Nat.le_of_ble_eq_true rfl) (fun p e s m args below meth c Z Y X hW ls hl => ?_)
  have X : CallFix p m c cX6_readPart 7 s args wsX6_readPart RX6 := X
  have hl : lv_has ls 7 [(0, .ref (ad 0 0)), (1, .int (nI (i))), (2, .int (nI (r))), (3, .int (nI (f))), (4, .int (nI (0)))] := hl
  have hin2 : ∀ w ∈ wsX20, w ∈ wsX6_readPart := fun w h => List.mem_cons_of_mem _ (List.mem_append_left _ (List.mem_append_left _ (List.mem_append_left _ (List.mem_append_left _ (List.mem_append_left _ (List.mem_append_left _ (List.mem_append_right _ (h))))))))
  have hin3 : ∀ w ∈ wsX30, w ∈ wsX6_readPart := fun w h => List.mem_cons_of_mem _ (List.mem_append_left _ (List.mem_append_left _ (List.mem_append_left _ (List.mem_append_left _ (List.mem_append_left _ (List.mem_append_left _ (List.mem_append_left _ (List.mem_append_right _ (h)))))))))
  have hin6 : ∀ w ∈ wsX60, w ∈ wsX6_readPart := fun w h => List.mem_cons_of_mem _ (List.mem_append_left _ (List.mem_append_left _ (List.mem_append_left _ (List.mem_append_left _ (List.mem_append_left _ (List.mem_append_right _ (h)))))))
  have hu := uS_row (T := T) hr
  have hsr := HB.sr hu
  have hl9 := hsr.2.2.2.2.2.2
  refine lv_aload_n X.1 X.2.1 dX6_readPart_0 rfl (lv_at hl 0 rfl) ?_
  refine lv_iload_n X.1 X.2.1 dX6_readPart_1 rfl (lv_at hl 1 rfl) ?_
  refine cVr X hW (HB.mem lv_0) (pC_6 (HB.kn lv_0 rfl)) rfl (cg_readerAt l HB (r := i) (by omega)) (cwV 1 X.2.2.2.2 gX6_readPart_X6_readerAt rfl rfl rfl (by decide +kernel) ⟨Nat.le_of_ble_eq_true rfl, Nat.le_of_ble_eq_true rfl⟩) rfl rfl hl.1 (Nat.le_of_ble_eq_true rfl) dX6_readPart_2 ⟨Nat.zero_le _, Nat.zero_le _⟩ (fun H locs hW => ?_)
  refine lv_pop X.1 X.2.1 dX6_readPart_5 rfl ?_
  refine lv_aload_n X.1 X.2.1 dX6_readPart_6 rfl (lv_at hl 0 rfl) ?_
  refine lv_iload_n X.1 X.2.1 dX6_readPart_7 rfl (lv_at hl 2 rfl) ?_
  refine cVr X hW (HB.mem lv_0) (pC_6 (HB.kn lv_0 rfl)) rfl (cg_signRowAt l HB (r := r) (by omega)) (cwV 1 X.2.2.2.2 gX6_readPart_X6_signRowAt rfl rfl rfl (by decide +kernel) ⟨Nat.le_of_ble_eq_true rfl, Nat.le_of_ble_eq_true rfl⟩) rfl rfl hl.1 (Nat.le_of_ble_eq_true rfl) dX6_readPart_8 ⟨Nat.zero_le _, Nat.zero_le _⟩ (fun H locs hW => ?_)
  refine lv_astore (lv' := [(5, .ref (ad 3 (T 2 r))), (0, .ref (ad 0 0)), (1, .int (nI (i))), (2, .int (nI (r))), (3, .int (nI (f))), (4, .int (nI (0)))]) X.1 X.2.1 dX6_readPart_11 hl (by decide) rfl (fun ls hl => ?_)
  refine lv_iload_n X.1 X.2.1 dX6_readPart_13 rfl (lv_at hl 4 rfl) ?_
  refine lv_iload X.1 X.2.1 dX6_readPart_14 (lv_at hl 5 rfl) ?_
  refine lv_aload X.1 X.2.1 dX6_readPart_16 (lv_at hl 0 rfl) ?_
  refine cg_3_signs X hin3 hW (hsr.1) (hsr.2.1) (hsr.2.2.1) (X.2.2.2.2 (.fieldLink RX6 60 "Strandbook$SignRow" "signs" "[C") (List.mem_cons_of_mem _ (List.mem_append_left _ (List.mem_append_left _ (List.mem_append_left _ (List.mem_append_left _ (List.mem_append_left _ (List.mem_append_left _ (List.mem_append_left _ (List.mem_append_left _ (List.mem_append_left _ (List.mem_of_getElem? (i := 2) rfl)))))))))))) dX6_readPart_18 ?_
  refine cln_8 X hW (hsr.2.2.2.1) (hsr.2.2.2.2.1) (hsr.2.2.2.2.2.1) dX6_readPart_21 ?_
  refine cSv X hW (cg_requirePlaces l (f := f) (j := 0) (n := T 1 (T 2 r)) (by omega) (by omega)) (va_cwS 3 X.2.2.2.2 gX6_readPart_X6_requirePlaces rfl rfl rfl (by decide +kernel) ⟨Nat.le_of_ble_eq_true rfl, Nat.le_of_ble_eq_true rfl⟩) rfl rfl hl.1 (Nat.le_of_ble_eq_true rfl) dX6_readPart_22 ⟨Nat.zero_le _, Nat.zero_le _⟩ (fun H locs hW => ?_)
  refine lv_iload X.1 X.2.1 dX6_readPart_25 (lv_at hl 5 rfl) ?_
  exact cXS Y X hW (cz_requireSome l hst) (va_cwS 1 X.2.2.2.2 gX6_readPart_X6_requireSome rfl rfl rfl (by decide +kernel) ⟨Nat.le_of_ble_eq_true rfl, Nat.le_of_ble_eq_true rfl⟩) rfl rfl hl.1 (Nat.le_of_ble_eq_true rfl) dX6_readPart_27 ⟨Nat.le_of_ble_eq_true rfl, Nat.le_of_ble_eq_true rfl⟩
set_option maxHeartbeats 4000000 in
set_option maxRecDepth 100000 in
theorem cb_readPart_e (l : Launch) {G : va_G} {kT : Nat → ClassId} {L : List Nat} {K : Nat → Nat} {R : pR} {I : pI} {A : mD} {Q : pR} {N : Nat → Nat} (hst : l.stackTraces = false) {T : mT} {D : mD} {ad : pD} (HB : Rep T D ad L K R I A Q N) {i r f n : Nat} (hi : i < 3) (hr : r < 4) (hf : f + n ≤ T 1 (T 2 r)) (hn : n ≠ 0) (h : clo T i) : cMt l yX6_readPart wsX6_readPart ({ frames := 8, cells := 1, slots := 6, locals := 143 } : Room) G kT [.ref (ad 0 0), .int (nI (i)), .int (nI (r)), .int (nI (f)), .int (nI (n))] L K R I A Q N "java/lang/UnsupportedOperationException" := by
  refine cstt (cc := cX6_readPart) (maxL := 7) (ret := (some .int)) hst (by decide) rfl (Nat.le_of_ble_eq_true rfl) (fun p e s m args below meth c Z Y X hW ls hl => ?_)
  have X : CallFix p m c cX6_readPart 7 s args wsX6_readPart RX6 := X
  have hl : lv_has ls 7 [(0, .ref (ad 0 0)), (1, .int (nI (i))), (2, .int (nI (r))), (3, .int (nI (f))), (4, .int (nI (n)))] := hl
  have hin2 : ∀ w ∈ wsX20, w ∈ wsX6_readPart := fun w h => List.mem_cons_of_mem _ (List.mem_append_left _ (List.mem_append_left _ (List.mem_append_left _ (List.mem_append_left _ (List.mem_append_left _ (List.mem_append_left _ (List.mem_append_right _ (h))))))))
  have hin3 : ∀ w ∈ wsX30, w ∈ wsX6_readPart := fun w h => List.mem_cons_of_mem _ (List.mem_append_left _ (List.mem_append_left _ (List.mem_append_left _ (List.mem_append_left _ (List.mem_append_left _ (List.mem_append_left _ (List.mem_append_left _ (List.mem_append_right _ (h)))))))))
  have hin6 : ∀ w ∈ wsX60, w ∈ wsX6_readPart := fun w h => List.mem_cons_of_mem _ (List.mem_append_left _ (List.mem_append_left _ (List.mem_append_left _ (List.mem_append_left _ (List.mem_append_left _ (List.mem_append_right _ (h)))))))
  have hu := uS_row (T := T) hr
  have hsr := HB.sr hu
  have hl9 := hsr.2.2.2.2.2.2
  refine lv_aload_n X.1 X.2.1 dX6_readPart_0 rfl (lv_at hl 0 rfl) ?_
  refine lv_iload_n X.1 X.2.1 dX6_readPart_1 rfl (lv_at hl 1 rfl) ?_
  refine cVr X hW (HB.mem lv_0) (pC_6 (HB.kn lv_0 rfl)) rfl (cg_readerAt l HB (r := i) (by omega)) (cwV 1 X.2.2.2.2 gX6_readPart_X6_readerAt rfl rfl rfl (by decide +kernel) ⟨Nat.le_of_ble_eq_true rfl, Nat.le_of_ble_eq_true rfl⟩) rfl rfl hl.1 (Nat.le_of_ble_eq_true rfl) dX6_readPart_2 ⟨Nat.zero_le _, Nat.zero_le _⟩ (fun H locs hW => ?_)
  refine lv_pop X.1 X.2.1 dX6_readPart_5 rfl ?_
  refine lv_aload_n X.1 X.2.1 dX6_readPart_6 rfl (lv_at hl 0 rfl) ?_
  refine lv_iload_n X.1 X.2.1 dX6_readPart_7 rfl (lv_at hl 2 rfl) ?_
  refine cVr X hW (HB.mem lv_0) (pC_6 (HB.kn lv_0 rfl)) rfl (cg_signRowAt l HB (r := r) (by omega)) (cwV 1 X.2.2.2.2 gX6_readPart_X6_signRowAt rfl rfl rfl (by decide +kernel) ⟨Nat.le_of_ble_eq_true rfl, Nat.le_of_ble_eq_true rfl⟩) rfl rfl hl.1 (Nat.le_of_ble_eq_true rfl) dX6_readPart_8 ⟨Nat.zero_le _, Nat.zero_le _⟩ (fun H locs hW => ?_)
  refine lv_astore (lv' := [(5, .ref (ad 3 (T 2 r))), (0, .ref (ad 0 0)), (1, .int (nI (i))), (2, .int (nI (r))), (3, .int (nI (f))), (4, .int (nI (n)))]) X.1 X.2.1 dX6_readPart_11 hl (by decide) rfl (fun ls hl => ?_)
  refine lv_iload_n X.1 X.2.1 dX6_readPart_13 rfl (lv_at hl 4 rfl) ?_
  refine lv_iload X.1 X.2.1 dX6_readPart_14 (lv_at hl 5 rfl) ?_
  refine lv_aload X.1 X.2.1 dX6_readPart_16 (lv_at hl 0 rfl) ?_
  refine cg_3_signs X hin3 hW (hsr.1) (hsr.2.1) (hsr.2.2.1) (X.2.2.2.2 (.fieldLink RX6 60 "Strandbook$SignRow" "signs" "[C") (List.mem_cons_of_mem _ (List.mem_append_left _ (List.mem_append_left _ (List.mem_append_left _ (List.mem_append_left _ (List.mem_append_left _ (List.mem_append_left _ (List.mem_append_left _ (List.mem_append_left _ (List.mem_append_left _ (List.mem_of_getElem? (i := 2) rfl)))))))))))) dX6_readPart_18 ?_
  refine cln_8 X hW (hsr.2.2.2.1) (hsr.2.2.2.2.1) (hsr.2.2.2.2.2.1) dX6_readPart_21 ?_
  refine cSv X hW (cg_requirePlaces l (f := f) (j := n) (n := T 1 (T 2 r)) (by omega) (by omega)) (va_cwS 3 X.2.2.2.2 gX6_readPart_X6_requirePlaces rfl rfl rfl (by decide +kernel) ⟨Nat.le_of_ble_eq_true rfl, Nat.le_of_ble_eq_true rfl⟩) rfl rfl hl.1 (Nat.le_of_ble_eq_true rfl) dX6_readPart_22 ⟨Nat.zero_le _, Nat.zero_le _⟩ (fun H locs hW => ?_)
  refine lv_iload X.1 X.2.1 dX6_readPart_25 (lv_at hl 5 rfl) ?_
  refine cSv X hW (cg_requireSome l (n := n) (by omega) (by omega)) (va_cwS 1 X.2.2.2.2 gX6_readPart_X6_requireSome rfl rfl rfl (by decide +kernel) ⟨Nat.le_of_ble_eq_true rfl, Nat.le_of_ble_eq_true rfl⟩) rfl rfl hl.1 (Nat.le_of_ble_eq_true rfl) dX6_readPart_27 ⟨Nat.zero_le _, Nat.zero_le _⟩ (fun H locs hW => ?_)
  refine lv_aload_n X.1 X.2.1 dX6_readPart_30 rfl (lv_at hl 1 rfl) ?_
  refine lv_iload_n X.1 X.2.1 dX6_readPart_31 rfl (lv_at hl 2 rfl) ?_
  exact cXV Y X hW (HB.mem lv_0) (pC_6 (HB.kn lv_0 rfl)) rfl (cz_openReaderAt l hst HB hi h) (cwV 1 X.2.2.2.2 gX6_readPart_X6_openReaderAt rfl rfl rfl (by decide +kernel) ⟨Nat.le_of_ble_eq_true rfl, Nat.le_of_ble_eq_true rfl⟩) rfl rfl hl.1 (Nat.le_of_ble_eq_true rfl) dX6_readPart_32 ⟨Nat.le_of_ble_eq_true rfl, Nat.le_of_ble_eq_true rfl⟩
set_option maxHeartbeats 4000000 in
set_option maxRecDepth 100000 in
theorem cb_readPart_f (l : Launch) {G : va_G} {kT : Nat → ClassId} {L : List Nat} {K : Nat → Nat} {R : pR} {I : pI} {A : mD} {Q : pR} {N : Nat → Nat} (hst : l.stackTraces = false) {T : mT} {D : mD} {ad : pD} (HB : Rep T D ad L K R I A Q N) {i r f n : Nat} (hi : i < 3) (hr : r < 4) (hf : f + n ≤ T 1 (T 2 r)) (hn : n ≠ 0) (h8 : ¬ clo T i) (h4 : T 8 i = T 2 r + 1) : cMt l yX6_readPart wsX6_readPart ({ frames := 8, cells := 1, slots := 6, locals := 143 } : Room) G kT [.ref (ad 0 0), .int (nI (i)), .int (nI (r)), .int (nI (f)), .int (nI (n))] L K R I A Q N "java/lang/IllegalStateException" := by
  refine cstt (cc := cX6_readPart) (maxL := 7) (ret := (some .int)) hst (by decide) rfl (Nat.le_of_ble_eq_true rfl) (fun p e s m args below meth c Z Y X hW ls hl => ?_)
  have X : CallFix p m c cX6_readPart 7 s args wsX6_readPart RX6 := X
  have hl : lv_has ls 7 [(0, .ref (ad 0 0)), (1, .int (nI (i))), (2, .int (nI (r))), (3, .int (nI (f))), (4, .int (nI (n)))] := hl
  have hin2 : ∀ w ∈ wsX20, w ∈ wsX6_readPart := fun w h => List.mem_cons_of_mem _ (List.mem_append_left _ (List.mem_append_left _ (List.mem_append_left _ (List.mem_append_left _ (List.mem_append_left _ (List.mem_append_left _ (List.mem_append_right _ (h))))))))
  have hin3 : ∀ w ∈ wsX30, w ∈ wsX6_readPart := fun w h => List.mem_cons_of_mem _ (List.mem_append_left _ (List.mem_append_left _ (List.mem_append_left _ (List.mem_append_left _ (List.mem_append_left _ (List.mem_append_left _ (List.mem_append_left _ (List.mem_append_right _ (h)))))))))
  have hin6 : ∀ w ∈ wsX60, w ∈ wsX6_readPart := fun w h => List.mem_cons_of_mem _ (List.mem_append_left _ (List.mem_append_left _ (List.mem_append_left _ (List.mem_append_left _ (List.mem_append_left _ (List.mem_append_right _ (h)))))))
  have hu := uS_row (T := T) hr
  have hsr := HB.sr hu
  have hl9 := hsr.2.2.2.2.2.2
  have h81 : T 8 i ≠ 0 := fun z => h8 (Or.inl z)
  have h12 : T 12 i = 0 := Decidable.not_not.mp (fun z => h8 (Or.inr z))
  have hrd := HB.rd hi h81
  have h6 := (HB.rr i hi).2 h81
  have hm9 := HB.mi.rd hi
  refine lv_aload_n X.1 X.2.1 dX6_readPart_0 rfl (lv_at hl 0 rfl) ?_
  refine lv_iload_n X.1 X.2.1 dX6_readPart_1 rfl (lv_at hl 1 rfl) ?_
  refine cVr X hW (HB.mem lv_0) (pC_6 (HB.kn lv_0 rfl)) rfl (cg_readerAt l HB (r := i) (by omega)) (cwV 1 X.2.2.2.2 gX6_readPart_X6_readerAt rfl rfl rfl (by decide +kernel) ⟨Nat.le_of_ble_eq_true rfl, Nat.le_of_ble_eq_true rfl⟩) rfl rfl hl.1 (Nat.le_of_ble_eq_true rfl) dX6_readPart_2 ⟨Nat.zero_le _, Nat.zero_le _⟩ (fun H locs hW => ?_)
  refine lv_pop X.1 X.2.1 dX6_readPart_5 rfl ?_
  refine lv_aload_n X.1 X.2.1 dX6_readPart_6 rfl (lv_at hl 0 rfl) ?_
  refine lv_iload_n X.1 X.2.1 dX6_readPart_7 rfl (lv_at hl 2 rfl) ?_
  refine cVr X hW (HB.mem lv_0) (pC_6 (HB.kn lv_0 rfl)) rfl (cg_signRowAt l HB (r := r) (by omega)) (cwV 1 X.2.2.2.2 gX6_readPart_X6_signRowAt rfl rfl rfl (by decide +kernel) ⟨Nat.le_of_ble_eq_true rfl, Nat.le_of_ble_eq_true rfl⟩) rfl rfl hl.1 (Nat.le_of_ble_eq_true rfl) dX6_readPart_8 ⟨Nat.zero_le _, Nat.zero_le _⟩ (fun H locs hW => ?_)
  refine lv_astore (lv' := [(5, .ref (ad 3 (T 2 r))), (0, .ref (ad 0 0)), (1, .int (nI (i))), (2, .int (nI (r))), (3, .int (nI (f))), (4, .int (nI (n)))]) X.1 X.2.1 dX6_readPart_11 hl (by decide) rfl (fun ls hl => ?_)
  refine lv_iload_n X.1 X.2.1 dX6_readPart_13 rfl (lv_at hl 4 rfl) ?_
  refine lv_iload X.1 X.2.1 dX6_readPart_14 (lv_at hl 5 rfl) ?_
  refine lv_aload X.1 X.2.1 dX6_readPart_16 (lv_at hl 0 rfl) ?_
  refine cg_3_signs X hin3 hW (hsr.1) (hsr.2.1) (hsr.2.2.1) (X.2.2.2.2 (.fieldLink RX6 60 "Strandbook$SignRow" "signs" "[C") (List.mem_cons_of_mem _ (List.mem_append_left _ (List.mem_append_left _ (List.mem_append_left _ (List.mem_append_left _ (List.mem_append_left _ (List.mem_append_left _ (List.mem_append_left _ (List.mem_append_left _ (List.mem_append_left _ (List.mem_of_getElem? (i := 2) rfl)))))))))))) dX6_readPart_18 ?_
  refine cln_8 X hW (hsr.2.2.2.1) (hsr.2.2.2.2.1) (hsr.2.2.2.2.2.1) dX6_readPart_21 ?_
  refine cSv X hW (cg_requirePlaces l (f := f) (j := n) (n := T 1 (T 2 r)) (by omega) (by omega)) (va_cwS 3 X.2.2.2.2 gX6_readPart_X6_requirePlaces rfl rfl rfl (by decide +kernel) ⟨Nat.le_of_ble_eq_true rfl, Nat.le_of_ble_eq_true rfl⟩) rfl rfl hl.1 (Nat.le_of_ble_eq_true rfl) dX6_readPart_22 ⟨Nat.zero_le _, Nat.zero_le _⟩ (fun H locs hW => ?_)
  refine lv_iload X.1 X.2.1 dX6_readPart_25 (lv_at hl 5 rfl) ?_
  refine cSv X hW (cg_requireSome l (n := n) (by omega) (by omega)) (va_cwS 1 X.2.2.2.2 gX6_readPart_X6_requireSome rfl rfl rfl (by decide +kernel) ⟨Nat.le_of_ble_eq_true rfl, Nat.le_of_ble_eq_true rfl⟩) rfl rfl hl.1 (Nat.le_of_ble_eq_true rfl) dX6_readPart_27 ⟨Nat.zero_le _, Nat.zero_le _⟩ (fun H locs hW => ?_)
  refine lv_aload_n X.1 X.2.1 dX6_readPart_30 rfl (lv_at hl 1 rfl) ?_
  refine lv_iload_n X.1 X.2.1 dX6_readPart_31 rfl (lv_at hl 2 rfl) ?_
  refine cVr X hW (HB.mem lv_0) (pC_6 (HB.kn lv_0 rfl)) rfl (cg_openReaderAt l HB (i := i) hi h8) (cwV 1 X.2.2.2.2 gX6_readPart_X6_openReaderAt rfl rfl rfl (by decide +kernel) ⟨Nat.le_of_ble_eq_true rfl, Nat.le_of_ble_eq_true rfl⟩) rfl rfl hl.1 (Nat.le_of_ble_eq_true rfl) dX6_readPart_32 ⟨Nat.zero_le _, Nat.zero_le _⟩ (fun H locs hW => ?_)
  refine lv_astore (lv' := [(6, .ref (ad 9 i)), (5, .ref (ad 3 (T 2 r))), (0, .ref (ad 0 0)), (1, .int (nI (i))), (2, .int (nI (r))), (3, .int (nI (f))), (4, .int (nI (n)))]) X.1 X.2.1 dX6_readPart_35 hl (by decide) rfl (fun ls hl => ?_)
  refine lv_aload X.1 X.2.1 dX6_readPart_37 (lv_at hl 0 rfl) ?_
  refine cg_2_row X hin2 hW (hrd.1) (hrd.2.1) (hrd.2.2.1) (X.2.2.2.2 (.fieldLink RX6 164 "Strandbook$SignReader" "row" "LStrandbook$SignRow;") (List.mem_cons_of_mem _ (List.mem_append_left _ (List.mem_append_left _ (List.mem_append_left _ (List.mem_append_left _ (List.mem_append_left _ (List.mem_append_left _ (List.mem_append_left _ (List.mem_append_left _ (List.mem_append_left _ (List.mem_of_getElem? (i := 3) rfl)))))))))))) dX6_readPart_39 ?_
  refine lv_aload X.1 X.2.1 dX6_readPart_42 (lv_at hl 1 rfl) ?_
  refine r_acmp_ne_f (tgt := 57) X.1 X.2.1 dX6_readPart_44 (by decide) (by rw [h4]; rfl) ?_
  exact cTH Y X hW (text := "the row is the very array that is read") (ik := 168) (is := 170) (ic := 172) (by decide +kernel) (List.mem_cons_of_mem _ (List.mem_append_left _ (List.mem_append_left _ (List.mem_append_left _ (List.mem_append_left _ (List.mem_append_left _ (List.mem_append_left _ (List.mem_append_left _ (List.mem_append_left _ (List.mem_append_left _ (List.mem_of_getElem? (i := 0) rfl))))))))))) (List.mem_cons_of_mem _ (List.mem_append_left _ (List.mem_append_left _ (List.mem_append_left _ (List.mem_append_left _ (List.mem_append_left _ (List.mem_append_left _ (List.mem_append_left _ (List.mem_append_left _ (List.mem_append_left _ (List.mem_of_getElem? (i := 1) rfl))))))))))) (by decide +kernel) (fun w h => List.mem_cons_of_mem _ (List.mem_append_left _ (List.mem_append_left _ (List.mem_append_left _ (List.mem_append_left _ (List.mem_append_right _ (h))))))) (by decide +kernel) (by decide +kernel) hl.1 dX6_readPart_47 dX6_readPart_50 dX6_readPart_51 dX6_readPart_53 dX6_readPart_56 (Nat.le_of_ble_eq_true rfl) (Nat.le_of_ble_eq_true rfl) (Nat.le_of_ble_eq_true rfl) (Nat.le_of_ble_eq_true rfl)
