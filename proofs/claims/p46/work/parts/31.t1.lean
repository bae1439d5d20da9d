set_option maxHeartbeats 4000000 in
set_option maxRecDepth 100000 in
theorem cz_signRowAt (l : Launch) {G : va_G} {kT : Nat → ClassId} {L : List Nat} {K : Nat → Nat} {R : pR} {I : pI} {A : mD} {Q : pR} {N : Nat → Nat} (hst : l.stackTraces = false) {T : mT} {D : mD} {ad : pD} (HB : Rep T D ad L K R I A Q N) {x : Int32} (h : oN x 4) : cMt l yX6_signRowAt wsX6_signRowAt ({ frames := 6, cells := 1, slots := 6, locals := 100 } : Room) G kT [.ref (ad 0 0), .int (x)] L K R I A Q N "java/lang/IndexOutOfBoundsException" := by
  by_cases h0 : x < 0
  · skip
    refine cstt (cc := cX6_signRowAt) (maxL := 2) (ret := (some (.object "Strandbook$SignRow"))) hst (by decide) rfl (Nat.le_of_ble_eq_true rfl) (fun p e s m args below meth c Z Y X hW ls hl => ?_)
    have X : CallFix p m c cX6_signRowAt 2 s args wsX6_signRowAt RX6 := X
    have hl : lv_has ls 2 [(0, .ref (ad 0 0)), (1, .int (x))] := hl
    have hin6 : ∀ w ∈ wsX60, w ∈ wsX6_signRowAt := fun w h => List.mem_cons_of_mem _ (List.mem_append_left _ (List.mem_append_right _ (h)))
    refine lv_iload_n X.1 X.2.1 dX6_signRowAt_0 rfl (lv_at hl 1 rfl) ?_
    refine x_if_lt_t (tgt := 9) X.1 X.2.1 dX6_signRowAt_1 (by decide) (h0) ?_
    exact cTHw Y X hW (text := "there is no such row of signs") (ik := 260) (is := 262) (ic := 264) (by decide +kernel) (List.mem_cons_of_mem _ (List.mem_append_left _ (List.mem_append_left _ (List.mem_of_getElem? (i := 0) rfl)))) (List.mem_cons_of_mem _ (List.mem_append_left _ (List.mem_append_left _ (List.mem_of_getElem? (i := 1) rfl)))) (by decide +kernel) (fun w h => List.mem_cons_of_mem _ (List.mem_append_right _ (h))) (by decide +kernel) (by decide +kernel) hl.1 dX6_signRowAt_9 dX6_signRowAt_12 dX6_signRowAt_13 dX6_signRowAt_16 dX6_signRowAt_19 (Nat.le_of_ble_eq_true rfl) (Nat.le_of_ble_eq_true rfl) (Nat.le_of_ble_eq_true rfl) (Nat.le_of_ble_eq_true rfl)
  · obtain ⟨j, hj, hn, rfl⟩ := oN_ge h h0
    refine cstt (cc := cX6_signRowAt) (maxL := 2) (ret := (some (.object "Strandbook$SignRow"))) hst (by decide) rfl (Nat.le_of_ble_eq_true rfl) (fun p e s m args below meth c Z Y X hW ls hl => ?_)
    have X : CallFix p m c cX6_signRowAt 2 s args wsX6_signRowAt RX6 := X
    have hl : lv_has ls 2 [(0, .ref (ad 0 0)), (1, .int (nI (j)))] := hl
    have hin6 : ∀ w ∈ wsX60, w ∈ wsX6_signRowAt := fun w h => List.mem_cons_of_mem _ (List.mem_append_left _ (List.mem_append_right _ (h)))
    refine lv_iload_n X.1 X.2.1 dX6_signRowAt_0 rfl (lv_at hl 1 rfl) ?_
    refine n_if_lt_f (tgt := 9) X.1 X.2.1 dX6_signRowAt_1 (by decide) (by omega) ?_
    refine lv_iload_n X.1 X.2.1 dX6_signRowAt_4 rfl (lv_at hl 1 rfl) ?_
    refine lv_iconst (v := nI 4) X.1 X.2.1 dX6_signRowAt_5 (by decide) ?_
    refine n_icmp_lt_f (tgt := 20) X.1 X.2.1 dX6_signRowAt_6 (by decide) (by omega) (by omega) (by omega) ?_
    exact cTHw Y X hW (text := "there is no such row of signs") (ik := 260) (is := 262) (ic := 264) (by decide +kernel) (List.mem_cons_of_mem _ (List.mem_append_left _ (List.mem_append_left _ (List.mem_of_getElem? (i := 0) rfl)))) (List.mem_cons_of_mem _ (List.mem_append_left _ (List.mem_append_left _ (List.mem_of_getElem? (i := 1) rfl)))) (by decide +kernel) (fun w h => List.mem_cons_of_mem _ (List.mem_append_right _ (h))) (by decide +kernel) (by decide +kernel) hl.1 dX6_signRowAt_9 dX6_signRowAt_12 dX6_signRowAt_13 dX6_signRowAt_16 dX6_signRowAt_19 (Nat.le_of_ble_eq_true rfl) (Nat.le_of_ble_eq_true rfl) (Nat.le_of_ble_eq_true rfl) (Nat.le_of_ble_eq_true rfl)
set_option maxHeartbeats 4000000 in
set_option maxRecDepth 100000 in
theorem cz_textWriterAt (l : Launch) {G : va_G} {kT : Nat → ClassId} {L : List Nat} {K : Nat → Nat} {R : pR} {I : pI} {A : mD} {Q : pR} {N : Nat → Nat} (hst : l.stackTraces = false) {T : mT} {D : mD} {ad : pD} (HB : Rep T D ad L K R I A Q N) {x : Int32} (h : oN x 3) : cMt l yX6_textWriterAt wsX6_textWriterAt ({ frames := 6, cells := 1, slots := 6, locals := 100 } : Room) G kT [.ref (ad 0 0), .int (x)] L K R I A Q N "java/lang/IndexOutOfBoundsException" := by
  by_cases h0 : x < 0
  · skip
    refine cstt (cc := cX6_textWriterAt) (maxL := 2) (ret := (some (.object "Strandbook$SignWriter"))) hst (by decide) rfl (Nat.le_of_ble_eq_true rfl) (fun p e s m args below meth c Z Y X hW ls hl => ?_)
    have X : CallFix p m c cX6_textWriterAt 2 s args wsX6_textWriterAt RX6 := X
    have hl : lv_has ls 2 [(0, .ref (ad 0 0)), (1, .int (x))] := hl
    have hin6 : ∀ w ∈ wsX60, w ∈ wsX6_textWriterAt := fun w h => List.mem_cons_of_mem _ (List.mem_append_left _ (List.mem_append_right _ (h)))
    refine lv_iload_n X.1 X.2.1 dX6_textWriterAt_0 rfl (lv_at hl 1 rfl) ?_
    refine x_if_lt_t (tgt := 9) X.1 X.2.1 dX6_textWriterAt_1 (by decide) (h0) ?_
    exact cTHw Y X hW (text := "there is no such text writer") (ik := 260) (is := 267) (ic := 264) (by decide +kernel) (List.mem_cons_of_mem _ (List.mem_append_left _ (List.mem_append_left _ (List.mem_of_getElem? (i := 0) rfl)))) (List.mem_cons_of_mem _ (List.mem_append_left _ (List.mem_append_left _ (List.mem_of_getElem? (i := 1) rfl)))) (by decide +kernel) (fun w h => List.mem_cons_of_mem _ (List.mem_append_right _ (h))) (by decide +kernel) (by decide +kernel) hl.1 dX6_textWriterAt_9 dX6_textWriterAt_12 dX6_textWriterAt_13 dX6_textWriterAt_16 dX6_textWriterAt_19 (Nat.le_of_ble_eq_true rfl) (Nat.le_of_ble_eq_true rfl) (Nat.le_of_ble_eq_true rfl) (Nat.le_of_ble_eq_true rfl)
  · obtain ⟨j, hj, hn, rfl⟩ := oN_ge h h0
    refine cstt (cc := cX6_textWriterAt) (maxL := 2) (ret := (some (.object "Strandbook$SignWriter"))) hst (by decide) rfl (Nat.le_of_ble_eq_true rfl) (fun p e s m args below meth c Z Y X hW ls hl => ?_)
    have X : CallFix p m c cX6_textWriterAt 2 s args wsX6_textWriterAt RX6 := X
    have hl : lv_has ls 2 [(0, .ref (ad 0 0)), (1, .int (nI (j)))] := hl
    have hin6 : ∀ w ∈ wsX60, w ∈ wsX6_textWriterAt := fun w h => List.mem_cons_of_mem _ (List.mem_append_left _ (List.mem_append_right _ (h)))
    refine lv_iload_n X.1 X.2.1 dX6_textWriterAt_0 rfl (lv_at hl 1 rfl) ?_
    refine n_if_lt_f (tgt := 9) X.1 X.2.1 dX6_textWriterAt_1 (by decide) (by omega) ?_
    refine lv_iload_n X.1 X.2.1 dX6_textWriterAt_4 rfl (lv_at hl 1 rfl) ?_
    refine lv_iconst (v := nI 3) X.1 X.2.1 dX6_textWriterAt_5 (by decide) ?_
    refine n_icmp_lt_f (tgt := 20) X.1 X.2.1 dX6_textWriterAt_6 (by decide) (by omega) (by omega) (by omega) ?_
    exact cTHw Y X hW (text := "there is no such text writer") (ik := 260) (is := 267) (ic := 264) (by decide +kernel) (List.mem_cons_of_mem _ (List.mem_append_left _ (List.mem_append_left _ (List.mem_of_getElem? (i := 0) rfl)))) (List.mem_cons_of_mem _ (List.mem_append_left _ (List.mem_append_left _ (List.mem_of_getElem? (i := 1) rfl)))) (by decide +kernel) (fun w h => List.mem_cons_of_mem _ (List.mem_append_right _ (h))) (by decide +kernel) (by decide +kernel) hl.1 dX6_textWriterAt_9 dX6_textWriterAt_12 dX6_textWriterAt_13 dX6_textWriterAt_16 dX6_textWriterAt_19 (Nat.le_of_ble_eq_true rfl) (Nat.le_of_ble_eq_true rfl) (Nat.le_of_ble_eq_true rfl) (Nat.le_of_ble_eq_true rfl)
set_option maxHeartbeats 4000000 in
set_option maxRecDepth 100000 in
theorem cz_arrayWriterAt (l : Launch) {G : va_G} {kT : Nat → ClassId} {L : List Nat} {K : Nat → Nat} {R : pR} {I : pI} {A : mD} {Q : pR} {N : Nat → Nat} (hst : l.stackTraces = false) {T : mT} {D : mD} {ad : pD} (HB : Rep T D ad L K R I A Q N) {x : Int32} (h : oN x 3) : cMt l yX6_arrayWriterAt wsX6_arrayWriterAt ({ frames := 6, cells := 1, slots := 6, locals := 100 } : Room) G kT [.ref (ad 0 0), .int (x)] L K R I A Q N "java/lang/IndexOutOfBoundsException" := by
  by_cases h0 : x < 0
  · skip
    refine cstt (cc := cX6_arrayWriterAt) (maxL := 2) (ret := (some (.object "Strandbook$SignWriter"))) hst (by decide) rfl (Nat.le_of_ble_eq_true rfl) (fun p e s m args below meth c Z Y X hW ls hl => ?_)
    have X : CallFix p m c cX6_arrayWriterAt 2 s args wsX6_arrayWriterAt RX6 := X
    have hl : lv_has ls 2 [(0, .ref (ad 0 0)), (1, .int (x))] := hl
    have hin6 : ∀ w ∈ wsX60, w ∈ wsX6_arrayWriterAt := fun w h => List.mem_cons_of_mem _ (List.mem_append_left _ (List.mem_append_right _ (h)))
    refine lv_iload_n X.1 X.2.1 dX6_arrayWriterAt_0 rfl (lv_at hl 1 rfl) ?_
    refine x_if_lt_t (tgt := 9) X.1 X.2.1 dX6_arrayWriterAt_1 (by decide) (h0) ?_
    exact cTHw Y X hW (text := "there is no such array writer") (ik := 260) (is := 269) (ic := 264) (by decide +kernel) (List.mem_cons_of_mem _ (List.mem_append_left _ (List.mem_append_left _ (List.mem_of_getElem? (i := 0) rfl)))) (List.mem_cons_of_mem _ (List.mem_append_left _ (List.mem_append_left _ (List.mem_of_getElem? (i := 1) rfl)))) (by decide +kernel) (fun w h => List.mem_cons_of_mem _ (List.mem_append_right _ (h))) (by decide +kernel) (by decide +kernel) hl.1 dX6_arrayWriterAt_9 dX6_arrayWriterAt_12 dX6_arrayWriterAt_13 dX6_arrayWriterAt_16 dX6_arrayWriterAt_19 (Nat.le_of_ble_eq_true rfl) (Nat.le_of_ble_eq_true rfl) (Nat.le_of_ble_eq_true rfl) (Nat.le_of_ble_eq_true rfl)
  · obtain ⟨j, hj, hn, rfl⟩ := oN_ge h h0
    refine cstt (cc := cX6_arrayWriterAt) (maxL := 2) (ret := (some (.object "Strandbook$SignWriter"))) hst (by decide) rfl (Nat.le_of_ble_eq_true rfl) (fun p e s m args below meth c Z Y X hW ls hl => ?_)
    have X : CallFix p m c cX6_arrayWriterAt 2 s args wsX6_arrayWriterAt RX6 := X
    have hl : lv_has ls 2 [(0, .ref (ad 0 0)), (1, .int (nI (j)))] := hl
    have hin6 : ∀ w ∈ wsX60, w ∈ wsX6_arrayWriterAt := fun w h => List.mem_cons_of_mem _ (List.mem_append_left _ (List.mem_append_right _ (h)))
    refine lv_iload_n X.1 X.2.1 dX6_arrayWriterAt_0 rfl (lv_at hl 1 rfl) ?_
    refine n_if_lt_f (tgt := 9) X.1 X.2.1 dX6_arrayWriterAt_1 (by decide) (by omega) ?_
    refine lv_iload_n X.1 X.2.1 dX6_arrayWriterAt_4 rfl (lv_at hl 1 rfl) ?_
    refine lv_iconst (v := nI 3) X.1 X.2.1 dX6_arrayWriterAt_5 (by decide) ?_
    refine n_icmp_lt_f (tgt := 20) X.1 X.2.1 dX6_arrayWriterAt_6 (by decide) (by omega) (by omega) (by omega) ?_
    exact cTHw Y X hW (text := "there is no such array writer") (ik := 260) (is := 269) (ic := 264) (by decide +kernel) (List.mem_cons_of_mem _ (List.mem_append_left _ (List.mem_append_left _ (List.mem_of_getElem? (i := 0) rfl)))) (List.mem_cons_of_mem _ (List.mem_append_left _ (List.mem_append_left _ (List.mem_of_getElem? (i := 1) rfl)))) (by decide +kernel) (fun w h => List.mem_cons_of_mem _ (List.mem_append_right _ (h))) (by decide +kernel) (by decide +kernel) hl.1 dX6_arrayWriterAt_9 dX6_arrayWriterAt_12 dX6_arrayWriterAt_13 dX6_arrayWriterAt_16 dX6_arrayWriterAt_19 (Nat.le_of_ble_eq_true rfl) (Nat.le_of_ble_eq_true rfl) (Nat.le_of_ble_eq_true rfl) (Nat.le_of_ble_eq_true rfl)
set_option maxHeartbeats 4000000 in
set_option maxRecDepth 100000 in
theorem cz_readerAt (l : Launch) {G : va_G} {kT : Nat → ClassId} {L : List Nat} {K : Nat → Nat} {R : pR} {I : pI} {A : mD} {Q : pR} {N : Nat → Nat} (hst : l.stackTraces = false) {T : mT} {D : mD} {ad : pD} (HB : Rep T D ad L K R I A Q N) {x : Int32} (h : oN x 3) : cMt l yX6_readerAt wsX6_readerAt ({ frames := 6, cells := 1, slots := 6, locals := 100 } : Room) G kT [.ref (ad 0 0), .int (x)] L K R I A Q N "java/lang/IndexOutOfBoundsException" := by
  by_cases h0 : x < 0
  · skip
    refine cstt (cc := cX6_readerAt) (maxL := 2) (ret := (some (.object "Strandbook$SignReader"))) hst (by decide) rfl (Nat.le_of_ble_eq_true rfl) (fun p e s m args below meth c Z Y X hW ls hl => ?_)
    have X : CallFix p m c cX6_readerAt 2 s args wsX6_readerAt RX6 := X
    have hl : lv_has ls 2 [(0, .ref (ad 0 0)), (1, .int (x))] := hl
    have hin6 : ∀ w ∈ wsX60, w ∈ wsX6_readerAt := fun w h => List.mem_cons_of_mem _ (List.mem_append_left _ (List.mem_append_right _ (h)))
    refine lv_iload_n X.1 X.2.1 dX6_readerAt_0 rfl (lv_at hl 1 rfl) ?_
    refine x_if_lt_t (tgt := 9) X.1 X.2.1 dX6_readerAt_1 (by decide) (h0) ?_
    exact cTHw Y X hW (text := "there is no such reader") (ik := 260) (is := 271) (ic := 264) (by decide +kernel) (List.mem_cons_of_mem _ (List.mem_append_left _ (List.mem_append_left _ (List.mem_of_getElem? (i := 0) rfl)))) (List.mem_cons_of_mem _ (List.mem_append_left _ (List.mem_append_left _ (List.mem_of_getElem? (i := 1) rfl)))) (by decide +kernel) (fun w h => List.mem_cons_of_mem _ (List.mem_append_right _ (h))) (by decide +kernel) (by decide +kernel) hl.1 dX6_readerAt_9 dX6_readerAt_12 dX6_readerAt_13 dX6_readerAt_16 dX6_readerAt_19 (Nat.le_of_ble_eq_true rfl) (Nat.le_of_ble_eq_true rfl) (Nat.le_of_ble_eq_true rfl) (Nat.le_of_ble_eq_true rfl)
  · obtain ⟨j, hj, hn, rfl⟩ := oN_ge h h0
    refine cstt (cc := cX6_readerAt) (maxL := 2) (ret := (some (.object "Strandbook$SignReader"))) hst (by decide) rfl (Nat.le_of_ble_eq_true rfl) (fun p e s m args below meth c Z Y X hW ls hl => ?_)
    have X : CallFix p m c cX6_readerAt 2 s args wsX6_readerAt RX6 := X
    have hl : lv_has ls 2 [(0, .ref (ad 0 0)), (1, .int (nI (j)))] := hl
    have hin6 : ∀ w ∈ wsX60, w ∈ wsX6_readerAt := fun w h => List.mem_cons_of_mem _ (List.mem_append_left _ (List.mem_append_right _ (h)))
    refine lv_iload_n X.1 X.2.1 dX6_readerAt_0 rfl (lv_at hl 1 rfl) ?_
    refine n_if_lt_f (tgt := 9) X.1 X.2.1 dX6_readerAt_1 (by decide) (by omega) ?_
    refine lv_iload_n X.1 X.2.1 dX6_readerAt_4 rfl (lv_at hl 1 rfl) ?_
    refine lv_iconst (v := nI 3) X.1 X.2.1 dX6_readerAt_5 (by decide) ?_
    refine n_icmp_lt_f (tgt := 20) X.1 X.2.1 dX6_readerAt_6 (by decide) (by omega) (by omega) (by omega) ?_
    exact cTHw Y X hW (text := "there is no such reader") (ik := 260) (is := 271) (ic := 264) (by decide +kernel) (List.mem_cons_of_mem _ (List.mem_append_left _ (List.mem_append_left _ (List.mem_of_getElem? (i := 0) rfl)))) (List.mem_cons_of_mem _ (List.mem_append_left _ (List.mem_append_left _ (List.mem_of_getElem? (i := 1) rfl)))) (by decide +kernel) (fun w h => List.mem_cons_of_mem _ (List.mem_append_right _ (h))) (by decide +kernel) (by decide +kernel) hl.1 dX6_readerAt_9 dX6_readerAt_12 dX6_readerAt_13 dX6_readerAt_16 dX6_readerAt_19 (Nat.le_of_ble_eq_true rfl) (Nat.le_of_ble_eq_true rfl) (Nat.le_of_ble_eq_true rfl) (Nat.le_of_ble_eq_true rfl)
set_option maxHeartbeats 4000000 in
set_option maxRecDepth 100000 in
theorem cz_requirePlace (l : Launch) {G : va_G} {kT : Nat → ClassId} {L : List Nat} {K : Nat → Nat} {R : pR} {I : pI} {A : mD} {Q : pR} {N : Nat → Nat} (hst : l.stackTraces = false) {x : Int32} {n : Nat} (hn2 : n < 2 ^ 31) (h : oN x n) : cMt l yX6_requirePlace wsX6_requirePlace ({ frames := 6, cells := 1, slots := 6, locals := 100 } : Room) G kT [.int (x), .int (nI (n))] L K R I A Q N "java/lang/IndexOutOfBoundsException" := by
  by_cases h0 : x < 0
  · skip
    refine cstt (cc := cX6_requirePlace) (maxL := 2) (ret := none) hst (by decide) rfl (Nat.le_of_ble_eq_true rfl) (fun p e s m args below meth c Z Y X hW ls hl => ?_)
    have X : CallFix p m c cX6_requirePlace 2 s args wsX6_requirePlace RX6 := X
    have hl : lv_has ls 2 [(0, .int (x)), (1, .int (nI (n)))] := hl
    refine lv_iload_n X.1 X.2.1 dX6_requirePlace_0 rfl (lv_at hl 0 rfl) ?_
    refine x_if_lt_t (tgt := 9) X.1 X.2.1 dX6_requirePlace_1 (by decide) (h0) ?_
    exact cTHw Y X hW (text := "there is no such place") (ik := 260) (is := 279) (ic := 264) (by decide +kernel) (List.mem_cons_of_mem _ (List.mem_append_left _ (List.mem_of_getElem? (i := 0) rfl))) (List.mem_cons_of_mem _ (List.mem_append_left _ (List.mem_of_getElem? (i := 1) rfl))) (by decide +kernel) (fun w h => List.mem_cons_of_mem _ (List.mem_append_right _ (h))) (by decide +kernel) (by decide +kernel) hl.1 dX6_requirePlace_9 dX6_requirePlace_12 dX6_requirePlace_13 dX6_requirePlace_16 dX6_requirePlace_19 (Nat.le_of_ble_eq_true rfl) (Nat.le_of_ble_eq_true rfl) (Nat.le_of_ble_eq_true rfl) (Nat.le_of_ble_eq_true rfl)
  · obtain ⟨j, hj, hn, rfl⟩ := oN_ge h h0
    refine cstt (cc := cX6_requirePlace) (maxL := 2) (ret := none) hst (by decide) rfl (Nat.le_of_ble_eq_true rfl) (fun p e s m args below meth c Z Y X hW ls hl => ?_)
    have X : CallFix p m c cX6_requirePlace 2 s args wsX6_requirePlace RX6 := X
    have hl : lv_has ls 2 [(0, .int (nI (j))), (1, .int (nI (n)))] := hl
    refine lv_iload_n X.1 X.2.1 dX6_requirePlace_0 rfl (lv_at hl 0 rfl) ?_
    refine n_if_lt_f (tgt := 9) X.1 X.2.1 dX6_requirePlace_1 (by decide) (by omega) ?_
    refine lv_iload_n X.1 X.2.1 dX6_requirePlace_4 rfl (lv_at hl 0 rfl) ?_
    refine lv_iload_n X.1 X.2.1 dX6_requirePlace_5 rfl (lv_at hl 1 rfl) ?_
    refine n_icmp_lt_f (tgt := 20) X.1 X.2.1 dX6_requirePlace_6 (by decide) (by omega) (by omega) (by omega) ?_
    exact cTHw Y X hW (text := "there is no such place") (ik := 260) (is := 279) (ic := 264) (by decide +kernel) (List.mem_cons_of_mem _ (List.mem_append_left _ (List.mem_of_getElem? (i := 0) rfl))) (List.mem_cons_of_mem _ (List.mem_append_left _ (List.mem_of_getElem? (i := 1) rfl))) (by decide +kernel) (fun w h => List.mem_cons_of_mem _ (List.mem_append_right _ (h))) (by decide +kernel) (by decide +kernel) hl.1 dX6_requirePlace_9 dX6_requirePlace_12 dX6_requirePlace_13 dX6_requirePlace_16 dX6_requirePlace_19 (Nat.le_of_ble_eq_true rfl) (Nat.le_of_ble_eq_true rfl) (Nat.le_of_ble_eq_true rfl) (Nat.le_of_ble_eq_true rfl)
theorem nN_ex {x : Int32} (h : ¬ x < 0) : ∃ j : Nat, j < 2 ^ 31 ∧ x = nI j := by
  obtain ⟨j, hj, -, e⟩ := oN_ge (x := x) (n := 0) (Or.inr (Nat.zero_le _)) h
  exact ⟨j, hj, e⟩
set_option maxHeartbeats 4000000 in
set_option maxRecDepth 100000 in
theorem cz_places1 (l : Launch) {G : va_G} {kT : Nat → ClassId} {L : List Nat} {K : Nat → Nat} {R : pR} {I : pI} {A : mD} {Q : pR} {N : Nat → Nat} (hst : l.stackTraces = false) {x y : Int32} {k : Nat} (h0 : x < 0) : cMt l yX6_requirePlaces wsX6_requirePlaces ({ frames := 6, cells := 1, slots := 6, locals := 100 } : Room) G kT [.int (x), .int (y), .int (nI (k))] L K R I A Q N "java/lang/IndexOutOfBoundsException" := by
  refine cstt (cc := cX6_requirePlaces) (maxL := 3) (ret := none) hst (by decide) rfl (Nat.le_of_ble_eq_true rfl) (fun p e s m args below meth c Z Y X hW ls hl => ?_)
  have X : CallFix p m c cX6_requirePlaces 3 s args wsX6_requirePlaces RX6 := X
  have hl : lv_has ls 3 [(0, .int (x)), (1, .int (y)), (2, .int (nI (k)))] := hl
  refine lv_iload_n X.1 X.2.1 dX6_requirePlaces_0 rfl (lv_at hl 0 rfl) ?_
  refine x_if_lt_t (tgt := 20) X.1 X.2.1 dX6_requirePlaces_1 (by decide) (h0) ?_
  exact cTHw Y X hW (text := "not all of these places are there") (ik := 260) (is := 281) (ic := 264) (by decide +kernel) (List.mem_cons_of_mem _ (List.mem_append_left _ (List.mem_of_getElem? (i := 0) rfl))) (List.mem_cons_of_mem _ (List.mem_append_left _ (List.mem_of_getElem? (i := 1) rfl))) (by decide +kernel) (fun w h => List.mem_cons_of_mem _ (List.mem_append_right _ (h))) (by decide +kernel) (by decide +kernel) hl.1 dX6_requirePlaces_20 dX6_requirePlaces_23 dX6_requirePlaces_24 dX6_requirePlaces_27 dX6_requirePlaces_30 (Nat.le_of_ble_eq_true rfl) (Nat.le_of_ble_eq_true rfl) (Nat.le_of_ble_eq_true rfl) (Nat.le_of_ble_eq_true rfl)
set_option maxHeartbeats 4000000 in
set_option maxRecDepth 100000 in
theorem cz_places2 (l : Launch) {G : va_G} {kT : Nat → ClassId} {L : List Nat} {K : Nat → Nat} {R : pR} {I : pI} {A : mD} {Q : pR} {N : Nat → Nat} (hst : l.stackTraces = false) {f k : Nat} {y : Int32} (hf : f < 2 ^ 31) (h0 : y < 0) : cMt l yX6_requirePlaces wsX6_requirePlaces ({ frames := 6, cells := 1, slots := 6, locals := 100 } : Room) G kT [.int (nI (f)), .int (y), .int (nI (k))] L K R I A Q N "java/lang/IndexOutOfBoundsException" := by
  refine cstt (cc := cX6_requirePlaces) (maxL := 3) (ret := none) hst (by decide) rfl (Nat.le_of_ble_eq_true rfl) (fun p e s m args below meth c Z Y X hW ls hl => ?_)
  have X : CallFix p m c cX6_requirePlaces 3 s args wsX6_requirePlaces RX6 := X
  have hl : lv_has ls 3 [(0, .int (nI (f))), (1, .int (y)), (2, .int (nI (k)))] := hl
  refine lv_iload_n X.1 X.2.1 dX6_requirePlaces_0 rfl (lv_at hl 0 rfl) ?_
  refine n_if_lt_f (tgt := 20) X.1 X.2.1 dX6_requirePlaces_1 (by decide) (by omega) ?_
  refine lv_iload_n X.1 X.2.1 dX6_requirePlaces_4 rfl (lv_at hl 1 rfl) ?_
  refine x_if_lt_t (tgt := 20) X.1 X.2.1 dX6_requirePlaces_5 (by decide) (h0) ?_
  exact cTHw Y X hW (text := "not all of these places are there") (ik := 260) (is := 281) (ic := 264) (by decide +kernel) (List.mem_cons_of_mem _ (List.mem_append_left _ (List.mem_of_getElem? (i := 0) rfl))) (List.mem_cons_of_mem _ (List.mem_append_left _ (List.mem_of_getElem? (i := 1) rfl))) (by decide +kernel) (fun w h => List.mem_cons_of_mem _ (List.mem_append_right _ (h))) (by decide +kernel) (by decide +kernel) hl.1 dX6_requirePlaces_20 dX6_requirePlaces_23 dX6_requirePlaces_24 dX6_requirePlaces_27 dX6_requirePlaces_30 (Nat.le_of_ble_eq_true rfl) (Nat.le_of_ble_eq_true rfl) (Nat.le_of_ble_eq_true rfl) (Nat.le_of_ble_eq_true rfl)
set_option maxHeartbeats 4000000 in
set_option maxRecDepth 100000 in
theorem cz_places3 (l : Launch) {G : va_G} {kT : Nat → ClassId} {L : List Nat} {K : Nat → Nat} {R : pR} {I : pI} {A : mD} {Q : pR} {N : Nat → Nat} (hst : l.stackTraces = false) {f n k : Nat} (hf : f < 2 ^ 31) (hn : n < 2 ^ 31) (hk : k < 2 ^ 31) (h : k < f) : cMt l yX6_requirePlaces wsX6_requirePlaces ({ frames := 6, cells := 1, slots := 6, locals := 100 } : Room) G kT [.int (nI (f)), .int (nI (n)), .int (nI (k))] L K R I A Q N "java/lang/IndexOutOfBoundsException" := by
  refine cstt (cc := cX6_requirePlaces) (maxL := 3) (ret := none) hst (by decide) rfl (Nat.le_of_ble_eq_true rfl) (fun p e s m args below meth c Z Y X hW ls hl => ?_)
  have X : CallFix p m c cX6_requirePlaces 3 s args wsX6_requirePlaces RX6 := X
  have hl : lv_has ls 3 [(0, .int (nI (f))), (1, .int (nI (n))), (2, .int (nI (k)))] := hl
  refine lv_iload_n X.1 X.2.1 dX6_requirePlaces_0 rfl (lv_at hl 0 rfl) ?_
  refine n_if_lt_f (tgt := 20) X.1 X.2.1 dX6_requirePlaces_1 (by decide) (by omega) ?_
  refine lv_iload_n X.1 X.2.1 dX6_requirePlaces_4 rfl (lv_at hl 1 rfl) ?_
  refine n_if_lt_f (tgt := 20) X.1 X.2.1 dX6_requirePlaces_5 (by decide) (by omega) ?_
  refine lv_iload_n X.1 X.2.1 dX6_requirePlaces_8 rfl (lv_at hl 0 rfl) ?_
  refine lv_iload_n X.1 X.2.1 dX6_requirePlaces_9 rfl (lv_at hl 2 rfl) ?_
  refine n_icmp_gt_t (tgt := 20) X.1 X.2.1 dX6_requirePlaces_10 (by decide) (by omega) (by omega) (by omega) ?_
  exact cTHw Y X hW (text := "not all of these places are there") (ik := 260) (is := 281) (ic := 264) (by decide +kernel) (List.mem_cons_of_mem _ (List.mem_append_left _ (List.mem_of_getElem? (i := 0) rfl))) (List.mem_cons_of_mem _ (List.mem_append_left _ (List.mem_of_getElem? (i := 1) rfl))) (by decide +kernel) (fun w h => List.mem_cons_of_mem _ (List.mem_append_right _ (h))) (by decide +kernel) (by decide +kernel) hl.1 dX6_requirePlaces_20 dX6_requirePlaces_23 dX6_requirePlaces_24 dX6_requirePlaces_27 dX6_requirePlaces_30 (Nat.le_of_ble_eq_true rfl) (Nat.le_of_ble_eq_true rfl) (Nat.le_of_ble_eq_true rfl) (Nat.le_of_ble_eq_true rfl)
set_option maxHeartbeats 4000000 in
set_option maxRecDepth 100000 in
theorem cz_places4 (l : Launch) {G : va_G} {kT : Nat → ClassId} {L : List Nat} {K : Nat → Nat} {R : pR} {I : pI} {A : mD} {Q : pR} {N : Nat → Nat} (hst : l.stackTraces = false) {f n k : Nat} (hf : f < 2 ^ 31) (hn : n < 2 ^ 31) (hk : k < 2 ^ 31) (h : ¬ k < f) (h2 : k < f + n) : cMt l yX6_requirePlaces wsX6_requirePlaces ({ frames := 6, cells := 1, slots := 6, locals := 100 } : Room) G kT [.int (nI (f)), .int (nI (n)), .int (nI (k))] L K R I A Q N "java/lang/IndexOutOfBoundsException" := by
  refine cstt (cc := cX6_requirePlaces) (maxL := 3) (ret := none) hst (by decide) rfl (Nat.le_of_ble_eq_true rfl) (fun p e s m args below meth c Z Y X hW ls hl => ?_)
  have X : CallFix p m c cX6_requirePlaces 3 s args wsX6_requirePlaces RX6 := X
  have hl : lv_has ls 3 [(0, .int (nI (f))), (1, .int (nI (n))), (2, .int (nI (k)))] := hl
  refine lv_iload_n X.1 X.2.1 dX6_requirePlaces_0 rfl (lv_at hl 0 rfl) ?_
  refine n_if_lt_f (tgt := 20) X.1 X.2.1 dX6_requirePlaces_1 (by decide) (by omega) ?_
  refine lv_iload_n X.1 X.2.1 dX6_requirePlaces_4 rfl (lv_at hl 1 rfl) ?_
  refine n_if_lt_f (tgt := 20) X.1 X.2.1 dX6_requirePlaces_5 (by decide) (by omega) ?_
  refine lv_iload_n X.1 X.2.1 dX6_requirePlaces_8 rfl (lv_at hl 0 rfl) ?_
  refine lv_iload_n X.1 X.2.1 dX6_requirePlaces_9 rfl (lv_at hl 2 rfl) ?_
  refine n_icmp_gt_f (tgt := 20) X.1 X.2.1 dX6_requirePlaces_10 (by decide) (by omega) (by omega) (by omega) ?_
  refine lv_iload_n X.1 X.2.1 dX6_requirePlaces_13 rfl (lv_at hl 1 rfl) ?_
  refine lv_iload_n X.1 X.2.1 dX6_requirePlaces_14 rfl (lv_at hl 2 rfl) ?_
  refine lv_iload_n X.1 X.2.1 dX6_requirePlaces_15 rfl (lv_at hl 0 rfl) ?_
  refine n_isub X.1 X.2.1 (by omega) dX6_requirePlaces_16 ?_
  refine n_icmp_le_f (tgt := 31) X.1 X.2.1 dX6_requirePlaces_17 (by decide) (by omega) (by omega) (by omega) ?_
  exact cTHw Y X hW (text := "not all of these places are there") (ik := 260) (is := 281) (ic := 264) (by decide +kernel) (List.mem_cons_of_mem _ (List.mem_append_left _ (List.mem_of_getElem? (i := 0) rfl))) (List.mem_cons_of_mem _ (List.mem_append_left _ (List.mem_of_getElem? (i := 1) rfl))) (by decide +kernel) (fun w h => List.mem_cons_of_mem _ (List.mem_append_right _ (h))) (by decide +kernel) (by decide +kernel) hl.1 dX6_requirePlaces_20 dX6_requirePlaces_23 dX6_requirePlaces_24 dX6_requirePlaces_27 dX6_requirePlaces_30 (Nat.le_of_ble_eq_true rfl) (Nat.le_of_ble_eq_true rfl) (Nat.le_of_ble_eq_true rfl) (Nat.le_of_ble_eq_true rfl)
theorem cz_requirePlaces (l : Launch) {G : va_G} {kT : Nat → ClassId} {L : List Nat} {K : Nat → Nat} {R : pR} {I : pI} {A : mD} {Q : pR} {N : Nat → Nat} (hst : l.stackTraces = false) {x y : Int32} {k : Nat} (hk : k < 2 ^ 31) (h : oP k x y) : cMt l yX6_requirePlaces wsX6_requirePlaces ({ frames := 6, cells := 1, slots := 6, locals := 100 } : Room) G kT [.int x, .int y, .int (nI k)] L K R I A Q N "java/lang/IndexOutOfBoundsException" := by
  by_cases h0 : x < 0
  · exact cz_places1 l hst h0
  · obtain ⟨f, hf, rfl⟩ := nN_ex h0
    by_cases h1 : y < 0
    · exact cz_places2 l hst hf h1
    · obtain ⟨n, hn, rfl⟩ := nN_ex h1
      have h2 : k < f + n := by
        have := (h.resolve_left h0).resolve_left h1
        rw [nI_clamp hf, nI_clamp hn] at this
        exact this
      by_cases h3 : k < f
      · exact cz_places3 l hst hf hn hk h3
      · exact cz_places4 l hst hf hn hk h3 h2
set_option maxHeartbeats 4000000 in
set_option maxRecDepth 100000 in
theorem cz_requireSome (l : Launch) {G : va_G} {kT : Nat → ClassId} {L : List Nat} {K : Nat → Nat} {R : pR} {I : pI} {A : mD} {Q : pR} {N : Nat → Nat} (hst : l.stackTraces = false)  : cMt l yX6_requireSome wsX6_requireSome ({ frames := 6, cells := 1, slots := 6, locals := 100 } : Room) G kT [.int (nI (0))] L K R I A Q N "java/lang/IllegalArgumentException" := by
  refine cstt (cc := cX6_requireSome) (maxL := 1) (ret := none) hst (by decide) rfl (Nat.le_of_ble_eq_true rfl) (fun p e s m args below meth c Z Y X hW ls hl => ?_)
  have X : CallFix p m c cX6_requireSome 1 s args wsX6_requireSome RX6 := X
  have hl : lv_has ls 1 [(0, .int (nI (0)))] := hl
  refine lv_iload_n X.1 X.2.1 dX6_requireSome_0 rfl (lv_at hl 0 rfl) ?_
  refine lv_iconst (v := nI 1) X.1 X.2.1 dX6_requireSome_1 (by decide) ?_
  refine n_icmp_ge_f (tgt := 16) X.1 X.2.1 dX6_requireSome_2 (by decide) (by decide) (by omega) (by omega) ?_
  exact cTHw Y X hW (text := "fewer than 1 are wanted") (ik := 64) (is := 283) (ic := 68) (by decide +kernel) (List.mem_cons_of_mem _ (List.mem_append_left _ (List.mem_of_getElem? (i := 0) rfl))) (List.mem_cons_of_mem _ (List.mem_append_left _ (List.mem_of_getElem? (i := 1) rfl))) (by decide +kernel) (fun w h => List.mem_cons_of_mem _ (List.mem_append_right _ (h))) (by decide +kernel) (by decide +kernel) hl.1 dX6_requireSome_5 dX6_requireSome_8 dX6_requireSome_9 dX6_requireSome_12 dX6_requireSome_15 (Nat.le_of_ble_eq_true rfl) (Nat.le_of_ble_eq_true rfl) (Nat.le_of_ble_eq_true rfl) (Nat.le_of_ble_eq_true rfl)
set_option maxHeartbeats 4000000 in
set_option maxRecDepth 100000 in
theorem cz_requireWanted (l : Launch) {G : va_G} {kT : Nat → ClassId} {L : List Nat} {K : Nat → Nat} {R : pR} {I : pI} {A : mD} {Q : pR} {N : Nat → Nat} (hst : l.stackTraces = false) {lm : Int64} (h : lm < 0 ∨ 1000 < lm) : cMt l yX6_requireWanted wsX6_requireWanted ({ frames := 6, cells := 1, slots := 6, locals := 100 } : Room) G kT [.long (lm)] L K R I A Q N "java/lang/IllegalArgumentException" := by
  by_cases h0 : lm < 0
  · skip
    refine cstt (cc := cX6_requireWanted) (maxL := 2) (ret := none) hst (by decide) rfl (Nat.le_of_ble_eq_true rfl) (fun p e s m args below meth c Z Y X hW ls hl => ?_)
    have X : CallFix p m c cX6_requireWanted 2 s args wsX6_requireWanted RX6 := X
    have hl : lv_has ls 2 [(0, .long (lm))] := hl
    refine lv_lload_n X.1 X.2.1 dX6_requireWanted_0 rfl (lv_at hl 0 rfl) ?_
    refine lv_lconst (v := lN 0) X.1 X.2.1 dX6_requireWanted_1 rfl ?_
    refine W.lcmp X.1 X.2.1 dX6_requireWanted_2 ?_
    refine x_if_lt_t (tgt := 14) X.1 X.2.1 dX6_requireWanted_3 (by decide) ((lg_cmp_lt _ _).mpr h0) ?_
    exact cTHw Y X hW (text := "the number is out of range") (ik := 64) (is := 287) (ic := 68) (by decide +kernel) (List.mem_cons_of_mem _ (List.mem_append_left _ (List.mem_of_getElem? (i := 0) rfl))) (List.mem_cons_of_mem _ (List.mem_append_left _ (List.mem_of_getElem? (i := 1) rfl))) (by decide +kernel) (fun w h => List.mem_cons_of_mem _ (List.mem_append_right _ (h))) (by decide +kernel) (by decide +kernel) hl.1 dX6_requireWanted_14 dX6_requireWanted_17 dX6_requireWanted_18 dX6_requireWanted_21 dX6_requireWanted_24 (Nat.le_of_ble_eq_true rfl) (Nat.le_of_ble_eq_true rfl) (Nat.le_of_ble_eq_true rfl) (Nat.le_of_ble_eq_true rfl)
  · have h1 := h.resolve_left h0
    refine cstt (cc := cX6_requireWanted) (maxL := 2) (ret := none) hst (by decide) rfl (Nat.le_of_ble_eq_true rfl) (fun p e s m args below meth c Z Y X hW ls hl => ?_)
    have X : CallFix p m c cX6_requireWanted 2 s args wsX6_requireWanted RX6 := X
    have hl : lv_has ls 2 [(0, .long (lm))] := hl
    refine lv_lload_n X.1 X.2.1 dX6_requireWanted_0 rfl (lv_at hl 0 rfl) ?_
    refine lv_lconst (v := lN 0) X.1 X.2.1 dX6_requireWanted_1 rfl ?_
    refine W.lcmp X.1 X.2.1 dX6_requireWanted_2 ?_
    refine x_if_lt_f (tgt := 14) X.1 X.2.1 dX6_requireWanted_3 (by decide) (fun z => absurd ((lg_cmp_lt _ _).mp z) h0) ?_
    refine lv_lload_n X.1 X.2.1 dX6_requireWanted_6 rfl (lv_at hl 0 rfl) ?_
    refine lv_ldc2 X.1 X.2.1 X.2.2.2.1 (X.2.2.2.2 (.constantLong RX6 285 (1000)) (List.mem_cons_of_mem _ (List.mem_append_left _ (List.mem_of_getElem? (i := 2) rfl)))) dX6_requireWanted_7 ?_
    refine W.lcmp X.1 X.2.1 dX6_requireWanted_10 ?_
    refine x_if_le_f (tgt := 25) X.1 X.2.1 dX6_requireWanted_11 (by decide) (fun z => absurd ((lg_cmp_le _ _).mp z) (Int64.not_le.mpr h1)) ?_
    exact cTHw Y X hW (text := "the number is out of range") (ik := 64) (is := 287) (ic := 68) (by decide +kernel) (List.mem_cons_of_mem _ (List.mem_append_left _ (List.mem_of_getElem? (i := 0) rfl))) (List.mem_cons_of_mem _ (List.mem_append_left _ (List.mem_of_getElem? (i := 1) rfl))) (by decide +kernel) (fun w h => List.mem_cons_of_mem _ (List.mem_append_right _ (h))) (by decide +kernel) (by decide +kernel) hl.1 dX6_requireWanted_14 dX6_requireWanted_17 dX6_requireWanted_18 dX6_requireWanted_21 dX6_requireWanted_24 (Nat.le_of_ble_eq_true rfl) (Nat.le_of_ble_eq_true rfl) (Nat.le_of_ble_eq_true rfl) (Nat.le_of_ble_eq_true rfl)
set_option maxHeartbeats 4000000 in
set_option maxRecDepth 100000 in
theorem cz_requireRoom (l : Launch) {G : va_G} {kT : Nat → ClassId} {L : List Nat} {K : Nat → Nat} {R : pR} {I : pI} {A : mD} {Q : pR} {N : Nat → Nat} (hst : l.stackTraces = false) {th ar n j : Nat} (hw : isWr L K R I N th ar n) (hj : j < 2 ^ 31) (h : 256 < n + j) : cMt l yX6_requireRoom wsX6_requireRoom ({ frames := 6, cells := 1, slots := 6, locals := 100 } : Room) G kT [.ref (th), .int (nI (j))] L K R I A Q N "java/lang/IllegalStateException" := by
  refine cstt (cc := cX6_requireRoom) (maxL := 2) (ret := none) hst (by decide) rfl (Nat.le_of_ble_eq_true rfl) (fun p e s m args below meth c Z Y X hW ls hl => ?_)
  have X : CallFix p m c cX6_requireRoom 2 s args wsX6_requireRoom RX6 := X
  have hl : lv_has ls 2 [(0, .ref (th)), (1, .int (nI (j)))] := hl
  have hin4 : ∀ w ∈ wsX40, w ∈ wsX6_requireRoom := fun w h => List.mem_cons_of_mem _ (List.mem_append_left _ (List.mem_append_right _ (h)))
  have h9 := hw.2.2.2.2.2.2.2
  refine lv_iload_n X.1 X.2.1 dX6_requireRoom_0 rfl (lv_at hl 1 rfl) ?_
  refine lv_sipush (v := nI 256) X.1 X.2.1 dX6_requireRoom_1 (by decide) ?_
  refine lv_aload_n X.1 X.2.1 dX6_requireRoom_4 rfl (lv_at hl 0 rfl) ?_
  refine cg_4_count X hin4 hW (hw.1) (hw.2.1) (hw.2.2.2.2.2.2.1) (X.2.2.2.2 (.fieldLink RX6 107 "Strandbook$SignWriter" "count" "I") (List.mem_cons_of_mem _ (List.mem_append_left _ (List.mem_append_left _ (List.mem_of_getElem? (i := 2) rfl))))) dX6_requireRoom_5 ?_
  refine n_isub X.1 X.2.1 (by omega) dX6_requireRoom_8 ?_
  refine n_icmp_le_f (tgt := 23) X.1 X.2.1 dX6_requireRoom_9 (by decide) (by omega) (by omega) (by omega) ?_
  exact cTHw Y X hW (text := "the writer would have more than 256 signs") (ik := 168) (is := 289) (ic := 172) (by decide +kernel) (List.mem_cons_of_mem _ (List.mem_append_left _ (List.mem_append_left _ (List.mem_of_getElem? (i := 0) rfl)))) (List.mem_cons_of_mem _ (List.mem_append_left _ (List.mem_append_left _ (List.mem_of_getElem? (i := 1) rfl)))) (by decide +kernel) (fun w h => List.mem_cons_of_mem _ (List.mem_append_right _ (h))) (by decide +kernel) (by decide +kernel) hl.1 dX6_requireRoom_12 dX6_requireRoom_15 dX6_requireRoom_16 dX6_requireRoom_19 dX6_requireRoom_22 (Nat.le_of_ble_eq_true rfl) (Nat.le_of_ble_eq_true rfl) (Nat.le_of_ble_eq_true rfl) (Nat.le_of_ble_eq_true rfl)
set_option maxHeartbeats 4000000 in
set_option maxRecDepth 100000 in
theorem cz_openReaderAt (l : Launch) {G : va_G} {kT : Nat → ClassId} {L : List Nat} {K : Nat → Nat} {R : pR} {I : pI} {A : mD} {Q : pR} {N : Nat → Nat} (hst : l.stackTraces = false) {T : mT} {D : mD} {ad : pD} (HB : Rep T D ad L K R I A Q N) {i : Nat} (hi : i < 3) (h : clo T i) : cMt l yX6_openReaderAt wsX6_openReaderAt ({ frames := 7, cells := 1, slots := 6, locals := 121 } : Room) G kT [.ref (ad 0 0), .int (nI (i))] L K R I A Q N "java/lang/UnsupportedOperationException" := by
  by_cases h8 : T 8 i = 0
  · skip
    refine cstt (cc := cX6_openReaderAt) (maxL := 3) (ret := (some (.object "Strandbook$SignReader"))) hst (by decide) rfl (Nat.le_of_ble_eq_true rfl) (fun p e s m args below meth c Z Y X hW ls hl => ?_)
    have X : CallFix p m c cX6_openReaderAt 3 s args wsX6_openReaderAt RX6 := X
    have hl : lv_has ls 3 [(0, .ref (ad 0 0)), (1, .int (nI (i)))] := hl
    have hin2 : ∀ w ∈ wsX20, w ∈ wsX6_openReaderAt := fun w h => List.mem_cons_of_mem _ (List.mem_append_left _ (List.mem_append_left _ (List.mem_append_left _ (List.mem_append_right _ (h)))))
    have hin6 : ∀ w ∈ wsX60, w ∈ wsX6_openReaderAt := fun w h => List.mem_cons_of_mem _ (List.mem_append_left _ (List.mem_append_left _ (List.mem_append_right _ (h))))
    refine lv_aload_n X.1 X.2.1 dX6_openReaderAt_0 rfl (lv_at hl 0 rfl) ?_
    refine lv_iload_n X.1 X.2.1 dX6_openReaderAt_1 rfl (lv_at hl 1 rfl) ?_
    refine cVr X hW (HB.mem lv_0) (pC_6 (HB.kn lv_0 rfl)) rfl (cg_readerAt l HB (r := i) (by omega)) (cwV 1 X.2.2.2.2 gX6_openReaderAt_X6_readerAt rfl rfl rfl (by decide +kernel) ⟨Nat.le_of_ble_eq_true rfl, Nat.le_of_ble_eq_true rfl⟩) rfl rfl hl.1 (Nat.le_of_ble_eq_true rfl) dX6_openReaderAt_2 ⟨Nat.zero_le _, Nat.zero_le _⟩ (fun H locs hW => ?_)
    refine lv_astore_n (lv' := [(2, .ref (ad 9 i)), (0, .ref (ad 0 0)), (1, .int (nI (i)))]) X.1 X.2.1 dX6_openReaderAt_5 rfl hl (by decide) rfl (fun ls hl => ?_)
    refine lv_aload_n X.1 X.2.1 dX6_openReaderAt_6 rfl (lv_at hl 0 rfl) ?_
    refine cg_2_isThere X hin2 hW (HB.mem (lv_9 (by omega))) (HB.kn (lv_9 (by omega)) rfl) (((HB.rr i hi).1 h8)) (X.2.2.2.2 (.fieldLink RX6 143 "Strandbook$SignReader" "isThere" "Z") (List.mem_cons_of_mem _ (List.mem_append_left _ (List.mem_append_left _ (List.mem_append_left _ (List.mem_append_left _ (List.mem_of_getElem? (i := 2) rfl))))))) dX6_openReaderAt_7 ?_
    refine n_if_eq_t (tgt := 20) X.1 X.2.1 dX6_openReaderAt_10 (by decide) (by decide) (by omega) ?_
    exact cTHw Y X hW (text := "the reader is not there, or was shut") (ik := 147) (is := 273) (ic := 151) (by decide +kernel) (List.mem_cons_of_mem _ (List.mem_append_left _ (List.mem_append_left _ (List.mem_append_left _ (List.mem_append_left _ (List.mem_of_getElem? (i := 0) rfl)))))) (List.mem_cons_of_mem _ (List.mem_append_left _ (List.mem_append_left _ (List.mem_append_left _ (List.mem_append_left _ (List.mem_of_getElem? (i := 1) rfl)))))) (by decide +kernel) (fun w h => List.mem_cons_of_mem _ (List.mem_append_left _ (List.mem_append_right _ (h)))) (by decide +kernel) (by decide +kernel) hl.1 dX6_openReaderAt_20 dX6_openReaderAt_23 dX6_openReaderAt_24 dX6_openReaderAt_27 dX6_openReaderAt_30 (Nat.le_of_ble_eq_true rfl) (Nat.le_of_ble_eq_true rfl) (Nat.le_of_ble_eq_true rfl) (Nat.le_of_ble_eq_true rfl)
  · have h12 := h.resolve_left h8
    have hm9 := HB.mi.rd hi
    refine cstt (cc := cX6_openReaderAt) (maxL := 3) (ret := (some (.object "Strandbook$SignReader"))) hst (by decide) rfl (Nat.le_of_ble_eq_true rfl) (fun p e s m args below meth c Z Y X hW ls hl => ?_)
    have X : CallFix p m c cX6_openReaderAt 3 s args wsX6_openReaderAt RX6 := X
    have hl : lv_has ls 3 [(0, .ref (ad 0 0)), (1, .int (nI (i)))] := hl
    have hin2 : ∀ w ∈ wsX20, w ∈ wsX6_openReaderAt := fun w h => List.mem_cons_of_mem _ (List.mem_append_left _ (List.mem_append_left _ (List.mem_append_left _ (List.mem_append_right _ (h)))))
    have hin6 : ∀ w ∈ wsX60, w ∈ wsX6_openReaderAt := fun w h => List.mem_cons_of_mem _ (List.mem_append_left _ (List.mem_append_left _ (List.mem_append_right _ (h))))
    refine lv_aload_n X.1 X.2.1 dX6_openReaderAt_0 rfl (lv_at hl 0 rfl) ?_
    refine lv_iload_n X.1 X.2.1 dX6_openReaderAt_1 rfl (lv_at hl 1 rfl) ?_
    refine cVr X hW (HB.mem lv_0) (pC_6 (HB.kn lv_0 rfl)) rfl (cg_readerAt l HB (r := i) (by omega)) (cwV 1 X.2.2.2.2 gX6_openReaderAt_X6_readerAt rfl rfl rfl (by decide +kernel) ⟨Nat.le_of_ble_eq_true rfl, Nat.le_of_ble_eq_true rfl⟩) rfl rfl hl.1 (Nat.le_of_ble_eq_true rfl) dX6_openReaderAt_2 ⟨Nat.zero_le _, Nat.zero_le _⟩ (fun H locs hW => ?_)
    refine lv_astore_n (lv' := [(2, .ref (ad 9 i)), (0, .ref (ad 0 0)), (1, .int (nI (i)))]) X.1 X.2.1 dX6_openReaderAt_5 rfl hl (by decide) rfl (fun ls hl => ?_)
    refine lv_aload_n X.1 X.2.1 dX6_openReaderAt_6 rfl (lv_at hl 0 rfl) ?_
    refine cg_2_isThere X hin2 hW (HB.mem (lv_9 (by omega))) (HB.kn (lv_9 (by omega)) rfl) (((HB.rr i hi).2 h8).1) (X.2.2.2.2 (.fieldLink RX6 143 "Strandbook$SignReader" "isThere" "Z") (List.mem_cons_of_mem _ (List.mem_append_left _ (List.mem_append_left _ (List.mem_append_left _ (List.mem_append_left _ (List.mem_of_getElem? (i := 2) rfl))))))) dX6_openReaderAt_7 ?_
    refine n_if_eq_f (tgt := 20) X.1 X.2.1 dX6_openReaderAt_10 (by decide) (by decide) (by omega) ?_
    refine lv_aload_n X.1 X.2.1 dX6_openReaderAt_13 rfl (lv_at hl 0 rfl) ?_
    refine cg_2_isShut X hin2 hW (HB.mem (lv_9 (by omega))) (HB.kn (lv_9 (by omega)) rfl) (((HB.rr i hi).2 h8).2.2.2.2.2) (X.2.2.2.2 (.fieldLink RX6 152 "Strandbook$SignReader" "isShut" "Z") (List.mem_cons_of_mem _ (List.mem_append_left _ (List.mem_append_left _ (List.mem_append_left _ (List.mem_append_left _ (List.mem_of_getElem? (i := 3) rfl))))))) dX6_openReaderAt_14 ?_
    refine n_if_eq_f (tgt := 31) X.1 X.2.1 dX6_openReaderAt_17 (by decide) (h12) (by omega) ?_
    exact cTHw Y X hW (text := "the reader is not there, or was shut") (ik := 147) (is := 273) (ic := 151) (by decide +kernel) (List.mem_cons_of_mem _ (List.mem_append_left _ (List.mem_append_left _ (List.mem_append_left _ (List.mem_append_left _ (List.mem_of_getElem? (i := 0) rfl)))))) (List.mem_cons_of_mem _ (List.mem_append_left _ (List.mem_append_left _ (List.mem_append_left _ (List.mem_append_left _ (List.mem_of_getElem? (i := 1) rfl)))))) (by decide +kernel) (fun w h => List.mem_cons_of_mem _ (List.mem_append_left _ (List.mem_append_right _ (h)))) (by decide +kernel) (by decide +kernel) hl.1 dX6_openReaderAt_20 dX6_openReaderAt_23 dX6_openReaderAt_24 dX6_openReaderAt_27 dX6_openReaderAt_30 (Nat.le_of_ble_eq_true rfl) (Nat.le_of_ble_eq_true rfl) (Nat.le_of_ble_eq_true rfl) (Nat.le_of_ble_eq_true rfl)
set_option maxHeartbeats 4000000 in
set_option maxRecDepth 100000 in
theorem cz_openReaderAt1 (l : Launch) {G : va_G} {kT : Nat → ClassId} {L : List Nat} {K : Nat → Nat} {R : pR} {I : pI} {A : mD} {Q : pR} {N : Nat → Nat} (hst : l.stackTraces = false) {T : mT} {D : mD} {ad : pD} (HB : Rep T D ad L K R I A Q N) {x : Int32} (h : oN x 3) : cMt l yX6_openReaderAt wsX6_openReaderAt ({ frames := 7, cells := 1, slots := 6, locals := 121 } : Room) G kT [.ref (ad 0 0), .int (x)] L K R I A Q N "java/lang/IndexOutOfBoundsException" := by
  refine cstt (cc := cX6_openReaderAt) (maxL := 3) (ret := (some (.object "Strandbook$SignReader"))) hst (by decide) rfl (Nat.le_of_ble_eq_true rfl) (fun p e s m args below meth c Z Y X hW ls hl => ?_)
  have X : CallFix p m c cX6_openReaderAt 3 s args wsX6_openReaderAt RX6 := X
  have hl : lv_has ls 3 [(0, .ref (ad 0 0)), (1, .int (x))] := hl
  have hin2 : ∀ w ∈ wsX20, w ∈ wsX6_openReaderAt := fun w h => List.mem_cons_of_mem _ (List.mem_append_left _ (List.mem_append_left _ (List.mem_append_left _ (List.mem_append_right _ (h)))))
  have hin6 : ∀ w ∈ wsX60, w ∈ wsX6_openReaderAt := fun w h => List.mem_cons_of_mem _ (List.mem_append_left _ (List.mem_append_left _ (List.mem_append_right _ (h))))
  refine lv_aload_n X.1 X.2.1 dX6_openReaderAt_0 rfl (lv_at hl 0 rfl) ?_
  refine lv_iload_n X.1 X.2.1 dX6_openReaderAt_1 rfl (lv_at hl 1 rfl) ?_
  exact cXV Y X hW (HB.mem lv_0) (pC_6 (HB.kn lv_0 rfl)) rfl (cz_readerAt l hst HB h) (cwV 1 X.2.2.2.2 gX6_openReaderAt_X6_readerAt rfl rfl rfl (by decide +kernel) ⟨Nat.le_of_ble_eq_true rfl, Nat.le_of_ble_eq_true rfl⟩) rfl rfl hl.1 (Nat.le_of_ble_eq_true rfl) dX6_openReaderAt_2 ⟨Nat.le_of_ble_eq_true rfl, Nat.le_of_ble_eq_true rfl⟩
