set_option maxHeartbeats 4000000 in
set_option maxRecDepth 100000 in
theorem cb_read_b (l : Launch) {G : va_G} {kT : Nat → ClassId} {L : List Nat} {K : Nat → Nat} {R : pR} {I : pI} {A : mD} {Q : pR} {N : Nat → Nat} (hst : l.stackTraces = false) {T : mT} {D : mD} {ad : pD} (HB : Rep T D ad L K R I A Q N) {i : Nat} (hi : i < 3) (h : clo T i) : cMt l yX6_read wsX6_read ({ frames := 8, cells := 1, slots := 6, locals := 143 } : Room) G kT [.ref (ad 0 0), .int (nI (i))] L K R I A Q N "java/lang/UnsupportedOperationException" := by
  refine cstt (cc := cX6_read) (maxL := 2) (ret := (some .int)) hst (by decide) rfl (Nat.le_of_ble_eq_true rfl) (fun p e s m args below meth c Z Y X hW ls hl => ?_)
  have X : CallFix p m c cX6_read 2 s args wsX6_read RX6 := X
  have hl : lv_has ls 2 [(0, .ref (ad 0 0)), (1, .int (nI (i)))] := hl
  have hin2 : ∀ w ∈ wsX20, w ∈ wsX6_read := fun w h => List.mem_cons_of_mem _ (List.mem_append_left _ (List.mem_append_left _ (List.mem_append_left _ (List.mem_append_left _ (List.mem_append_left _ (List.mem_append_right _ (h)))))))
  have hin3 : ∀ w ∈ wsX30, w ∈ wsX6_read := fun w h => List.mem_cons_of_mem _ (List.mem_append_left _ (List.mem_append_left _ (List.mem_append_left _ (List.mem_append_right _ (h)))))
  have hin6 : ∀ w ∈ wsX60, w ∈ wsX6_read := fun w h => List.mem_cons_of_mem _ (List.mem_append_left _ (List.mem_append_left _ (List.mem_append_left _ (List.mem_append_left _ (List.mem_append_right _ (h))))))
  refine lv_aload_n X.1 X.2.1 dX6_read_0 rfl (lv_at hl 0 rfl) ?_
  refine lv_iload_n X.1 X.2.1 dX6_read_1 rfl (lv_at hl 1 rfl) ?_
  exact cXV Y X hW (HB.mem lv_0) (pC_6 (HB.kn lv_0 rfl)) rfl (cz_openReaderAt l hst HB hi h) (cwV 1 X.2.2.2.2 gX6_read_X6_openReaderAt rfl rfl rfl (by decide +kernel) ⟨Nat.le_of_ble_eq_true rfl, Nat.le_of_ble_eq_true rfl⟩) rfl rfl hl.1 (Nat.le_of_ble_eq_true rfl) dX6_read_2 ⟨Nat.le_of_ble_eq_true rfl, Nat.le_of_ble_eq_true rfl⟩
