set_option maxHeartbeats 4000000 in
set_option maxRecDepth 100000 in
theorem co_take (l : Launch) {G : va_G} {kT : Nat → ClassId} {L : List Nat} {K : Nat → Nat} {R : pR} {I : pI} {A : mD} {Q : pR} {N : Nat → Nat} {T : mT} {D : mD} {ad : pD} (HB : Rep T D ad L K R I A Q N) {w r : Nat} (hw : w < 3) (hr : r < 4) : cNi l yX6_take wsX6_take ({ frames := 8, cells := 2, slots := 257, locals := 144 } : Room) G kT [.ref (ad 0 0), .int (nI (w)), .int (nI (r))] L K R I A Q N 2 257 [] (nI (T 7 w)) (fun L2 K2 R2 I2 A2 Q2 N2 => ∃ a b Q1 A1, nwS a b (T 7 w) L K R I A Q N L2 K2 R2 I2 A1 Q1 N2 ∧ Q2 = u2 Q1 (ad 1 0) r (some a) ∧ A2 = cpF A1 b 0 (fun i => A1 (ad 8 w) i) (T 7 w)) := by
  refine cstNi (cc := cX6_take) (maxL := 3) (ret := (some .int)) (by decide) rfl rfl (Nat.le_of_ble_eq_true rfl) (fun p e s m args below meth c Z hE X hni hAO hW ls hl => ?_)
  have X : CallFix p m c cX6_take 3 s args wsX6_take RX6 := X
  have hl : lv_has ls 3 [(0, .ref (ad 0 0)), (1, .int (nI (w))), (2, .int (nI (r)))] := hl
  have hin3 : ∀ w ∈ wsX30, w ∈ wsX6_take := fun w h => List.mem_cons_of_mem _ (List.mem_append_left _ (List.mem_append_left _ (List.mem_append_left _ (List.mem_append_right _ (h)))))
  have hin4 : ∀ w ∈ wsX40, w ∈ wsX6_take := fun w h => List.mem_cons_of_mem _ (List.mem_append_left _ (List.mem_append_left _ (List.mem_append_right _ (h))))
  have hin6 : ∀ w ∈ wsX60, w ∈ wsX6_take := fun w h => List.mem_cons_of_mem _ (List.mem_append_left _ (List.mem_append_left _ (List.mem_append_left _ (List.mem_append_left _ (List.mem_append_right _ (h))))))
  have hwr := HB.wr (show w < 6 by omega)
  refine lv_aload_n X.1 X.2.1 dX6_take_0 rfl (lv_at hl 0 rfl) ?_
  refine lv_aload_n X.1 X.2.1 dX6_take_1 rfl (lv_at hl 0 rfl) ?_
  refine lv_iload_n X.1 X.2.1 dX6_take_2 rfl (lv_at hl 1 rfl) ?_
  refine cVr X hW (HB.mem lv_0) (pC_6 (HB.kn lv_0 rfl)) rfl (cg_textWriterAt l HB (r := w) (by omega)) (cwV 1 X.2.2.2.2 gX6_take_X6_textWriterAt rfl rfl rfl (by decide +kernel) ⟨Nat.le_of_ble_eq_true rfl, Nat.le_of_ble_eq_true rfl⟩) rfl rfl hl.1 (Nat.le_of_ble_eq_true rfl) dX6_take_3 ⟨Nat.zero_le _, Nat.zero_le _⟩ (fun H locs hW => ?_)
  refine lv_iload_n X.1 X.2.1 dX6_take_6 rfl (lv_at hl 2 rfl) ?_
  refine cVNi (cs := []) (HB.mem lv_0) (pC_6 (HB.kn lv_0 rfl)) rfl X hW (fun C h => absurd h List.not_mem_nil) (cg_takeInto l HB (w := w) (by omega) hr) (cwV 2 X.2.2.2.2 gX6_take_X6_takeInto rfl rfl rfl (by decide +kernel) ⟨Nat.le_of_ble_eq_true rfl, Nat.le_of_ble_eq_true rfl⟩) rfl rfl hl.1 (Nat.le_of_ble_eq_true rfl) dX6_take_7 ⟨(show _ ≤ 2 by omega), (show _ ≤ 257 by omega)⟩ (fun L1 K1 R1 I1 A1 Q1 N1 H locs hW hF1 => ?_)
  exact hE _ _ _ _ _ _ _ _ _ _ _ _ _ _ (rfl) (show _ ≤ 2 by omega) (show _ ≤ 257 by omega) hW (hF1) dX6_take_10
set_option maxHeartbeats 4000000 in
set_option maxRecDepth 100000 in
theorem co_arrayTake (l : Launch) {G : va_G} {kT : Nat → ClassId} {L : List Nat} {K : Nat → Nat} {R : pR} {I : pI} {A : mD} {Q : pR} {N : Nat → Nat} {T : mT} {D : mD} {ad : pD} (HB : Rep T D ad L K R I A Q N) {w r : Nat} (hw : w < 3) (hr : r < 4) : cNi l yX6_arrayTake wsX6_arrayTake ({ frames := 8, cells := 2, slots := 257, locals := 144 } : Room) G kT [.ref (ad 0 0), .int (nI (w)), .int (nI (r))] L K R I A Q N 2 257 [] (nI (T 7 (3 + w))) (fun L2 K2 R2 I2 A2 Q2 N2 => ∃ a b Q1 A1, nwS a b (T 7 (3 + w)) L K R I A Q N L2 K2 R2 I2 A1 Q1 N2 ∧ Q2 = u2 Q1 (ad 1 0) r (some a) ∧ A2 = cpF A1 b 0 (fun i => A1 (ad 8 (3 + w)) i) (T 7 (3 + w))) := by
  refine cstNi (cc := cX6_arrayTake) (maxL := 3) (ret := (some .int)) (by decide) rfl rfl (Nat.le_of_ble_eq_true rfl) (fun p e s m args below meth c Z hE X hni hAO hW ls hl => ?_)
  have X : CallFix p m c cX6_arrayTake 3 s args wsX6_arrayTake RX6 := X
  have hl : lv_has ls 3 [(0, .ref (ad 0 0)), (1, .int (nI (w))), (2, .int (nI (r)))] := hl
  have hin3 : ∀ w ∈ wsX30, w ∈ wsX6_arrayTake := fun w h => List.mem_cons_of_mem _ (List.mem_append_left _ (List.mem_append_left _ (List.mem_append_left _ (List.mem_append_right _ (h)))))
  have hin4 : ∀ w ∈ wsX40, w ∈ wsX6_arrayTake := fun w h => List.mem_cons_of_mem _ (List.mem_append_left _ (List.mem_append_left _ (List.mem_append_right _ (h))))
  have hin6 : ∀ w ∈ wsX60, w ∈ wsX6_arrayTake := fun w h => List.mem_cons_of_mem _ (List.mem_append_left _ (List.mem_append_left _ (List.mem_append_left _ (List.mem_append_left _ (List.mem_append_right _ (h))))))
  have hwr := HB.wr (show 3 + w < 6 by omega)
  refine lv_aload_n X.1 X.2.1 dX6_arrayTake_0 rfl (lv_at hl 0 rfl) ?_
  refine lv_aload_n X.1 X.2.1 dX6_arrayTake_1 rfl (lv_at hl 0 rfl) ?_
  refine lv_iload_n X.1 X.2.1 dX6_arrayTake_2 rfl (lv_at hl 1 rfl) ?_
  refine cVr X hW (HB.mem lv_0) (pC_6 (HB.kn lv_0 rfl)) rfl (cg_arrayWriterAt l HB (r := w) (by omega)) (cwV 1 X.2.2.2.2 gX6_arrayTake_X6_arrayWriterAt rfl rfl rfl (by decide +kernel) ⟨Nat.le_of_ble_eq_true rfl, Nat.le_of_ble_eq_true rfl⟩) rfl rfl hl.1 (Nat.le_of_ble_eq_true rfl) dX6_arrayTake_3 ⟨Nat.zero_le _, Nat.zero_le _⟩ (fun H locs hW => ?_)
  refine lv_iload_n X.1 X.2.1 dX6_arrayTake_6 rfl (lv_at hl 2 rfl) ?_
  refine cVNi (cs := []) (HB.mem lv_0) (pC_6 (HB.kn lv_0 rfl)) rfl X hW (fun C h => absurd h List.not_mem_nil) (cg_takeInto l HB (w := 3 + w) (by omega) hr) (cwV 2 X.2.2.2.2 gX6_arrayTake_X6_takeInto rfl rfl rfl (by decide +kernel) ⟨Nat.le_of_ble_eq_true rfl, Nat.le_of_ble_eq_true rfl⟩) rfl rfl hl.1 (Nat.le_of_ble_eq_true rfl) dX6_arrayTake_7 ⟨(show _ ≤ 2 by omega), (show _ ≤ 257 by omega)⟩ (fun L1 K1 R1 I1 A1 Q1 N1 H locs hW hF1 => ?_)
  exact hE _ _ _ _ _ _ _ _ _ _ _ _ _ _ (rfl) (show _ ≤ 2 by omega) (show _ ≤ 257 by omega) hW (hF1) dX6_arrayTake_10
