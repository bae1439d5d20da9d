set_option maxHeartbeats 4000000 in
set_option maxRecDepth 100000 in
theorem ww_open_1a (l : Launch) (hst : l.stackTraces = false) {G : va_G} {kT : Nat → ClassId} {a0 o9 : Nat} {T : mT} {D : mD} {i row f n : Int32} (h : oN i 3) : wM l yL_open wsL_open ({ frames := 8, cells := 2, slots := 260, locals := 148 } : Room) G kT a0 o9 [.ref (a0), .int (i), .int (row), .int (f), .int (n), .ref (o9)] T D 1 (T) (D) (oL kT False 0) (oL kT (1 = 0) (((nI 0) : Int32).toInt64)) := by
  refine wstart (cc := cL_open) (maxL := 7) (hh := [(0, 14, 17, 13), (0, 14, 21, 15)]) (by decide) rfl (Nat.le_of_ble_eq_true rfl) (fun ad L K R I A Q N e0 HB h09 ho hP0 p e s m args below meth c Z hE9 X hT hE hW hO ls hl => ?_)
  subst h09
  obtain ⟨f0, rfl, -⟩ := hP0
  have X : CallFix p m c cL_open 7 s args wsL_open RL := X
  have hl : lv_has ls 7 [(0, .ref (ad 0 0)), (1, .int (i)), (2, .int (row)), (3, .int (f)), (4, .int (n)), (5, .ref (o9))] := hl
  refine lv_aload X.1 X.2.1 dL_open_0 (lv_at hl 5 rfl) ?_
  refine lv_iconst (v := nI 0) X.1 X.2.1 dL_open_2 (by decide) ?_
  refine lv_aload_n X.1 X.2.1 dL_open_3 rfl (lv_at hl 0 rfl) ?_
  refine lv_iload_n X.1 X.2.1 dL_open_4 rfl (lv_at hl 1 rfl) ?_
  refine lv_iload_n X.1 X.2.1 dL_open_5 rfl (lv_at hl 2 rfl) ?_
  refine lv_iload_n X.1 X.2.1 dL_open_6 rfl (lv_at hl 3 rfl) ?_
  refine lv_iload X.1 X.2.1 dL_open_7 (lv_at hl 4 rfl) ?_
  refine cCV hE X hW (HB.mem lv_0) (pC_6 (HB.kn lv_0 rfl)) rfl (cb_open_a l hst HB h) (cwV 4 X.2.2.2.2 gL_open_X6_open rfl rfl rfl (by decide +kernel) ⟨Nat.le_of_ble_eq_true rfl, Nat.le_of_ble_eq_true rfl⟩) rfl rfl hl.1 (Nat.le_of_ble_eq_true rfl) dL_open_9 ⟨Nat.le_of_ble_eq_true rfl, Nat.le_of_ble_eq_true rfl⟩ (fun H locs q8 ce hW hsz hk hce hcv hcl => ?_)
  have hO := oK hO ho hk
  refine vx_catch X.2.2.2.1 [] ⟨0, 14, 17, 13⟩ [⟨0, 14, 21, 15⟩] hT (fun z hz => absurd hz List.not_mem_nil) (by decide) (by decide) (X.2.2.2.2 (.classLink RL 13 "java/lang/IndexOutOfBoundsException") (List.mem_cons_of_mem _ (List.mem_append_left _ (List.mem_append_left _ (List.mem_append_left _ (List.mem_append_left _ (List.mem_append_left _ (List.mem_append_left _ (List.mem_append_left _ (List.mem_of_getElem? (i := 0) rfl)))))))))) (va_Nw.use rfl (hE.2.2.1 (.castable "java/lang/IndexOutOfBoundsException" "java/lang/IndexOutOfBoundsException") (by decide +kernel))) hce hcv hcl ?_
  refine lv_astore (lv' := [(6, .ref (q8)), (0, .ref (ad 0 0)), (1, .int (i)), (2, .int (row)), (3, .int (f)), (4, .int (n)), (5, .ref (o9))]) X.1 X.2.1 dL_open_17 hl (by decide) rfl (fun ls hl => ?_)
  refine lv_iconst (v := nI 1) X.1 X.2.1 dL_open_19 (by decide) ?_
  exact hE9 _ _ _ _ _ _ _ ad L K R I A Q N _ rfl (show _ ≤ 2 by decide) (show _ ≤ 260 by decide) hW ho hO ⟨f0, rfl, fun z => absurd z (by decide)⟩ HB rfl dL_open_20

set_option maxHeartbeats 4000000 in
set_option maxRecDepth 100000 in
theorem ww_open (l : Launch) (hst : l.stackTraces = false) {G : va_G} {kT : Nat → ClassId} {a0 o9 : Nat} {T : mT} {D : mD} (I : mI T) {i r f n : Nat} (hi : i < 3) (hr : r < 4) (hf : f ≤ T 1 (T 2 r)) (h : n < 1001) : wM l yL_open wsL_open ({ frames := 8, cells := 2, slots := 260, locals := 148 } : Room) G kT a0 o9 [.ref (a0), .int (nI (i)), .int (nI (r)), .int (nI (f)), .int (nI (n)), .ref (o9)] T D 0 (opT T i r f (min (f + n) (T 1 (T 2 r)))) (D) (oL kT False 0) (oL kT (0 = 0) (((nI (min (f + n) (T 1 (T 2 r)) - f)) : Int32).toInt64)) := by
  refine wstart (cc := cL_open) (maxL := 7) (hh := [(0, 14, 17, 13), (0, 14, 21, 15)]) (by decide) rfl (Nat.le_of_ble_eq_true rfl) (fun ad L K R I A Q N e0 HB h09 ho hP0 p e s m args below meth c Z hE9 X hT hE hW hO ls hl => ?_)
  subst h09
  obtain ⟨f0, rfl, -⟩ := hP0
  have X : CallFix p m c cL_open 7 s args wsL_open RL := X
  have hl : lv_has ls 7 [(0, .ref (ad 0 0)), (1, .int (nI (i))), (2, .int (nI (r))), (3, .int (nI (f))), (4, .int (nI (n))), (5, .ref (o9))] := hl
  have e9 : f + min n (T 1 (T 2 r) - f) = min (f + n) (T 1 (T 2 r)) := by omega
  refine lv_aload X.1 X.2.1 dL_open_0 (lv_at hl 5 rfl) ?_
  refine lv_iconst (v := nI 0) X.1 X.2.1 dL_open_2 (by decide) ?_
  refine lv_aload_n X.1 X.2.1 dL_open_3 rfl (lv_at hl 0 rfl) ?_
  refine lv_iload_n X.1 X.2.1 dL_open_4 rfl (lv_at hl 1 rfl) ?_
  refine lv_iload_n X.1 X.2.1 dL_open_5 rfl (lv_at hl 2 rfl) ?_
  refine lv_iload_n X.1 X.2.1 dL_open_6 rfl (lv_at hl 3 rfl) ?_
  refine lv_iload X.1 X.2.1 dL_open_7 (lv_at hl 4 rfl) ?_
  refine cFi X hW (HB.mem lv_0) (pC_6 (HB.kn lv_0 rfl)) rfl (co_open l HB hi hr hf h) (cwV 4 X.2.2.2.2 gL_open_X6_open rfl rfl rfl (by decide +kernel) ⟨Nat.le_of_ble_eq_true rfl, Nat.le_of_ble_eq_true rfl⟩) rfl rfl hl.1 (Nat.le_of_ble_eq_true rfl) dL_open_9 ⟨Nat.le_of_ble_eq_true rfl, Nat.le_of_ble_eq_true rfl⟩ (fun H locs hW hsz hk => ?_)
  have hO := oK hO ho hk
  refine lv_i2l (v := (nI (f + min n (T 1 (T 2 r) - f) - f)).toInt64) X.1 X.2.1 dL_open_12 rfl ?_
  refine wst X hW hO ho dL_open_13 (fun H locs hW hO => ?_)
  refine lv_goto (tgt := 25) X.1 X.2.1 dL_open_14 (by decide) ?_
  refine lv_iconst (v := nI 0) X.1 X.2.1 dL_open_25 (by decide) ?_
  exact hE9 _ _ _ _ _ _ _ ad L K _ _ _ _ N _ rfl (show _ ≤ 2 by decide) (show _ ≤ 260 by decide) hW ho hO ⟨_, rfl, fun _ => (if_pos rfl).trans (by rw [e9])⟩ (by rw [e9]; exact HB.opened hi hr (by omega) (by omega)) rfl dL_open_26

set_option maxHeartbeats 4000000 in
set_option maxRecDepth 100000 in
theorem ww_open_1b (l : Launch) (hst : l.stackTraces = false) {G : va_G} {kT : Nat → ClassId} {a0 o9 : Nat} {T : mT} {D : mD} {i : Nat} {row f n : Int32} (hi : i < 3) (h : oN row 4) : wM l yL_open wsL_open ({ frames := 8, cells := 2, slots := 260, locals := 148 } : Room) G kT a0 o9 [.ref (a0), .int (nI (i)), .int (row), .int (f), .int (n), .ref (o9)] T D 1 (T) (D) (oL kT False 0) (oL kT (1 = 0) (((nI 0) : Int32).toInt64)) := by
  refine wstart (cc := cL_open) (maxL := 7) (hh := [(0, 14, 17, 13), (0, 14, 21, 15)]) (by decide) rfl (Nat.le_of_ble_eq_true rfl) (fun ad L K R I A Q N e0 HB h09 ho hP0 p e s m args below meth c Z hE9 X hT hE hW hO ls hl => ?_)
  subst h09
  obtain ⟨f0, rfl, -⟩ := hP0
  have X : CallFix p m c cL_open 7 s args wsL_open RL := X
  have hl : lv_has ls 7 [(0, .ref (ad 0 0)), (1, .int (nI (i))), (2, .int (row)), (3, .int (f)), (4, .int (n)), (5, .ref (o9))] := hl
  refine lv_aload X.1 X.2.1 dL_open_0 (lv_at hl 5 rfl) ?_
  refine lv_iconst (v := nI 0) X.1 X.2.1 dL_open_2 (by decide) ?_
  refine lv_aload_n X.1 X.2.1 dL_open_3 rfl (lv_at hl 0 rfl) ?_
  refine lv_iload_n X.1 X.2.1 dL_open_4 rfl (lv_at hl 1 rfl) ?_
  refine lv_iload_n X.1 X.2.1 dL_open_5 rfl (lv_at hl 2 rfl) ?_
  refine lv_iload_n X.1 X.2.1 dL_open_6 rfl (lv_at hl 3 rfl) ?_
  refine lv_iload X.1 X.2.1 dL_open_7 (lv_at hl 4 rfl) ?_
  refine cCV hE X hW (HB.mem lv_0) (pC_6 (HB.kn lv_0 rfl)) rfl (cb_open_b l hst HB hi h) (cwV 4 X.2.2.2.2 gL_open_X6_open rfl rfl rfl (by decide +kernel) ⟨Nat.le_of_ble_eq_true rfl, Nat.le_of_ble_eq_true rfl⟩) rfl rfl hl.1 (Nat.le_of_ble_eq_true rfl) dL_open_9 ⟨Nat.le_of_ble_eq_true rfl, Nat.le_of_ble_eq_true rfl⟩ (fun H locs q8 ce hW hsz hk hce hcv hcl => ?_)
  have hO := oK hO ho hk
  refine vx_catch X.2.2.2.1 [] ⟨0, 14, 17, 13⟩ [⟨0, 14, 21, 15⟩] hT (fun z hz => absurd hz List.not_mem_nil) (by decide) (by decide) (X.2.2.2.2 (.classLink RL 13 "java/lang/IndexOutOfBoundsException") (List.mem_cons_of_mem _ (List.mem_append_left _ (List.mem_append_left _ (List.mem_append_left _ (List.mem_append_left _ (List.mem_append_left _ (List.mem_append_left _ (List.mem_append_left _ (List.mem_of_getElem? (i := 0) rfl)))))))))) (va_Nw.use rfl (hE.2.2.1 (.castable "java/lang/IndexOutOfBoundsException" "java/lang/IndexOutOfBoundsException") (by decide +kernel))) hce hcv hcl ?_
  refine lv_astore (lv' := [(6, .ref (q8)), (0, .ref (ad 0 0)), (1, .int (nI (i))), (2, .int (row)), (3, .int (f)), (4, .int (n)), (5, .ref (o9))]) X.1 X.2.1 dL_open_17 hl (by decide) rfl (fun ls hl => ?_)
  refine lv_iconst (v := nI 1) X.1 X.2.1 dL_open_19 (by decide) ?_
  exact hE9 _ _ _ _ _ _ _ ad L K R I A Q N _ rfl (show _ ≤ 2 by decide) (show _ ≤ 260 by decide) hW ho hO ⟨f0, rfl, fun z => absurd z (by decide)⟩ HB rfl dL_open_20

set_option maxHeartbeats 4000000 in
set_option maxRecDepth 100000 in
theorem ww_open_1c (l : Launch) (hst : l.stackTraces = false) {G : va_G} {kT : Nat → ClassId} {a0 o9 : Nat} {T : mT} {D : mD} (I : mI T) {i r : Nat} {f n : Int32} (hi : i < 3) (hr : r < 4) (h : oP (T 1 (T 2 r)) f (nI 0)) : wM l yL_open wsL_open ({ frames := 8, cells := 2, slots := 260, locals := 148 } : Room) G kT a0 o9 [.ref (a0), .int (nI (i)), .int (nI (r)), .int (f), .int (n), .ref (o9)] T D 1 (T) (D) (oL kT False 0) (oL kT (1 = 0) (((nI 0) : Int32).toInt64)) := by
  refine wstart (cc := cL_open) (maxL := 7) (hh := [(0, 14, 17, 13), (0, 14, 21, 15)]) (by decide) rfl (Nat.le_of_ble_eq_true rfl) (fun ad L K R I A Q N e0 HB h09 ho hP0 p e s m args below meth c Z hE9 X hT hE hW hO ls hl => ?_)
  subst h09
  obtain ⟨f0, rfl, -⟩ := hP0
  have X : CallFix p m c cL_open 7 s args wsL_open RL := X
  have hl : lv_has ls 7 [(0, .ref (ad 0 0)), (1, .int (nI (i))), (2, .int (nI (r))), (3, .int (f)), (4, .int (n)), (5, .ref (o9))] := hl
  refine lv_aload X.1 X.2.1 dL_open_0 (lv_at hl 5 rfl) ?_
  refine lv_iconst (v := nI 0) X.1 X.2.1 dL_open_2 (by decide) ?_
  refine lv_aload_n X.1 X.2.1 dL_open_3 rfl (lv_at hl 0 rfl) ?_
  refine lv_iload_n X.1 X.2.1 dL_open_4 rfl (lv_at hl 1 rfl) ?_
  refine lv_iload_n X.1 X.2.1 dL_open_5 rfl (lv_at hl 2 rfl) ?_
  refine lv_iload_n X.1 X.2.1 dL_open_6 rfl (lv_at hl 3 rfl) ?_
  refine lv_iload X.1 X.2.1 dL_open_7 (lv_at hl 4 rfl) ?_
  refine cCV hE X hW (HB.mem lv_0) (pC_6 (HB.kn lv_0 rfl)) rfl (cb_open_c l hst HB hi hr h) (cwV 4 X.2.2.2.2 gL_open_X6_open rfl rfl rfl (by decide +kernel) ⟨Nat.le_of_ble_eq_true rfl, Nat.le_of_ble_eq_true rfl⟩) rfl rfl hl.1 (Nat.le_of_ble_eq_true rfl) dL_open_9 ⟨Nat.le_of_ble_eq_true rfl, Nat.le_of_ble_eq_true rfl⟩ (fun H locs q8 ce hW hsz hk hce hcv hcl => ?_)
  have hO := oK hO ho hk
  refine vx_catch X.2.2.2.1 [] ⟨0, 14, 17, 13⟩ [⟨0, 14, 21, 15⟩] hT (fun z hz => absurd hz List.not_mem_nil) (by decide) (by decide) (X.2.2.2.2 (.classLink RL 13 "java/lang/IndexOutOfBoundsException") (List.mem_cons_of_mem _ (List.mem_append_left _ (List.mem_append_left _ (List.mem_append_left _ (List.mem_append_left _ (List.mem_append_left _ (List.mem_append_left _ (List.mem_append_left _ (List.mem_of_getElem? (i := 0) rfl)))))))))) (va_Nw.use rfl (hE.2.2.1 (.castable "java/lang/IndexOutOfBoundsException" "java/lang/IndexOutOfBoundsException") (by decide +kernel))) hce hcv hcl ?_
  refine lv_astore (lv' := [(6, .ref (q8)), (0, .ref (ad 0 0)), (1, .int (nI (i))), (2, .int (nI (r))), (3, .int (f)), (4, .int (n)), (5, .ref (o9))]) X.1 X.2.1 dL_open_17 hl (by decide) rfl (fun ls hl => ?_)
  refine lv_iconst (v := nI 1) X.1 X.2.1 dL_open_19 (by decide) ?_
  exact hE9 _ _ _ _ _ _ _ ad L K R I A Q N _ rfl (show _ ≤ 2 by decide) (show _ ≤ 260 by decide) hW ho hO ⟨f0, rfl, fun z => absurd z (by decide)⟩ HB rfl dL_open_20

set_option maxHeartbeats 4000000 in
set_option maxRecDepth 100000 in
theorem ww_open_2a (l : Launch) (hst : l.stackTraces = false) {G : va_G} {kT : Nat → ClassId} {a0 o9 : Nat} {T : mT} {D : mD} (I : mI T) {i r f : Nat} {n : Int32} (hi : i < 3) (hr : r < 4) (hf : f ≤ T 1 (T 2 r)) (h : n < 0) : wM l yL_open wsL_open ({ frames := 8, cells := 2, slots := 260, locals := 148 } : Room) G kT a0 o9 [.ref (a0), .int (nI (i)), .int (nI (r)), .int (nI (f)), .int (n), .ref (o9)] T D 2 (T) (D) (oL kT False 0) (oL kT (2 = 0) (((nI 0) : Int32).toInt64)) := by
  refine wstart (cc := cL_open) (maxL := 7) (hh := [(0, 14, 17, 13), (0, 14, 21, 15)]) (by decide) rfl (Nat.le_of_ble_eq_true rfl) (fun ad L K R I A Q N e0 HB h09 ho hP0 p e s m args below meth c Z hE9 X hT hE hW hO ls hl => ?_)
  subst h09
  obtain ⟨f0, rfl, -⟩ := hP0
  have X : CallFix p m c cL_open 7 s args wsL_open RL := X
  have hl : lv_has ls 7 [(0, .ref (ad 0 0)), (1, .int (nI (i))), (2, .int (nI (r))), (3, .int (nI (f))), (4, .int (n)), (5, .ref (o9))] := hl
  refine lv_aload X.1 X.2.1 dL_open_0 (lv_at hl 5 rfl) ?_
  refine lv_iconst (v := nI 0) X.1 X.2.1 dL_open_2 (by decide) ?_
  refine lv_aload_n X.1 X.2.1 dL_open_3 rfl (lv_at hl 0 rfl) ?_
  refine lv_iload_n X.1 X.2.1 dL_open_4 rfl (lv_at hl 1 rfl) ?_
  refine lv_iload_n X.1 X.2.1 dL_open_5 rfl (lv_at hl 2 rfl) ?_
  refine lv_iload_n X.1 X.2.1 dL_open_6 rfl (lv_at hl 3 rfl) ?_
  refine lv_iload X.1 X.2.1 dL_open_7 (lv_at hl 4 rfl) ?_
  refine cCV hE X hW (HB.mem lv_0) (pC_6 (HB.kn lv_0 rfl)) rfl (cb_open_d l hst HB hi hr hf (Or.inl h)) (cwV 4 X.2.2.2.2 gL_open_X6_open rfl rfl rfl (by decide +kernel) ⟨Nat.le_of_ble_eq_true rfl, Nat.le_of_ble_eq_true rfl⟩) rfl rfl hl.1 (Nat.le_of_ble_eq_true rfl) dL_open_9 ⟨Nat.le_of_ble_eq_true rfl, Nat.le_of_ble_eq_true rfl⟩ (fun H locs q8 ce hW hsz hk hce hcv hcl => ?_)
  have hO := oK hO ho hk
  refine vx_catch X.2.2.2.1 [⟨0, 14, 17, 13⟩] ⟨0, 14, 21, 15⟩ [] hT (List.forall_mem_cons.mpr ⟨Or.inr ⟨by decide, "java/lang/IndexOutOfBoundsException", X.2.2.2.2 (.classLink RL 13 "java/lang/IndexOutOfBoundsException") (List.mem_cons_of_mem _ (List.mem_append_left _ (List.mem_append_left _ (List.mem_append_left _ (List.mem_append_left _ (List.mem_append_left _ (List.mem_append_left _ (List.mem_append_left _ (List.mem_of_getElem? (i := 0) rfl))))))))), hE.2.2.2.2 ("java/lang/IllegalArgumentException", "java/lang/IndexOutOfBoundsException") (by decide +kernel)⟩, (fun z hz => absurd hz List.not_mem_nil)⟩) (by decide) (by decide) (X.2.2.2.2 (.classLink RL 15 "java/lang/IllegalArgumentException") (List.mem_cons_of_mem _ (List.mem_append_left _ (List.mem_append_left _ (List.mem_append_left _ (List.mem_append_left _ (List.mem_append_left _ (List.mem_append_left _ (List.mem_append_left _ (List.mem_of_getElem? (i := 1) rfl)))))))))) (va_Nw.use rfl (hE.2.2.1 (.castable "java/lang/IllegalArgumentException" "java/lang/IllegalArgumentException") (by decide +kernel))) hce hcv hcl ?_
  refine lv_astore (lv' := [(6, .ref (q8)), (0, .ref (ad 0 0)), (1, .int (nI (i))), (2, .int (nI (r))), (3, .int (nI (f))), (4, .int (n)), (5, .ref (o9))]) X.1 X.2.1 dL_open_21 hl (by decide) rfl (fun ls hl => ?_)
  refine lv_iconst (v := nI 2) X.1 X.2.1 dL_open_23 (by decide) ?_
  exact hE9 _ _ _ _ _ _ _ ad L K R I A Q N _ rfl (show _ ≤ 2 by decide) (show _ ≤ 260 by decide) hW ho hO ⟨f0, rfl, fun z => absurd z (by decide)⟩ HB rfl dL_open_24

set_option maxHeartbeats 4000000 in
set_option maxRecDepth 100000 in
theorem ww_open_2b (l : Launch) (hst : l.stackTraces = false) {G : va_G} {kT : Nat → ClassId} {a0 o9 : Nat} {T : mT} {D : mD} (I : mI T) {i r f n : Nat} (hi : i < 3) (hr : r < 4) (hf : f ≤ T 1 (T 2 r)) (hn : n < 2 ^ 31) (h : 1001 ≤ n) : wM l yL_open wsL_open ({ frames := 8, cells := 2, slots := 260, locals := 148 } : Room) G kT a0 o9 [.ref (a0), .int (nI (i)), .int (nI (r)), .int (nI (f)), .int (nI (n)), .ref (o9)] T D 2 (T) (D) (oL kT False 0) (oL kT (2 = 0) (((nI 0) : Int32).toInt64)) := by
  refine wstart (cc := cL_open) (maxL := 7) (hh := [(0, 14, 17, 13), (0, 14, 21, 15)]) (by decide) rfl (Nat.le_of_ble_eq_true rfl) (fun ad L K R I A Q N e0 HB h09 ho hP0 p e s m args below meth c Z hE9 X hT hE hW hO ls hl => ?_)
  subst h09
  obtain ⟨f0, rfl, -⟩ := hP0
  have X : CallFix p m c cL_open 7 s args wsL_open RL := X
  have hl : lv_has ls 7 [(0, .ref (ad 0 0)), (1, .int (nI (i))), (2, .int (nI (r))), (3, .int (nI (f))), (4, .int (nI (n))), (5, .ref (o9))] := hl
  refine lv_aload X.1 X.2.1 dL_open_0 (lv_at hl 5 rfl) ?_
  refine lv_iconst (v := nI 0) X.1 X.2.1 dL_open_2 (by decide) ?_
  refine lv_aload_n X.1 X.2.1 dL_open_3 rfl (lv_at hl 0 rfl) ?_
  refine lv_iload_n X.1 X.2.1 dL_open_4 rfl (lv_at hl 1 rfl) ?_
  refine lv_iload_n X.1 X.2.1 dL_open_5 rfl (lv_at hl 2 rfl) ?_
  refine lv_iload_n X.1 X.2.1 dL_open_6 rfl (lv_at hl 3 rfl) ?_
  refine lv_iload X.1 X.2.1 dL_open_7 (lv_at hl 4 rfl) ?_
  refine cCV hE X hW (HB.mem lv_0) (pC_6 (HB.kn lv_0 rfl)) rfl (cb_open_d l hst HB hi hr hf (Or.inr (by rw [nI_clamp (by omega)]; exact h))) (cwV 4 X.2.2.2.2 gL_open_X6_open rfl rfl rfl (by decide +kernel) ⟨Nat.le_of_ble_eq_true rfl, Nat.le_of_ble_eq_true rfl⟩) rfl rfl hl.1 (Nat.le_of_ble_eq_true rfl) dL_open_9 ⟨Nat.le_of_ble_eq_true rfl, Nat.le_of_ble_eq_true rfl⟩ (fun H locs q8 ce hW hsz hk hce hcv hcl => ?_)
  have hO := oK hO ho hk
  refine vx_catch X.2.2.2.1 [⟨0, 14, 17, 13⟩] ⟨0, 14, 21, 15⟩ [] hT (List.forall_mem_cons.mpr ⟨Or.inr ⟨by decide, "java/lang/IndexOutOfBoundsException", X.2.2.2.2 (.classLink RL 13 "java/lang/IndexOutOfBoundsException") (List.mem_cons_of_mem _ (List.mem_append_left _ (List.mem_append_left _ (List.mem_append_left _ (List.mem_append_left _ (List.mem_append_left _ (List.mem_append_left _ (List.mem_append_left _ (List.mem_of_getElem? (i := 0) rfl))))))))), hE.2.2.2.2 ("java/lang/IllegalArgumentException", "java/lang/IndexOutOfBoundsException") (by decide +kernel)⟩, (fun z hz => absurd hz List.not_mem_nil)⟩) (by decide) (by decide) (X.2.2.2.2 (.classLink RL 15 "java/lang/IllegalArgumentException") (List.mem_cons_of_mem _ (List.mem_append_left _ (List.mem_append_left _ (List.mem_append_left _ (List.mem_append_left _ (List.mem_append_left _ (List.mem_append_left _ (List.mem_append_left _ (List.mem_of_getElem? (i := 1) rfl)))))))))) (va_Nw.use rfl (hE.2.2.1 (.castable "java/lang/IllegalArgumentException" "java/lang/IllegalArgumentException") (by decide +kernel))) hce hcv hcl ?_
  refine lv_astore (lv' := [(6, .ref (q8)), (0, .ref (ad 0 0)), (1, .int (nI (i))), (2, .int (nI (r))), (3, .int (nI (f))), (4, .int (nI (n))), (5, .ref (o9))]) X.1 X.2.1 dL_open_21 hl (by decide) rfl (fun ls hl => ?_)
  refine lv_iconst (v := nI 2) X.1 X.2.1 dL_open_23 (by decide) ?_
  exact hE9 _ _ _ _ _ _ _ ad L K R I A Q N _ rfl (show _ ≤ 2 by decide) (show _ ≤ 260 by decide) hW ho hO ⟨f0, rfl, fun z => absurd z (by decide)⟩ HB rfl dL_open_24

theorem wo_open (l : Launch) (hst : l.stackTraces = false) {G : va_G} {kT : Nat → ClassId} {a0 o9 : Nat} {T : mT} {D : mD} (I : mI T) (J : mJD D) (i row f n : Int32) : wO l yL_open wsL_open ({ frames := 8, cells := 2, slots := 260, locals := 148 } : Room) G kT a0 o9 [.ref a0, .int i, .int row, .int f, .int n, .ref o9] T D (sp_open T D i row f n) := by
  by_cases h1 : oN i 3
  · rw [show sp_open T D i row f n = no T D 1 from if_pos (Or.inl h1)]; exact ww_open_1a l hst h1
  · obtain ⟨i, hi, rfl⟩ := oN_in (by decide) h1
    by_cases h2 : oN row 4
    · rw [show sp_open T D (nI i) row f n = no T D 1 from if_pos (Or.inr (Or.inl h2))]; exact ww_open_1b l hst hi h2
    · obtain ⟨r, hr, rfl⟩ := oN_in (by decide) h2
      have hl : rI T (nI r) = T 1 (T 2 r) := by simp only [rI, nI_clamp (show r < 2 ^ 31 by omega)]
      by_cases h3 : oP (T 1 (T 2 r)) f (nI 0)
      · rw [show sp_open T D (nI i) (nI r) f n = no T D 1 from if_pos (Or.inr (Or.inr (by rw [hl]; exact h3)))]
        exact ww_open_1c l hst I hi hr h3
      · have I2 := I.sr hr
        have I3 := I.sl I2
        obtain ⟨f0, hf, rfl⟩ := nI_of (fun z => h3 (Or.inl z))
        have h4 : f0 ≤ T 1 (T 2 r) := Nat.not_lt.mp (fun z => h3 (Or.inr (Or.inr (by rw [nI_clamp hf, nI_clamp (by decide)]; exact z))))
        have hno : ¬ (oN (nI i) 3 ∨ oN (nI r) 4 ∨ oP (rI T (nI r)) (nI f0) (nI 0)) := by rw [hl]; exact fun z => z.elim h1 (fun z => z.elim h2 h3)
        by_cases h5 : oN n 1001
        · rw [show sp_open T D (nI i) (nI r) (nI f0) n = no T D 2 from (if_neg hno).trans (if_pos h5)]
          by_cases h6 : n < 0
          · exact ww_open_2a l hst I hi hr h4 h6
          · obtain ⟨n, g1, g2, rfl⟩ := oN_ge h5 h6
            exact ww_open_2b l hst I hi hr h4 g1 g2
        · obtain ⟨n, hn, rfl⟩ := oN_in (by decide) h5
          rw [show sp_open T D (nI i) (nI r) (nI f0) (nI n) = sk_open T D i r f0 n from (if_neg hno).trans ((if_neg h5).trans (by rw [nI_clamp (show i < 2 ^ 31 by omega), nI_clamp (show r < 2 ^ 31 by omega), nI_clamp hf, nI_clamp (show n < 2 ^ 31 by omega)]))]
          exact ww_open l hst I hi hr h4 hn


set_option maxHeartbeats 4000000 in
set_option maxRecDepth 100000 in
theorem ww_openAll_1a (l : Launch) (hst : l.stackTraces = false) {G : va_G} {kT : Nat → ClassId} {a0 o9 : Nat} {T : mT} {D : mD} {i row : Int32} (h : oN i 3) : wM l yL_openAll wsL_openAll ({ frames := 8, cells := 2, slots := 260, locals := 145 } : Room) G kT a0 o9 [.ref (a0), .int (i), .int (row), .ref (o9)] T D 1 (T) (D) (oL kT False 0) (oL kT (1 = 0) (((nI 0) : Int32).toInt64)) := by
  refine wstart (cc := cL_openAll) (maxL := 5) (hh := [(0, 10, 13, 13)]) (by decide) rfl (Nat.le_of_ble_eq_true rfl) (fun ad L K R I A Q N e0 HB h09 ho hP0 p e s m args below meth c Z hE9 X hT hE hW hO ls hl => ?_)
  subst h09
  obtain ⟨f0, rfl, -⟩ := hP0
  have X : CallFix p m c cL_openAll 5 s args wsL_openAll RL := X
  have hl : lv_has ls 5 [(0, .ref (ad 0 0)), (1, .int (i)), (2, .int (row)), (3, .ref (o9))] := hl
  refine lv_aload_n X.1 X.2.1 dL_openAll_0 rfl (lv_at hl 3 rfl) ?_
  refine lv_iconst (v := nI 0) X.1 X.2.1 dL_openAll_1 (by decide) ?_
  refine lv_aload_n X.1 X.2.1 dL_openAll_2 rfl (lv_at hl 0 rfl) ?_
  refine lv_iload_n X.1 X.2.1 dL_openAll_3 rfl (lv_at hl 1 rfl) ?_
  refine lv_iload_n X.1 X.2.1 dL_openAll_4 rfl (lv_at hl 2 rfl) ?_
  refine cCV hE X hW (HB.mem lv_0) (pC_6 (HB.kn lv_0 rfl)) rfl (cb_openAll_a l hst HB h) (cwV 2 X.2.2.2.2 gL_openAll_X6_openAll rfl rfl rfl (by decide +kernel) ⟨Nat.le_of_ble_eq_true rfl, Nat.le_of_ble_eq_true rfl⟩) rfl rfl hl.1 (Nat.le_of_ble_eq_true rfl) dL_openAll_5 ⟨Nat.le_of_ble_eq_true rfl, Nat.le_of_ble_eq_true rfl⟩ (fun H locs q8 ce hW hsz hk hce hcv hcl => ?_)
  have hO := oK hO ho hk
  refine vx_catch X.2.2.2.1 [] ⟨0, 10, 13, 13⟩ [] hT (fun z hz => absurd hz List.not_mem_nil) (by decide) (by decide) (X.2.2.2.2 (.classLink RL 13 "java/lang/IndexOutOfBoundsException") (List.mem_cons_of_mem _ (List.mem_append_left _ (List.mem_append_left _ (List.mem_append_left _ (List.mem_append_left _ (List.mem_append_left _ (List.mem_append_left _ (List.mem_of_getElem? (i := 0) rfl))))))))) (va_Nw.use rfl (hE.2.2.1 (.castable "java/lang/IndexOutOfBoundsException" "java/lang/IndexOutOfBoundsException") (by decide +kernel))) hce hcv hcl ?_
  refine lv_astore (lv' := [(4, .ref (q8)), (0, .ref (ad 0 0)), (1, .int (i)), (2, .int (row)), (3, .ref (o9))]) X.1 X.2.1 dL_openAll_13 hl (by decide) rfl (fun ls hl => ?_)
  refine lv_iconst (v := nI 1) X.1 X.2.1 dL_openAll_15 (by decide) ?_
  exact hE9 _ _ _ _ _ _ _ ad L K R I A Q N _ rfl (show _ ≤ 2 by decide) (show _ ≤ 260 by decide) hW ho hO ⟨f0, rfl, fun z => absurd z (by decide)⟩ HB rfl dL_openAll_16

set_option maxHeartbeats 4000000 in
set_option maxRecDepth 100000 in
theorem ww_openAll (l : Launch) (hst : l.stackTraces = false) {G : va_G} {kT : Nat → ClassId} {a0 o9 : Nat} {T : mT} {D : mD} (I : mI T) {i r : Nat} (hi : i < 3) (hr : r < 4) : wM l yL_openAll wsL_openAll ({ frames := 8, cells := 2, slots := 260, locals := 145 } : Room) G kT a0 o9 [.ref (a0), .int (nI (i)), .int (nI (r)), .ref (o9)] T D 0 (opT T i r 0 (T 1 (T 2 r))) (D) (oL kT False 0) (oL kT (0 = 0) (((nI (T 1 (T 2 r))) : Int32).toInt64)) := by
  refine wstart (cc := cL_openAll) (maxL := 5) (hh := [(0, 10, 13, 13)]) (by decide) rfl (Nat.le_of_ble_eq_true rfl) (fun ad L K R I A Q N e0 HB h09 ho hP0 p e s m args below meth c Z hE9 X hT hE hW hO ls hl => ?_)
  subst h09
  obtain ⟨f0, rfl, -⟩ := hP0
  have X : CallFix p m c cL_openAll 5 s args wsL_openAll RL := X
  have hl : lv_has ls 5 [(0, .ref (ad 0 0)), (1, .int (nI (i))), (2, .int (nI (r))), (3, .ref (o9))] := hl
  have e9 : 0 + min (T 1 (T 2 r)) (T 1 (T 2 r) - 0) = T 1 (T 2 r) := by omega
  refine lv_aload_n X.1 X.2.1 dL_openAll_0 rfl (lv_at hl 3 rfl) ?_
  refine lv_iconst (v := nI 0) X.1 X.2.1 dL_openAll_1 (by decide) ?_
  refine lv_aload_n X.1 X.2.1 dL_openAll_2 rfl (lv_at hl 0 rfl) ?_
  refine lv_iload_n X.1 X.2.1 dL_openAll_3 rfl (lv_at hl 1 rfl) ?_
  refine lv_iload_n X.1 X.2.1 dL_openAll_4 rfl (lv_at hl 2 rfl) ?_
  refine cFi X hW (HB.mem lv_0) (pC_6 (HB.kn lv_0 rfl)) rfl (co_openAll l HB hi hr) (cwV 2 X.2.2.2.2 gL_openAll_X6_openAll rfl rfl rfl (by decide +kernel) ⟨Nat.le_of_ble_eq_true rfl, Nat.le_of_ble_eq_true rfl⟩) rfl rfl hl.1 (Nat.le_of_ble_eq_true rfl) dL_openAll_5 ⟨Nat.le_of_ble_eq_true rfl, Nat.le_of_ble_eq_true rfl⟩ (fun H locs hW hsz hk => ?_)
  have hO := oK hO ho hk
  refine lv_i2l (v := (nI (0 + min (T 1 (T 2 r)) (T 1 (T 2 r) - 0) - 0)).toInt64) X.1 X.2.1 dL_openAll_8 rfl ?_
  refine wst X hW hO ho dL_openAll_9 (fun H locs hW hO => ?_)
  refine lv_goto (tgt := 17) X.1 X.2.1 dL_openAll_10 (by decide) ?_
  refine lv_iconst (v := nI 0) X.1 X.2.1 dL_openAll_17 (by decide) ?_
  exact hE9 _ _ _ _ _ _ _ ad L K _ _ _ _ N _ rfl (show _ ≤ 2 by decide) (show _ ≤ 260 by decide) hW ho hO ⟨_, rfl, fun _ => (if_pos rfl).trans (by rw [e9]; rfl)⟩ (by rw [e9]; exact HB.opened hi hr (by omega) (by omega)) rfl dL_openAll_18

set_option maxHeartbeats 4000000 in
set_option maxRecDepth 100000 in
theorem ww_openAll_1b (l : Launch) (hst : l.stackTraces = false) {G : va_G} {kT : Nat → ClassId} {a0 o9 : Nat} {T : mT} {D : mD} {i : Nat} {row : Int32} (hi : i < 3) (h : oN row 4) : wM l yL_openAll wsL_openAll ({ frames := 8, cells := 2, slots := 260, locals := 145 } : Room) G kT a0 o9 [.ref (a0), .int (nI (i)), .int (row), .ref (o9)] T D 1 (T) (D) (oL kT False 0) (oL kT (1 = 0) (((nI 0) : Int32).toInt64)) := by
  refine wstart (cc := cL_openAll) (maxL := 5) (hh := [(0, 10, 13, 13)]) (by decide) rfl (Nat.le_of_ble_eq_true rfl) (fun ad L K R I A Q N e0 HB h09 ho hP0 p e s m args below meth c Z hE9 X hT hE hW hO ls hl => ?_)
  subst h09
  obtain ⟨f0, rfl, -⟩ := hP0
  have X : CallFix p m c cL_openAll 5 s args wsL_openAll RL := X
  have hl : lv_has ls 5 [(0, .ref (ad 0 0)), (1, .int (nI (i))), (2, .int (row)), (3, .ref (o9))] := hl
  refine lv_aload_n X.1 X.2.1 dL_openAll_0 rfl (lv_at hl 3 rfl) ?_
  refine lv_iconst (v := nI 0) X.1 X.2.1 dL_openAll_1 (by decide) ?_
  refine lv_aload_n X.1 X.2.1 dL_openAll_2 rfl (lv_at hl 0 rfl) ?_
  refine lv_iload_n X.1 X.2.1 dL_openAll_3 rfl (lv_at hl 1 rfl) ?_
  refine lv_iload_n X.1 X.2.1 dL_openAll_4 rfl (lv_at hl 2 rfl) ?_
  refine cCV hE X hW (HB.mem lv_0) (pC_6 (HB.kn lv_0 rfl)) rfl (cb_openAll_b l hst HB hi h) (cwV 2 X.2.2.2.2 gL_openAll_X6_openAll rfl rfl rfl (by decide +kernel) ⟨Nat.le_of_ble_eq_true rfl, Nat.le_of_ble_eq_true rfl⟩) rfl rfl hl.1 (Nat.le_of_ble_eq_true rfl) dL_openAll_5 ⟨Nat.le_of_ble_eq_true rfl, Nat.le_of_ble_eq_true rfl⟩ (fun H locs q8 ce hW hsz hk hce hcv hcl => ?_)
  have hO := oK hO ho hk
  refine vx_catch X.2.2.2.1 [] ⟨0, 10, 13, 13⟩ [] hT (fun z hz => absurd hz List.not_mem_nil) (by decide) (by decide) (X.2.2.2.2 (.classLink RL 13 "java/lang/IndexOutOfBoundsException") (List.mem_cons_of_mem _ (List.mem_append_left _ (List.mem_append_left _ (List.mem_append_left _ (List.mem_append_left _ (List.mem_append_left _ (List.mem_append_left _ (List.mem_of_getElem? (i := 0) rfl))))))))) (va_Nw.use rfl (hE.2.2.1 (.castable "java/lang/IndexOutOfBoundsException" "java/lang/IndexOutOfBoundsException") (by decide +kernel))) hce hcv hcl ?_
  refine lv_astore (lv' := [(4, .ref (q8)), (0, .ref (ad 0 0)), (1, .int (nI (i))), (2, .int (row)), (3, .ref (o9))]) X.1 X.2.1 dL_openAll_13 hl (by decide) rfl (fun ls hl => ?_)
  refine lv_iconst (v := nI 1) X.1 X.2.1 dL_openAll_15 (by decide) ?_
  exact hE9 _ _ _ _ _ _ _ ad L K R I A Q N _ rfl (show _ ≤ 2 by decide) (show _ ≤ 260 by decide) hW ho hO ⟨f0, rfl, fun z => absurd z (by decide)⟩ HB rfl dL_openAll_16

theorem wo_openAll (l : Launch) (hst : l.stackTraces = false) {G : va_G} {kT : Nat → ClassId} {a0 o9 : Nat} {T : mT} {D : mD} (I : mI T) (J : mJD D) (i row : Int32) : wO l yL_openAll wsL_openAll ({ frames := 8, cells := 2, slots := 260, locals := 145 } : Room) G kT a0 o9 [.ref a0, .int i, .int row, .ref o9] T D (sp_openAll T D i row) := by
  by_cases h1 : oN i 3
  · rw [show sp_openAll T D i row = no T D 1 from if_pos (Or.inl h1)]; exact ww_openAll_1a l hst h1
  · obtain ⟨i, hi, rfl⟩ := oN_in (by decide) h1
    by_cases h2 : oN row 4
    · rw [show sp_openAll T D (nI i) row = no T D 1 from if_pos (Or.inr h2)]; exact ww_openAll_1b l hst hi h2
    · obtain ⟨r, hr, rfl⟩ := oN_in (by decide) h2
      rw [show sp_openAll T D (nI i) (nI r) = (0, nI (T 1 (T 2 r)), opT T i r 0 (T 1 (T 2 r)), D) from (if_neg (fun z => z.elim h1 h2)).trans (by simp only [rI, nI_clamp (show i < 2 ^ 31 by omega), nI_clamp (show r < 2 ^ 31 by omega)])]
      exact ww_openAll l hst I hi hr


set_option maxHeartbeats 4000000 in
set_option maxRecDepth 100000 in
theorem ww_shut_1 (l : Launch) (hst : l.stackTraces = false) {G : va_G} {kT : Nat → ClassId} {a0 o9 : Nat} {T : mT} {D : mD} {i : Int32} (h : oN i 3) : wM l yL_shut wsL_shut ({ frames := 8, cells := 2, slots := 260, locals := 144 } : Room) G kT a0 o9 [.ref (a0), .int (i), .ref (o9)] T D 1 (T) (D) (oL kT False 0) (oL kT (1 = 0) (((nI 0) : Int32).toInt64)) := by
  refine wstart (cc := cL_shut) (maxL := 4) (hh := [(0, 9, 12, 13), (0, 9, 15, 108)]) (by decide) rfl (Nat.le_of_ble_eq_true rfl) (fun ad L K R I A Q N e0 HB h09 ho hP0 p e s m args below meth c Z hE9 X hT hE hW hO ls hl => ?_)
  subst h09
  obtain ⟨f0, rfl, -⟩ := hP0
  have X : CallFix p m c cL_shut 4 s args wsL_shut RL := X
  have hl : lv_has ls 4 [(0, .ref (ad 0 0)), (1, .int (i)), (2, .ref (o9))] := hl
  refine lv_aload_n X.1 X.2.1 dL_shut_0 rfl (lv_at hl 2 rfl) ?_
  refine lv_iconst (v := nI 0) X.1 X.2.1 dL_shut_1 (by decide) ?_
  refine lv_aload_n X.1 X.2.1 dL_shut_2 rfl (lv_at hl 0 rfl) ?_
  refine lv_iload_n X.1 X.2.1 dL_shut_3 rfl (lv_at hl 1 rfl) ?_
  refine cCV hE X hW (HB.mem lv_0) (pC_6 (HB.kn lv_0 rfl)) rfl (cb_shut_a l hst HB h) (cwV 1 X.2.2.2.2 gL_shut_X6_shut rfl rfl rfl (by decide +kernel) ⟨Nat.le_of_ble_eq_true rfl, Nat.le_of_ble_eq_true rfl⟩) rfl rfl hl.1 (Nat.le_of_ble_eq_true rfl) dL_shut_4 ⟨Nat.le_of_ble_eq_true rfl, Nat.le_of_ble_eq_true rfl⟩ (fun H locs q8 ce hW hsz hk hce hcv hcl => ?_)
  have hO := oK hO ho hk
  refine vx_catch X.2.2.2.1 [] ⟨0, 9, 12, 13⟩ [⟨0, 9, 15, 108⟩] hT (fun z hz => absurd hz List.not_mem_nil) (by decide) (by decide) (X.2.2.2.2 (.classLink RL 13 "java/lang/IndexOutOfBoundsException") (List.mem_cons_of_mem _ (List.mem_append_left _ (List.mem_append_left _ (List.mem_append_left _ (List.mem_append_left _ (List.mem_append_left _ (List.mem_append_left _ (List.mem_of_getElem? (i := 0) rfl))))))))) (va_Nw.use rfl (hE.2.2.1 (.castable "java/lang/IndexOutOfBoundsException" "java/lang/IndexOutOfBoundsException") (by decide +kernel))) hce hcv hcl ?_
  refine lv_astore_n (lv' := [(3, .ref (q8)), (0, .ref (ad 0 0)), (1, .int (i)), (2, .ref (o9))]) X.1 X.2.1 dL_shut_12 rfl hl (by decide) rfl (fun ls hl => ?_)
  refine lv_iconst (v := nI 1) X.1 X.2.1 dL_shut_13 (by decide) ?_
  exact hE9 _ _ _ _ _ _ _ ad L K R I A Q N _ rfl (show _ ≤ 2 by decide) (show _ ≤ 260 by decide) hW ho hO ⟨f0, rfl, fun z => absurd z (by decide)⟩ HB rfl dL_shut_14

set_option maxHeartbeats 4000000 in
set_option maxRecDepth 100000 in
theorem ww_shut_2 (l : Launch) (hst : l.stackTraces = false) {G : va_G} {kT : Nat → ClassId} {a0 o9 : Nat} {T : mT} {D : mD} {i : Nat} (hi : i < 3) (h : T 8 i = 0) : wM l yL_shut wsL_shut ({ frames := 8, cells := 2, slots := 260, locals := 144 } : Room) G kT a0 o9 [.ref (a0), .int (nI (i)), .ref (o9)] T D 2 (T) (D) (oL kT False 0) (oL kT (2 = 0) (((nI 0) : Int32).toInt64)) := by
  refine wstart (cc := cL_shut) (maxL := 4) (hh := [(0, 9, 12, 13), (0, 9, 15, 108)]) (by decide) rfl (Nat.le_of_ble_eq_true rfl) (fun ad L K R I A Q N e0 HB h09 ho hP0 p e s m args below meth c Z hE9 X hT hE hW hO ls hl => ?_)
  subst h09
  obtain ⟨f0, rfl, -⟩ := hP0
  have X : CallFix p m c cL_shut 4 s args wsL_shut RL := X
  have hl : lv_has ls 4 [(0, .ref (ad 0 0)), (1, .int (nI (i))), (2, .ref (o9))] := hl
  refine lv_aload_n X.1 X.2.1 dL_shut_0 rfl (lv_at hl 2 rfl) ?_
  refine lv_iconst (v := nI 0) X.1 X.2.1 dL_shut_1 (by decide) ?_
  refine lv_aload_n X.1 X.2.1 dL_shut_2 rfl (lv_at hl 0 rfl) ?_
  refine lv_iload_n X.1 X.2.1 dL_shut_3 rfl (lv_at hl 1 rfl) ?_
  refine cCV hE X hW (HB.mem lv_0) (pC_6 (HB.kn lv_0 rfl)) rfl (cb_shut_b l hst HB hi h) (cwV 1 X.2.2.2.2 gL_shut_X6_shut rfl rfl rfl (by decide +kernel) ⟨Nat.le_of_ble_eq_true rfl, Nat.le_of_ble_eq_true rfl⟩) rfl rfl hl.1 (Nat.le_of_ble_eq_true rfl) dL_shut_4 ⟨Nat.le_of_ble_eq_true rfl, Nat.le_of_ble_eq_true rfl⟩ (fun H locs q8 ce hW hsz hk hce hcv hcl => ?_)
  have hO := oK hO ho hk
  refine vx_catch X.2.2.2.1 [⟨0, 9, 12, 13⟩] ⟨0, 9, 15, 108⟩ [] hT (List.forall_mem_cons.mpr ⟨Or.inr ⟨by decide, "java/lang/IndexOutOfBoundsException", X.2.2.2.2 (.classLink RL 13 "java/lang/IndexOutOfBoundsException") (List.mem_cons_of_mem _ (List.mem_append_left _ (List.mem_append_left _ (List.mem_append_left _ (List.mem_append_left _ (List.mem_append_left _ (List.mem_append_left _ (List.mem_of_getElem? (i := 0) rfl)))))))), hE.2.2.2.2 ("java/lang/UnsupportedOperationException", "java/lang/IndexOutOfBoundsException") (by decide +kernel)⟩, (fun z hz => absurd hz List.not_mem_nil)⟩) (by decide) (by decide) (X.2.2.2.2 (.classLink RL 108 "java/lang/UnsupportedOperationException") (List.mem_cons_of_mem _ (List.mem_append_left _ (List.mem_append_left _ (List.mem_append_left _ (List.mem_append_left _ (List.mem_append_left _ (List.mem_append_left _ (List.mem_of_getElem? (i := 1) rfl))))))))) (va_Nw.use rfl (hE.2.2.1 (.castable "java/lang/UnsupportedOperationException" "java/lang/UnsupportedOperationException") (by decide +kernel))) hce hcv hcl ?_
  refine lv_astore_n (lv' := [(3, .ref (q8)), (0, .ref (ad 0 0)), (1, .int (nI (i))), (2, .ref (o9))]) X.1 X.2.1 dL_shut_15 rfl hl (by decide) rfl (fun ls hl => ?_)
  refine lv_iconst (v := nI 2) X.1 X.2.1 dL_shut_16 (by decide) ?_
  exact hE9 _ _ _ _ _ _ _ ad L K R I A Q N _ rfl (show _ ≤ 2 by decide) (show _ ≤ 260 by decide) hW ho hO ⟨f0, rfl, fun z => absurd z (by decide)⟩ HB rfl dL_shut_17

set_option maxHeartbeats 4000000 in
set_option maxRecDepth 100000 in
theorem ww_shut_a (l : Launch) (hst : l.stackTraces = false) {G : va_G} {kT : Nat → ClassId} {a0 o9 : Nat} {T : mT} {D : mD} (I : mI T) {i : Nat} (hi : i < 3) (h : T 8 i ≠ 0) (h2 : T 12 i ≠ 0) : wM l yL_shut wsL_shut ({ frames := 8, cells := 2, slots := 260, locals := 144 } : Room) G kT a0 o9 [.ref (a0), .int (nI (i)), .ref (o9)] T D 0 (u2 T 12 i 1) (D) (oL kT False 0) (oL kT (0 = 0) (((nI 0) : Int32).toInt64)) := by
  refine wstart (cc := cL_shut) (maxL := 4) (hh := [(0, 9, 12, 13), (0, 9, 15, 108)]) (by decide) rfl (Nat.le_of_ble_eq_true rfl) (fun ad L K R I A Q N e0 HB h09 ho hP0 p e s m args below meth c Z hE9 X hT hE hW hO ls hl => ?_)
  subst h09
  obtain ⟨f0, rfl, -⟩ := hP0
  have X : CallFix p m c cL_shut 4 s args wsL_shut RL := X
  have hl : lv_has ls 4 [(0, .ref (ad 0 0)), (1, .int (nI (i))), (2, .ref (o9))] := hl
  refine lv_aload_n X.1 X.2.1 dL_shut_0 rfl (lv_at hl 2 rfl) ?_
  refine lv_iconst (v := nI 0) X.1 X.2.1 dL_shut_1 (by decide) ?_
  refine lv_aload_n X.1 X.2.1 dL_shut_2 rfl (lv_at hl 0 rfl) ?_
  refine lv_iload_n X.1 X.2.1 dL_shut_3 rfl (lv_at hl 1 rfl) ?_
  refine cFi X hW (HB.mem lv_0) (pC_6 (HB.kn lv_0 rfl)) rfl (co_shut_a l HB hi h h2) (cwV 1 X.2.2.2.2 gL_shut_X6_shut rfl rfl rfl (by decide +kernel) ⟨Nat.le_of_ble_eq_true rfl, Nat.le_of_ble_eq_true rfl⟩) rfl rfl hl.1 (Nat.le_of_ble_eq_true rfl) dL_shut_4 ⟨Nat.le_of_ble_eq_true rfl, Nat.le_of_ble_eq_true rfl⟩ (fun H locs hW hsz hk => ?_)
  have hO := oK hO ho hk
  refine lv_i2l (v := (nI (0)).toInt64) X.1 X.2.1 dL_shut_7 rfl ?_
  refine wst X hW hO ho dL_shut_8 (fun H locs hW hO => ?_)
  refine lv_goto (tgt := 18) X.1 X.2.1 dL_shut_9 (by decide) ?_
  refine lv_iconst (v := nI 0) X.1 X.2.1 dL_shut_18 (by decide) ?_
  exact hE9 _ _ _ _ _ _ _ ad L K _ _ _ _ N _ rfl (show _ ≤ 2 by decide) (show _ ≤ 260 by decide) hW ho hO ⟨_, rfl, fun _ => if_pos rfl⟩ (HB.shut hi) rfl dL_shut_19

set_option maxHeartbeats 4000000 in
set_option maxRecDepth 100000 in
theorem ww_shut_b (l : Launch) (hst : l.stackTraces = false) {G : va_G} {kT : Nat → ClassId} {a0 o9 : Nat} {T : mT} {D : mD} (I : mI T) {i : Nat} (hi : i < 3) (h : T 8 i ≠ 0) (h2 : T 12 i = 0) : wM l yL_shut wsL_shut ({ frames := 8, cells := 2, slots := 260, locals := 144 } : Room) G kT a0 o9 [.ref (a0), .int (nI (i)), .ref (o9)] T D 0 (u2 T 12 i 1) (D) (oL kT False 0) (oL kT (0 = 0) (((nI (T 10 i - T 9 i)) : Int32).toInt64)) := by
  refine wstart (cc := cL_shut) (maxL := 4) (hh := [(0, 9, 12, 13), (0, 9, 15, 108)]) (by decide) rfl (Nat.le_of_ble_eq_true rfl) (fun ad L K R I A Q N e0 HB h09 ho hP0 p e s m args below meth c Z hE9 X hT hE hW hO ls hl => ?_)
  subst h09
  obtain ⟨f0, rfl, -⟩ := hP0
  have X : CallFix p m c cL_shut 4 s args wsL_shut RL := X
  have hl : lv_has ls 4 [(0, .ref (ad 0 0)), (1, .int (nI (i))), (2, .ref (o9))] := hl
  refine lv_aload_n X.1 X.2.1 dL_shut_0 rfl (lv_at hl 2 rfl) ?_
  refine lv_iconst (v := nI 0) X.1 X.2.1 dL_shut_1 (by decide) ?_
  refine lv_aload_n X.1 X.2.1 dL_shut_2 rfl (lv_at hl 0 rfl) ?_
  refine lv_iload_n X.1 X.2.1 dL_shut_3 rfl (lv_at hl 1 rfl) ?_
  refine cFi X hW (HB.mem lv_0) (pC_6 (HB.kn lv_0 rfl)) rfl (co_shut_b l HB hi h h2) (cwV 1 X.2.2.2.2 gL_shut_X6_shut rfl rfl rfl (by decide +kernel) ⟨Nat.le_of_ble_eq_true rfl, Nat.le_of_ble_eq_true rfl⟩) rfl rfl hl.1 (Nat.le_of_ble_eq_true rfl) dL_shut_4 ⟨Nat.le_of_ble_eq_true rfl, Nat.le_of_ble_eq_true rfl⟩ (fun H locs hW hsz hk => ?_)
  have hO := oK hO ho hk
  refine lv_i2l (v := (nI (T 10 i - T 9 i)).toInt64) X.1 X.2.1 dL_shut_7 rfl ?_
  refine wst X hW hO ho dL_shut_8 (fun H locs hW hO => ?_)
  refine lv_goto (tgt := 18) X.1 X.2.1 dL_shut_9 (by decide) ?_
  refine lv_iconst (v := nI 0) X.1 X.2.1 dL_shut_18 (by decide) ?_
  exact hE9 _ _ _ _ _ _ _ ad L K _ _ _ _ N _ rfl (show _ ≤ 2 by decide) (show _ ≤ 260 by decide) hW ho hO ⟨_, rfl, fun _ => if_pos rfl⟩ (HB.shut hi) rfl dL_shut_19

theorem wo_shut (l : Launch) (hst : l.stackTraces = false) {G : va_G} {kT : Nat → ClassId} {a0 o9 : Nat} {T : mT} {D : mD} (I : mI T) (J : mJD D) (i : Int32) : wO l yL_shut wsL_shut ({ frames := 8, cells := 2, slots := 260, locals := 144 } : Room) G kT a0 o9 [.ref a0, .int i, .ref o9] T D (sp_shut T D i) := by
  by_cases h1 : oN i 3
  · rw [show sp_shut T D i = no T D 1 from if_pos h1]; exact ww_shut_1 l hst h1
  · obtain ⟨i, hi, rfl⟩ := oN_in (by decide) h1
    have hc : (nI i).toNatClampNeg = i := nI_clamp (by omega)
    by_cases h2 : T 8 i = 0
    · rw [show sp_shut T D (nI i) = no T D 2 from (if_neg h1).trans (if_pos (by rw [hc]; exact h2))]; exact ww_shut_2 l hst hi h2
    · by_cases h3 : T 12 i ≠ 0
      · rw [show sp_shut T D (nI i) = (0, nI 0, u2 T 12 i 1, D) from (if_neg h1).trans ((if_neg (by rw [hc]; exact h2)).trans (by rw [hc, if_pos h3]))]; exact ww_shut_a l hst I hi h2 h3
      · rw [show sp_shut T D (nI i) = (0, nI (T 10 i - T 9 i), u2 T 12 i 1, D) from (if_neg h1).trans ((if_neg (by rw [hc]; exact h2)).trans (by rw [hc, if_neg h3]))]; exact ww_shut_b l hst I hi h2 (Decidable.not_not.mp h3)


set_option maxHeartbeats 4000000 in
set_option maxRecDepth 100000 in
theorem ww_read_1 (l : Launch) (hst : l.stackTraces = false) {G : va_G} {kT : Nat → ClassId} {a0 o9 : Nat} {T : mT} {D : mD} {i : Int32} (h : oN i 3) : wM l yL_read wsL_read ({ frames := 9, cells := 2, slots := 260, locals := 164 } : Room) G kT a0 o9 [.ref (a0), .int (i), .ref (o9)] T D 1 (T) (D) (oL kT False 0) (oL kT (1 = 0) (((nI 0) : Int32).toInt64)) := by
  refine wstart (cc := cL_read) (maxL := 4) (hh := [(0, 9, 12, 13), (0, 9, 15, 108)]) (by decide) rfl (Nat.le_of_ble_eq_true rfl) (fun ad L K R I A Q N e0 HB h09 ho hP0 p e s m args below meth c Z hE9 X hT hE hW hO ls hl => ?_)
  subst h09
  obtain ⟨f0, rfl, -⟩ := hP0
  have X : CallFix p m c cL_read 4 s args wsL_read RL := X
  have hl : lv_has ls 4 [(0, .ref (ad 0 0)), (1, .int (i)), (2, .ref (o9))] := hl
  refine lv_aload_n X.1 X.2.1 dL_read_0 rfl (lv_at hl 2 rfl) ?_
  refine lv_iconst (v := nI 0) X.1 X.2.1 dL_read_1 (by decide) ?_
  refine lv_aload_n X.1 X.2.1 dL_read_2 rfl (lv_at hl 0 rfl) ?_
  refine lv_iload_n X.1 X.2.1 dL_read_3 rfl (lv_at hl 1 rfl) ?_
  refine cCV hE X hW (HB.mem lv_0) (pC_6 (HB.kn lv_0 rfl)) rfl (cb_read_a l hst HB h) (cwV 1 X.2.2.2.2 gL_read_X6_read rfl rfl rfl (by decide +kernel) ⟨Nat.le_of_ble_eq_true rfl, Nat.le_of_ble_eq_true rfl⟩) rfl rfl hl.1 (Nat.le_of_ble_eq_true rfl) dL_read_4 ⟨Nat.le_of_ble_eq_true rfl, Nat.le_of_ble_eq_true rfl⟩ (fun H locs q8 ce hW hsz hk hce hcv hcl => ?_)
  have hO := oK hO ho hk
  refine vx_catch X.2.2.2.1 [] ⟨0, 9, 12, 13⟩ [⟨0, 9, 15, 108⟩] hT (fun z hz => absurd hz List.not_mem_nil) (by decide) (by decide) (X.2.2.2.2 (.classLink RL 13 "java/lang/IndexOutOfBoundsException") (List.mem_cons_of_mem _ (List.mem_append_left _ (List.mem_append_left _ (List.mem_append_left _ (List.mem_append_left _ (List.mem_append_left _ (List.mem_append_left _ (List.mem_append_left _ (List.mem_of_getElem? (i := 0) rfl)))))))))) (va_Nw.use rfl (hE.2.2.1 (.castable "java/lang/IndexOutOfBoundsException" "java/lang/IndexOutOfBoundsException") (by decide +kernel))) hce hcv hcl ?_
  refine lv_astore_n (lv' := [(3, .ref (q8)), (0, .ref (ad 0 0)), (1, .int (i)), (2, .ref (o9))]) X.1 X.2.1 dL_read_12 rfl hl (by decide) rfl (fun ls hl => ?_)
  refine lv_iconst (v := nI 1) X.1 X.2.1 dL_read_13 (by decide) ?_
  exact hE9 _ _ _ _ _ _ _ ad L K R I A Q N _ rfl (show _ ≤ 2 by decide) (show _ ≤ 260 by decide) hW ho hO ⟨f0, rfl, fun z => absurd z (by decide)⟩ HB rfl dL_read_14

set_option maxHeartbeats 4000000 in
set_option maxRecDepth 100000 in
theorem ww_read (l : Launch) (hst : l.stackTraces = false) {G : va_G} {kT : Nat → ClassId} {a0 o9 : Nat} {T : mT} {D : mD} (I : mI T) {i : Nat} (hi : i < 3) (h : ¬ clo T i) (h2 : ¬ T 9 i = T 10 i) : wM l yL_read wsL_read ({ frames := 9, cells := 2, slots := 260, locals := 164 } : Room) G kT a0 o9 [.ref (a0), .int (nI (i)), .ref (o9)] T D 0 (u2 T 9 i (T 9 i + 1)) (D) (oL kT False 0) (oL kT (0 = 0) (((D 0 (256 * (T 8 i - 1) + T 9 i)) : Int32).toInt64)) := by
  refine wstart (cc := cL_read) (maxL := 4) (hh := [(0, 9, 12, 13), (0, 9, 15, 108)]) (by decide) rfl (Nat.le_of_ble_eq_true rfl) (fun ad L K R I A Q N e0 HB h09 ho hP0 p e s m args below meth c Z hE9 X hT hE hW hO ls hl => ?_)
  subst h09
  obtain ⟨f0, rfl, -⟩ := hP0
  have X : CallFix p m c cL_read 4 s args wsL_read RL := X
  have hl : lv_has ls 4 [(0, .ref (ad 0 0)), (1, .int (nI (i))), (2, .ref (o9))] := hl
  have hm9 := HB.mi.rd hi
  refine lv_aload_n X.1 X.2.1 dL_read_0 rfl (lv_at hl 2 rfl) ?_
  refine lv_iconst (v := nI 0) X.1 X.2.1 dL_read_1 (by decide) ?_
  refine lv_aload_n X.1 X.2.1 dL_read_2 rfl (lv_at hl 0 rfl) ?_
  refine lv_iload_n X.1 X.2.1 dL_read_3 rfl (lv_at hl 1 rfl) ?_
  refine cFi X hW (HB.mem lv_0) (pC_6 (HB.kn lv_0 rfl)) rfl (co_read l HB hi h h2) (cwV 1 X.2.2.2.2 gL_read_X6_read rfl rfl rfl (by decide +kernel) ⟨Nat.le_of_ble_eq_true rfl, Nat.le_of_ble_eq_true rfl⟩) rfl rfl hl.1 (Nat.le_of_ble_eq_true rfl) dL_read_4 ⟨Nat.le_of_ble_eq_true rfl, Nat.le_of_ble_eq_true rfl⟩ (fun H locs hW hsz hk => ?_)
  have hO := oK hO ho hk
  refine lv_i2l (v := (D 0 (256 * (T 8 i - 1) + T 9 i)).toInt64) X.1 X.2.1 dL_read_7 rfl ?_
  refine wst X hW hO ho dL_read_8 (fun H locs hW hO => ?_)
  refine lv_goto (tgt := 18) X.1 X.2.1 dL_read_9 (by decide) ?_
  refine lv_iconst (v := nI 0) X.1 X.2.1 dL_read_18 (by decide) ?_
  exact hE9 _ _ _ _ _ _ _ ad L K _ _ _ _ N _ rfl (show _ ≤ 2 by decide) (show _ ≤ 260 by decide) hW ho hO ⟨_, rfl, fun _ => if_pos rfl⟩ (HB.place hi (by omega)) rfl dL_read_19

set_option maxHeartbeats 4000000 in
set_option maxRecDepth 100000 in
theorem ww_read_2 (l : Launch) (hst : l.stackTraces = false) {G : va_G} {kT : Nat → ClassId} {a0 o9 : Nat} {T : mT} {D : mD} (I : mI T) {i : Nat} (hi : i < 3) (h : clo T i) : wM l yL_read wsL_read ({ frames := 9, cells := 2, slots := 260, locals := 164 } : Room) G kT a0 o9 [.ref (a0), .int (nI (i)), .ref (o9)] T D 2 (T) (D) (oL kT False 0) (oL kT (2 = 0) (((nI 0) : Int32).toInt64)) := by
  refine wstart (cc := cL_read) (maxL := 4) (hh := [(0, 9, 12, 13), (0, 9, 15, 108)]) (by decide) rfl (Nat.le_of_ble_eq_true rfl) (fun ad L K R I A Q N e0 HB h09 ho hP0 p e s m args below meth c Z hE9 X hT hE hW hO ls hl => ?_)
  subst h09
  obtain ⟨f0, rfl, -⟩ := hP0
  have X : CallFix p m c cL_read 4 s args wsL_read RL := X
  have hl : lv_has ls 4 [(0, .ref (ad 0 0)), (1, .int (nI (i))), (2, .ref (o9))] := hl
  refine lv_aload_n X.1 X.2.1 dL_read_0 rfl (lv_at hl 2 rfl) ?_
  refine lv_iconst (v := nI 0) X.1 X.2.1 dL_read_1 (by decide) ?_
  refine lv_aload_n X.1 X.2.1 dL_read_2 rfl (lv_at hl 0 rfl) ?_
  refine lv_iload_n X.1 X.2.1 dL_read_3 rfl (lv_at hl 1 rfl) ?_
  refine cCV hE X hW (HB.mem lv_0) (pC_6 (HB.kn lv_0 rfl)) rfl (cb_read_b l hst HB hi h) (cwV 1 X.2.2.2.2 gL_read_X6_read rfl rfl rfl (by decide +kernel) ⟨Nat.le_of_ble_eq_true rfl, Nat.le_of_ble_eq_true rfl⟩) rfl rfl hl.1 (Nat.le_of_ble_eq_true rfl) dL_read_4 ⟨Nat.le_of_ble_eq_true rfl, Nat.le_of_ble_eq_true rfl⟩ (fun H locs q8 ce hW hsz hk hce hcv hcl => ?_)
  have hO := oK hO ho hk
  refine vx_catch X.2.2.2.1 [⟨0, 9, 12, 13⟩] ⟨0, 9, 15, 108⟩ [] hT (List.forall_mem_cons.mpr ⟨Or.inr ⟨by decide, "java/lang/IndexOutOfBoundsException", X.2.2.2.2 (.classLink RL 13 "java/lang/IndexOutOfBoundsException") (List.mem_cons_of_mem _ (List.mem_append_left _ (List.mem_append_left _ (List.mem_append_left _ (List.mem_append_left _ (List.mem_append_left _ (List.mem_append_left _ (List.mem_append_left _ (List.mem_of_getElem? (i := 0) rfl))))))))), hE.2.2.2.2 ("java/lang/UnsupportedOperationException", "java/lang/IndexOutOfBoundsException") (by decide +kernel)⟩, (fun z hz => absurd hz List.not_mem_nil)⟩) (by decide) (by decide) (X.2.2.2.2 (.classLink RL 108 "java/lang/UnsupportedOperationException") (List.mem_cons_of_mem _ (List.mem_append_left _ (List.mem_append_left _ (List.mem_append_left _ (List.mem_append_left _ (List.mem_append_left _ (List.mem_append_left _ (List.mem_append_left _ (List.mem_of_getElem? (i := 1) rfl)))))))))) (va_Nw.use rfl (hE.2.2.1 (.castable "java/lang/UnsupportedOperationException" "java/lang/UnsupportedOperationException") (by decide +kernel))) hce hcv hcl ?_
  refine lv_astore_n (lv' := [(3, .ref (q8)), (0, .ref (ad 0 0)), (1, .int (nI (i))), (2, .ref (o9))]) X.1 X.2.1 dL_read_15 rfl hl (by decide) rfl (fun ls hl => ?_)
  refine lv_iconst (v := nI 2) X.1 X.2.1 dL_read_16 (by decide) ?_
  exact hE9 _ _ _ _ _ _ _ ad L K R I A Q N _ rfl (show _ ≤ 2 by decide) (show _ ≤ 260 by decide) hW ho hO ⟨f0, rfl, fun z => absurd z (by decide)⟩ HB rfl dL_read_17

set_option maxHeartbeats 4000000 in
set_option maxRecDepth 100000 in
theorem ww_read_e (l : Launch) (hst : l.stackTraces = false) {G : va_G} {kT : Nat → ClassId} {a0 o9 : Nat} {T : mT} {D : mD} (I : mI T) {i : Nat} (hi : i < 3) (h : ¬ clo T i) (h2 : T 9 i = T 10 i) : wM l yL_read wsL_read ({ frames := 9, cells := 2, slots := 260, locals := 164 } : Room) G kT a0 o9 [.ref (a0), .int (nI (i)), .ref (o9)] T D 0 (T) (D) (oL kT False 0) (oL kT (0 = 0) (((-1) : Int32).toInt64)) := by
  refine wstart (cc := cL_read) (maxL := 4) (hh := [(0, 9, 12, 13), (0, 9, 15, 108)]) (by decide) rfl (Nat.le_of_ble_eq_true rfl) (fun ad L K R I A Q N e0 HB h09 ho hP0 p e s m args below meth c Z hE9 X hT hE hW hO ls hl => ?_)
  subst h09
  obtain ⟨f0, rfl, -⟩ := hP0
  have X : CallFix p m c cL_read 4 s args wsL_read RL := X
  have hl : lv_has ls 4 [(0, .ref (ad 0 0)), (1, .int (nI (i))), (2, .ref (o9))] := hl
  refine lv_aload_n X.1 X.2.1 dL_read_0 rfl (lv_at hl 2 rfl) ?_
  refine lv_iconst (v := nI 0) X.1 X.2.1 dL_read_1 (by decide) ?_
  refine lv_aload_n X.1 X.2.1 dL_read_2 rfl (lv_at hl 0 rfl) ?_
  refine lv_iload_n X.1 X.2.1 dL_read_3 rfl (lv_at hl 1 rfl) ?_
  refine cFi X hW (HB.mem lv_0) (pC_6 (HB.kn lv_0 rfl)) rfl (co_read_e l HB hi h h2) (cwV 1 X.2.2.2.2 gL_read_X6_read rfl rfl rfl (by decide +kernel) ⟨Nat.le_of_ble_eq_true rfl, Nat.le_of_ble_eq_true rfl⟩) rfl rfl hl.1 (Nat.le_of_ble_eq_true rfl) dL_read_4 ⟨Nat.le_of_ble_eq_true rfl, Nat.le_of_ble_eq_true rfl⟩ (fun H locs hW hsz hk => ?_)
  have hO := oK hO ho hk
  refine lv_i2l (v := (-1).toInt64) X.1 X.2.1 dL_read_7 rfl ?_
  refine wst X hW hO ho dL_read_8 (fun H locs hW hO => ?_)
  refine lv_goto (tgt := 18) X.1 X.2.1 dL_read_9 (by decide) ?_
  refine lv_iconst (v := nI 0) X.1 X.2.1 dL_read_18 (by decide) ?_
  exact hE9 _ _ _ _ _ _ _ ad L K _ _ _ _ N _ rfl (show _ ≤ 2 by decide) (show _ ≤ 260 by decide) hW ho hO ⟨_, rfl, fun _ => if_pos rfl⟩ (HB) rfl dL_read_19

theorem wo_read (l : Launch) (hst : l.stackTraces = false) {G : va_G} {kT : Nat → ClassId} {a0 o9 : Nat} {T : mT} {D : mD} (I : mI T) (J : mJD D) (i : Int32) : wO l yL_read wsL_read ({ frames := 9, cells := 2, slots := 260, locals := 164 } : Room) G kT a0 o9 [.ref a0, .int i, .ref o9] T D (sp_read T D i) := by
  by_cases h1 : oN i 3
  · rw [show sp_read T D i = no T D 1 from if_pos h1]; exact ww_read_1 l hst h1
  · obtain ⟨i, hi, rfl⟩ := oN_in (by decide) h1
    have hc : (nI i).toNatClampNeg = i := nI_clamp (by omega)
    by_cases h2 : clo T i
    · rw [show sp_read T D (nI i) = no T D 2 from (if_neg h1).trans (if_pos (by rw [hc]; exact h2))]; exact ww_read_2 l hst I hi h2
    · by_cases h3 : T 9 i = T 10 i
      · rw [show sp_read T D (nI i) = (0, -1, T, D) from (if_neg h1).trans ((if_neg (by rw [hc]; exact h2)).trans (if_pos (by rw [hc]; exact h3)))]; exact ww_read_e l hst I hi h2 h3
      · rw [show sp_read T D (nI i) = (0, D 0 (256 * (T 8 i - 1) + T 9 i), u2 T 9 i (T 9 i + 1), D) from (if_neg h1).trans ((if_neg (by rw [hc]; exact h2)).trans ((if_neg (by rw [hc]; exact h3)).trans (by rw [hc])))]; exact ww_read l hst I hi h2 h3


set_option maxHeartbeats 4000000 in
set_option maxRecDepth 100000 in
theorem ww_back (l : Launch) (hst : l.stackTraces = false) {G : va_G} {kT : Nat → ClassId} {a0 o9 : Nat} {T : mT} {D : mD} (I : mI T) {i : Nat} (hi : i < 3) (h : ¬ clo T i) : wM l yL_back wsL_back ({ frames := 9, cells := 2, slots := 260, locals := 165 } : Room) G kT a0 o9 [.ref (a0), .int (nI (i)), .ref (o9)] T D 0 (u2 T 9 i (T 11 i)) (D) (oL kT False 0) (oL kT (0 = 0) (((nI (T 10 i - T 11 i)) : Int32).toInt64)) := by
  refine wstart (cc := cL_back) (maxL := 4) (hh := [(0, 9, 12, 13), (0, 9, 15, 108)]) (by decide) rfl (Nat.le_of_ble_eq_true rfl) (fun ad L K R I A Q N e0 HB h09 ho hP0 p e s m args below meth c Z hE9 X hT hE hW hO ls hl => ?_)
  subst h09
  obtain ⟨f0, rfl, -⟩ := hP0
  have X : CallFix p m c cL_back 4 s args wsL_back RL := X
  have hl : lv_has ls 4 [(0, .ref (ad 0 0)), (1, .int (nI (i))), (2, .ref (o9))] := hl
  have hm9 := HB.mi.rd hi
  refine lv_aload_n X.1 X.2.1 dL_back_0 rfl (lv_at hl 2 rfl) ?_
  refine lv_iconst (v := nI 0) X.1 X.2.1 dL_back_1 (by decide) ?_
  refine lv_aload_n X.1 X.2.1 dL_back_2 rfl (lv_at hl 0 rfl) ?_
  refine lv_iload_n X.1 X.2.1 dL_back_3 rfl (lv_at hl 1 rfl) ?_
  refine cFi X hW (HB.mem lv_0) (pC_6 (HB.kn lv_0 rfl)) rfl (co_back l HB hi h) (cwV 1 X.2.2.2.2 gL_back_X6_back rfl rfl rfl (by decide +kernel) ⟨Nat.le_of_ble_eq_true rfl, Nat.le_of_ble_eq_true rfl⟩) rfl rfl hl.1 (Nat.le_of_ble_eq_true rfl) dL_back_4 ⟨Nat.le_of_ble_eq_true rfl, Nat.le_of_ble_eq_true rfl⟩ (fun H locs hW hsz hk => ?_)
  have hO := oK hO ho hk
  refine lv_i2l (v := (nI (T 10 i - T 11 i)).toInt64) X.1 X.2.1 dL_back_7 rfl ?_
  refine wst X hW hO ho dL_back_8 (fun H locs hW hO => ?_)
  refine lv_goto (tgt := 18) X.1 X.2.1 dL_back_9 (by decide) ?_
  refine lv_iconst (v := nI 0) X.1 X.2.1 dL_back_18 (by decide) ?_
  exact hE9 _ _ _ _ _ _ _ ad L K _ _ _ _ N _ rfl (show _ ≤ 2 by decide) (show _ ≤ 260 by decide) hW ho hO ⟨_, rfl, fun _ => if_pos rfl⟩ (HB.place hi (by omega)) rfl dL_back_19

set_option maxHeartbeats 4000000 in
set_option maxRecDepth 100000 in
theorem ww_back_1 (l : Launch) (hst : l.stackTraces = false) {G : va_G} {kT : Nat → ClassId} {a0 o9 : Nat} {T : mT} {D : mD} {i : Int32} (h : oN i 3) : wM l yL_back wsL_back ({ frames := 9, cells := 2, slots := 260, locals := 165 } : Room) G kT a0 o9 [.ref (a0), .int (i), .ref (o9)] T D 1 (T) (D) (oL kT False 0) (oL kT (1 = 0) (((nI 0) : Int32).toInt64)) := by
  refine wstart (cc := cL_back) (maxL := 4) (hh := [(0, 9, 12, 13), (0, 9, 15, 108)]) (by decide) rfl (Nat.le_of_ble_eq_true rfl) (fun ad L K R I A Q N e0 HB h09 ho hP0 p e s m args below meth c Z hE9 X hT hE hW hO ls hl => ?_)
  subst h09
  obtain ⟨f0, rfl, -⟩ := hP0
  have X : CallFix p m c cL_back 4 s args wsL_back RL := X
  have hl : lv_has ls 4 [(0, .ref (ad 0 0)), (1, .int (i)), (2, .ref (o9))] := hl
  refine lv_aload_n X.1 X.2.1 dL_back_0 rfl (lv_at hl 2 rfl) ?_
  refine lv_iconst (v := nI 0) X.1 X.2.1 dL_back_1 (by decide) ?_
  refine lv_aload_n X.1 X.2.1 dL_back_2 rfl (lv_at hl 0 rfl) ?_
  refine lv_iload_n X.1 X.2.1 dL_back_3 rfl (lv_at hl 1 rfl) ?_
  refine cCV hE X hW (HB.mem lv_0) (pC_6 (HB.kn lv_0 rfl)) rfl (cb_back_a l hst HB h) (cwV 1 X.2.2.2.2 gL_back_X6_back rfl rfl rfl (by decide +kernel) ⟨Nat.le_of_ble_eq_true rfl, Nat.le_of_ble_eq_true rfl⟩) rfl rfl hl.1 (Nat.le_of_ble_eq_true rfl) dL_back_4 ⟨Nat.le_of_ble_eq_true rfl, Nat.le_of_ble_eq_true rfl⟩ (fun H locs q8 ce hW hsz hk hce hcv hcl => ?_)
  have hO := oK hO ho hk
  refine vx_catch X.2.2.2.1 [] ⟨0, 9, 12, 13⟩ [⟨0, 9, 15, 108⟩] hT (fun z hz => absurd hz List.not_mem_nil) (by decide) (by decide) (X.2.2.2.2 (.classLink RL 13 "java/lang/IndexOutOfBoundsException") (List.mem_cons_of_mem _ (List.mem_append_left _ (List.mem_append_left _ (List.mem_append_left _ (List.mem_append_left _ (List.mem_append_left _ (List.mem_append_left _ (List.mem_of_getElem? (i := 0) rfl))))))))) (va_Nw.use rfl (hE.2.2.1 (.castable "java/lang/IndexOutOfBoundsException" "java/lang/IndexOutOfBoundsException") (by decide +kernel))) hce hcv hcl ?_
  refine lv_astore_n (lv' := [(3, .ref (q8)), (0, .ref (ad 0 0)), (1, .int (i)), (2, .ref (o9))]) X.1 X.2.1 dL_back_12 rfl hl (by decide) rfl (fun ls hl => ?_)
  refine lv_iconst (v := nI 1) X.1 X.2.1 dL_back_13 (by decide) ?_
  exact hE9 _ _ _ _ _ _ _ ad L K R I A Q N _ rfl (show _ ≤ 2 by decide) (show _ ≤ 260 by decide) hW ho hO ⟨f0, rfl, fun z => absurd z (by decide)⟩ HB rfl dL_back_14

set_option maxHeartbeats 4000000 in
set_option maxRecDepth 100000 in
theorem ww_back_2 (l : Launch) (hst : l.stackTraces = false) {G : va_G} {kT : Nat → ClassId} {a0 o9 : Nat} {T : mT} {D : mD} (I : mI T) {i : Nat} (hi : i < 3) (h : clo T i) : wM l yL_back wsL_back ({ frames := 9, cells := 2, slots := 260, locals := 165 } : Room) G kT a0 o9 [.ref (a0), .int (nI (i)), .ref (o9)] T D 2 (T) (D) (oL kT False 0) (oL kT (2 = 0) (((nI 0) : Int32).toInt64)) := by
  refine wstart (cc := cL_back) (maxL := 4) (hh := [(0, 9, 12, 13), (0, 9, 15, 108)]) (by decide) rfl (Nat.le_of_ble_eq_true rfl) (fun ad L K R I A Q N e0 HB h09 ho hP0 p e s m args below meth c Z hE9 X hT hE hW hO ls hl => ?_)
  subst h09
  obtain ⟨f0, rfl, -⟩ := hP0
  have X : CallFix p m c cL_back 4 s args wsL_back RL := X
  have hl : lv_has ls 4 [(0, .ref (ad 0 0)), (1, .int (nI (i))), (2, .ref (o9))] := hl
  refine lv_aload_n X.1 X.2.1 dL_back_0 rfl (lv_at hl 2 rfl) ?_
  refine lv_iconst (v := nI 0) X.1 X.2.1 dL_back_1 (by decide) ?_
  refine lv_aload_n X.1 X.2.1 dL_back_2 rfl (lv_at hl 0 rfl) ?_
  refine lv_iload_n X.1 X.2.1 dL_back_3 rfl (lv_at hl 1 rfl) ?_
  refine cCV hE X hW (HB.mem lv_0) (pC_6 (HB.kn lv_0 rfl)) rfl (cb_back_b l hst HB hi h) (cwV 1 X.2.2.2.2 gL_back_X6_back rfl rfl rfl (by decide +kernel) ⟨Nat.le_of_ble_eq_true rfl, Nat.le_of_ble_eq_true rfl⟩) rfl rfl hl.1 (Nat.le_of_ble_eq_true rfl) dL_back_4 ⟨Nat.le_of_ble_eq_true rfl, Nat.le_of_ble_eq_true rfl⟩ (fun H locs q8 ce hW hsz hk hce hcv hcl => ?_)
  have hO := oK hO ho hk
  refine vx_catch X.2.2.2.1 [⟨0, 9, 12, 13⟩] ⟨0, 9, 15, 108⟩ [] hT (List.forall_mem_cons.mpr ⟨Or.inr ⟨by decide, "java/lang/IndexOutOfBoundsException", X.2.2.2.2 (.classLink RL 13 "java/lang/IndexOutOfBoundsException") (List.mem_cons_of_mem _ (List.mem_append_left _ (List.mem_append_left _ (List.mem_append_left _ (List.mem_append_left _ (List.mem_append_left _ (List.mem_append_left _ (List.mem_of_getElem? (i := 0) rfl)))))))), hE.2.2.2.2 ("java/lang/UnsupportedOperationException", "java/lang/IndexOutOfBoundsException") (by decide +kernel)⟩, (fun z hz => absurd hz List.not_mem_nil)⟩) (by decide) (by decide) (X.2.2.2.2 (.classLink RL 108 "java/lang/UnsupportedOperationException") (List.mem_cons_of_mem _ (List.mem_append_left _ (List.mem_append_left _ (List.mem_append_left _ (List.mem_append_left _ (List.mem_append_left _ (List.mem_append_left _ (List.mem_of_getElem? (i := 1) rfl))))))))) (va_Nw.use rfl (hE.2.2.1 (.castable "java/lang/UnsupportedOperationException" "java/lang/UnsupportedOperationException") (by decide +kernel))) hce hcv hcl ?_
  refine lv_astore_n (lv' := [(3, .ref (q8)), (0, .ref (ad 0 0)), (1, .int (nI (i))), (2, .ref (o9))]) X.1 X.2.1 dL_back_15 rfl hl (by decide) rfl (fun ls hl => ?_)
  refine lv_iconst (v := nI 2) X.1 X.2.1 dL_back_16 (by decide) ?_
  exact hE9 _ _ _ _ _ _ _ ad L K R I A Q N _ rfl (show _ ≤ 2 by decide) (show _ ≤ 260 by decide) hW ho hO ⟨f0, rfl, fun z => absurd z (by decide)⟩ HB rfl dL_back_17

theorem wo_back (l : Launch) (hst : l.stackTraces = false) {G : va_G} {kT : Nat → ClassId} {a0 o9 : Nat} {T : mT} {D : mD} (I : mI T) (J : mJD D) (i : Int32) : wO l yL_back wsL_back ({ frames := 9, cells := 2, slots := 260, locals := 165 } : Room) G kT a0 o9 [.ref a0, .int i, .ref o9] T D (sp_back T D i) := by
  by_cases h1 : oN i 3
  · rw [show sp_back T D i = no T D 1 from if_pos h1]; exact ww_back_1 l hst h1
  · obtain ⟨i, hi, rfl⟩ := oN_in (by decide) h1
    have hc : (nI i).toNatClampNeg = i := nI_clamp (by omega)
    by_cases h2 : clo T i
    · rw [show sp_back T D (nI i) = no T D 2 from (if_neg h1).trans (if_pos (by rw [hc]; exact h2))]; exact ww_back_2 l hst I hi h2
    · rw [show sp_back T D (nI i) = (0, nI (T 10 i - T 11 i), u2 T 9 i (T 11 i), D) from (if_neg h1).trans ((if_neg (by rw [hc]; exact h2)).trans (by rw [hc]))]; exact ww_back l hst I hi h2


set_option maxHeartbeats 4000000 in
set_option maxRecDepth 100000 in
theorem ww_mark (l : Launch) (hst : l.stackTraces = false) {G : va_G} {kT : Nat → ClassId} {a0 o9 : Nat} {T : mT} {D : mD} (I : mI T) {i : Nat} {lm : Int32} (hi : i < 3) (hm : ¬ lm < 0) (h : ¬ clo T i) : wM l yL_mark wsL_mark ({ frames := 9, cells := 2, slots := 260, locals := 166 } : Room) G kT a0 o9 [.ref (a0), .int (nI (i)), .int (lm), .ref (o9)] T D 0 (u2 T 11 i (T 9 i)) (D) (oL kT False 0) (oL kT (0 = 0) (((nI (T 10 i - T 9 i)) : Int32).toInt64)) := by
  refine wstart (cc := cL_mark) (maxL := 5) (hh := [(0, 10, 13, 13), (0, 10, 17, 15), (0, 10, 21, 108)]) (by decide) rfl (Nat.le_of_ble_eq_true rfl) (fun ad L K R I A Q N e0 HB h09 ho hP0 p e s m args below meth c Z hE9 X hT hE hW hO ls hl => ?_)
  subst h09
  obtain ⟨f0, rfl, -⟩ := hP0
  have X : CallFix p m c cL_mark 5 s args wsL_mark RL := X
  have hl : lv_has ls 5 [(0, .ref (ad 0 0)), (1, .int (nI (i))), (2, .int (lm)), (3, .ref (o9))] := hl
  have hm9 := HB.mi.rd hi
  refine lv_aload_n X.1 X.2.1 dL_mark_0 rfl (lv_at hl 3 rfl) ?_
  refine lv_iconst (v := nI 0) X.1 X.2.1 dL_mark_1 (by decide) ?_
  refine lv_aload_n X.1 X.2.1 dL_mark_2 rfl (lv_at hl 0 rfl) ?_
  refine lv_iload_n X.1 X.2.1 dL_mark_3 rfl (lv_at hl 1 rfl) ?_
  refine lv_iload_n X.1 X.2.1 dL_mark_4 rfl (lv_at hl 2 rfl) ?_
  refine cFi X hW (HB.mem lv_0) (pC_6 (HB.kn lv_0 rfl)) rfl (co_mark l HB hi hm h) (cwV 2 X.2.2.2.2 gL_mark_X6_mark rfl rfl rfl (by decide +kernel) ⟨Nat.le_of_ble_eq_true rfl, Nat.le_of_ble_eq_true rfl⟩) rfl rfl hl.1 (Nat.le_of_ble_eq_true rfl) dL_mark_5 ⟨Nat.le_of_ble_eq_true rfl, Nat.le_of_ble_eq_true rfl⟩ (fun H locs hW hsz hk => ?_)
  have hO := oK hO ho hk
  refine lv_i2l (v := (nI (T 10 i - T 9 i)).toInt64) X.1 X.2.1 dL_mark_8 rfl ?_
  refine wst X hW hO ho dL_mark_9 (fun H locs hW hO => ?_)
  refine lv_goto (tgt := 25) X.1 X.2.1 dL_mark_10 (by decide) ?_
  refine lv_iconst (v := nI 0) X.1 X.2.1 dL_mark_25 (by decide) ?_
  exact hE9 _ _ _ _ _ _ _ ad L K _ _ _ _ N _ rfl (show _ ≤ 2 by decide) (show _ ≤ 260 by decide) hW ho hO ⟨_, rfl, fun _ => if_pos rfl⟩ (HB.marked hi (by omega)) rfl dL_mark_26

set_option maxHeartbeats 4000000 in
set_option maxRecDepth 100000 in
theorem ww_mark_1 (l : Launch) (hst : l.stackTraces = false) {G : va_G} {kT : Nat → ClassId} {a0 o9 : Nat} {T : mT} {D : mD} {i lm : Int32} (h : oN i 3) : wM l yL_mark wsL_mark ({ frames := 9, cells := 2, slots := 260, locals := 166 } : Room) G kT a0 o9 [.ref (a0), .int (i), .int (lm), .ref (o9)] T D 1 (T) (D) (oL kT False 0) (oL kT (1 = 0) (((nI 0) : Int32).toInt64)) := by
  refine wstart (cc := cL_mark) (maxL := 5) (hh := [(0, 10, 13, 13), (0, 10, 17, 15), (0, 10, 21, 108)]) (by decide) rfl (Nat.le_of_ble_eq_true rfl) (fun ad L K R I A Q N e0 HB h09 ho hP0 p e s m args below meth c Z hE9 X hT hE hW hO ls hl => ?_)
  subst h09
  obtain ⟨f0, rfl, -⟩ := hP0
  have X : CallFix p m c cL_mark 5 s args wsL_mark RL := X
  have hl : lv_has ls 5 [(0, .ref (ad 0 0)), (1, .int (i)), (2, .int (lm)), (3, .ref (o9))] := hl
  refine lv_aload_n X.1 X.2.1 dL_mark_0 rfl (lv_at hl 3 rfl) ?_
  refine lv_iconst (v := nI 0) X.1 X.2.1 dL_mark_1 (by decide) ?_
  refine lv_aload_n X.1 X.2.1 dL_mark_2 rfl (lv_at hl 0 rfl) ?_
  refine lv_iload_n X.1 X.2.1 dL_mark_3 rfl (lv_at hl 1 rfl) ?_
  refine lv_iload_n X.1 X.2.1 dL_mark_4 rfl (lv_at hl 2 rfl) ?_
  refine cCV hE X hW (HB.mem lv_0) (pC_6 (HB.kn lv_0 rfl)) rfl (cb_mark_a l hst HB h) (cwV 2 X.2.2.2.2 gL_mark_X6_mark rfl rfl rfl (by decide +kernel) ⟨Nat.le_of_ble_eq_true rfl, Nat.le_of_ble_eq_true rfl⟩) rfl rfl hl.1 (Nat.le_of_ble_eq_true rfl) dL_mark_5 ⟨Nat.le_of_ble_eq_true rfl, Nat.le_of_ble_eq_true rfl⟩ (fun H locs q8 ce hW hsz hk hce hcv hcl => ?_)
  have hO := oK hO ho hk
  refine vx_catch X.2.2.2.1 [] ⟨0, 10, 13, 13⟩ [⟨0, 10, 17, 15⟩, ⟨0, 10, 21, 108⟩] hT (fun z hz => absurd hz List.not_mem_nil) (by decide) (by decide) (X.2.2.2.2 (.classLink RL 13 "java/lang/IndexOutOfBoundsException") (List.mem_cons_of_mem _ (List.mem_append_left _ (List.mem_append_left _ (List.mem_append_left _ (List.mem_append_left _ (List.mem_append_left _ (List.mem_append_left _ (List.mem_append_left _ (List.mem_of_getElem? (i := 0) rfl)))))))))) (va_Nw.use rfl (hE.2.2.1 (.castable "java/lang/IndexOutOfBoundsException" "java/lang/IndexOutOfBoundsException") (by decide +kernel))) hce hcv hcl ?_
  refine lv_astore (lv' := [(4, .ref (q8)), (0, .ref (ad 0 0)), (1, .int (i)), (2, .int (lm)), (3, .ref (o9))]) X.1 X.2.1 dL_mark_13 hl (by decide) rfl (fun ls hl => ?_)
  refine lv_iconst (v := nI 1) X.1 X.2.1 dL_mark_15 (by decide) ?_
  exact hE9 _ _ _ _ _ _ _ ad L K R I A Q N _ rfl (show _ ≤ 2 by decide) (show _ ≤ 260 by decide) hW ho hO ⟨f0, rfl, fun z => absurd z (by decide)⟩ HB rfl dL_mark_16

set_option maxHeartbeats 4000000 in
set_option maxRecDepth 100000 in
theorem ww_mark_2 (l : Launch) (hst : l.stackTraces = false) {G : va_G} {kT : Nat → ClassId} {a0 o9 : Nat} {T : mT} {D : mD} {i : Nat} {lm : Int32} (hi : i < 3) (h : lm < 0) : wM l yL_mark wsL_mark ({ frames := 9, cells := 2, slots := 260, locals := 166 } : Room) G kT a0 o9 [.ref (a0), .int (nI (i)), .int (lm), .ref (o9)] T D 2 (T) (D) (oL kT False 0) (oL kT (2 = 0) (((nI 0) : Int32).toInt64)) := by
  refine wstart (cc := cL_mark) (maxL := 5) (hh := [(0, 10, 13, 13), (0, 10, 17, 15), (0, 10, 21, 108)]) (by decide) rfl (Nat.le_of_ble_eq_true rfl) (fun ad L K R I A Q N e0 HB h09 ho hP0 p e s m args below meth c Z hE9 X hT hE hW hO ls hl => ?_)
  subst h09
  obtain ⟨f0, rfl, -⟩ := hP0
  have X : CallFix p m c cL_mark 5 s args wsL_mark RL := X
  have hl : lv_has ls 5 [(0, .ref (ad 0 0)), (1, .int (nI (i))), (2, .int (lm)), (3, .ref (o9))] := hl
  refine lv_aload_n X.1 X.2.1 dL_mark_0 rfl (lv_at hl 3 rfl) ?_
  refine lv_iconst (v := nI 0) X.1 X.2.1 dL_mark_1 (by decide) ?_
  refine lv_aload_n X.1 X.2.1 dL_mark_2 rfl (lv_at hl 0 rfl) ?_
  refine lv_iload_n X.1 X.2.1 dL_mark_3 rfl (lv_at hl 1 rfl) ?_
  refine lv_iload_n X.1 X.2.1 dL_mark_4 rfl (lv_at hl 2 rfl) ?_
  refine cCV hE X hW (HB.mem lv_0) (pC_6 (HB.kn lv_0 rfl)) rfl (cb_mark_b l hst HB hi h) (cwV 2 X.2.2.2.2 gL_mark_X6_mark rfl rfl rfl (by decide +kernel) ⟨Nat.le_of_ble_eq_true rfl, Nat.le_of_ble_eq_true rfl⟩) rfl rfl hl.1 (Nat.le_of_ble_eq_true rfl) dL_mark_5 ⟨Nat.le_of_ble_eq_true rfl, Nat.le_of_ble_eq_true rfl⟩ (fun H locs q8 ce hW hsz hk hce hcv hcl => ?_)
  have hO := oK hO ho hk
  refine vx_catch X.2.2.2.1 [⟨0, 10, 13, 13⟩] ⟨0, 10, 17, 15⟩ [⟨0, 10, 21, 108⟩] hT (List.forall_mem_cons.mpr ⟨Or.inr ⟨by decide, "java/lang/IndexOutOfBoundsException", X.2.2.2.2 (.classLink RL 13 "java/lang/IndexOutOfBoundsException") (List.mem_cons_of_mem _ (List.mem_append_left _ (List.mem_append_left _ (List.mem_append_left _ (List.mem_append_left _ (List.mem_append_left _ (List.mem_append_left _ (List.mem_append_left _ (List.mem_of_getElem? (i := 0) rfl))))))))), hE.2.2.2.2 ("java/lang/IllegalArgumentException", "java/lang/IndexOutOfBoundsException") (by decide +kernel)⟩, (fun z hz => absurd hz List.not_mem_nil)⟩) (by decide) (by decide) (X.2.2.2.2 (.classLink RL 15 "java/lang/IllegalArgumentException") (List.mem_cons_of_mem _ (List.mem_append_left _ (List.mem_append_left _ (List.mem_append_left _ (List.mem_append_left _ (List.mem_append_left _ (List.mem_append_left _ (List.mem_append_left _ (List.mem_of_getElem? (i := 1) rfl)))))))))) (va_Nw.use rfl (hE.2.2.1 (.castable "java/lang/IllegalArgumentException" "java/lang/IllegalArgumentException") (by decide +kernel))) hce hcv hcl ?_
  refine lv_astore (lv' := [(4, .ref (q8)), (0, .ref (ad 0 0)), (1, .int (nI (i))), (2, .int (lm)), (3, .ref (o9))]) X.1 X.2.1 dL_mark_17 hl (by decide) rfl (fun ls hl => ?_)
  refine lv_iconst (v := nI 2) X.1 X.2.1 dL_mark_19 (by decide) ?_
  exact hE9 _ _ _ _ _ _ _ ad L K R I A Q N _ rfl (show _ ≤ 2 by decide) (show _ ≤ 260 by decide) hW ho hO ⟨f0, rfl, fun z => absurd z (by decide)⟩ HB rfl dL_mark_20

set_option maxHeartbeats 4000000 in
set_option maxRecDepth 100000 in
theorem ww_mark_3 (l : Launch) (hst : l.stackTraces = false) {G : va_G} {kT : Nat → ClassId} {a0 o9 : Nat} {T : mT} {D : mD} (I : mI T) {i : Nat} {lm : Int32} (hi : i < 3) (hm : ¬ lm < 0) (h : clo T i) : wM l yL_mark wsL_mark ({ frames := 9, cells := 2, slots := 260, locals := 166 } : Room) G kT a0 o9 [.ref (a0), .int (nI (i)), .int (lm), .ref (o9)] T D 3 (T) (D) (oL kT False 0) (oL kT (3 = 0) (((nI 0) : Int32).toInt64)) := by
  refine wstart (cc := cL_mark) (maxL := 5) (hh := [(0, 10, 13, 13), (0, 10, 17, 15), (0, 10, 21, 108)]) (by decide) rfl (Nat.le_of_ble_eq_true rfl) (fun ad L K R I A Q N e0 HB h09 ho hP0 p e s m args below meth c Z hE9 X hT hE hW hO ls hl => ?_)
  subst h09
  obtain ⟨f0, rfl, -⟩ := hP0
  have X : CallFix p m c cL_mark 5 s args wsL_mark RL := X
  have hl : lv_has ls 5 [(0, .ref (ad 0 0)), (1, .int (nI (i))), (2, .int (lm)), (3, .ref (o9))] := hl
  refine lv_aload_n X.1 X.2.1 dL_mark_0 rfl (lv_at hl 3 rfl) ?_
  refine lv_iconst (v := nI 0) X.1 X.2.1 dL_mark_1 (by decide) ?_
  refine lv_aload_n X.1 X.2.1 dL_mark_2 rfl (lv_at hl 0 rfl) ?_
  refine lv_iload_n X.1 X.2.1 dL_mark_3 rfl (lv_at hl 1 rfl) ?_
  refine lv_iload_n X.1 X.2.1 dL_mark_4 rfl (lv_at hl 2 rfl) ?_
  refine cCV hE X hW (HB.mem lv_0) (pC_6 (HB.kn lv_0 rfl)) rfl (cb_mark_c l hst HB hi hm h) (cwV 2 X.2.2.2.2 gL_mark_X6_mark rfl rfl rfl (by decide +kernel) ⟨Nat.le_of_ble_eq_true rfl, Nat.le_of_ble_eq_true rfl⟩) rfl rfl hl.1 (Nat.le_of_ble_eq_true rfl) dL_mark_5 ⟨Nat.le_of_ble_eq_true rfl, Nat.le_of_ble_eq_true rfl⟩ (fun H locs q8 ce hW hsz hk hce hcv hcl => ?_)
  have hO := oK hO ho hk
  refine vx_catch X.2.2.2.1 [⟨0, 10, 13, 13⟩, ⟨0, 10, 17, 15⟩] ⟨0, 10, 21, 108⟩ [] hT (List.forall_mem_cons.mpr ⟨Or.inr ⟨by decide, "java/lang/IndexOutOfBoundsException", X.2.2.2.2 (.classLink RL 13 "java/lang/IndexOutOfBoundsException") (List.mem_cons_of_mem _ (List.mem_append_left _ (List.mem_append_left _ (List.mem_append_left _ (List.mem_append_left _ (List.mem_append_left _ (List.mem_append_left _ (List.mem_append_left _ (List.mem_of_getElem? (i := 0) rfl))))))))), hE.2.2.2.2 ("java/lang/UnsupportedOperationException", "java/lang/IndexOutOfBoundsException") (by decide +kernel)⟩, (List.forall_mem_cons.mpr ⟨Or.inr ⟨by decide, "java/lang/IllegalArgumentException", X.2.2.2.2 (.classLink RL 15 "java/lang/IllegalArgumentException") (List.mem_cons_of_mem _ (List.mem_append_left _ (List.mem_append_left _ (List.mem_append_left _ (List.mem_append_left _ (List.mem_append_left _ (List.mem_append_left _ (List.mem_append_left _ (List.mem_of_getElem? (i := 1) rfl))))))))), hE.2.2.2.2 ("java/lang/UnsupportedOperationException", "java/lang/IllegalArgumentException") (by decide +kernel)⟩, (fun z hz => absurd hz List.not_mem_nil)⟩)⟩) (by decide) (by decide) (X.2.2.2.2 (.classLink RL 108 "java/lang/UnsupportedOperationException") (List.mem_cons_of_mem _ (List.mem_append_left _ (List.mem_append_left _ (List.mem_append_left _ (List.mem_append_left _ (List.mem_append_left _ (List.mem_append_left _ (List.mem_append_left _ (List.mem_of_getElem? (i := 2) rfl)))))))))) (va_Nw.use rfl (hE.2.2.1 (.castable "java/lang/UnsupportedOperationException" "java/lang/UnsupportedOperationException") (by decide +kernel))) hce hcv hcl ?_
  refine lv_astore (lv' := [(4, .ref (q8)), (0, .ref (ad 0 0)), (1, .int (nI (i))), (2, .int (lm)), (3, .ref (o9))]) X.1 X.2.1 dL_mark_21 hl (by decide) rfl (fun ls hl => ?_)
  refine lv_iconst (v := nI 3) X.1 X.2.1 dL_mark_23 (by decide) ?_
  exact hE9 _ _ _ _ _ _ _ ad L K R I A Q N _ rfl (show _ ≤ 2 by decide) (show _ ≤ 260 by decide) hW ho hO ⟨f0, rfl, fun z => absurd z (by decide)⟩ HB rfl dL_mark_24

theorem wo_mark (l : Launch) (hst : l.stackTraces = false) {G : va_G} {kT : Nat → ClassId} {a0 o9 : Nat} {T : mT} {D : mD} (I : mI T) (J : mJD D) (i m : Int32) : wO l yL_mark wsL_mark ({ frames := 9, cells := 2, slots := 260, locals := 166 } : Room) G kT a0 o9 [.ref a0, .int i, .int m, .ref o9] T D (sp_mark T D i m) := by
  by_cases h1 : oN i 3
  · rw [show sp_mark T D i m = no T D 1 from if_pos h1]; exact ww_mark_1 l hst h1
  · obtain ⟨i, hi, rfl⟩ := oN_in (by decide) h1
    have hc : (nI i).toNatClampNeg = i := nI_clamp (by omega)
    by_cases hm : m < 0
    · rw [show sp_mark T D (nI i) m = no T D 2 from (if_neg h1).trans (if_pos hm)]; exact ww_mark_2 l hst hi hm
    · by_cases h2 : clo T i
      · rw [show sp_mark T D (nI i) m = no T D 3 from (if_neg h1).trans ((if_neg hm).trans (if_pos (by rw [hc]; exact h2)))]; exact ww_mark_3 l hst I hi hm h2
      · rw [show sp_mark T D (nI i) m = (0, nI (T 10 i - T 9 i), u2 T 11 i (T 9 i), D) from (if_neg h1).trans ((if_neg hm).trans ((if_neg (by rw [hc]; exact h2)).trans (by rw [hc])))]; exact ww_mark l hst I hi hm h2


set_option maxHeartbeats 4000000 in
set_option maxRecDepth 100000 in
theorem ww_skip_1 (l : Launch) (hst : l.stackTraces = false) {G : va_G} {kT : Nat → ClassId} {a0 o9 : Nat} {T : mT} {D : mD} {i : Int32} {lm : Int64} (h : oN i 3) : wM l yL_skip wsL_skip ({ frames := 9, cells := 2, slots := 260, locals := 166 } : Room) G kT a0 o9 [.ref (a0), .int (i), .long (lm), .ref (o9)] T D 1 (T) (D) (oL kT False 0) (oL kT (1 = 0) (lN 0)) := by
  refine wstart (cc := cL_skip) (maxL := 6) (hh := [(0, 10, 13, 13), (0, 10, 17, 108)]) (by decide) rfl (Nat.le_of_ble_eq_true rfl) (fun ad L K R I A Q N e0 HB h09 ho hP0 p e s m args below meth c Z hE9 X hT hE hW hO ls hl => ?_)
  subst h09
  obtain ⟨f0, rfl, -⟩ := hP0
  have X : CallFix p m c cL_skip 6 s args wsL_skip RL := X
  have hl : lv_has ls 6 [(0, .ref (ad 0 0)), (1, .int (i)), (2, .long (lm)), (4, .ref (o9))] := hl
  refine lv_aload X.1 X.2.1 dL_skip_0 (lv_at hl 3 rfl) ?_
  refine lv_iconst (v := nI 0) X.1 X.2.1 dL_skip_2 (by decide) ?_
  refine lv_aload_n X.1 X.2.1 dL_skip_3 rfl (lv_at hl 0 rfl) ?_
  refine lv_iload_n X.1 X.2.1 dL_skip_4 rfl (lv_at hl 1 rfl) ?_
  refine lv_lload_n X.1 X.2.1 dL_skip_5 rfl (lv_at hl 2 rfl) ?_
  refine cCV hE X hW (HB.mem lv_0) (pC_6 (HB.kn lv_0 rfl)) rfl (cb_skip_a l hst HB h) (cwV 2 X.2.2.2.2 gL_skip_X6_skip rfl rfl rfl (by decide +kernel) ⟨Nat.le_of_ble_eq_true rfl, Nat.le_of_ble_eq_true rfl⟩) rfl rfl hl.1 (Nat.le_of_ble_eq_true rfl) dL_skip_6 ⟨Nat.le_of_ble_eq_true rfl, Nat.le_of_ble_eq_true rfl⟩ (fun H locs q8 ce hW hsz hk hce hcv hcl => ?_)
  have hO := oK hO ho hk
  refine vx_catch X.2.2.2.1 [] ⟨0, 10, 13, 13⟩ [⟨0, 10, 17, 108⟩] hT (fun z hz => absurd hz List.not_mem_nil) (by decide) (by decide) (X.2.2.2.2 (.classLink RL 13 "java/lang/IndexOutOfBoundsException") (List.mem_cons_of_mem _ (List.mem_append_left _ (List.mem_append_left _ (List.mem_append_left _ (List.mem_append_left _ (List.mem_append_left _ (List.mem_append_left _ (List.mem_of_getElem? (i := 0) rfl))))))))) (va_Nw.use rfl (hE.2.2.1 (.castable "java/lang/IndexOutOfBoundsException" "java/lang/IndexOutOfBoundsException") (by decide +kernel))) hce hcv hcl ?_
  refine lv_astore (lv' := [(5, .ref (q8)), (0, .ref (ad 0 0)), (1, .int (i)), (2, .long (lm)), (4, .ref (o9))]) X.1 X.2.1 dL_skip_13 hl (by decide) rfl (fun ls hl => ?_)
  refine lv_iconst (v := nI 1) X.1 X.2.1 dL_skip_15 (by decide) ?_
  exact hE9 _ _ _ _ _ _ _ ad L K R I A Q N _ rfl (show _ ≤ 2 by decide) (show _ ≤ 260 by decide) hW ho hO ⟨f0, rfl, fun z => absurd z (by decide)⟩ HB rfl dL_skip_16

set_option maxHeartbeats 4000000 in
set_option maxRecDepth 100000 in
theorem ww_skip_2 (l : Launch) (hst : l.stackTraces = false) {G : va_G} {kT : Nat → ClassId} {a0 o9 : Nat} {T : mT} {D : mD} (I : mI T) {i : Nat} {lm : Int64} (hi : i < 3) (h : clo T i) : wM l yL_skip wsL_skip ({ frames := 9, cells := 2, slots := 260, locals := 166 } : Room) G kT a0 o9 [.ref (a0), .int (nI (i)), .long (lm), .ref (o9)] T D 2 (T) (D) (oL kT False 0) (oL kT (2 = 0) (lN 0)) := by
  refine wstart (cc := cL_skip) (maxL := 6) (hh := [(0, 10, 13, 13), (0, 10, 17, 108)]) (by decide) rfl (Nat.le_of_ble_eq_true rfl) (fun ad L K R I A Q N e0 HB h09 ho hP0 p e s m args below meth c Z hE9 X hT hE hW hO ls hl => ?_)
  subst h09
  obtain ⟨f0, rfl, -⟩ := hP0
  have X : CallFix p m c cL_skip 6 s args wsL_skip RL := X
  have hl : lv_has ls 6 [(0, .ref (ad 0 0)), (1, .int (nI (i))), (2, .long (lm)), (4, .ref (o9))] := hl
  refine lv_aload X.1 X.2.1 dL_skip_0 (lv_at hl 3 rfl) ?_
  refine lv_iconst (v := nI 0) X.1 X.2.1 dL_skip_2 (by decide) ?_
  refine lv_aload_n X.1 X.2.1 dL_skip_3 rfl (lv_at hl 0 rfl) ?_
  refine lv_iload_n X.1 X.2.1 dL_skip_4 rfl (lv_at hl 1 rfl) ?_
  refine lv_lload_n X.1 X.2.1 dL_skip_5 rfl (lv_at hl 2 rfl) ?_
  refine cCV hE X hW (HB.mem lv_0) (pC_6 (HB.kn lv_0 rfl)) rfl (cb_skip_b l hst HB hi h) (cwV 2 X.2.2.2.2 gL_skip_X6_skip rfl rfl rfl (by decide +kernel) ⟨Nat.le_of_ble_eq_true rfl, Nat.le_of_ble_eq_true rfl⟩) rfl rfl hl.1 (Nat.le_of_ble_eq_true rfl) dL_skip_6 ⟨Nat.le_of_ble_eq_true rfl, Nat.le_of_ble_eq_true rfl⟩ (fun H locs q8 ce hW hsz hk hce hcv hcl => ?_)
  have hO := oK hO ho hk
  refine vx_catch X.2.2.2.1 [⟨0, 10, 13, 13⟩] ⟨0, 10, 17, 108⟩ [] hT (List.forall_mem_cons.mpr ⟨Or.inr ⟨by decide, "java/lang/IndexOutOfBoundsException", X.2.2.2.2 (.classLink RL 13 "java/lang/IndexOutOfBoundsException") (List.mem_cons_of_mem _ (List.mem_append_left _ (List.mem_append_left _ (List.mem_append_left _ (List.mem_append_left _ (List.mem_append_left _ (List.mem_append_left _ (List.mem_of_getElem? (i := 0) rfl)))))))), hE.2.2.2.2 ("java/lang/UnsupportedOperationException", "java/lang/IndexOutOfBoundsException") (by decide +kernel)⟩, (fun z hz => absurd hz List.not_mem_nil)⟩) (by decide) (by decide) (X.2.2.2.2 (.classLink RL 108 "java/lang/UnsupportedOperationException") (List.mem_cons_of_mem _ (List.mem_append_left _ (List.mem_append_left _ (List.mem_append_left _ (List.mem_append_left _ (List.mem_append_left _ (List.mem_append_left _ (List.mem_of_getElem? (i := 1) rfl))))))))) (va_Nw.use rfl (hE.2.2.1 (.castable "java/lang/UnsupportedOperationException" "java/lang/UnsupportedOperationException") (by decide +kernel))) hce hcv hcl ?_
  refine lv_astore (lv' := [(5, .ref (q8)), (0, .ref (ad 0 0)), (1, .int (nI (i))), (2, .long (lm)), (4, .ref (o9))]) X.1 X.2.1 dL_skip_17 hl (by decide) rfl (fun ls hl => ?_)
  refine lv_iconst (v := nI 2) X.1 X.2.1 dL_skip_19 (by decide) ?_
  exact hE9 _ _ _ _ _ _ _ ad L K R I A Q N _ rfl (show _ ≤ 2 by decide) (show _ ≤ 260 by decide) hW ho hO ⟨f0, rfl, fun z => absurd z (by decide)⟩ HB rfl dL_skip_20

set_option maxHeartbeats 4000000 in
set_option maxRecDepth 100000 in
theorem ww_skip_n (l : Launch) (hst : l.stackTraces = false) {G : va_G} {kT : Nat → ClassId} {a0 o9 : Nat} {T : mT} {D : mD} (I : mI T) {i : Nat} {lm : Int64} (hi : i < 3) (h : ¬ clo T i) (hm : lm < 0) : wM l yL_skip wsL_skip ({ frames := 9, cells := 2, slots := 260, locals := 166 } : Room) G kT a0 o9 [.ref (a0), .int (nI (i)), .long (lm), .ref (o9)] T D 0 (u2 T 9 i (T 9 i + 0)) (D) (oL kT False 0) (oL kT (0 = 0) (lN 0)) := by
  refine wstart (cc := cL_skip) (maxL := 6) (hh := [(0, 10, 13, 13), (0, 10, 17, 108)]) (by decide) rfl (Nat.le_of_ble_eq_true rfl) (fun ad L K R I A Q N e0 HB h09 ho hP0 p e s m args below meth c Z hE9 X hT hE hW hO ls hl => ?_)
  subst h09
  obtain ⟨f0, rfl, -⟩ := hP0
  have X : CallFix p m c cL_skip 6 s args wsL_skip RL := X
  have hl : lv_has ls 6 [(0, .ref (ad 0 0)), (1, .int (nI (i))), (2, .long (lm)), (4, .ref (o9))] := hl
  have hm9 := HB.mi.rd hi
  have e9 : skN lm (T 10 i - T 9 i) = 0 := if_pos hm
  refine lv_aload X.1 X.2.1 dL_skip_0 (lv_at hl 3 rfl) ?_
  refine lv_iconst (v := nI 0) X.1 X.2.1 dL_skip_2 (by decide) ?_
  refine lv_aload_n X.1 X.2.1 dL_skip_3 rfl (lv_at hl 0 rfl) ?_
  refine lv_iload_n X.1 X.2.1 dL_skip_4 rfl (lv_at hl 1 rfl) ?_
  refine lv_lload_n X.1 X.2.1 dL_skip_5 rfl (lv_at hl 2 rfl) ?_
  refine cFl X hW (HB.mem lv_0) (pC_6 (HB.kn lv_0 rfl)) rfl (co_skip l HB (lm := lm) hi h) (cwV 2 X.2.2.2.2 gL_skip_X6_skip rfl rfl rfl (by decide +kernel) ⟨Nat.le_of_ble_eq_true rfl, Nat.le_of_ble_eq_true rfl⟩) rfl rfl hl.1 (Nat.le_of_ble_eq_true rfl) dL_skip_6 ⟨Nat.le_of_ble_eq_true rfl, Nat.le_of_ble_eq_true rfl⟩ (fun H locs hW hsz hk => ?_)
  have hO := oK hO ho hk
  refine wst X hW hO ho dL_skip_9 (fun H locs hW hO => ?_)
  refine lv_goto (tgt := 21) X.1 X.2.1 dL_skip_10 (by decide) ?_
  refine lv_iconst (v := nI 0) X.1 X.2.1 dL_skip_21 (by decide) ?_
  exact hE9 _ _ _ _ _ _ _ ad L K _ _ _ _ N _ rfl (show _ ≤ 2 by decide) (show _ ≤ 260 by decide) hW ho hO ⟨_, rfl, fun _ => (if_pos rfl).trans (by rw [e9])⟩ (by rw [e9]; exact HB.place hi (by omega)) rfl dL_skip_22

set_option maxHeartbeats 4000000 in
set_option maxRecDepth 100000 in
theorem ww_skip_l (l : Launch) (hst : l.stackTraces = false) {G : va_G} {kT : Nat → ClassId} {a0 o9 : Nat} {T : mT} {D : mD} (I : mI T) {i k : Nat} (hi : i < 3) (h : ¬ clo T i) (hk : k < 2 ^ 63) (h2 : k < T 10 i - T 9 i) : wM l yL_skip wsL_skip ({ frames := 9, cells := 2, slots := 260, locals := 166 } : Room) G kT a0 o9 [.ref (a0), .int (nI (i)), .long (lN k), .ref (o9)] T D 0 (u2 T 9 i (T 9 i + k)) (D) (oL kT False 0) (oL kT (0 = 0) (lN k)) := by
  refine wstart (cc := cL_skip) (maxL := 6) (hh := [(0, 10, 13, 13), (0, 10, 17, 108)]) (by decide) rfl (Nat.le_of_ble_eq_true rfl) (fun ad L K R I A Q N e0 HB h09 ho hP0 p e s m args below meth c Z hE9 X hT hE hW hO ls hl => ?_)
  subst h09
  obtain ⟨f0, rfl, -⟩ := hP0
  have X : CallFix p m c cL_skip 6 s args wsL_skip RL := X
  have hl : lv_has ls 6 [(0, .ref (ad 0 0)), (1, .int (nI (i))), (2, .long (lN k)), (4, .ref (o9))] := hl
  have hm9 := HB.mi.rd hi
  have e8 : (lN k).toInt.toNat = k := by rw [pk_lT hk]; rfl
  have e9 : skN (lN k) (T 10 i - T 9 i) = k := by rw [skN, if_neg (show ¬ lN k < 0 from fun z => absurd ((pk_lLT (b := 0) hk (by decide)).mp z) (Nat.not_lt_zero k)), e8]; omega
  refine lv_aload X.1 X.2.1 dL_skip_0 (lv_at hl 3 rfl) ?_
  refine lv_iconst (v := nI 0) X.1 X.2.1 dL_skip_2 (by decide) ?_
  refine lv_aload_n X.1 X.2.1 dL_skip_3 rfl (lv_at hl 0 rfl) ?_
  refine lv_iload_n X.1 X.2.1 dL_skip_4 rfl (lv_at hl 1 rfl) ?_
  refine lv_lload_n X.1 X.2.1 dL_skip_5 rfl (lv_at hl 2 rfl) ?_
  refine cFl X hW (HB.mem lv_0) (pC_6 (HB.kn lv_0 rfl)) rfl (co_skip l HB (lm := lN k) hi h) (cwV 2 X.2.2.2.2 gL_skip_X6_skip rfl rfl rfl (by decide +kernel) ⟨Nat.le_of_ble_eq_true rfl, Nat.le_of_ble_eq_true rfl⟩) rfl rfl hl.1 (Nat.le_of_ble_eq_true rfl) dL_skip_6 ⟨Nat.le_of_ble_eq_true rfl, Nat.le_of_ble_eq_true rfl⟩ (fun H locs hW hsz hk => ?_)
  have hO := oK hO ho hk
  refine wst X hW hO ho dL_skip_9 (fun H locs hW hO => ?_)
  refine lv_goto (tgt := 21) X.1 X.2.1 dL_skip_10 (by decide) ?_
  refine lv_iconst (v := nI 0) X.1 X.2.1 dL_skip_21 (by decide) ?_
  exact hE9 _ _ _ _ _ _ _ ad L K _ _ _ _ N _ rfl (show _ ≤ 2 by decide) (show _ ≤ 260 by decide) hW ho hO ⟨_, rfl, fun _ => (if_pos rfl).trans (by rw [e9])⟩ (by rw [e9]; exact HB.place hi (by omega)) rfl dL_skip_22

set_option maxHeartbeats 4000000 in
set_option maxRecDepth 100000 in
theorem ww_skip_r (l : Launch) (hst : l.stackTraces = false) {G : va_G} {kT : Nat → ClassId} {a0 o9 : Nat} {T : mT} {D : mD} (I : mI T) {i k : Nat} (hi : i < 3) (h : ¬ clo T i) (hk : k < 2 ^ 63) (h2 : T 10 i - T 9 i ≤ k) : wM l yL_skip wsL_skip ({ frames := 9, cells := 2, slots := 260, locals := 166 } : Room) G kT a0 o9 [.ref (a0), .int (nI (i)), .long (lN k), .ref (o9)] T D 0 (u2 T 9 i (T 9 i + (T 10 i - T 9 i))) (D) (oL kT False 0) (oL kT (0 = 0) (lN (T 10 i - T 9 i))) := by
  refine wstart (cc := cL_skip) (maxL := 6) (hh := [(0, 10, 13, 13), (0, 10, 17, 108)]) (by decide) rfl (Nat.le_of_ble_eq_true rfl) (fun ad L K R I A Q N e0 HB h09 ho hP0 p e s m args below meth c Z hE9 X hT hE hW hO ls hl => ?_)
  subst h09
  obtain ⟨f0, rfl, -⟩ := hP0
  have X : CallFix p m c cL_skip 6 s args wsL_skip RL := X
  have hl : lv_has ls 6 [(0, .ref (ad 0 0)), (1, .int (nI (i))), (2, .long (lN k)), (4, .ref (o9))] := hl
  have hm9 := HB.mi.rd hi
  have e8 : (lN k).toInt.toNat = k := by rw [pk_lT hk]; rfl
  have e9 : skN (lN k) (T 10 i - T 9 i) = T 10 i - T 9 i := by rw [skN, if_neg (show ¬ lN k < 0 from fun z => absurd ((pk_lLT (b := 0) hk (by decide)).mp z) (Nat.not_lt_zero k)), e8]; omega
  refine lv_aload X.1 X.2.1 dL_skip_0 (lv_at hl 3 rfl) ?_
  refine lv_iconst (v := nI 0) X.1 X.2.1 dL_skip_2 (by decide) ?_
  refine lv_aload_n X.1 X.2.1 dL_skip_3 rfl (lv_at hl 0 rfl) ?_
  refine lv_iload_n X.1 X.2.1 dL_skip_4 rfl (lv_at hl 1 rfl) ?_
  refine lv_lload_n X.1 X.2.1 dL_skip_5 rfl (lv_at hl 2 rfl) ?_
  refine cFl X hW (HB.mem lv_0) (pC_6 (HB.kn lv_0 rfl)) rfl (co_skip l HB (lm := lN k) hi h) (cwV 2 X.2.2.2.2 gL_skip_X6_skip rfl rfl rfl (by decide +kernel) ⟨Nat.le_of_ble_eq_true rfl, Nat.le_of_ble_eq_true rfl⟩) rfl rfl hl.1 (Nat.le_of_ble_eq_true rfl) dL_skip_6 ⟨Nat.le_of_ble_eq_true rfl, Nat.le_of_ble_eq_true rfl⟩ (fun H locs hW hsz hk => ?_)
  have hO := oK hO ho hk
  refine wst X hW hO ho dL_skip_9 (fun H locs hW hO => ?_)
  refine lv_goto (tgt := 21) X.1 X.2.1 dL_skip_10 (by decide) ?_
  refine lv_iconst (v := nI 0) X.1 X.2.1 dL_skip_21 (by decide) ?_
  exact hE9 _ _ _ _ _ _ _ ad L K _ _ _ _ N _ rfl (show _ ≤ 2 by decide) (show _ ≤ 260 by decide) hW ho hO ⟨_, rfl, fun _ => (if_pos rfl).trans (by rw [e9])⟩ (by rw [e9]; exact HB.place hi (by omega)) rfl dL_skip_22

theorem wo_skip (l : Launch) (hst : l.stackTraces = false) {G : va_G} {kT : Nat → ClassId} {a0 o9 : Nat} {T : mT} {D : mD} (I : mI T) (J : mJD D) (i : Int32) (m : Int64) : wOl l yL_skip wsL_skip ({ frames := 9, cells := 2, slots := 260, locals := 166 } : Room) G kT a0 o9 [.ref a0, .int i, .long m, .ref o9] T D (sp_skip T D i m) := by
  by_cases h1 : oN i 3
  · rw [show sp_skip T D i m = nol T D 1 from if_pos h1]; exact ww_skip_1 l hst h1
  · obtain ⟨i, hi, rfl⟩ := oN_in (by decide) h1
    have hc : (nI i).toNatClampNeg = i := nI_clamp (by omega)
    by_cases h2 : clo T i
    · rw [show sp_skip T D (nI i) m = nol T D 2 from (if_neg h1).trans (if_pos (by rw [hc]; exact h2))]; exact ww_skip_2 l hst I hi h2
    · have I1 := I.rd hi
      have e0 : sp_skip T D (nI i) m = (0, skN m (T 10 i - T 9 i), u2 T 9 i (T 9 i + skN m (T 10 i - T 9 i)), D) := (if_neg h1).trans ((if_neg (by rw [hc]; exact h2)).trans (by rw [hc]))
      rw [e0]
      by_cases hm : m < 0
      · rw [show skN m (T 10 i - T 9 i) = 0 from if_pos hm]; exact ww_skip_n l hst I hi h2 hm
      · obtain ⟨k, hk, rfl⟩ := pk_lOf hm
        have e1 : skN (lN k) (T 10 i - T 9 i) = min k (T 10 i - T 9 i) := (if_neg hm).trans (by rw [pk_lT hk]; rfl)
        rw [e1]
        by_cases h3 : k < T 10 i - T 9 i
        · rw [show min k (T 10 i - T 9 i) = k by omega]; exact ww_skip_l l hst I hi h2 hk h3
        · rw [show min k (T 10 i - T 9 i) = T 10 i - T 9 i by omega]; exact ww_skip_r l hst I hi h2 hk (Nat.not_lt.mp h3)

set_option maxHeartbeats 4000000 in
set_option maxRecDepth 100000 in
theorem ww_readPart_1a (l : Launch) (hst : l.stackTraces = false) {G : va_G} {kT : Nat → ClassId} {a0 o9 : Nat} {T : mT} {D : mD} {i row f n : Int32} (h : oN i 3) : wM l yL_readPart wsL_readPart ({ frames := 9, cells := 2, slots := 260, locals := 169 } : Room) G kT a0 o9 [.ref (a0), .int (i), .int (row), .int (f), .int (n), .ref (o9)] T D 1 (T) (D) (oL kT False 0) (oL kT (1 = 0) (((nI 0) : Int32).toInt64)) := by
  refine wstart (cc := cL_readPart) (maxL := 7) (hh := [(0, 14, 17, 13), (0, 14, 21, 15), (0, 14, 25, 108), (0, 14, 29, 50)]) (by decide) rfl (Nat.le_of_ble_eq_true rfl) (fun ad L K R I A Q N e0 HB h09 ho hP0 p e s m args below meth c Z hE9 X hT hE hW hO ls hl => ?_)
  subst h09
  obtain ⟨f0, rfl, -⟩ := hP0
  have X : CallFix p m c cL_readPart 7 s args wsL_readPart RL := X
  have hl : lv_has ls 7 [(0, .ref (ad 0 0)), (1, .int (i)), (2, .int (row)), (3, .int (f)), (4, .int (n)), (5, .ref (o9))] := hl
  refine lv_aload X.1 X.2.1 dL_readPart_0 (lv_at hl 5 rfl) ?_
  refine lv_iconst (v := nI 0) X.1 X.2.1 dL_readPart_2 (by decide) ?_
  refine lv_aload_n X.1 X.2.1 dL_readPart_3 rfl (lv_at hl 0 rfl) ?_
  refine lv_iload_n X.1 X.2.1 dL_readPart_4 rfl (lv_at hl 1 rfl) ?_
  refine lv_iload_n X.1 X.2.1 dL_readPart_5 rfl (lv_at hl 2 rfl) ?_
  refine lv_iload_n X.1 X.2.1 dL_readPart_6 rfl (lv_at hl 3 rfl) ?_
  refine lv_iload X.1 X.2.1 dL_readPart_7 (lv_at hl 4 rfl) ?_
  refine cCV hE X hW (HB.mem lv_0) (pC_6 (HB.kn lv_0 rfl)) rfl (cb_readPart_a l hst HB h) (cwV 4 X.2.2.2.2 gL_readPart_X6_readPart rfl rfl rfl (by decide +kernel) ⟨Nat.le_of_ble_eq_true rfl, Nat.le_of_ble_eq_true rfl⟩) rfl rfl hl.1 (Nat.le_of_ble_eq_true rfl) dL_readPart_9 ⟨Nat.le_of_ble_eq_true rfl, Nat.le_of_ble_eq_true rfl⟩ (fun H locs q8 ce hW hsz hk hce hcv hcl => ?_)
  have hO := oK hO ho hk
  refine vx_catch X.2.2.2.1 [] ⟨0, 14, 17, 13⟩ [⟨0, 14, 21, 15⟩, ⟨0, 14, 25, 108⟩, ⟨0, 14, 29, 50⟩] hT (fun z hz => absurd hz List.not_mem_nil) (by decide) (by decide) (X.2.2.2.2 (.classLink RL 13 "java/lang/IndexOutOfBoundsException") (List.mem_cons_of_mem _ (List.mem_append_left _ (List.mem_append_left _ (List.mem_append_left _ (List.mem_append_left _ (List.mem_append_left _ (List.mem_append_left _ (List.mem_append_left _ (List.mem_append_left _ (List.mem_append_left _ (List.mem_of_getElem? (i := 0) rfl)))))))))))) (va_Nw.use rfl (hE.2.2.1 (.castable "java/lang/IndexOutOfBoundsException" "java/lang/IndexOutOfBoundsException") (by decide +kernel))) hce hcv hcl ?_
  refine lv_astore (lv' := [(6, .ref (q8)), (0, .ref (ad 0 0)), (1, .int (i)), (2, .int (row)), (3, .int (f)), (4, .int (n)), (5, .ref (o9))]) X.1 X.2.1 dL_readPart_17 hl (by decide) rfl (fun ls hl => ?_)
  refine lv_iconst (v := nI 1) X.1 X.2.1 dL_readPart_19 (by decide) ?_
  exact hE9 _ _ _ _ _ _ _ ad L K R I A Q N _ rfl (show _ ≤ 2 by decide) (show _ ≤ 260 by decide) hW ho hO ⟨f0, rfl, fun z => absurd z (by decide)⟩ HB rfl dL_readPart_20

set_option maxHeartbeats 4000000 in
set_option maxRecDepth 100000 in
theorem ww_readPart_1by (l : Launch) (hst : l.stackTraces = false) {G : va_G} {kT : Nat → ClassId} {a0 o9 : Nat} {T : mT} {D : mD} {i : Nat} {row f n : Int32} (hi : i < 3) (h : oN row 4) (hn : nI 1 ≤ n) : wM l yL_readPart wsL_readPart ({ frames := 9, cells := 2, slots := 260, locals := 169 } : Room) G kT a0 o9 [.ref (a0), .int (nI (i)), .int (row), .int (f), .int (n), .ref (o9)] T D 1 (T) (D) (oL kT False 0) (oL kT (1 = 0) (((nI 0) : Int32).toInt64)) := by
  refine wstart (cc := cL_readPart) (maxL := 7) (hh := [(0, 14, 17, 13), (0, 14, 21, 15), (0, 14, 25, 108), (0, 14, 29, 50)]) (by decide) rfl (Nat.le_of_ble_eq_true rfl) (fun ad L K R I A Q N e0 HB h09 ho hP0 p e s m args below meth c Z hE9 X hT hE hW hO ls hl => ?_)
  subst h09
  obtain ⟨f0, rfl, -⟩ := hP0
  have X : CallFix p m c cL_readPart 7 s args wsL_readPart RL := X
  have hl : lv_has ls 7 [(0, .ref (ad 0 0)), (1, .int (nI (i))), (2, .int (row)), (3, .int (f)), (4, .int (n)), (5, .ref (o9))] := hl
  refine lv_aload X.1 X.2.1 dL_readPart_0 (lv_at hl 5 rfl) ?_
  refine lv_iconst (v := nI 0) X.1 X.2.1 dL_readPart_2 (by decide) ?_
  refine lv_aload_n X.1 X.2.1 dL_readPart_3 rfl (lv_at hl 0 rfl) ?_
  refine lv_iload_n X.1 X.2.1 dL_readPart_4 rfl (lv_at hl 1 rfl) ?_
  refine lv_iload_n X.1 X.2.1 dL_readPart_5 rfl (lv_at hl 2 rfl) ?_
  refine lv_iload_n X.1 X.2.1 dL_readPart_6 rfl (lv_at hl 3 rfl) ?_
  refine lv_iload X.1 X.2.1 dL_readPart_7 (lv_at hl 4 rfl) ?_
  refine cCV hE X hW (HB.mem lv_0) (pC_6 (HB.kn lv_0 rfl)) rfl (cb_readPart_b l hst HB hi h) (cwV 4 X.2.2.2.2 gL_readPart_X6_readPart rfl rfl rfl (by decide +kernel) ⟨Nat.le_of_ble_eq_true rfl, Nat.le_of_ble_eq_true rfl⟩) rfl rfl hl.1 (Nat.le_of_ble_eq_true rfl) dL_readPart_9 ⟨Nat.le_of_ble_eq_true rfl, Nat.le_of_ble_eq_true rfl⟩ (fun H locs q8 ce hW hsz hk hce hcv hcl => ?_)
  have hO := oK hO ho hk
  refine vx_catch X.2.2.2.1 [] ⟨0, 14, 17, 13⟩ [⟨0, 14, 21, 15⟩, ⟨0, 14, 25, 108⟩, ⟨0, 14, 29, 50⟩] hT (fun z hz => absurd hz List.not_mem_nil) (by decide) (by decide) (X.2.2.2.2 (.classLink RL 13 "java/lang/IndexOutOfBoundsException") (List.mem_cons_of_mem _ (List.mem_append_left _ (List.mem_append_left _ (List.mem_append_left _ (List.mem_append_left _ (List.mem_append_left _ (List.mem_append_left _ (List.mem_append_left _ (List.mem_append_left _ (List.mem_append_left _ (List.mem_of_getElem? (i := 0) rfl)))))))))))) (va_Nw.use rfl (hE.2.2.1 (.castable "java/lang/IndexOutOfBoundsException" "java/lang/IndexOutOfBoundsException") (by decide +kernel))) hce hcv hcl ?_
  refine lv_astore (lv' := [(6, .ref (q8)), (0, .ref (ad 0 0)), (1, .int (nI (i))), (2, .int (row)), (3, .int (f)), (4, .int (n)), (5, .ref (o9))]) X.1 X.2.1 dL_readPart_17 hl (by decide) rfl (fun ls hl => ?_)
  refine lv_iconst (v := nI 1) X.1 X.2.1 dL_readPart_19 (by decide) ?_
  exact hE9 _ _ _ _ _ _ _ ad L K R I A Q N _ rfl (show _ ≤ 2 by decide) (show _ ≤ 260 by decide) hW ho hO ⟨f0, rfl, fun z => absurd z (by decide)⟩ HB rfl dL_readPart_20

set_option maxHeartbeats 4000000 in
set_option maxRecDepth 100000 in
theorem ww_readPart_1bx (l : Launch) (hst : l.stackTraces = false) {G : va_G} {kT : Nat → ClassId} {a0 o9 : Nat} {T : mT} {D : mD} {i : Nat} {row f n : Int32} (hi : i < 3) (h : oN row 4) (hn : ¬ nI 1 ≤ n) : wM l yL_readPart wsL_readPart ({ frames := 9, cells := 2, slots := 260, locals := 169 } : Room) G kT a0 o9 [.ref (a0), .int (nI (i)), .int (row), .int (f), .int (n), .ref (o9)] T D 1 (T) (D) (oL kT False 0) (oL kT (1 = 0) (((nI 0) : Int32).toInt64)) := by
  refine wstart (cc := cL_readPart) (maxL := 7) (hh := [(0, 14, 17, 13), (0, 14, 21, 15), (0, 14, 25, 108), (0, 14, 29, 50)]) (by decide) rfl (Nat.le_of_ble_eq_true rfl) (fun ad L K R I A Q N e0 HB h09 ho hP0 p e s m args below meth c Z hE9 X hT hE hW hO ls hl => ?_)
  subst h09
  obtain ⟨f0, rfl, -⟩ := hP0
  have X : CallFix p m c cL_readPart 7 s args wsL_readPart RL := X
  have hl : lv_has ls 7 [(0, .ref (ad 0 0)), (1, .int (nI (i))), (2, .int (row)), (3, .int (f)), (4, .int (n)), (5, .ref (o9))] := hl
  refine lv_aload X.1 X.2.1 dL_readPart_0 (lv_at hl 5 rfl) ?_
  refine lv_iconst (v := nI 0) X.1 X.2.1 dL_readPart_2 (by decide) ?_
  refine lv_aload_n X.1 X.2.1 dL_readPart_3 rfl (lv_at hl 0 rfl) ?_
  refine lv_iload_n X.1 X.2.1 dL_readPart_4 rfl (lv_at hl 1 rfl) ?_
  refine lv_iload_n X.1 X.2.1 dL_readPart_5 rfl (lv_at hl 2 rfl) ?_
  refine lv_iload_n X.1 X.2.1 dL_readPart_6 rfl (lv_at hl 3 rfl) ?_
  refine lv_iload X.1 X.2.1 dL_readPart_7 (lv_at hl 4 rfl) ?_
  refine cCV hE X hW (HB.mem lv_0) (pC_6 (HB.kn lv_0 rfl)) rfl (cb_readPart_b l hst HB hi h) (cwV 4 X.2.2.2.2 gL_readPart_X6_readPart rfl rfl rfl (by decide +kernel) ⟨Nat.le_of_ble_eq_true rfl, Nat.le_of_ble_eq_true rfl⟩) rfl rfl hl.1 (Nat.le_of_ble_eq_true rfl) dL_readPart_9 ⟨Nat.le_of_ble_eq_true rfl, Nat.le_of_ble_eq_true rfl⟩ (fun H locs q8 ce hW hsz hk hce hcv hcl => ?_)
  have hO := oK hO ho hk
  refine vx_catch X.2.2.2.1 [] ⟨0, 14, 17, 13⟩ [⟨0, 14, 21, 15⟩, ⟨0, 14, 25, 108⟩, ⟨0, 14, 29, 50⟩] hT (fun z hz => absurd hz List.not_mem_nil) (by decide) (by decide) (X.2.2.2.2 (.classLink RL 13 "java/lang/IndexOutOfBoundsException") (List.mem_cons_of_mem _ (List.mem_append_left _ (List.mem_append_left _ (List.mem_append_left _ (List.mem_append_left _ (List.mem_append_left _ (List.mem_append_left _ (List.mem_append_left _ (List.mem_append_left _ (List.mem_append_left _ (List.mem_of_getElem? (i := 0) rfl)))))))))))) (va_Nw.use rfl (hE.2.2.1 (.castable "java/lang/IndexOutOfBoundsException" "java/lang/IndexOutOfBoundsException") (by decide +kernel))) hce hcv hcl ?_
  refine lv_astore (lv' := [(6, .ref (q8)), (0, .ref (ad 0 0)), (1, .int (nI (i))), (2, .int (row)), (3, .int (f)), (4, .int (n)), (5, .ref (o9))]) X.1 X.2.1 dL_readPart_17 hl (by decide) rfl (fun ls hl => ?_)
  refine lv_iconst (v := nI 1) X.1 X.2.1 dL_readPart_19 (by decide) ?_
  exact hE9 _ _ _ _ _ _ _ ad L K R I A Q N _ rfl (show _ ≤ 2 by decide) (show _ ≤ 260 by decide) hW ho hO ⟨f0, rfl, fun z => absurd z (by decide)⟩ HB rfl dL_readPart_20

set_option maxHeartbeats 4000000 in
set_option maxRecDepth 100000 in
theorem ww_readPart_1c (l : Launch) (hst : l.stackTraces = false) {G : va_G} {kT : Nat → ClassId} {a0 o9 : Nat} {T : mT} {D : mD} (I : mI T) {i r : Nat} {f n : Int32} (hi : i < 3) (hr : r < 4) (hn : nI 1 ≤ n) (h : oP (T 1 (T 2 r)) f n) : wM l yL_readPart wsL_readPart ({ frames := 9, cells := 2, slots := 260, locals := 169 } : Room) G kT a0 o9 [.ref (a0), .int (nI (i)), .int (nI (r)), .int (f), .int (n), .ref (o9)] T D 1 (T) (D) (oL kT False 0) (oL kT (1 = 0) (((nI 0) : Int32).toInt64)) := by
  refine wstart (cc := cL_readPart) (maxL := 7) (hh := [(0, 14, 17, 13), (0, 14, 21, 15), (0, 14, 25, 108), (0, 14, 29, 50)]) (by decide) rfl (Nat.le_of_ble_eq_true rfl) (fun ad L K R I A Q N e0 HB h09 ho hP0 p e s m args below meth c Z hE9 X hT hE hW hO ls hl => ?_)
  subst h09
  obtain ⟨f0, rfl, -⟩ := hP0
  have X : CallFix p m c cL_readPart 7 s args wsL_readPart RL := X
  have hl : lv_has ls 7 [(0, .ref (ad 0 0)), (1, .int (nI (i))), (2, .int (nI (r))), (3, .int (f)), (4, .int (n)), (5, .ref (o9))] := hl
  refine lv_aload X.1 X.2.1 dL_readPart_0 (lv_at hl 5 rfl) ?_
  refine lv_iconst (v := nI 0) X.1 X.2.1 dL_readPart_2 (by decide) ?_
  refine lv_aload_n X.1 X.2.1 dL_readPart_3 rfl (lv_at hl 0 rfl) ?_
  refine lv_iload_n X.1 X.2.1 dL_readPart_4 rfl (lv_at hl 1 rfl) ?_
  refine lv_iload_n X.1 X.2.1 dL_readPart_5 rfl (lv_at hl 2 rfl) ?_
  refine lv_iload_n X.1 X.2.1 dL_readPart_6 rfl (lv_at hl 3 rfl) ?_
  refine lv_iload X.1 X.2.1 dL_readPart_7 (lv_at hl 4 rfl) ?_
  refine cCV hE X hW (HB.mem lv_0) (pC_6 (HB.kn lv_0 rfl)) rfl (cb_readPart_c l hst HB hi hr h) (cwV 4 X.2.2.2.2 gL_readPart_X6_readPart rfl rfl rfl (by decide +kernel) ⟨Nat.le_of_ble_eq_true rfl, Nat.le_of_ble_eq_true rfl⟩) rfl rfl hl.1 (Nat.le_of_ble_eq_true rfl) dL_readPart_9 ⟨Nat.le_of_ble_eq_true rfl, Nat.le_of_ble_eq_true rfl⟩ (fun H locs q8 ce hW hsz hk hce hcv hcl => ?_)
  have hO := oK hO ho hk
  refine vx_catch X.2.2.2.1 [] ⟨0, 14, 17, 13⟩ [⟨0, 14, 21, 15⟩, ⟨0, 14, 25, 108⟩, ⟨0, 14, 29, 50⟩] hT (fun z hz => absurd hz List.not_mem_nil) (by decide) (by decide) (X.2.2.2.2 (.classLink RL 13 "java/lang/IndexOutOfBoundsException") (List.mem_cons_of_mem _ (List.mem_append_left _ (List.mem_append_left _ (List.mem_append_left _ (List.mem_append_left _ (List.mem_append_left _ (List.mem_append_left _ (List.mem_append_left _ (List.mem_append_left _ (List.mem_append_left _ (List.mem_of_getElem? (i := 0) rfl)))))))))))) (va_Nw.use rfl (hE.2.2.1 (.castable "java/lang/IndexOutOfBoundsException" "java/lang/IndexOutOfBoundsException") (by decide +kernel))) hce hcv hcl ?_
  refine lv_astore (lv' := [(6, .ref (q8)), (0, .ref (ad 0 0)), (1, .int (nI (i))), (2, .int (nI (r))), (3, .int (f)), (4, .int (n)), (5, .ref (o9))]) X.1 X.2.1 dL_readPart_17 hl (by decide) rfl (fun ls hl => ?_)
  refine lv_iconst (v := nI 1) X.1 X.2.1 dL_readPart_19 (by decide) ?_
  exact hE9 _ _ _ _ _ _ _ ad L K R I A Q N _ rfl (show _ ≤ 2 by decide) (show _ ≤ 260 by decide) hW ho hO ⟨f0, rfl, fun z => absurd z (by decide)⟩ HB rfl dL_readPart_20

set_option maxHeartbeats 4000000 in
set_option maxRecDepth 100000 in
theorem ww_readPart_1d (l : Launch) (hst : l.stackTraces = false) {G : va_G} {kT : Nat → ClassId} {a0 o9 : Nat} {T : mT} {D : mD} (I : mI T) {i r : Nat} {f n : Int32} (hi : i < 3) (hr : r < 4) (hn : ¬ nI 1 ≤ n) (h : oP (T 1 (T 2 r)) f (nI 0)) : wM l yL_readPart wsL_readPart ({ frames := 9, cells := 2, slots := 260, locals := 169 } : Room) G kT a0 o9 [.ref (a0), .int (nI (i)), .int (nI (r)), .int (f), .int (n), .ref (o9)] T D 1 (T) (D) (oL kT False 0) (oL kT (1 = 0) (((nI 0) : Int32).toInt64)) := by
  refine wstart (cc := cL_readPart) (maxL := 7) (hh := [(0, 14, 17, 13), (0, 14, 21, 15), (0, 14, 25, 108), (0, 14, 29, 50)]) (by decide) rfl (Nat.le_of_ble_eq_true rfl) (fun ad L K R I A Q N e0 HB h09 ho hP0 p e s m args below meth c Z hE9 X hT hE hW hO ls hl => ?_)
  subst h09
  obtain ⟨f0, rfl, -⟩ := hP0
  have X : CallFix p m c cL_readPart 7 s args wsL_readPart RL := X
  have hl : lv_has ls 7 [(0, .ref (ad 0 0)), (1, .int (nI (i))), (2, .int (nI (r))), (3, .int (f)), (4, .int (n)), (5, .ref (o9))] := hl
  refine lv_aload X.1 X.2.1 dL_readPart_0 (lv_at hl 5 rfl) ?_
  refine lv_iconst (v := nI 0) X.1 X.2.1 dL_readPart_2 (by decide) ?_
  refine lv_aload_n X.1 X.2.1 dL_readPart_3 rfl (lv_at hl 0 rfl) ?_
  refine lv_iload_n X.1 X.2.1 dL_readPart_4 rfl (lv_at hl 1 rfl) ?_
  refine lv_iload_n X.1 X.2.1 dL_readPart_5 rfl (lv_at hl 2 rfl) ?_
  refine lv_iload_n X.1 X.2.1 dL_readPart_6 rfl (lv_at hl 3 rfl) ?_
  refine lv_iload X.1 X.2.1 dL_readPart_7 (lv_at hl 4 rfl) ?_
  refine cCV hE X hW (HB.mem lv_0) (pC_6 (HB.kn lv_0 rfl)) rfl (cb_readPart_c l hst HB hi hr (oP_0 h)) (cwV 4 X.2.2.2.2 gL_readPart_X6_readPart rfl rfl rfl (by decide +kernel) ⟨Nat.le_of_ble_eq_true rfl, Nat.le_of_ble_eq_true rfl⟩) rfl rfl hl.1 (Nat.le_of_ble_eq_true rfl) dL_readPart_9 ⟨Nat.le_of_ble_eq_true rfl, Nat.le_of_ble_eq_true rfl⟩ (fun H locs q8 ce hW hsz hk hce hcv hcl => ?_)
  have hO := oK hO ho hk
  refine vx_catch X.2.2.2.1 [] ⟨0, 14, 17, 13⟩ [⟨0, 14, 21, 15⟩, ⟨0, 14, 25, 108⟩, ⟨0, 14, 29, 50⟩] hT (fun z hz => absurd hz List.not_mem_nil) (by decide) (by decide) (X.2.2.2.2 (.classLink RL 13 "java/lang/IndexOutOfBoundsException") (List.mem_cons_of_mem _ (List.mem_append_left _ (List.mem_append_left _ (List.mem_append_left _ (List.mem_append_left _ (List.mem_append_left _ (List.mem_append_left _ (List.mem_append_left _ (List.mem_append_left _ (List.mem_append_left _ (List.mem_of_getElem? (i := 0) rfl)))))))))))) (va_Nw.use rfl (hE.2.2.1 (.castable "java/lang/IndexOutOfBoundsException" "java/lang/IndexOutOfBoundsException") (by decide +kernel))) hce hcv hcl ?_
  refine lv_astore (lv' := [(6, .ref (q8)), (0, .ref (ad 0 0)), (1, .int (nI (i))), (2, .int (nI (r))), (3, .int (f)), (4, .int (n)), (5, .ref (o9))]) X.1 X.2.1 dL_readPart_17 hl (by decide) rfl (fun ls hl => ?_)
  refine lv_iconst (v := nI 1) X.1 X.2.1 dL_readPart_19 (by decide) ?_
  exact hE9 _ _ _ _ _ _ _ ad L K R I A Q N _ rfl (show _ ≤ 2 by decide) (show _ ≤ 260 by decide) hW ho hO ⟨f0, rfl, fun z => absurd z (by decide)⟩ HB rfl dL_readPart_20

set_option maxHeartbeats 4000000 in
set_option maxRecDepth 100000 in
theorem ww_readPart_1e (l : Launch) (hst : l.stackTraces = false) {G : va_G} {kT : Nat → ClassId} {a0 o9 : Nat} {T : mT} {D : mD} (I : mI T) {i r f : Nat} {n : Int32} (hi : i < 3) (hr : r < 4) (hf : f ≤ T 1 (T 2 r)) (hn : ¬ nI 1 ≤ n) (h : n < 0) : wM l yL_readPart wsL_readPart ({ frames := 9, cells := 2, slots := 260, locals := 169 } : Room) G kT a0 o9 [.ref (a0), .int (nI (i)), .int (nI (r)), .int (nI (f)), .int (n), .ref (o9)] T D 1 (T) (D) (oL kT False 0) (oL kT (1 = 0) (((nI 0) : Int32).toInt64)) := by
  refine wstart (cc := cL_readPart) (maxL := 7) (hh := [(0, 14, 17, 13), (0, 14, 21, 15), (0, 14, 25, 108), (0, 14, 29, 50)]) (by decide) rfl (Nat.le_of_ble_eq_true rfl) (fun ad L K R I A Q N e0 HB h09 ho hP0 p e s m args below meth c Z hE9 X hT hE hW hO ls hl => ?_)
  subst h09
  obtain ⟨f0, rfl, -⟩ := hP0
  have X : CallFix p m c cL_readPart 7 s args wsL_readPart RL := X
  have hl : lv_has ls 7 [(0, .ref (ad 0 0)), (1, .int (nI (i))), (2, .int (nI (r))), (3, .int (nI (f))), (4, .int (n)), (5, .ref (o9))] := hl
  refine lv_aload X.1 X.2.1 dL_readPart_0 (lv_at hl 5 rfl) ?_
  refine lv_iconst (v := nI 0) X.1 X.2.1 dL_readPart_2 (by decide) ?_
  refine lv_aload_n X.1 X.2.1 dL_readPart_3 rfl (lv_at hl 0 rfl) ?_
  refine lv_iload_n X.1 X.2.1 dL_readPart_4 rfl (lv_at hl 1 rfl) ?_
  refine lv_iload_n X.1 X.2.1 dL_readPart_5 rfl (lv_at hl 2 rfl) ?_
  refine lv_iload_n X.1 X.2.1 dL_readPart_6 rfl (lv_at hl 3 rfl) ?_
  refine lv_iload X.1 X.2.1 dL_readPart_7 (lv_at hl 4 rfl) ?_
  refine cCV hE X hW (HB.mem lv_0) (pC_6 (HB.kn lv_0 rfl)) rfl (cb_readPart_c l hst HB hi hr (Or.inr (Or.inl h))) (cwV 4 X.2.2.2.2 gL_readPart_X6_readPart rfl rfl rfl (by decide +kernel) ⟨Nat.le_of_ble_eq_true rfl, Nat.le_of_ble_eq_true rfl⟩) rfl rfl hl.1 (Nat.le_of_ble_eq_true rfl) dL_readPart_9 ⟨Nat.le_of_ble_eq_true rfl, Nat.le_of_ble_eq_true rfl⟩ (fun H locs q8 ce hW hsz hk hce hcv hcl => ?_)
  have hO := oK hO ho hk
  refine vx_catch X.2.2.2.1 [] ⟨0, 14, 17, 13⟩ [⟨0, 14, 21, 15⟩, ⟨0, 14, 25, 108⟩, ⟨0, 14, 29, 50⟩] hT (fun z hz => absurd hz List.not_mem_nil) (by decide) (by decide) (X.2.2.2.2 (.classLink RL 13 "java/lang/IndexOutOfBoundsException") (List.mem_cons_of_mem _ (List.mem_append_left _ (List.mem_append_left _ (List.mem_append_left _ (List.mem_append_left _ (List.mem_append_left _ (List.mem_append_left _ (List.mem_append_left _ (List.mem_append_left _ (List.mem_append_left _ (List.mem_of_getElem? (i := 0) rfl)))))))))))) (va_Nw.use rfl (hE.2.2.1 (.castable "java/lang/IndexOutOfBoundsException" "java/lang/IndexOutOfBoundsException") (by decide +kernel))) hce hcv hcl ?_
  refine lv_astore (lv' := [(6, .ref (q8)), (0, .ref (ad 0 0)), (1, .int (nI (i))), (2, .int (nI (r))), (3, .int (nI (f))), (4, .int (n)), (5, .ref (o9))]) X.1 X.2.1 dL_readPart_17 hl (by decide) rfl (fun ls hl => ?_)
  refine lv_iconst (v := nI 1) X.1 X.2.1 dL_readPart_19 (by decide) ?_
  exact hE9 _ _ _ _ _ _ _ ad L K R I A Q N _ rfl (show _ ≤ 2 by decide) (show _ ≤ 260 by decide) hW ho hO ⟨f0, rfl, fun z => absurd z (by decide)⟩ HB rfl dL_readPart_20

set_option maxHeartbeats 4000000 in
set_option maxRecDepth 100000 in
theorem ww_readPart_2 (l : Launch) (hst : l.stackTraces = false) {G : va_G} {kT : Nat → ClassId} {a0 o9 : Nat} {T : mT} {D : mD} (I : mI T) {i r f : Nat} (hi : i < 3) (hr : r < 4) (hf : f ≤ T 1 (T 2 r)) : wM l yL_readPart wsL_readPart ({ frames := 9, cells := 2, slots := 260, locals := 169 } : Room) G kT a0 o9 [.ref (a0), .int (nI (i)), .int (nI (r)), .int (nI (f)), .int (nI (0)), .ref (o9)] T D 2 (T) (D) (oL kT False 0) (oL kT (2 = 0) (((nI 0) : Int32).toInt64)) := by
  refine wstart (cc := cL_readPart) (maxL := 7) (hh := [(0, 14, 17, 13), (0, 14, 21, 15), (0, 14, 25, 108), (0, 14, 29, 50)]) (by decide) rfl (Nat.le_of_ble_eq_true rfl) (fun ad L K R I A Q N e0 HB h09 ho hP0 p e s m args below meth c Z hE9 X hT hE hW hO ls hl => ?_)
  subst h09
  obtain ⟨f0, rfl, -⟩ := hP0
  have X : CallFix p m c cL_readPart 7 s args wsL_readPart RL := X
  have hl : lv_has ls 7 [(0, .ref (ad 0 0)), (1, .int (nI (i))), (2, .int (nI (r))), (3, .int (nI (f))), (4, .int (nI (0))), (5, .ref (o9))] := hl
  refine lv_aload X.1 X.2.1 dL_readPart_0 (lv_at hl 5 rfl) ?_
  refine lv_iconst (v := nI 0) X.1 X.2.1 dL_readPart_2 (by decide) ?_
  refine lv_aload_n X.1 X.2.1 dL_readPart_3 rfl (lv_at hl 0 rfl) ?_
  refine lv_iload_n X.1 X.2.1 dL_readPart_4 rfl (lv_at hl 1 rfl) ?_
  refine lv_iload_n X.1 X.2.1 dL_readPart_5 rfl (lv_at hl 2 rfl) ?_
  refine lv_iload_n X.1 X.2.1 dL_readPart_6 rfl (lv_at hl 3 rfl) ?_
  refine lv_iload X.1 X.2.1 dL_readPart_7 (lv_at hl 4 rfl) ?_
  refine cCV hE X hW (HB.mem lv_0) (pC_6 (HB.kn lv_0 rfl)) rfl (cb_readPart_d l hst HB hi hr hf) (cwV 4 X.2.2.2.2 gL_readPart_X6_readPart rfl rfl rfl (by decide +kernel) ⟨Nat.le_of_ble_eq_true rfl, Nat.le_of_ble_eq_true rfl⟩) rfl rfl hl.1 (Nat.le_of_ble_eq_true rfl) dL_readPart_9 ⟨Nat.le_of_ble_eq_true rfl, Nat.le_of_ble_eq_true rfl⟩ (fun H locs q8 ce hW hsz hk hce hcv hcl => ?_)
  have hO := oK hO ho hk
  refine vx_catch X.2.2.2.1 [⟨0, 14, 17, 13⟩] ⟨0, 14, 21, 15⟩ [⟨0, 14, 25, 108⟩, ⟨0, 14, 29, 50⟩] hT (List.forall_mem_cons.mpr ⟨Or.inr ⟨by decide, "java/lang/IndexOutOfBoundsException", X.2.2.2.2 (.classLink RL 13 "java/lang/IndexOutOfBoundsException") (List.mem_cons_of_mem _ (List.mem_append_left _ (List.mem_append_left _ (List.mem_append_left _ (List.mem_append_left _ (List.mem_append_left _ (List.mem_append_left _ (List.mem_append_left _ (List.mem_append_left _ (List.mem_append_left _ (List.mem_of_getElem? (i := 0) rfl))))))))))), hE.2.2.2.2 ("java/lang/IllegalArgumentException", "java/lang/IndexOutOfBoundsException") (by decide +kernel)⟩, (fun z hz => absurd hz List.not_mem_nil)⟩) (by decide) (by decide) (X.2.2.2.2 (.classLink RL 15 "java/lang/IllegalArgumentException") (List.mem_cons_of_mem _ (List.mem_append_left _ (List.mem_append_left _ (List.mem_append_left _ (List.mem_append_left _ (List.mem_append_left _ (List.mem_append_left _ (List.mem_append_left _ (List.mem_append_left _ (List.mem_append_left _ (List.mem_of_getElem? (i := 1) rfl)))))))))))) (va_Nw.use rfl (hE.2.2.1 (.castable "java/lang/IllegalArgumentException" "java/lang/IllegalArgumentException") (by decide +kernel))) hce hcv hcl ?_
  refine lv_astore (lv' := [(6, .ref (q8)), (0, .ref (ad 0 0)), (1, .int (nI (i))), (2, .int (nI (r))), (3, .int (nI (f))), (4, .int (nI (0))), (5, .ref (o9))]) X.1 X.2.1 dL_readPart_21 hl (by decide) rfl (fun ls hl => ?_)
  refine lv_iconst (v := nI 2) X.1 X.2.1 dL_readPart_23 (by decide) ?_
  exact hE9 _ _ _ _ _ _ _ ad L K R I A Q N _ rfl (show _ ≤ 2 by decide) (show _ ≤ 260 by decide) hW ho hO ⟨f0, rfl, fun z => absurd z (by decide)⟩ HB rfl dL_readPart_24

set_option maxHeartbeats 4000000 in
set_option maxRecDepth 100000 in
theorem ww_readPart_3 (l : Launch) (hst : l.stackTraces = false) {G : va_G} {kT : Nat → ClassId} {a0 o9 : Nat} {T : mT} {D : mD} (I : mI T) {i r f n : Nat} (hi : i < 3) (hr : r < 4) (hf : f + n ≤ T 1 (T 2 r)) (hn : n ≠ 0) (h : clo T i) : wM l yL_readPart wsL_readPart ({ frames := 9, cells := 2, slots := 260, locals := 169 } : Room) G kT a0 o9 [.ref (a0), .int (nI (i)), .int (nI (r)), .int (nI (f)), .int (nI (n)), .ref (o9)] T D 3 (T) (D) (oL kT False 0) (oL kT (3 = 0) (((nI 0) : Int32).toInt64)) := by
  refine wstart (cc := cL_readPart) (maxL := 7) (hh := [(0, 14, 17, 13), (0, 14, 21, 15), (0, 14, 25, 108), (0, 14, 29, 50)]) (by decide) rfl (Nat.le_of_ble_eq_true rfl) (fun ad L K R I A Q N e0 HB h09 ho hP0 p e s m args below meth c Z hE9 X hT hE hW hO ls hl => ?_)
  subst h09
  obtain ⟨f0, rfl, -⟩ := hP0
  have X : CallFix p m c cL_readPart 7 s args wsL_readPart RL := X
  have hl : lv_has ls 7 [(0, .ref (ad 0 0)), (1, .int (nI (i))), (2, .int (nI (r))), (3, .int (nI (f))), (4, .int (nI (n))), (5, .ref (o9))] := hl
  refine lv_aload X.1 X.2.1 dL_readPart_0 (lv_at hl 5 rfl) ?_
  refine lv_iconst (v := nI 0) X.1 X.2.1 dL_readPart_2 (by decide) ?_
  refine lv_aload_n X.1 X.2.1 dL_readPart_3 rfl (lv_at hl 0 rfl) ?_
  refine lv_iload_n X.1 X.2.1 dL_readPart_4 rfl (lv_at hl 1 rfl) ?_
  refine lv_iload_n X.1 X.2.1 dL_readPart_5 rfl (lv_at hl 2 rfl) ?_
  refine lv_iload_n X.1 X.2.1 dL_readPart_6 rfl (lv_at hl 3 rfl) ?_
  refine lv_iload X.1 X.2.1 dL_readPart_7 (lv_at hl 4 rfl) ?_
  refine cCV hE X hW (HB.mem lv_0) (pC_6 (HB.kn lv_0 rfl)) rfl (cb_readPart_e l hst HB hi hr hf hn h) (cwV 4 X.2.2.2.2 gL_readPart_X6_readPart rfl rfl rfl (by decide +kernel) ⟨Nat.le_of_ble_eq_true rfl, Nat.le_of_ble_eq_true rfl⟩) rfl rfl hl.1 (Nat.le_of_ble_eq_true rfl) dL_readPart_9 ⟨Nat.le_of_ble_eq_true rfl, Nat.le_of_ble_eq_true rfl⟩ (fun H locs q8 ce hW hsz hk hce hcv hcl => ?_)
  have hO := oK hO ho hk
  refine vx_catch X.2.2.2.1 [⟨0, 14, 17, 13⟩, ⟨0, 14, 21, 15⟩] ⟨0, 14, 25, 108⟩ [⟨0, 14, 29, 50⟩] hT (List.forall_mem_cons.mpr ⟨Or.inr ⟨by decide, "java/lang/IndexOutOfBoundsException", X.2.2.2.2 (.classLink RL 13 "java/lang/IndexOutOfBoundsException") (List.mem_cons_of_mem _ (List.mem_append_left _ (List.mem_append_left _ (List.mem_append_left _ (List.mem_append_left _ (List.mem_append_left _ (List.mem_append_left _ (List.mem_append_left _ (List.mem_append_left _ (List.mem_append_left _ (List.mem_of_getElem? (i := 0) rfl))))))))))), hE.2.2.2.2 ("java/lang/UnsupportedOperationException", "java/lang/IndexOutOfBoundsException") (by decide +kernel)⟩, (List.forall_mem_cons.mpr ⟨Or.inr ⟨by decide, "java/lang/IllegalArgumentException", X.2.2.2.2 (.classLink RL 15 "java/lang/IllegalArgumentException") (List.mem_cons_of_mem _ (List.mem_append_left _ (List.mem_append_left _ (List.mem_append_left _ (List.mem_append_left _ (List.mem_append_left _ (List.mem_append_left _ (List.mem_append_left _ (List.mem_append_left _ (List.mem_append_left _ (List.mem_of_getElem? (i := 1) rfl))))))))))), hE.2.2.2.2 ("java/lang/UnsupportedOperationException", "java/lang/IllegalArgumentException") (by decide +kernel)⟩, (fun z hz => absurd hz List.not_mem_nil)⟩)⟩) (by decide) (by decide) (X.2.2.2.2 (.classLink RL 108 "java/lang/UnsupportedOperationException") (List.mem_cons_of_mem _ (List.mem_append_left _ (List.mem_append_left _ (List.mem_append_left _ (List.mem_append_left _ (List.mem_append_left _ (List.mem_append_left _ (List.mem_append_left _ (List.mem_append_left _ (List.mem_append_left _ (List.mem_of_getElem? (i := 2) rfl)))))))))))) (va_Nw.use rfl (hE.2.2.1 (.castable "java/lang/UnsupportedOperationException" "java/lang/UnsupportedOperationException") (by decide +kernel))) hce hcv hcl ?_
  refine lv_astore (lv' := [(6, .ref (q8)), (0, .ref (ad 0 0)), (1, .int (nI (i))), (2, .int (nI (r))), (3, .int (nI (f))), (4, .int (nI (n))), (5, .ref (o9))]) X.1 X.2.1 dL_readPart_25 hl (by decide) rfl (fun ls hl => ?_)
  refine lv_iconst (v := nI 3) X.1 X.2.1 dL_readPart_27 (by decide) ?_
  exact hE9 _ _ _ _ _ _ _ ad L K R I A Q N _ rfl (show _ ≤ 2 by decide) (show _ ≤ 260 by decide) hW ho hO ⟨f0, rfl, fun z => absurd z (by decide)⟩ HB rfl dL_readPart_28

set_option maxHeartbeats 4000000 in
set_option maxRecDepth 100000 in
theorem ww_readPart_4 (l : Launch) (hst : l.stackTraces = false) {G : va_G} {kT : Nat → ClassId} {a0 o9 : Nat} {T : mT} {D : mD} (I : mI T) {i r f n : Nat} (hi : i < 3) (hr : r < 4) (hf : f + n ≤ T 1 (T 2 r)) (hn : n ≠ 0) (h : ¬ clo T i) (h4 : T 8 i = T 2 r + 1) : wM l yL_readPart wsL_readPart ({ frames := 9, cells := 2, slots := 260, locals := 169 } : Room) G kT a0 o9 [.ref (a0), .int (nI (i)), .int (nI (r)), .int (nI (f)), .int (nI (n)), .ref (o9)] T D 4 (T) (D) (oL kT False 0) (oL kT (4 = 0) (((nI 0) : Int32).toInt64)) := by
  refine wstart (cc := cL_readPart) (maxL := 7) (hh := [(0, 14, 17, 13), (0, 14, 21, 15), (0, 14, 25, 108), (0, 14, 29, 50)]) (by decide) rfl (Nat.le_of_ble_eq_true rfl) (fun ad L K R I A Q N e0 HB h09 ho hP0 p e s m args below meth c Z hE9 X hT hE hW hO ls hl => ?_)
  subst h09
  obtain ⟨f0, rfl, -⟩ := hP0
  have X : CallFix p m c cL_readPart 7 s args wsL_readPart RL := X
  have hl : lv_has ls 7 [(0, .ref (ad 0 0)), (1, .int (nI (i))), (2, .int (nI (r))), (3, .int (nI (f))), (4, .int (nI (n))), (5, .ref (o9))] := hl
  refine lv_aload X.1 X.2.1 dL_readPart_0 (lv_at hl 5 rfl) ?_
  refine lv_iconst (v := nI 0) X.1 X.2.1 dL_readPart_2 (by decide) ?_
  refine lv_aload_n X.1 X.2.1 dL_readPart_3 rfl (lv_at hl 0 rfl) ?_
  refine lv_iload_n X.1 X.2.1 dL_readPart_4 rfl (lv_at hl 1 rfl) ?_
  refine lv_iload_n X.1 X.2.1 dL_readPart_5 rfl (lv_at hl 2 rfl) ?_
  refine lv_iload_n X.1 X.2.1 dL_readPart_6 rfl (lv_at hl 3 rfl) ?_
  refine lv_iload X.1 X.2.1 dL_readPart_7 (lv_at hl 4 rfl) ?_
  refine cCV hE X hW (HB.mem lv_0) (pC_6 (HB.kn lv_0 rfl)) rfl (cb_readPart_f l hst HB hi hr hf hn h h4) (cwV 4 X.2.2.2.2 gL_readPart_X6_readPart rfl rfl rfl (by decide +kernel) ⟨Nat.le_of_ble_eq_true rfl, Nat.le_of_ble_eq_true rfl⟩) rfl rfl hl.1 (Nat.le_of_ble_eq_true rfl) dL_readPart_9 ⟨Nat.le_of_ble_eq_true rfl, Nat.le_of_ble_eq_true rfl⟩ (fun H locs q8 ce hW hsz hk hce hcv hcl => ?_)
  have hO := oK hO ho hk
  refine vx_catch X.2.2.2.1 [⟨0, 14, 17, 13⟩, ⟨0, 14, 21, 15⟩, ⟨0, 14, 25, 108⟩] ⟨0, 14, 29, 50⟩ [] hT (List.forall_mem_cons.mpr ⟨Or.inr ⟨by decide, "java/lang/IndexOutOfBoundsException", X.2.2.2.2 (.classLink RL 13 "java/lang/IndexOutOfBoundsException") (List.mem_cons_of_mem _ (List.mem_append_left _ (List.mem_append_left _ (List.mem_append_left _ (List.mem_append_left _ (List.mem_append_left _ (List.mem_append_left _ (List.mem_append_left _ (List.mem_append_left _ (List.mem_append_left _ (List.mem_of_getElem? (i := 0) rfl))))))))))), hE.2.2.2.2 ("java/lang/IllegalStateException", "java/lang/IndexOutOfBoundsException") (by decide +kernel)⟩, (List.forall_mem_cons.mpr ⟨Or.inr ⟨by decide, "java/lang/IllegalArgumentException", X.2.2.2.2 (.classLink RL 15 "java/lang/IllegalArgumentException") (List.mem_cons_of_mem _ (List.mem_append_left _ (List.mem_append_left _ (List.mem_append_left _ (List.mem_append_left _ (List.mem_append_left _ (List.mem_append_left _ (List.mem_append_left _ (List.mem_append_left _ (List.mem_append_left _ (List.mem_of_getElem? (i := 1) rfl))))))))))), hE.2.2.2.2 ("java/lang/IllegalStateException", "java/lang/IllegalArgumentException") (by decide +kernel)⟩, (List.forall_mem_cons.mpr ⟨Or.inr ⟨by decide, "java/lang/UnsupportedOperationException", X.2.2.2.2 (.classLink RL 108 "java/lang/UnsupportedOperationException") (List.mem_cons_of_mem _ (List.mem_append_left _ (List.mem_append_left _ (List.mem_append_left _ (List.mem_append_left _ (List.mem_append_left _ (List.mem_append_left _ (List.mem_append_left _ (List.mem_append_left _ (List.mem_append_left _ (List.mem_of_getElem? (i := 2) rfl))))))))))), hE.2.2.2.2 ("java/lang/IllegalStateException", "java/lang/UnsupportedOperationException") (by decide +kernel)⟩, (fun z hz => absurd hz List.not_mem_nil)⟩)⟩)⟩) (by decide) (by decide) (X.2.2.2.2 (.classLink RL 50 "java/lang/IllegalStateException") (List.mem_cons_of_mem _ (List.mem_append_left _ (List.mem_append_left _ (List.mem_append_left _ (List.mem_append_left _ (List.mem_append_left _ (List.mem_append_left _ (List.mem_append_left _ (List.mem_append_left _ (List.mem_append_left _ (List.mem_of_getElem? (i := 3) rfl)))))))))))) (va_Nw.use rfl (hE.2.2.1 (.castable "java/lang/IllegalStateException" "java/lang/IllegalStateException") (by decide +kernel))) hce hcv hcl ?_
  refine lv_astore (lv' := [(6, .ref (q8)), (0, .ref (ad 0 0)), (1, .int (nI (i))), (2, .int (nI (r))), (3, .int (nI (f))), (4, .int (nI (n))), (5, .ref (o9))]) X.1 X.2.1 dL_readPart_29 hl (by decide) rfl (fun ls hl => ?_)
  refine lv_iconst (v := nI 4) X.1 X.2.1 dL_readPart_31 (by decide) ?_
  exact hE9 _ _ _ _ _ _ _ ad L K R I A Q N _ rfl (show _ ≤ 2 by decide) (show _ ≤ 260 by decide) hW ho hO ⟨f0, rfl, fun z => absurd z (by decide)⟩ HB rfl dL_readPart_32

set_option maxHeartbeats 4000000 in
set_option maxRecDepth 100000 in
theorem ww_readPart_z (l : Launch) (hst : l.stackTraces = false) {G : va_G} {kT : Nat → ClassId} {a0 o9 : Nat} {T : mT} {D : mD} (I : mI T) {i r f n : Nat} (hi : i < 3) (hr : r < 4) (hf : f + n ≤ T 1 (T 2 r)) (hn : n ≠ 0) (h : ¬ clo T i) (h4 : ¬ T 8 i = T 2 r + 1) (h5 : min n (T 10 i - T 9 i) = 0) : wM l yL_readPart wsL_readPart ({ frames := 9, cells := 2, slots := 260, locals := 169 } : Room) G kT a0 o9 [.ref (a0), .int (nI (i)), .int (nI (r)), .int (nI (f)), .int (nI (n)), .ref (o9)] T D 0 (u2 T 9 i (T 9 i + min n (T 10 i - T 9 i))) (cpF D 0 (256 * T 2 r + f) (rpF T D i) (min n (T 10 i - T 9 i))) (oL kT False 0) (oL kT (0 = 0) (((-1) : Int32).toInt64)) := by
  refine wstart (cc := cL_readPart) (maxL := 7) (hh := [(0, 14, 17, 13), (0, 14, 21, 15), (0, 14, 25, 108), (0, 14, 29, 50)]) (by decide) rfl (Nat.le_of_ble_eq_true rfl) (fun ad L K R I A Q N e0 HB h09 ho hP0 p e s m args below meth c Z hE9 X hT hE hW hO ls hl => ?_)
  subst h09
  obtain ⟨f0, rfl, -⟩ := hP0
  have X : CallFix p m c cL_readPart 7 s args wsL_readPart RL := X
  have hl : lv_has ls 7 [(0, .ref (ad 0 0)), (1, .int (nI (i))), (2, .int (nI (r))), (3, .int (nI (f))), (4, .int (nI (n))), (5, .ref (o9))] := hl
  have hm9 := HB.mi.rd hi
  refine lv_aload X.1 X.2.1 dL_readPart_0 (lv_at hl 5 rfl) ?_
  refine lv_iconst (v := nI 0) X.1 X.2.1 dL_readPart_2 (by decide) ?_
  refine lv_aload_n X.1 X.2.1 dL_readPart_3 rfl (lv_at hl 0 rfl) ?_
  refine lv_iload_n X.1 X.2.1 dL_readPart_4 rfl (lv_at hl 1 rfl) ?_
  refine lv_iload_n X.1 X.2.1 dL_readPart_5 rfl (lv_at hl 2 rfl) ?_
  refine lv_iload_n X.1 X.2.1 dL_readPart_6 rfl (lv_at hl 3 rfl) ?_
  refine lv_iload X.1 X.2.1 dL_readPart_7 (lv_at hl 4 rfl) ?_
  refine cFi X hW (HB.mem lv_0) (pC_6 (HB.kn lv_0 rfl)) rfl (co_readPart_e l HB hi hr hf hn h h4 (by omega)) (cwV 4 X.2.2.2.2 gL_readPart_X6_readPart rfl rfl rfl (by decide +kernel) ⟨Nat.le_of_ble_eq_true rfl, Nat.le_of_ble_eq_true rfl⟩) rfl rfl hl.1 (Nat.le_of_ble_eq_true rfl) dL_readPart_9 ⟨Nat.le_of_ble_eq_true rfl, Nat.le_of_ble_eq_true rfl⟩ (fun H locs hW hsz hk => ?_)
  have hO := oK hO ho hk
  refine lv_i2l (v := (-1).toInt64) X.1 X.2.1 dL_readPart_12 rfl ?_
  refine wst X hW hO ho dL_readPart_13 (fun H locs hW hO => ?_)
  refine lv_goto (tgt := 33) X.1 X.2.1 dL_readPart_14 (by decide) ?_
  refine lv_iconst (v := nI 0) X.1 X.2.1 dL_readPart_33 (by decide) ?_
  exact hE9 _ _ _ _ _ _ _ ad L K _ _ _ _ N _ rfl (show _ ≤ 2 by decide) (show _ ≤ 260 by decide) hW ho hO ⟨_, rfl, fun _ => if_pos rfl⟩ (by rw [h5, cpF_0, Nat.add_zero, u2_self]; exact HB) rfl dL_readPart_34

set_option maxHeartbeats 4000000 in
set_option maxRecDepth 100000 in
theorem ww_readPart_p (l : Launch) (hst : l.stackTraces = false) {G : va_G} {kT : Nat → ClassId} {a0 o9 : Nat} {T : mT} {D : mD} (I : mI T) {i r f n : Nat} (hi : i < 3) (hr : r < 4) (hf : f + n ≤ T 1 (T 2 r)) (hn : n ≠ 0) (h : ¬ clo T i) (h4 : ¬ T 8 i = T 2 r + 1) (h5 : min n (T 10 i - T 9 i) ≠ 0) : wM l yL_readPart wsL_readPart ({ frames := 9, cells := 2, slots := 260, locals := 169 } : Room) G kT a0 o9 [.ref (a0), .int (nI (i)), .int (nI (r)), .int (nI (f)), .int (nI (n)), .ref (o9)] T D 0 (u2 T 9 i (T 9 i + min n (T 10 i - T 9 i))) (cpF D 0 (256 * T 2 r + f) (rpF T D i) (min n (T 10 i - T 9 i))) (oL kT False 0) (oL kT (0 = 0) (((nI (min n (T 10 i - T 9 i))) : Int32).toInt64)) := by
  refine wstart (cc := cL_readPart) (maxL := 7) (hh := [(0, 14, 17, 13), (0, 14, 21, 15), (0, 14, 25, 108), (0, 14, 29, 50)]) (by decide) rfl (Nat.le_of_ble_eq_true rfl) (fun ad L K R I A Q N e0 HB h09 ho hP0 p e s m args below meth c Z hE9 X hT hE hW hO ls hl => ?_)
  subst h09
  obtain ⟨f0, rfl, -⟩ := hP0
  have X : CallFix p m c cL_readPart 7 s args wsL_readPart RL := X
  have hl : lv_has ls 7 [(0, .ref (ad 0 0)), (1, .int (nI (i))), (2, .int (nI (r))), (3, .int (nI (f))), (4, .int (nI (n))), (5, .ref (o9))] := hl
  have hm9 := HB.mi.rd hi
  have h81 : T 8 i ≠ 0 := fun z => h (Or.inl z)
  refine lv_aload X.1 X.2.1 dL_readPart_0 (lv_at hl 5 rfl) ?_
  refine lv_iconst (v := nI 0) X.1 X.2.1 dL_readPart_2 (by decide) ?_
  refine lv_aload_n X.1 X.2.1 dL_readPart_3 rfl (lv_at hl 0 rfl) ?_
  refine lv_iload_n X.1 X.2.1 dL_readPart_4 rfl (lv_at hl 1 rfl) ?_
  refine lv_iload_n X.1 X.2.1 dL_readPart_5 rfl (lv_at hl 2 rfl) ?_
  refine lv_iload_n X.1 X.2.1 dL_readPart_6 rfl (lv_at hl 3 rfl) ?_
  refine lv_iload X.1 X.2.1 dL_readPart_7 (lv_at hl 4 rfl) ?_
  refine cFi X hW (HB.mem lv_0) (pC_6 (HB.kn lv_0 rfl)) rfl (co_readPart l HB hi hr hf hn h h4 (by omega)) (cwV 4 X.2.2.2.2 gL_readPart_X6_readPart rfl rfl rfl (by decide +kernel) ⟨Nat.le_of_ble_eq_true rfl, Nat.le_of_ble_eq_true rfl⟩) rfl rfl hl.1 (Nat.le_of_ble_eq_true rfl) dL_readPart_9 ⟨Nat.le_of_ble_eq_true rfl, Nat.le_of_ble_eq_true rfl⟩ (fun H locs hW hsz hk => ?_)
  have hO := oK hO ho hk
  refine lv_i2l (v := (nI (min n (T 10 i - T 9 i))).toInt64) X.1 X.2.1 dL_readPart_12 rfl ?_
  refine wst X hW hO ho dL_readPart_13 (fun H locs hW hO => ?_)
  refine lv_goto (tgt := 33) X.1 X.2.1 dL_readPart_14 (by decide) ?_
  refine lv_iconst (v := nI 0) X.1 X.2.1 dL_readPart_33 (by decide) ?_
  exact hE9 _ _ _ _ _ _ _ ad L K _ _ _ _ N _ rfl (show _ ≤ 2 by decide) (show _ ≤ 260 by decide) hW ho hO ⟨_, rfl, fun _ => if_pos rfl⟩ ((HB.putS (uS_row hr) (g := rpF T D i) (by omega) (fun k hk => by have h9 := hm9.2.2.2.2.2 h81; rw [HB.sA (uS_rd hi h81) (by omega), rpF, show 256 * (T 8 i - 1) + T 9 i + k = 256 * (T 8 i - 1) + (T 9 i + k) by omega]) (fun k hk => HB.md.1 _)).place hi (by omega)) rfl dL_readPart_34

theorem wo_readPart (l : Launch) (hst : l.stackTraces = false) {G : va_G} {kT : Nat → ClassId} {a0 o9 : Nat} {T : mT} {D : mD} (I : mI T) (J : mJD D) (i row f n : Int32) : wO l yL_readPart wsL_readPart ({ frames := 9, cells := 2, slots := 260, locals := 169 } : Room) G kT a0 o9 [.ref a0, .int i, .int row, .int f, .int n, .ref o9] T D (sp_readPart T D i row f n) := by
  by_cases h1 : oN i 3
  · rw [show sp_readPart T D i row f n = no T D 1 from if_pos (Or.inl h1)]; exact ww_readPart_1a l hst h1
  · obtain ⟨i, hi, rfl⟩ := oN_in (by decide) h1
    by_cases h2 : oN row 4
    · rw [show sp_readPart T D (nI i) row f n = no T D 1 from if_pos (Or.inr (Or.inl h2))]
      by_cases hn : nI 1 ≤ n
      · exact ww_readPart_1by l hst hi h2 hn
      · exact ww_readPart_1bx l hst hi h2 hn
    · obtain ⟨r, hr, rfl⟩ := oN_in (by decide) h2
      have hl : rI T (nI r) = T 1 (T 2 r) := by simp only [rI, nI_clamp (show r < 2 ^ 31 by omega)]
      have I2 := I.sr hr
      have I3 := I.sl I2
      by_cases h3 : oP (T 1 (T 2 r)) f n
      · rw [show sp_readPart T D (nI i) (nI r) f n = no T D 1 from if_pos (Or.inr (Or.inr (by rw [hl]; exact h3)))]
        by_cases hn : nI 1 ≤ n
        · exact ww_readPart_1c l hst I hi hr hn h3
        · by_cases h4 : oP (T 1 (T 2 r)) f (nI 0)
          · exact ww_readPart_1d l hst I hi hr hn h4
          · obtain ⟨f0, hf, rfl⟩ := nI_of (fun z => h4 (Or.inl z))
            have h5 : f0 ≤ T 1 (T 2 r) := Nat.not_lt.mp (fun z => h4 (Or.inr (Or.inr (by rw [nI_clamp hf, nI_clamp (by decide)]; exact z))))
            refine ww_readPart_1e l hst I hi hr h5 hn ?_
            rcases h3 with h3 | h3 | h3
            · exact absurd h3 (fun z => h4 (Or.inl z))
            · exact h3
            · refine Classical.byContradiction (fun g => ?_)
              obtain ⟨n0, hn0, rfl⟩ := nI_of g
              rw [nI_clamp hf, nI_clamp hn0] at h3
              exact hn ((nI_leI (by decide) hn0).mpr (by omega))
      · obtain ⟨f0, hf, rfl⟩ := nI_of (fun z => h3 (Or.inl z))
        obtain ⟨n0, hn, rfl⟩ := nI_of (fun z => h3 (Or.inr (Or.inl z)))
        have h4 : f0 + n0 ≤ T 1 (T 2 r) := Nat.not_lt.mp (fun z => h3 (Or.inr (Or.inr (by rw [nI_clamp hf, nI_clamp hn]; exact z))))
        have hc : (nI i).toNatClampNeg = i := nI_clamp (by omega)
        have hc2 : (nI r).toNatClampNeg = r := nI_clamp (by omega)
        have hc3 : (nI f0).toNatClampNeg = f0 := nI_clamp hf
        have hc4 : (nI n0).toNatClampNeg = n0 := nI_clamp hn
        have hno : ¬ (oN (nI i) 3 ∨ oN (nI r) 4 ∨ oP (rI T (nI r)) (nI f0) (nI n0)) := by rw [hl]; exact fun z => z.elim h1 (fun z => z.elim h2 h3)
        have e0 : sp_readPart T D (nI i) (nI r) (nI f0) (nI n0) = if n0 = 0 then no T D 2 else if clo T i then no T D 3 else if T 8 i = T 2 r + 1 then no T D 4 else sk_readPart T D i r f0 n0 := by
          rw [sp_readPart, if_neg hno, hc, hc2, hc3, hc4]
        rw [e0]
        by_cases h5 : n0 = 0
        · subst h5; rw [if_pos rfl]; exact ww_readPart_2 l hst I hi hr (by omega)
        · rw [if_neg h5]
          by_cases h6 : clo T i
          · rw [if_pos h6]; exact ww_readPart_3 l hst I hi hr h4 h5 h6
          · rw [if_neg h6]
            by_cases h7 : T 8 i = T 2 r + 1
            · rw [if_pos h7]; exact ww_readPart_4 l hst I hi hr h4 h5 h6 h7
            · rw [if_neg h7]
              by_cases h8 : min n0 (T 10 i - T 9 i) = 0
              · have e : sk_readPart T D i r f0 n0 = (0, -1, u2 T 9 i (T 9 i + min n0 (T 10 i - T 9 i)), cpF D 0 (256 * T 2 r + f0) (rpF T D i) (min n0 (T 10 i - T 9 i))) := by rw [sk_readPart, if_pos h8]
                rw [e]; exact ww_readPart_z l hst I hi hr h4 h5 h6 h7 h8
              · have e : sk_readPart T D i r f0 n0 = (0, nI (min n0 (T 10 i - T 9 i)), u2 T 9 i (T 9 i + min n0 (T 10 i - T 9 i)), cpF D 0 (256 * T 2 r + f0) (rpF T D i) (min n0 (T 10 i - T 9 i))) := by rw [sk_readPart, if_neg h8]
                rw [e]; exact ww_readPart_p l hst I hi hr h4 h5 h6 h7 h8

