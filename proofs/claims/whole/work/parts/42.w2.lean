set_option maxHeartbeats 4000000 in
set_option maxRecDepth 100000 in
theorem ww_write (l : Launch) (hst : l.stackTraces = false) {G : va_G} {kT : Nat → ClassId} {a0 o9 : Nat} {T : mT} {D : mD} (I : mI T) {w : Nat} {x : Int32} (hw : w < 3) (h : T 7 (w) + 1 ≤ 256) : wM l yL_write wsL_write ({ frames := 9, cells := 2, slots := 260, locals := 166 } : Room) G kT a0 o9 [.ref (a0), .int (nI (w)), .int (x), .ref (o9)] T D 0 (adT T (w) 1) (adD T D (w) (fun _ => x &&& nI 255) 1) (oL kT False 0) (oL kT (0 = 0) (((nI (T 7 (w) + 1)) : Int32).toInt64)) := by
  refine wstart (cc := cL_write) (maxL := 5) (hh := [(0, 10, 13, 13), (0, 10, 17, 50)]) (by decide) rfl (Nat.le_of_ble_eq_true rfl) (fun ad L K R I A Q N e0 HB h09 ho hP0 p e s m args below meth c Z hE9 X hT hE hW hO ls hl => ?_)
  subst h09
  obtain ⟨f0, rfl, -⟩ := hP0
  have X : CallFix p m c cL_write 5 s args wsL_write RL := X
  have hl : lv_has ls 5 [(0, .ref (ad 0 0)), (1, .int (nI (w))), (2, .int (x)), (3, .ref (o9))] := hl
  refine lv_aload_n X.1 X.2.1 dL_write_0 rfl (lv_at hl 3 rfl) ?_
  refine lv_iconst (v := nI 0) X.1 X.2.1 dL_write_1 (by decide) ?_
  refine lv_aload_n X.1 X.2.1 dL_write_2 rfl (lv_at hl 0 rfl) ?_
  refine lv_iload_n X.1 X.2.1 dL_write_3 rfl (lv_at hl 1 rfl) ?_
  refine lv_iload_n X.1 X.2.1 dL_write_4 rfl (lv_at hl 2 rfl) ?_
  refine cFi X hW (HB.mem lv_0) (pC_6 (HB.kn lv_0 rfl)) rfl (co_write l HB hw h) (cwV 2 X.2.2.2.2 gL_write_X6_write rfl rfl rfl (by decide +kernel) ⟨Nat.le_of_ble_eq_true rfl, Nat.le_of_ble_eq_true rfl⟩) rfl rfl hl.1 (Nat.le_of_ble_eq_true rfl) dL_write_5 ⟨Nat.le_of_ble_eq_true rfl, Nat.le_of_ble_eq_true rfl⟩ (fun H locs hW hsz hk => ?_)
  have hO := oK hO ho hk
  refine lv_i2l (v := (nI (T 7 w + 1)).toInt64) X.1 X.2.1 dL_write_8 rfl ?_
  refine wst X hW hO ho dL_write_9 (fun H locs hW hO => ?_)
  refine lv_goto (tgt := 21) X.1 X.2.1 dL_write_10 (by decide) ?_
  refine lv_iconst (v := nI 0) X.1 X.2.1 dL_write_21 (by decide) ?_
  exact hE9 _ _ _ _ _ _ _ ad L K _ _ _ _ N _ rfl (show _ ≤ 2 by decide) (show _ ≤ 260 by decide) hW ho hO ⟨_, rfl, fun _ => if_pos rfl⟩ (HB.addW (a := w) (by omega) h (fun _ _ => rfl) (fun _ _ => and_255 x)) rfl dL_write_22

set_option maxHeartbeats 4000000 in
set_option maxRecDepth 100000 in
theorem ww_write_1 (l : Launch) (hst : l.stackTraces = false) {G : va_G} {kT : Nat → ClassId} {a0 o9 : Nat} {T : mT} {D : mD} {w x : Int32} (h : oN w 3) : wM l yL_write wsL_write ({ frames := 9, cells := 2, slots := 260, locals := 166 } : Room) G kT a0 o9 [.ref (a0), .int (w), .int (x), .ref (o9)] T D 1 (T) (D) (oL kT False 0) (oL kT (1 = 0) (((nI 0) : Int32).toInt64)) := by
  refine wstart (cc := cL_write) (maxL := 5) (hh := [(0, 10, 13, 13), (0, 10, 17, 50)]) (by decide) rfl (Nat.le_of_ble_eq_true rfl) (fun ad L K R I A Q N e0 HB h09 ho hP0 p e s m args below meth c Z hE9 X hT hE hW hO ls hl => ?_)
  subst h09
  obtain ⟨f0, rfl, -⟩ := hP0
  have X : CallFix p m c cL_write 5 s args wsL_write RL := X
  have hl : lv_has ls 5 [(0, .ref (ad 0 0)), (1, .int (w)), (2, .int (x)), (3, .ref (o9))] := hl
  refine lv_aload_n X.1 X.2.1 dL_write_0 rfl (lv_at hl 3 rfl) ?_
  refine lv_iconst (v := nI 0) X.1 X.2.1 dL_write_1 (by decide) ?_
  refine lv_aload_n X.1 X.2.1 dL_write_2 rfl (lv_at hl 0 rfl) ?_
  refine lv_iload_n X.1 X.2.1 dL_write_3 rfl (lv_at hl 1 rfl) ?_
  refine lv_iload_n X.1 X.2.1 dL_write_4 rfl (lv_at hl 2 rfl) ?_
  refine cCV hE X hW (HB.mem lv_0) (pC_6 (HB.kn lv_0 rfl)) rfl (cb_write_a l hst HB h) (cwV 2 X.2.2.2.2 gL_write_X6_write rfl rfl rfl (by decide +kernel) ⟨Nat.le_of_ble_eq_true rfl, Nat.le_of_ble_eq_true rfl⟩) rfl rfl hl.1 (Nat.le_of_ble_eq_true rfl) dL_write_5 ⟨Nat.le_of_ble_eq_true rfl, Nat.le_of_ble_eq_true rfl⟩ (fun H locs q8 ce hW hsz hk hce hcv hcl => ?_)
  have hO := oK hO ho hk
  refine vx_catch X.2.2.2.1 [] ⟨0, 10, 13, 13⟩ [⟨0, 10, 17, 50⟩] hT (fun z hz => absurd hz List.not_mem_nil) (by decide) (by decide) (X.2.2.2.2 (.classLink RL 13 "java/lang/IndexOutOfBoundsException") (List.mem_cons_of_mem _ (List.mem_append_left _ (List.mem_append_left _ (List.mem_append_left _ (List.mem_append_left _ (List.mem_append_left _ (List.mem_append_left _ (List.mem_of_getElem? (i := 0) rfl))))))))) (va_Nw.use rfl (hE.2.2.1 (.castable "java/lang/IndexOutOfBoundsException" "java/lang/IndexOutOfBoundsException") (by decide +kernel))) hce hcv hcl ?_
  refine lv_astore (lv' := [(4, .ref (q8)), (0, .ref (ad 0 0)), (1, .int (w)), (2, .int (x)), (3, .ref (o9))]) X.1 X.2.1 dL_write_13 hl (by decide) rfl (fun ls hl => ?_)
  refine lv_iconst (v := nI 1) X.1 X.2.1 dL_write_15 (by decide) ?_
  exact hE9 _ _ _ _ _ _ _ ad L K R I A Q N _ rfl (show _ ≤ 2 by decide) (show _ ≤ 260 by decide) hW ho hO ⟨f0, rfl, fun z => absurd z (by decide)⟩ HB rfl dL_write_16

set_option maxHeartbeats 4000000 in
set_option maxRecDepth 100000 in
theorem ww_write_2 (l : Launch) (hst : l.stackTraces = false) {G : va_G} {kT : Nat → ClassId} {a0 o9 : Nat} {T : mT} {D : mD} (I : mI T) {w : Nat} {x : Int32} (hw : w < 3) (h : 256 < T 7 (w) + 1) : wM l yL_write wsL_write ({ frames := 9, cells := 2, slots := 260, locals := 166 } : Room) G kT a0 o9 [.ref (a0), .int (nI (w)), .int (x), .ref (o9)] T D 2 (T) (D) (oL kT False 0) (oL kT (2 = 0) (((nI 0) : Int32).toInt64)) := by
  refine wstart (cc := cL_write) (maxL := 5) (hh := [(0, 10, 13, 13), (0, 10, 17, 50)]) (by decide) rfl (Nat.le_of_ble_eq_true rfl) (fun ad L K R I A Q N e0 HB h09 ho hP0 p e s m args below meth c Z hE9 X hT hE hW hO ls hl => ?_)
  subst h09
  obtain ⟨f0, rfl, -⟩ := hP0
  have X : CallFix p m c cL_write 5 s args wsL_write RL := X
  have hl : lv_has ls 5 [(0, .ref (ad 0 0)), (1, .int (nI (w))), (2, .int (x)), (3, .ref (o9))] := hl
  refine lv_aload_n X.1 X.2.1 dL_write_0 rfl (lv_at hl 3 rfl) ?_
  refine lv_iconst (v := nI 0) X.1 X.2.1 dL_write_1 (by decide) ?_
  refine lv_aload_n X.1 X.2.1 dL_write_2 rfl (lv_at hl 0 rfl) ?_
  refine lv_iload_n X.1 X.2.1 dL_write_3 rfl (lv_at hl 1 rfl) ?_
  refine lv_iload_n X.1 X.2.1 dL_write_4 rfl (lv_at hl 2 rfl) ?_
  refine cCV hE X hW (HB.mem lv_0) (pC_6 (HB.kn lv_0 rfl)) rfl (cb_write_b l hst HB hw h) (cwV 2 X.2.2.2.2 gL_write_X6_write rfl rfl rfl (by decide +kernel) ⟨Nat.le_of_ble_eq_true rfl, Nat.le_of_ble_eq_true rfl⟩) rfl rfl hl.1 (Nat.le_of_ble_eq_true rfl) dL_write_5 ⟨Nat.le_of_ble_eq_true rfl, Nat.le_of_ble_eq_true rfl⟩ (fun H locs q8 ce hW hsz hk hce hcv hcl => ?_)
  have hO := oK hO ho hk
  refine vx_catch X.2.2.2.1 [⟨0, 10, 13, 13⟩] ⟨0, 10, 17, 50⟩ [] hT (List.forall_mem_cons.mpr ⟨Or.inr ⟨by decide, "java/lang/IndexOutOfBoundsException", X.2.2.2.2 (.classLink RL 13 "java/lang/IndexOutOfBoundsException") (List.mem_cons_of_mem _ (List.mem_append_left _ (List.mem_append_left _ (List.mem_append_left _ (List.mem_append_left _ (List.mem_append_left _ (List.mem_append_left _ (List.mem_of_getElem? (i := 0) rfl)))))))), hE.2.2.2.2 ("java/lang/IllegalStateException", "java/lang/IndexOutOfBoundsException") (by decide +kernel)⟩, (fun z hz => absurd hz List.not_mem_nil)⟩) (by decide) (by decide) (X.2.2.2.2 (.classLink RL 50 "java/lang/IllegalStateException") (List.mem_cons_of_mem _ (List.mem_append_left _ (List.mem_append_left _ (List.mem_append_left _ (List.mem_append_left _ (List.mem_append_left _ (List.mem_append_left _ (List.mem_of_getElem? (i := 1) rfl))))))))) (va_Nw.use rfl (hE.2.2.1 (.castable "java/lang/IllegalStateException" "java/lang/IllegalStateException") (by decide +kernel))) hce hcv hcl ?_
  refine lv_astore (lv' := [(4, .ref (q8)), (0, .ref (ad 0 0)), (1, .int (nI (w))), (2, .int (x)), (3, .ref (o9))]) X.1 X.2.1 dL_write_17 hl (by decide) rfl (fun ls hl => ?_)
  refine lv_iconst (v := nI 2) X.1 X.2.1 dL_write_19 (by decide) ?_
  exact hE9 _ _ _ _ _ _ _ ad L K R I A Q N _ rfl (show _ ≤ 2 by decide) (show _ ≤ 260 by decide) hW ho hO ⟨f0, rfl, fun z => absurd z (by decide)⟩ HB rfl dL_write_20

theorem wo_write (l : Launch) (hst : l.stackTraces = false) {G : va_G} {kT : Nat → ClassId} {a0 o9 : Nat} {T : mT} {D : mD} (I : mI T) (J : mJD D) (w x : Int32) : wO l yL_write wsL_write ({ frames := 9, cells := 2, slots := 260, locals := 166 } : Room) G kT a0 o9 [.ref a0, .int w, .int x, .ref o9] T D (sp_one T D 0 1 w x) := by
  by_cases h1 : oN w 3
  · rw [show sp_one T D 0 1 w x = no T D 1 from if_pos h1]; exact ww_write_1 l hst h1
  · obtain ⟨w, hw, rfl⟩ := oN_in (by decide) h1
    have hc : (nI w).toNatClampNeg = w := nI_clamp (by omega)
    have ea : 0 + w = w := by omega
    by_cases h2 : 256 < T 7 (w) + 1
    · rw [show sp_one T D 0 1 (nI w) x = no T D 2 from (if_neg h1).trans (if_pos (by rw [hc, ea]; exact h2))]; exact ww_write_2 l hst I hw h2
    · rw [show sp_one T D 0 1 (nI w) x = sk_one T D (w) 1 x from (if_neg h1).trans ((if_neg (by rw [hc, ea]; exact h2)).trans (by rw [hc, ea]))]
      exact ww_write l hst I hw (Nat.not_lt.mp h2)


set_option maxHeartbeats 4000000 in
set_option maxRecDepth 100000 in
theorem ww_append (l : Launch) (hst : l.stackTraces = false) {G : va_G} {kT : Nat → ClassId} {a0 o9 : Nat} {T : mT} {D : mD} (I : mI T) {w : Nat} {x : Int32} (hw : w < 3) (h : T 7 (w) + 2 ≤ 256) : wM l yL_append wsL_append ({ frames := 9, cells := 2, slots := 260, locals := 166 } : Room) G kT a0 o9 [.ref (a0), .int (nI (w)), .int (x), .ref (o9)] T D 0 (adT T (w) 2) (adD T D (w) (fun _ => x &&& nI 255) 2) (oL kT False 0) (oL kT (0 = 0) (((nI (T 7 (w) + 2)) : Int32).toInt64)) := by
  refine wstart (cc := cL_append) (maxL := 5) (hh := [(0, 10, 13, 13), (0, 10, 17, 50)]) (by decide) rfl (Nat.le_of_ble_eq_true rfl) (fun ad L K R I A Q N e0 HB h09 ho hP0 p e s m args below meth c Z hE9 X hT hE hW hO ls hl => ?_)
  subst h09
  obtain ⟨f0, rfl, -⟩ := hP0
  have X : CallFix p m c cL_append 5 s args wsL_append RL := X
  have hl : lv_has ls 5 [(0, .ref (ad 0 0)), (1, .int (nI (w))), (2, .int (x)), (3, .ref (o9))] := hl
  refine lv_aload_n X.1 X.2.1 dL_append_0 rfl (lv_at hl 3 rfl) ?_
  refine lv_iconst (v := nI 0) X.1 X.2.1 dL_append_1 (by decide) ?_
  refine lv_aload_n X.1 X.2.1 dL_append_2 rfl (lv_at hl 0 rfl) ?_
  refine lv_iload_n X.1 X.2.1 dL_append_3 rfl (lv_at hl 1 rfl) ?_
  refine lv_iload_n X.1 X.2.1 dL_append_4 rfl (lv_at hl 2 rfl) ?_
  refine cFi X hW (HB.mem lv_0) (pC_6 (HB.kn lv_0 rfl)) rfl (co_append l HB hw h) (cwV 2 X.2.2.2.2 gL_append_X6_append rfl rfl rfl (by decide +kernel) ⟨Nat.le_of_ble_eq_true rfl, Nat.le_of_ble_eq_true rfl⟩) rfl rfl hl.1 (Nat.le_of_ble_eq_true rfl) dL_append_5 ⟨Nat.le_of_ble_eq_true rfl, Nat.le_of_ble_eq_true rfl⟩ (fun H locs hW hsz hk => ?_)
  have hO := oK hO ho hk
  refine lv_i2l (v := (nI (T 7 w + 2)).toInt64) X.1 X.2.1 dL_append_8 rfl ?_
  refine wst X hW hO ho dL_append_9 (fun H locs hW hO => ?_)
  refine lv_goto (tgt := 21) X.1 X.2.1 dL_append_10 (by decide) ?_
  refine lv_iconst (v := nI 0) X.1 X.2.1 dL_append_21 (by decide) ?_
  exact hE9 _ _ _ _ _ _ _ ad L K _ _ _ _ N _ rfl (show _ ≤ 2 by decide) (show _ ≤ 260 by decide) hW ho hO ⟨_, rfl, fun _ => if_pos rfl⟩ (HB.addW (a := w) (by omega) h (fun _ _ => rfl) (fun _ _ => and_255 x)) rfl dL_append_22

set_option maxHeartbeats 4000000 in
set_option maxRecDepth 100000 in
theorem ww_append_1 (l : Launch) (hst : l.stackTraces = false) {G : va_G} {kT : Nat → ClassId} {a0 o9 : Nat} {T : mT} {D : mD} {w x : Int32} (h : oN w 3) : wM l yL_append wsL_append ({ frames := 9, cells := 2, slots := 260, locals := 166 } : Room) G kT a0 o9 [.ref (a0), .int (w), .int (x), .ref (o9)] T D 1 (T) (D) (oL kT False 0) (oL kT (1 = 0) (((nI 0) : Int32).toInt64)) := by
  refine wstart (cc := cL_append) (maxL := 5) (hh := [(0, 10, 13, 13), (0, 10, 17, 50)]) (by decide) rfl (Nat.le_of_ble_eq_true rfl) (fun ad L K R I A Q N e0 HB h09 ho hP0 p e s m args below meth c Z hE9 X hT hE hW hO ls hl => ?_)
  subst h09
  obtain ⟨f0, rfl, -⟩ := hP0
  have X : CallFix p m c cL_append 5 s args wsL_append RL := X
  have hl : lv_has ls 5 [(0, .ref (ad 0 0)), (1, .int (w)), (2, .int (x)), (3, .ref (o9))] := hl
  refine lv_aload_n X.1 X.2.1 dL_append_0 rfl (lv_at hl 3 rfl) ?_
  refine lv_iconst (v := nI 0) X.1 X.2.1 dL_append_1 (by decide) ?_
  refine lv_aload_n X.1 X.2.1 dL_append_2 rfl (lv_at hl 0 rfl) ?_
  refine lv_iload_n X.1 X.2.1 dL_append_3 rfl (lv_at hl 1 rfl) ?_
  refine lv_iload_n X.1 X.2.1 dL_append_4 rfl (lv_at hl 2 rfl) ?_
  refine cCV hE X hW (HB.mem lv_0) (pC_6 (HB.kn lv_0 rfl)) rfl (cb_append_a l hst HB h) (cwV 2 X.2.2.2.2 gL_append_X6_append rfl rfl rfl (by decide +kernel) ⟨Nat.le_of_ble_eq_true rfl, Nat.le_of_ble_eq_true rfl⟩) rfl rfl hl.1 (Nat.le_of_ble_eq_true rfl) dL_append_5 ⟨Nat.le_of_ble_eq_true rfl, Nat.le_of_ble_eq_true rfl⟩ (fun H locs q8 ce hW hsz hk hce hcv hcl => ?_)
  have hO := oK hO ho hk
  refine vx_catch X.2.2.2.1 [] ⟨0, 10, 13, 13⟩ [⟨0, 10, 17, 50⟩] hT (fun z hz => absurd hz List.not_mem_nil) (by decide) (by decide) (X.2.2.2.2 (.classLink RL 13 "java/lang/IndexOutOfBoundsException") (List.mem_cons_of_mem _ (List.mem_append_left _ (List.mem_append_left _ (List.mem_append_left _ (List.mem_append_left _ (List.mem_append_left _ (List.mem_append_left _ (List.mem_of_getElem? (i := 0) rfl))))))))) (va_Nw.use rfl (hE.2.2.1 (.castable "java/lang/IndexOutOfBoundsException" "java/lang/IndexOutOfBoundsException") (by decide +kernel))) hce hcv hcl ?_
  refine lv_astore (lv' := [(4, .ref (q8)), (0, .ref (ad 0 0)), (1, .int (w)), (2, .int (x)), (3, .ref (o9))]) X.1 X.2.1 dL_append_13 hl (by decide) rfl (fun ls hl => ?_)
  refine lv_iconst (v := nI 1) X.1 X.2.1 dL_append_15 (by decide) ?_
  exact hE9 _ _ _ _ _ _ _ ad L K R I A Q N _ rfl (show _ ≤ 2 by decide) (show _ ≤ 260 by decide) hW ho hO ⟨f0, rfl, fun z => absurd z (by decide)⟩ HB rfl dL_append_16

set_option maxHeartbeats 4000000 in
set_option maxRecDepth 100000 in
theorem ww_append_2 (l : Launch) (hst : l.stackTraces = false) {G : va_G} {kT : Nat → ClassId} {a0 o9 : Nat} {T : mT} {D : mD} (I : mI T) {w : Nat} {x : Int32} (hw : w < 3) (h : 256 < T 7 (w) + 2) : wM l yL_append wsL_append ({ frames := 9, cells := 2, slots := 260, locals := 166 } : Room) G kT a0 o9 [.ref (a0), .int (nI (w)), .int (x), .ref (o9)] T D 2 (T) (D) (oL kT False 0) (oL kT (2 = 0) (((nI 0) : Int32).toInt64)) := by
  refine wstart (cc := cL_append) (maxL := 5) (hh := [(0, 10, 13, 13), (0, 10, 17, 50)]) (by decide) rfl (Nat.le_of_ble_eq_true rfl) (fun ad L K R I A Q N e0 HB h09 ho hP0 p e s m args below meth c Z hE9 X hT hE hW hO ls hl => ?_)
  subst h09
  obtain ⟨f0, rfl, -⟩ := hP0
  have X : CallFix p m c cL_append 5 s args wsL_append RL := X
  have hl : lv_has ls 5 [(0, .ref (ad 0 0)), (1, .int (nI (w))), (2, .int (x)), (3, .ref (o9))] := hl
  refine lv_aload_n X.1 X.2.1 dL_append_0 rfl (lv_at hl 3 rfl) ?_
  refine lv_iconst (v := nI 0) X.1 X.2.1 dL_append_1 (by decide) ?_
  refine lv_aload_n X.1 X.2.1 dL_append_2 rfl (lv_at hl 0 rfl) ?_
  refine lv_iload_n X.1 X.2.1 dL_append_3 rfl (lv_at hl 1 rfl) ?_
  refine lv_iload_n X.1 X.2.1 dL_append_4 rfl (lv_at hl 2 rfl) ?_
  refine cCV hE X hW (HB.mem lv_0) (pC_6 (HB.kn lv_0 rfl)) rfl (cb_append_b l hst HB hw h) (cwV 2 X.2.2.2.2 gL_append_X6_append rfl rfl rfl (by decide +kernel) ⟨Nat.le_of_ble_eq_true rfl, Nat.le_of_ble_eq_true rfl⟩) rfl rfl hl.1 (Nat.le_of_ble_eq_true rfl) dL_append_5 ⟨Nat.le_of_ble_eq_true rfl, Nat.le_of_ble_eq_true rfl⟩ (fun H locs q8 ce hW hsz hk hce hcv hcl => ?_)
  have hO := oK hO ho hk
  refine vx_catch X.2.2.2.1 [⟨0, 10, 13, 13⟩] ⟨0, 10, 17, 50⟩ [] hT (List.forall_mem_cons.mpr ⟨Or.inr ⟨by decide, "java/lang/IndexOutOfBoundsException", X.2.2.2.2 (.classLink RL 13 "java/lang/IndexOutOfBoundsException") (List.mem_cons_of_mem _ (List.mem_append_left _ (List.mem_append_left _ (List.mem_append_left _ (List.mem_append_left _ (List.mem_append_left _ (List.mem_append_left _ (List.mem_of_getElem? (i := 0) rfl)))))))), hE.2.2.2.2 ("java/lang/IllegalStateException", "java/lang/IndexOutOfBoundsException") (by decide +kernel)⟩, (fun z hz => absurd hz List.not_mem_nil)⟩) (by decide) (by decide) (X.2.2.2.2 (.classLink RL 50 "java/lang/IllegalStateException") (List.mem_cons_of_mem _ (List.mem_append_left _ (List.mem_append_left _ (List.mem_append_left _ (List.mem_append_left _ (List.mem_append_left _ (List.mem_append_left _ (List.mem_of_getElem? (i := 1) rfl))))))))) (va_Nw.use rfl (hE.2.2.1 (.castable "java/lang/IllegalStateException" "java/lang/IllegalStateException") (by decide +kernel))) hce hcv hcl ?_
  refine lv_astore (lv' := [(4, .ref (q8)), (0, .ref (ad 0 0)), (1, .int (nI (w))), (2, .int (x)), (3, .ref (o9))]) X.1 X.2.1 dL_append_17 hl (by decide) rfl (fun ls hl => ?_)
  refine lv_iconst (v := nI 2) X.1 X.2.1 dL_append_19 (by decide) ?_
  exact hE9 _ _ _ _ _ _ _ ad L K R I A Q N _ rfl (show _ ≤ 2 by decide) (show _ ≤ 260 by decide) hW ho hO ⟨f0, rfl, fun z => absurd z (by decide)⟩ HB rfl dL_append_20

theorem wo_append (l : Launch) (hst : l.stackTraces = false) {G : va_G} {kT : Nat → ClassId} {a0 o9 : Nat} {T : mT} {D : mD} (I : mI T) (J : mJD D) (w x : Int32) : wO l yL_append wsL_append ({ frames := 9, cells := 2, slots := 260, locals := 166 } : Room) G kT a0 o9 [.ref a0, .int w, .int x, .ref o9] T D (sp_one T D 0 2 w x) := by
  by_cases h1 : oN w 3
  · rw [show sp_one T D 0 2 w x = no T D 1 from if_pos h1]; exact ww_append_1 l hst h1
  · obtain ⟨w, hw, rfl⟩ := oN_in (by decide) h1
    have hc : (nI w).toNatClampNeg = w := nI_clamp (by omega)
    have ea : 0 + w = w := by omega
    by_cases h2 : 256 < T 7 (w) + 2
    · rw [show sp_one T D 0 2 (nI w) x = no T D 2 from (if_neg h1).trans (if_pos (by rw [hc, ea]; exact h2))]; exact ww_append_2 l hst I hw h2
    · rw [show sp_one T D 0 2 (nI w) x = sk_one T D (w) 2 x from (if_neg h1).trans ((if_neg (by rw [hc, ea]; exact h2)).trans (by rw [hc, ea]))]
      exact ww_append l hst I hw (Nat.not_lt.mp h2)


set_option maxHeartbeats 4000000 in
set_option maxRecDepth 100000 in
theorem ww_arrayWrite (l : Launch) (hst : l.stackTraces = false) {G : va_G} {kT : Nat → ClassId} {a0 o9 : Nat} {T : mT} {D : mD} (I : mI T) {w : Nat} {x : Int32} (hw : w < 3) (h : T 7 (3 + w) + 1 ≤ 256) : wM l yL_arrayWrite wsL_arrayWrite ({ frames := 9, cells := 2, slots := 260, locals := 166 } : Room) G kT a0 o9 [.ref (a0), .int (nI (w)), .int (x), .ref (o9)] T D 0 (adT T (3 + w) 1) (adD T D (3 + w) (fun _ => x &&& nI 255) 1) (oL kT False 0) (oL kT (0 = 0) (((nI (T 7 (3 + w) + 1)) : Int32).toInt64)) := by
  refine wstart (cc := cL_arrayWrite) (maxL := 5) (hh := [(0, 10, 13, 13), (0, 10, 17, 50)]) (by decide) rfl (Nat.le_of_ble_eq_true rfl) (fun ad L K R I A Q N e0 HB h09 ho hP0 p e s m args below meth c Z hE9 X hT hE hW hO ls hl => ?_)
  subst h09
  obtain ⟨f0, rfl, -⟩ := hP0
  have X : CallFix p m c cL_arrayWrite 5 s args wsL_arrayWrite RL := X
  have hl : lv_has ls 5 [(0, .ref (ad 0 0)), (1, .int (nI (w))), (2, .int (x)), (3, .ref (o9))] := hl
  refine lv_aload_n X.1 X.2.1 dL_arrayWrite_0 rfl (lv_at hl 3 rfl) ?_
  refine lv_iconst (v := nI 0) X.1 X.2.1 dL_arrayWrite_1 (by decide) ?_
  refine lv_aload_n X.1 X.2.1 dL_arrayWrite_2 rfl (lv_at hl 0 rfl) ?_
  refine lv_iload_n X.1 X.2.1 dL_arrayWrite_3 rfl (lv_at hl 1 rfl) ?_
  refine lv_iload_n X.1 X.2.1 dL_arrayWrite_4 rfl (lv_at hl 2 rfl) ?_
  refine cFi X hW (HB.mem lv_0) (pC_6 (HB.kn lv_0 rfl)) rfl (co_arrayWrite l HB hw h) (cwV 2 X.2.2.2.2 gL_arrayWrite_X6_arrayWrite rfl rfl rfl (by decide +kernel) ⟨Nat.le_of_ble_eq_true rfl, Nat.le_of_ble_eq_true rfl⟩) rfl rfl hl.1 (Nat.le_of_ble_eq_true rfl) dL_arrayWrite_5 ⟨Nat.le_of_ble_eq_true rfl, Nat.le_of_ble_eq_true rfl⟩ (fun H locs hW hsz hk => ?_)
  have hO := oK hO ho hk
  refine lv_i2l (v := (nI (T 7 (3 + w) + 1)).toInt64) X.1 X.2.1 dL_arrayWrite_8 rfl ?_
  refine wst X hW hO ho dL_arrayWrite_9 (fun H locs hW hO => ?_)
  refine lv_goto (tgt := 21) X.1 X.2.1 dL_arrayWrite_10 (by decide) ?_
  refine lv_iconst (v := nI 0) X.1 X.2.1 dL_arrayWrite_21 (by decide) ?_
  exact hE9 _ _ _ _ _ _ _ ad L K _ _ _ _ N _ rfl (show _ ≤ 2 by decide) (show _ ≤ 260 by decide) hW ho hO ⟨_, rfl, fun _ => if_pos rfl⟩ (HB.addW (a := (3 + w)) (by omega) h (fun _ _ => rfl) (fun _ _ => and_255 x)) rfl dL_arrayWrite_22

set_option maxHeartbeats 4000000 in
set_option maxRecDepth 100000 in
theorem ww_arrayWrite_1 (l : Launch) (hst : l.stackTraces = false) {G : va_G} {kT : Nat → ClassId} {a0 o9 : Nat} {T : mT} {D : mD} {w x : Int32} (h : oN w 3) : wM l yL_arrayWrite wsL_arrayWrite ({ frames := 9, cells := 2, slots := 260, locals := 166 } : Room) G kT a0 o9 [.ref (a0), .int (w), .int (x), .ref (o9)] T D 1 (T) (D) (oL kT False 0) (oL kT (1 = 0) (((nI 0) : Int32).toInt64)) := by
  refine wstart (cc := cL_arrayWrite) (maxL := 5) (hh := [(0, 10, 13, 13), (0, 10, 17, 50)]) (by decide) rfl (Nat.le_of_ble_eq_true rfl) (fun ad L K R I A Q N e0 HB h09 ho hP0 p e s m args below meth c Z hE9 X hT hE hW hO ls hl => ?_)
  subst h09
  obtain ⟨f0, rfl, -⟩ := hP0
  have X : CallFix p m c cL_arrayWrite 5 s args wsL_arrayWrite RL := X
  have hl : lv_has ls 5 [(0, .ref (ad 0 0)), (1, .int (w)), (2, .int (x)), (3, .ref (o9))] := hl
  refine lv_aload_n X.1 X.2.1 dL_arrayWrite_0 rfl (lv_at hl 3 rfl) ?_
  refine lv_iconst (v := nI 0) X.1 X.2.1 dL_arrayWrite_1 (by decide) ?_
  refine lv_aload_n X.1 X.2.1 dL_arrayWrite_2 rfl (lv_at hl 0 rfl) ?_
  refine lv_iload_n X.1 X.2.1 dL_arrayWrite_3 rfl (lv_at hl 1 rfl) ?_
  refine lv_iload_n X.1 X.2.1 dL_arrayWrite_4 rfl (lv_at hl 2 rfl) ?_
  refine cCV hE X hW (HB.mem lv_0) (pC_6 (HB.kn lv_0 rfl)) rfl (cb_arrayWrite_a l hst HB h) (cwV 2 X.2.2.2.2 gL_arrayWrite_X6_arrayWrite rfl rfl rfl (by decide +kernel) ⟨Nat.le_of_ble_eq_true rfl, Nat.le_of_ble_eq_true rfl⟩) rfl rfl hl.1 (Nat.le_of_ble_eq_true rfl) dL_arrayWrite_5 ⟨Nat.le_of_ble_eq_true rfl, Nat.le_of_ble_eq_true rfl⟩ (fun H locs q8 ce hW hsz hk hce hcv hcl => ?_)
  have hO := oK hO ho hk
  refine vx_catch X.2.2.2.1 [] ⟨0, 10, 13, 13⟩ [⟨0, 10, 17, 50⟩] hT (fun z hz => absurd hz List.not_mem_nil) (by decide) (by decide) (X.2.2.2.2 (.classLink RL 13 "java/lang/IndexOutOfBoundsException") (List.mem_cons_of_mem _ (List.mem_append_left _ (List.mem_append_left _ (List.mem_append_left _ (List.mem_append_left _ (List.mem_append_left _ (List.mem_append_left _ (List.mem_of_getElem? (i := 0) rfl))))))))) (va_Nw.use rfl (hE.2.2.1 (.castable "java/lang/IndexOutOfBoundsException" "java/lang/IndexOutOfBoundsException") (by decide +kernel))) hce hcv hcl ?_
  refine lv_astore (lv' := [(4, .ref (q8)), (0, .ref (ad 0 0)), (1, .int (w)), (2, .int (x)), (3, .ref (o9))]) X.1 X.2.1 dL_arrayWrite_13 hl (by decide) rfl (fun ls hl => ?_)
  refine lv_iconst (v := nI 1) X.1 X.2.1 dL_arrayWrite_15 (by decide) ?_
  exact hE9 _ _ _ _ _ _ _ ad L K R I A Q N _ rfl (show _ ≤ 2 by decide) (show _ ≤ 260 by decide) hW ho hO ⟨f0, rfl, fun z => absurd z (by decide)⟩ HB rfl dL_arrayWrite_16

set_option maxHeartbeats 4000000 in
set_option maxRecDepth 100000 in
theorem ww_arrayWrite_2 (l : Launch) (hst : l.stackTraces = false) {G : va_G} {kT : Nat → ClassId} {a0 o9 : Nat} {T : mT} {D : mD} (I : mI T) {w : Nat} {x : Int32} (hw : w < 3) (h : 256 < T 7 (3 + w) + 1) : wM l yL_arrayWrite wsL_arrayWrite ({ frames := 9, cells := 2, slots := 260, locals := 166 } : Room) G kT a0 o9 [.ref (a0), .int (nI (w)), .int (x), .ref (o9)] T D 2 (T) (D) (oL kT False 0) (oL kT (2 = 0) (((nI 0) : Int32).toInt64)) := by
  refine wstart (cc := cL_arrayWrite) (maxL := 5) (hh := [(0, 10, 13, 13), (0, 10, 17, 50)]) (by decide) rfl (Nat.le_of_ble_eq_true rfl) (fun ad L K R I A Q N e0 HB h09 ho hP0 p e s m args below meth c Z hE9 X hT hE hW hO ls hl => ?_)
  subst h09
  obtain ⟨f0, rfl, -⟩ := hP0
  have X : CallFix p m c cL_arrayWrite 5 s args wsL_arrayWrite RL := X
  have hl : lv_has ls 5 [(0, .ref (ad 0 0)), (1, .int (nI (w))), (2, .int (x)), (3, .ref (o9))] := hl
  refine lv_aload_n X.1 X.2.1 dL_arrayWrite_0 rfl (lv_at hl 3 rfl) ?_
  refine lv_iconst (v := nI 0) X.1 X.2.1 dL_arrayWrite_1 (by decide) ?_
  refine lv_aload_n X.1 X.2.1 dL_arrayWrite_2 rfl (lv_at hl 0 rfl) ?_
  refine lv_iload_n X.1 X.2.1 dL_arrayWrite_3 rfl (lv_at hl 1 rfl) ?_
  refine lv_iload_n X.1 X.2.1 dL_arrayWrite_4 rfl (lv_at hl 2 rfl) ?_
  refine cCV hE X hW (HB.mem lv_0) (pC_6 (HB.kn lv_0 rfl)) rfl (cb_arrayWrite_b l hst HB hw h) (cwV 2 X.2.2.2.2 gL_arrayWrite_X6_arrayWrite rfl rfl rfl (by decide +kernel) ⟨Nat.le_of_ble_eq_true rfl, Nat.le_of_ble_eq_true rfl⟩) rfl rfl hl.1 (Nat.le_of_ble_eq_true rfl) dL_arrayWrite_5 ⟨Nat.le_of_ble_eq_true rfl, Nat.le_of_ble_eq_true rfl⟩ (fun H locs q8 ce hW hsz hk hce hcv hcl => ?_)
  have hO := oK hO ho hk
  refine vx_catch X.2.2.2.1 [⟨0, 10, 13, 13⟩] ⟨0, 10, 17, 50⟩ [] hT (List.forall_mem_cons.mpr ⟨Or.inr ⟨by decide, "java/lang/IndexOutOfBoundsException", X.2.2.2.2 (.classLink RL 13 "java/lang/IndexOutOfBoundsException") (List.mem_cons_of_mem _ (List.mem_append_left _ (List.mem_append_left _ (List.mem_append_left _ (List.mem_append_left _ (List.mem_append_left _ (List.mem_append_left _ (List.mem_of_getElem? (i := 0) rfl)))))))), hE.2.2.2.2 ("java/lang/IllegalStateException", "java/lang/IndexOutOfBoundsException") (by decide +kernel)⟩, (fun z hz => absurd hz List.not_mem_nil)⟩) (by decide) (by decide) (X.2.2.2.2 (.classLink RL 50 "java/lang/IllegalStateException") (List.mem_cons_of_mem _ (List.mem_append_left _ (List.mem_append_left _ (List.mem_append_left _ (List.mem_append_left _ (List.mem_append_left _ (List.mem_append_left _ (List.mem_of_getElem? (i := 1) rfl))))))))) (va_Nw.use rfl (hE.2.2.1 (.castable "java/lang/IllegalStateException" "java/lang/IllegalStateException") (by decide +kernel))) hce hcv hcl ?_
  refine lv_astore (lv' := [(4, .ref (q8)), (0, .ref (ad 0 0)), (1, .int (nI (w))), (2, .int (x)), (3, .ref (o9))]) X.1 X.2.1 dL_arrayWrite_17 hl (by decide) rfl (fun ls hl => ?_)
  refine lv_iconst (v := nI 2) X.1 X.2.1 dL_arrayWrite_19 (by decide) ?_
  exact hE9 _ _ _ _ _ _ _ ad L K R I A Q N _ rfl (show _ ≤ 2 by decide) (show _ ≤ 260 by decide) hW ho hO ⟨f0, rfl, fun z => absurd z (by decide)⟩ HB rfl dL_arrayWrite_20

theorem wo_arrayWrite (l : Launch) (hst : l.stackTraces = false) {G : va_G} {kT : Nat → ClassId} {a0 o9 : Nat} {T : mT} {D : mD} (I : mI T) (J : mJD D) (w x : Int32) : wO l yL_arrayWrite wsL_arrayWrite ({ frames := 9, cells := 2, slots := 260, locals := 166 } : Room) G kT a0 o9 [.ref a0, .int w, .int x, .ref o9] T D (sp_one T D 3 1 w x) := by
  by_cases h1 : oN w 3
  · rw [show sp_one T D 3 1 w x = no T D 1 from if_pos h1]; exact ww_arrayWrite_1 l hst h1
  · obtain ⟨w, hw, rfl⟩ := oN_in (by decide) h1
    have hc : (nI w).toNatClampNeg = w := nI_clamp (by omega)
    have ea : 3 + w = 3 + w := by omega
    by_cases h2 : 256 < T 7 (3 + w) + 1
    · rw [show sp_one T D 3 1 (nI w) x = no T D 2 from (if_neg h1).trans (if_pos (by rw [hc, ea]; exact h2))]; exact ww_arrayWrite_2 l hst I hw h2
    · rw [show sp_one T D 3 1 (nI w) x = sk_one T D (3 + w) 1 x from (if_neg h1).trans ((if_neg (by rw [hc, ea]; exact h2)).trans (by rw [hc, ea]))]
      exact ww_arrayWrite l hst I hw (Nat.not_lt.mp h2)


set_option maxHeartbeats 4000000 in
set_option maxRecDepth 100000 in
theorem ww_arrayAppend (l : Launch) (hst : l.stackTraces = false) {G : va_G} {kT : Nat → ClassId} {a0 o9 : Nat} {T : mT} {D : mD} (I : mI T) {w : Nat} {x : Int32} (hw : w < 3) (h : T 7 (3 + w) + 2 ≤ 256) : wM l yL_arrayAppend wsL_arrayAppend ({ frames := 9, cells := 2, slots := 260, locals := 166 } : Room) G kT a0 o9 [.ref (a0), .int (nI (w)), .int (x), .ref (o9)] T D 0 (adT T (3 + w) 2) (adD T D (3 + w) (fun _ => x &&& nI 255) 2) (oL kT False 0) (oL kT (0 = 0) (((nI (T 7 (3 + w) + 2)) : Int32).toInt64)) := by
  refine wstart (cc := cL_arrayAppend) (maxL := 5) (hh := [(0, 10, 13, 13), (0, 10, 17, 50)]) (by decide) rfl (Nat.le_of_ble_eq_true rfl) (fun ad L K R I A Q N e0 HB h09 ho hP0 p e s m args below meth c Z hE9 X hT hE hW hO ls hl => ?_)
  subst h09
  obtain ⟨f0, rfl, -⟩ := hP0
  have X : CallFix p m c cL_arrayAppend 5 s args wsL_arrayAppend RL := X
  have hl : lv_has ls 5 [(0, .ref (ad 0 0)), (1, .int (nI (w))), (2, .int (x)), (3, .ref (o9))] := hl
  refine lv_aload_n X.1 X.2.1 dL_arrayAppend_0 rfl (lv_at hl 3 rfl) ?_
  refine lv_iconst (v := nI 0) X.1 X.2.1 dL_arrayAppend_1 (by decide) ?_
  refine lv_aload_n X.1 X.2.1 dL_arrayAppend_2 rfl (lv_at hl 0 rfl) ?_
  refine lv_iload_n X.1 X.2.1 dL_arrayAppend_3 rfl (lv_at hl 1 rfl) ?_
  refine lv_iload_n X.1 X.2.1 dL_arrayAppend_4 rfl (lv_at hl 2 rfl) ?_
  refine cFi X hW (HB.mem lv_0) (pC_6 (HB.kn lv_0 rfl)) rfl (co_arrayAppend l HB hw h) (cwV 2 X.2.2.2.2 gL_arrayAppend_X6_arrayAppend rfl rfl rfl (by decide +kernel) ⟨Nat.le_of_ble_eq_true rfl, Nat.le_of_ble_eq_true rfl⟩) rfl rfl hl.1 (Nat.le_of_ble_eq_true rfl) dL_arrayAppend_5 ⟨Nat.le_of_ble_eq_true rfl, Nat.le_of_ble_eq_true rfl⟩ (fun H locs hW hsz hk => ?_)
  have hO := oK hO ho hk
  refine lv_i2l (v := (nI (T 7 (3 + w) + 2)).toInt64) X.1 X.2.1 dL_arrayAppend_8 rfl ?_
  refine wst X hW hO ho dL_arrayAppend_9 (fun H locs hW hO => ?_)
  refine lv_goto (tgt := 21) X.1 X.2.1 dL_arrayAppend_10 (by decide) ?_
  refine lv_iconst (v := nI 0) X.1 X.2.1 dL_arrayAppend_21 (by decide) ?_
  exact hE9 _ _ _ _ _ _ _ ad L K _ _ _ _ N _ rfl (show _ ≤ 2 by decide) (show _ ≤ 260 by decide) hW ho hO ⟨_, rfl, fun _ => if_pos rfl⟩ (HB.addW (a := (3 + w)) (by omega) h (fun _ _ => rfl) (fun _ _ => and_255 x)) rfl dL_arrayAppend_22

set_option maxHeartbeats 4000000 in
set_option maxRecDepth 100000 in
theorem ww_arrayAppend_1 (l : Launch) (hst : l.stackTraces = false) {G : va_G} {kT : Nat → ClassId} {a0 o9 : Nat} {T : mT} {D : mD} {w x : Int32} (h : oN w 3) : wM l yL_arrayAppend wsL_arrayAppend ({ frames := 9, cells := 2, slots := 260, locals := 166 } : Room) G kT a0 o9 [.ref (a0), .int (w), .int (x), .ref (o9)] T D 1 (T) (D) (oL kT False 0) (oL kT (1 = 0) (((nI 0) : Int32).toInt64)) := by
  refine wstart (cc := cL_arrayAppend) (maxL := 5) (hh := [(0, 10, 13, 13), (0, 10, 17, 50)]) (by decide) rfl (Nat.le_of_ble_eq_true rfl) (fun ad L K R I A Q N e0 HB h09 ho hP0 p e s m args below meth c Z hE9 X hT hE hW hO ls hl => ?_)
  subst h09
  obtain ⟨f0, rfl, -⟩ := hP0
  have X : CallFix p m c cL_arrayAppend 5 s args wsL_arrayAppend RL := X
  have hl : lv_has ls 5 [(0, .ref (ad 0 0)), (1, .int (w)), (2, .int (x)), (3, .ref (o9))] := hl
  refine lv_aload_n X.1 X.2.1 dL_arrayAppend_0 rfl (lv_at hl 3 rfl) ?_
  refine lv_iconst (v := nI 0) X.1 X.2.1 dL_arrayAppend_1 (by decide) ?_
  refine lv_aload_n X.1 X.2.1 dL_arrayAppend_2 rfl (lv_at hl 0 rfl) ?_
  refine lv_iload_n X.1 X.2.1 dL_arrayAppend_3 rfl (lv_at hl 1 rfl) ?_
  refine lv_iload_n X.1 X.2.1 dL_arrayAppend_4 rfl (lv_at hl 2 rfl) ?_
  refine cCV hE X hW (HB.mem lv_0) (pC_6 (HB.kn lv_0 rfl)) rfl (cb_arrayAppend_a l hst HB h) (cwV 2 X.2.2.2.2 gL_arrayAppend_X6_arrayAppend rfl rfl rfl (by decide +kernel) ⟨Nat.le_of_ble_eq_true rfl, Nat.le_of_ble_eq_true rfl⟩) rfl rfl hl.1 (Nat.le_of_ble_eq_true rfl) dL_arrayAppend_5 ⟨Nat.le_of_ble_eq_true rfl, Nat.le_of_ble_eq_true rfl⟩ (fun H locs q8 ce hW hsz hk hce hcv hcl => ?_)
  have hO := oK hO ho hk
  refine vx_catch X.2.2.2.1 [] ⟨0, 10, 13, 13⟩ [⟨0, 10, 17, 50⟩] hT (fun z hz => absurd hz List.not_mem_nil) (by decide) (by decide) (X.2.2.2.2 (.classLink RL 13 "java/lang/IndexOutOfBoundsException") (List.mem_cons_of_mem _ (List.mem_append_left _ (List.mem_append_left _ (List.mem_append_left _ (List.mem_append_left _ (List.mem_append_left _ (List.mem_append_left _ (List.mem_of_getElem? (i := 0) rfl))))))))) (va_Nw.use rfl (hE.2.2.1 (.castable "java/lang/IndexOutOfBoundsException" "java/lang/IndexOutOfBoundsException") (by decide +kernel))) hce hcv hcl ?_
  refine lv_astore (lv' := [(4, .ref (q8)), (0, .ref (ad 0 0)), (1, .int (w)), (2, .int (x)), (3, .ref (o9))]) X.1 X.2.1 dL_arrayAppend_13 hl (by decide) rfl (fun ls hl => ?_)
  refine lv_iconst (v := nI 1) X.1 X.2.1 dL_arrayAppend_15 (by decide) ?_
  exact hE9 _ _ _ _ _ _ _ ad L K R I A Q N _ rfl (show _ ≤ 2 by decide) (show _ ≤ 260 by decide) hW ho hO ⟨f0, rfl, fun z => absurd z (by decide)⟩ HB rfl dL_arrayAppend_16

set_option maxHeartbeats 4000000 in
set_option maxRecDepth 100000 in
theorem ww_arrayAppend_2 (l : Launch) (hst : l.stackTraces = false) {G : va_G} {kT : Nat → ClassId} {a0 o9 : Nat} {T : mT} {D : mD} (I : mI T) {w : Nat} {x : Int32} (hw : w < 3) (h : 256 < T 7 (3 + w) + 2) : wM l yL_arrayAppend wsL_arrayAppend ({ frames := 9, cells := 2, slots := 260, locals := 166 } : Room) G kT a0 o9 [.ref (a0), .int (nI (w)), .int (x), .ref (o9)] T D 2 (T) (D) (oL kT False 0) (oL kT (2 = 0) (((nI 0) : Int32).toInt64)) := by
  refine wstart (cc := cL_arrayAppend) (maxL := 5) (hh := [(0, 10, 13, 13), (0, 10, 17, 50)]) (by decide) rfl (Nat.le_of_ble_eq_true rfl) (fun ad L K R I A Q N e0 HB h09 ho hP0 p e s m args below meth c Z hE9 X hT hE hW hO ls hl => ?_)
  subst h09
  obtain ⟨f0, rfl, -⟩ := hP0
  have X : CallFix p m c cL_arrayAppend 5 s args wsL_arrayAppend RL := X
  have hl : lv_has ls 5 [(0, .ref (ad 0 0)), (1, .int (nI (w))), (2, .int (x)), (3, .ref (o9))] := hl
  refine lv_aload_n X.1 X.2.1 dL_arrayAppend_0 rfl (lv_at hl 3 rfl) ?_
  refine lv_iconst (v := nI 0) X.1 X.2.1 dL_arrayAppend_1 (by decide) ?_
  refine lv_aload_n X.1 X.2.1 dL_arrayAppend_2 rfl (lv_at hl 0 rfl) ?_
  refine lv_iload_n X.1 X.2.1 dL_arrayAppend_3 rfl (lv_at hl 1 rfl) ?_
  refine lv_iload_n X.1 X.2.1 dL_arrayAppend_4 rfl (lv_at hl 2 rfl) ?_
  refine cCV hE X hW (HB.mem lv_0) (pC_6 (HB.kn lv_0 rfl)) rfl (cb_arrayAppend_b l hst HB hw h) (cwV 2 X.2.2.2.2 gL_arrayAppend_X6_arrayAppend rfl rfl rfl (by decide +kernel) ⟨Nat.le_of_ble_eq_true rfl, Nat.le_of_ble_eq_true rfl⟩) rfl rfl hl.1 (Nat.le_of_ble_eq_true rfl) dL_arrayAppend_5 ⟨Nat.le_of_ble_eq_true rfl, Nat.le_of_ble_eq_true rfl⟩ (fun H locs q8 ce hW hsz hk hce hcv hcl => ?_)
  have hO := oK hO ho hk
  refine vx_catch X.2.2.2.1 [⟨0, 10, 13, 13⟩] ⟨0, 10, 17, 50⟩ [] hT (List.forall_mem_cons.mpr ⟨Or.inr ⟨by decide, "java/lang/IndexOutOfBoundsException", X.2.2.2.2 (.classLink RL 13 "java/lang/IndexOutOfBoundsException") (List.mem_cons_of_mem _ (List.mem_append_left _ (List.mem_append_left _ (List.mem_append_left _ (List.mem_append_left _ (List.mem_append_left _ (List.mem_append_left _ (List.mem_of_getElem? (i := 0) rfl)))))))), hE.2.2.2.2 ("java/lang/IllegalStateException", "java/lang/IndexOutOfBoundsException") (by decide +kernel)⟩, (fun z hz => absurd hz List.not_mem_nil)⟩) (by decide) (by decide) (X.2.2.2.2 (.classLink RL 50 "java/lang/IllegalStateException") (List.mem_cons_of_mem _ (List.mem_append_left _ (List.mem_append_left _ (List.mem_append_left _ (List.mem_append_left _ (List.mem_append_left _ (List.mem_append_left _ (List.mem_of_getElem? (i := 1) rfl))))))))) (va_Nw.use rfl (hE.2.2.1 (.castable "java/lang/IllegalStateException" "java/lang/IllegalStateException") (by decide +kernel))) hce hcv hcl ?_
  refine lv_astore (lv' := [(4, .ref (q8)), (0, .ref (ad 0 0)), (1, .int (nI (w))), (2, .int (x)), (3, .ref (o9))]) X.1 X.2.1 dL_arrayAppend_17 hl (by decide) rfl (fun ls hl => ?_)
  refine lv_iconst (v := nI 2) X.1 X.2.1 dL_arrayAppend_19 (by decide) ?_
  exact hE9 _ _ _ _ _ _ _ ad L K R I A Q N _ rfl (show _ ≤ 2 by decide) (show _ ≤ 260 by decide) hW ho hO ⟨f0, rfl, fun z => absurd z (by decide)⟩ HB rfl dL_arrayAppend_20

theorem wo_arrayAppend (l : Launch) (hst : l.stackTraces = false) {G : va_G} {kT : Nat → ClassId} {a0 o9 : Nat} {T : mT} {D : mD} (I : mI T) (J : mJD D) (w x : Int32) : wO l yL_arrayAppend wsL_arrayAppend ({ frames := 9, cells := 2, slots := 260, locals := 166 } : Room) G kT a0 o9 [.ref a0, .int w, .int x, .ref o9] T D (sp_one T D 3 2 w x) := by
  by_cases h1 : oN w 3
  · rw [show sp_one T D 3 2 w x = no T D 1 from if_pos h1]; exact ww_arrayAppend_1 l hst h1
  · obtain ⟨w, hw, rfl⟩ := oN_in (by decide) h1
    have hc : (nI w).toNatClampNeg = w := nI_clamp (by omega)
    have ea : 3 + w = 3 + w := by omega
    by_cases h2 : 256 < T 7 (3 + w) + 2
    · rw [show sp_one T D 3 2 (nI w) x = no T D 2 from (if_neg h1).trans (if_pos (by rw [hc, ea]; exact h2))]; exact ww_arrayAppend_2 l hst I hw h2
    · rw [show sp_one T D 3 2 (nI w) x = sk_one T D (3 + w) 2 x from (if_neg h1).trans ((if_neg (by rw [hc, ea]; exact h2)).trans (by rw [hc, ea]))]
      exact ww_arrayAppend l hst I hw (Nat.not_lt.mp h2)


set_option maxHeartbeats 4000000 in
set_option maxRecDepth 100000 in
theorem ww_writeText_1a (l : Launch) (hst : l.stackTraces = false) {G : va_G} {kT : Nat → ClassId} {a0 o9 : Nat} {T : mT} {D : mD} {w row f n : Int32} (h : oN w 3) : wM l yL_writeText wsL_writeText ({ frames := 9, cells := 2, slots := 260, locals := 171 } : Room) G kT a0 o9 [.ref (a0), .int (w), .int (row), .int (f), .int (n), .ref (o9)] T D 1 (T) (D) (oL kT False 0) (oL kT (1 = 0) (((nI 0) : Int32).toInt64)) := by
  refine wstart (cc := cL_writeText) (maxL := 7) (hh := [(0, 14, 17, 13), (0, 14, 21, 50)]) (by decide) rfl (Nat.le_of_ble_eq_true rfl) (fun ad L K R I A Q N e0 HB h09 ho hP0 p e s m args below meth c Z hE9 X hT hE hW hO ls hl => ?_)
  subst h09
  obtain ⟨f0, rfl, -⟩ := hP0
  have X : CallFix p m c cL_writeText 7 s args wsL_writeText RL := X
  have hl : lv_has ls 7 [(0, .ref (ad 0 0)), (1, .int (w)), (2, .int (row)), (3, .int (f)), (4, .int (n)), (5, .ref (o9))] := hl
  refine lv_aload X.1 X.2.1 dL_writeText_0 (lv_at hl 5 rfl) ?_
  refine lv_iconst (v := nI 0) X.1 X.2.1 dL_writeText_2 (by decide) ?_
  refine lv_aload_n X.1 X.2.1 dL_writeText_3 rfl (lv_at hl 0 rfl) ?_
  refine lv_iload_n X.1 X.2.1 dL_writeText_4 rfl (lv_at hl 1 rfl) ?_
  refine lv_iload_n X.1 X.2.1 dL_writeText_5 rfl (lv_at hl 2 rfl) ?_
  refine lv_iload_n X.1 X.2.1 dL_writeText_6 rfl (lv_at hl 3 rfl) ?_
  refine lv_iload X.1 X.2.1 dL_writeText_7 (lv_at hl 4 rfl) ?_
  refine cCV hE X hW (HB.mem lv_0) (pC_6 (HB.kn lv_0 rfl)) rfl (cb_writeText_a l hst HB h) (cwV 4 X.2.2.2.2 gL_writeText_X6_writeText rfl rfl rfl (by decide +kernel) ⟨Nat.le_of_ble_eq_true rfl, Nat.le_of_ble_eq_true rfl⟩) rfl rfl hl.1 (Nat.le_of_ble_eq_true rfl) dL_writeText_9 ⟨Nat.le_of_ble_eq_true rfl, Nat.le_of_ble_eq_true rfl⟩ (fun H locs q8 ce hW hsz hk hce hcv hcl => ?_)
  have hO := oK hO ho hk
  refine vx_catch X.2.2.2.1 [] ⟨0, 14, 17, 13⟩ [⟨0, 14, 21, 50⟩] hT (fun z hz => absurd hz List.not_mem_nil) (by decide) (by decide) (X.2.2.2.2 (.classLink RL 13 "java/lang/IndexOutOfBoundsException") (List.mem_cons_of_mem _ (List.mem_append_left _ (List.mem_append_left _ (List.mem_append_left _ (List.mem_append_left _ (List.mem_append_left _ (List.mem_append_left _ (List.mem_append_left _ (List.mem_of_getElem? (i := 0) rfl)))))))))) (va_Nw.use rfl (hE.2.2.1 (.castable "java/lang/IndexOutOfBoundsException" "java/lang/IndexOutOfBoundsException") (by decide +kernel))) hce hcv hcl ?_
  refine lv_astore (lv' := [(6, .ref (q8)), (0, .ref (ad 0 0)), (1, .int (w)), (2, .int (row)), (3, .int (f)), (4, .int (n)), (5, .ref (o9))]) X.1 X.2.1 dL_writeText_17 hl (by decide) rfl (fun ls hl => ?_)
  refine lv_iconst (v := nI 1) X.1 X.2.1 dL_writeText_19 (by decide) ?_
  exact hE9 _ _ _ _ _ _ _ ad L K R I A Q N _ rfl (show _ ≤ 2 by decide) (show _ ≤ 260 by decide) hW ho hO ⟨f0, rfl, fun z => absurd z (by decide)⟩ HB rfl dL_writeText_20

set_option maxHeartbeats 4000000 in
set_option maxRecDepth 100000 in
theorem ww_writeText (l : Launch) (hst : l.stackTraces = false) {G : va_G} {kT : Nat → ClassId} {a0 o9 : Nat} {T : mT} {D : mD} (I : mI T) {w r f n : Nat} (hw : w < 3) (hr : r < 4) (h : f + n ≤ T 1 (T 2 r)) (h2 : T 7 (w) + n ≤ 256) : wM l yL_writeText wsL_writeText ({ frames := 9, cells := 2, slots := 260, locals := 171 } : Room) G kT a0 o9 [.ref (a0), .int (nI (w)), .int (nI (r)), .int (nI (f)), .int (nI (n)), .ref (o9)] T D 0 (adT T (w) n) (adD T D (w) (fun i => D 0 (256 * T 2 r + f + i) &&& nI 255) n) (oL kT False 0) (oL kT (0 = 0) (((nI (T 7 (w) + n)) : Int32).toInt64)) := by
  refine wstart (cc := cL_writeText) (maxL := 7) (hh := [(0, 14, 17, 13), (0, 14, 21, 50)]) (by decide) rfl (Nat.le_of_ble_eq_true rfl) (fun ad L K R I A Q N e0 HB h09 ho hP0 p e s m args below meth c Z hE9 X hT hE hW hO ls hl => ?_)
  subst h09
  obtain ⟨f0, rfl, -⟩ := hP0
  have X : CallFix p m c cL_writeText 7 s args wsL_writeText RL := X
  have hl : lv_has ls 7 [(0, .ref (ad 0 0)), (1, .int (nI (w))), (2, .int (nI (r))), (3, .int (nI (f))), (4, .int (nI (n))), (5, .ref (o9))] := hl
  refine lv_aload X.1 X.2.1 dL_writeText_0 (lv_at hl 5 rfl) ?_
  refine lv_iconst (v := nI 0) X.1 X.2.1 dL_writeText_2 (by decide) ?_
  refine lv_aload_n X.1 X.2.1 dL_writeText_3 rfl (lv_at hl 0 rfl) ?_
  refine lv_iload_n X.1 X.2.1 dL_writeText_4 rfl (lv_at hl 1 rfl) ?_
  refine lv_iload_n X.1 X.2.1 dL_writeText_5 rfl (lv_at hl 2 rfl) ?_
  refine lv_iload_n X.1 X.2.1 dL_writeText_6 rfl (lv_at hl 3 rfl) ?_
  refine lv_iload X.1 X.2.1 dL_writeText_7 (lv_at hl 4 rfl) ?_
  refine cFi X hW (HB.mem lv_0) (pC_6 (HB.kn lv_0 rfl)) rfl (co_writeText l HB hw hr h h2) (cwV 4 X.2.2.2.2 gL_writeText_X6_writeText rfl rfl rfl (by decide +kernel) ⟨Nat.le_of_ble_eq_true rfl, Nat.le_of_ble_eq_true rfl⟩) rfl rfl hl.1 (Nat.le_of_ble_eq_true rfl) dL_writeText_9 ⟨Nat.le_of_ble_eq_true rfl, Nat.le_of_ble_eq_true rfl⟩ (fun H locs hW hsz hk => ?_)
  have hO := oK hO ho hk
  refine lv_i2l (v := (nI (T 7 w + n)).toInt64) X.1 X.2.1 dL_writeText_12 rfl ?_
  refine wst X hW hO ho dL_writeText_13 (fun H locs hW hO => ?_)
  refine lv_goto (tgt := 25) X.1 X.2.1 dL_writeText_14 (by decide) ?_
  refine lv_iconst (v := nI 0) X.1 X.2.1 dL_writeText_25 (by decide) ?_
  exact hE9 _ _ _ _ _ _ _ ad L K _ _ _ _ N _ rfl (show _ ≤ 2 by decide) (show _ ≤ 260 by decide) hW ho hO ⟨_, rfl, fun _ => if_pos rfl⟩ (HB.addW (a := w) (by omega) h2 (fun i hi => by rw [HB.sA (uS_row hr) (by omega), show 256 * T 2 r + f + i = 256 * T 2 r + (f + i) by omega]; exact (HB.md.1 _).symm) (fun _ _ => and_255 _)) rfl dL_writeText_26

set_option maxHeartbeats 4000000 in
set_option maxRecDepth 100000 in
theorem ww_writeText_1b (l : Launch) (hst : l.stackTraces = false) {G : va_G} {kT : Nat → ClassId} {a0 o9 : Nat} {T : mT} {D : mD} {w : Nat} {row f n : Int32} (hw : w < 3) (h : oN row 4) : wM l yL_writeText wsL_writeText ({ frames := 9, cells := 2, slots := 260, locals := 171 } : Room) G kT a0 o9 [.ref (a0), .int (nI (w)), .int (row), .int (f), .int (n), .ref (o9)] T D 1 (T) (D) (oL kT False 0) (oL kT (1 = 0) (((nI 0) : Int32).toInt64)) := by
  refine wstart (cc := cL_writeText) (maxL := 7) (hh := [(0, 14, 17, 13), (0, 14, 21, 50)]) (by decide) rfl (Nat.le_of_ble_eq_true rfl) (fun ad L K R I A Q N e0 HB h09 ho hP0 p e s m args below meth c Z hE9 X hT hE hW hO ls hl => ?_)
  subst h09
  obtain ⟨f0, rfl, -⟩ := hP0
  have X : CallFix p m c cL_writeText 7 s args wsL_writeText RL := X
  have hl : lv_has ls 7 [(0, .ref (ad 0 0)), (1, .int (nI (w))), (2, .int (row)), (3, .int (f)), (4, .int (n)), (5, .ref (o9))] := hl
  refine lv_aload X.1 X.2.1 dL_writeText_0 (lv_at hl 5 rfl) ?_
  refine lv_iconst (v := nI 0) X.1 X.2.1 dL_writeText_2 (by decide) ?_
  refine lv_aload_n X.1 X.2.1 dL_writeText_3 rfl (lv_at hl 0 rfl) ?_
  refine lv_iload_n X.1 X.2.1 dL_writeText_4 rfl (lv_at hl 1 rfl) ?_
  refine lv_iload_n X.1 X.2.1 dL_writeText_5 rfl (lv_at hl 2 rfl) ?_
  refine lv_iload_n X.1 X.2.1 dL_writeText_6 rfl (lv_at hl 3 rfl) ?_
  refine lv_iload X.1 X.2.1 dL_writeText_7 (lv_at hl 4 rfl) ?_
  refine cCV hE X hW (HB.mem lv_0) (pC_6 (HB.kn lv_0 rfl)) rfl (cb_writeText_b l hst HB hw h) (cwV 4 X.2.2.2.2 gL_writeText_X6_writeText rfl rfl rfl (by decide +kernel) ⟨Nat.le_of_ble_eq_true rfl, Nat.le_of_ble_eq_true rfl⟩) rfl rfl hl.1 (Nat.le_of_ble_eq_true rfl) dL_writeText_9 ⟨Nat.le_of_ble_eq_true rfl, Nat.le_of_ble_eq_true rfl⟩ (fun H locs q8 ce hW hsz hk hce hcv hcl => ?_)
  have hO := oK hO ho hk
  refine vx_catch X.2.2.2.1 [] ⟨0, 14, 17, 13⟩ [⟨0, 14, 21, 50⟩] hT (fun z hz => absurd hz List.not_mem_nil) (by decide) (by decide) (X.2.2.2.2 (.classLink RL 13 "java/lang/IndexOutOfBoundsException") (List.mem_cons_of_mem _ (List.mem_append_left _ (List.mem_append_left _ (List.mem_append_left _ (List.mem_append_left _ (List.mem_append_left _ (List.mem_append_left _ (List.mem_append_left _ (List.mem_of_getElem? (i := 0) rfl)))))))))) (va_Nw.use rfl (hE.2.2.1 (.castable "java/lang/IndexOutOfBoundsException" "java/lang/IndexOutOfBoundsException") (by decide +kernel))) hce hcv hcl ?_
  refine lv_astore (lv' := [(6, .ref (q8)), (0, .ref (ad 0 0)), (1, .int (nI (w))), (2, .int (row)), (3, .int (f)), (4, .int (n)), (5, .ref (o9))]) X.1 X.2.1 dL_writeText_17 hl (by decide) rfl (fun ls hl => ?_)
  refine lv_iconst (v := nI 1) X.1 X.2.1 dL_writeText_19 (by decide) ?_
  exact hE9 _ _ _ _ _ _ _ ad L K R I A Q N _ rfl (show _ ≤ 2 by decide) (show _ ≤ 260 by decide) hW ho hO ⟨f0, rfl, fun z => absurd z (by decide)⟩ HB rfl dL_writeText_20

set_option maxHeartbeats 4000000 in
set_option maxRecDepth 100000 in
theorem ww_writeText_1c (l : Launch) (hst : l.stackTraces = false) {G : va_G} {kT : Nat → ClassId} {a0 o9 : Nat} {T : mT} {D : mD} (I : mI T) {w r : Nat} {f n : Int32} (hw : w < 3) (hr : r < 4) (h : oP (T 1 (T 2 r)) f n) : wM l yL_writeText wsL_writeText ({ frames := 9, cells := 2, slots := 260, locals := 171 } : Room) G kT a0 o9 [.ref (a0), .int (nI (w)), .int (nI (r)), .int (f), .int (n), .ref (o9)] T D 1 (T) (D) (oL kT False 0) (oL kT (1 = 0) (((nI 0) : Int32).toInt64)) := by
  refine wstart (cc := cL_writeText) (maxL := 7) (hh := [(0, 14, 17, 13), (0, 14, 21, 50)]) (by decide) rfl (Nat.le_of_ble_eq_true rfl) (fun ad L K R I A Q N e0 HB h09 ho hP0 p e s m args below meth c Z hE9 X hT hE hW hO ls hl => ?_)
  subst h09
  obtain ⟨f0, rfl, -⟩ := hP0
  have X : CallFix p m c cL_writeText 7 s args wsL_writeText RL := X
  have hl : lv_has ls 7 [(0, .ref (ad 0 0)), (1, .int (nI (w))), (2, .int (nI (r))), (3, .int (f)), (4, .int (n)), (5, .ref (o9))] := hl
  refine lv_aload X.1 X.2.1 dL_writeText_0 (lv_at hl 5 rfl) ?_
  refine lv_iconst (v := nI 0) X.1 X.2.1 dL_writeText_2 (by decide) ?_
  refine lv_aload_n X.1 X.2.1 dL_writeText_3 rfl (lv_at hl 0 rfl) ?_
  refine lv_iload_n X.1 X.2.1 dL_writeText_4 rfl (lv_at hl 1 rfl) ?_
  refine lv_iload_n X.1 X.2.1 dL_writeText_5 rfl (lv_at hl 2 rfl) ?_
  refine lv_iload_n X.1 X.2.1 dL_writeText_6 rfl (lv_at hl 3 rfl) ?_
  refine lv_iload X.1 X.2.1 dL_writeText_7 (lv_at hl 4 rfl) ?_
  refine cCV hE X hW (HB.mem lv_0) (pC_6 (HB.kn lv_0 rfl)) rfl (cb_writeText_c l hst HB hw hr h) (cwV 4 X.2.2.2.2 gL_writeText_X6_writeText rfl rfl rfl (by decide +kernel) ⟨Nat.le_of_ble_eq_true rfl, Nat.le_of_ble_eq_true rfl⟩) rfl rfl hl.1 (Nat.le_of_ble_eq_true rfl) dL_writeText_9 ⟨Nat.le_of_ble_eq_true rfl, Nat.le_of_ble_eq_true rfl⟩ (fun H locs q8 ce hW hsz hk hce hcv hcl => ?_)
  have hO := oK hO ho hk
  refine vx_catch X.2.2.2.1 [] ⟨0, 14, 17, 13⟩ [⟨0, 14, 21, 50⟩] hT (fun z hz => absurd hz List.not_mem_nil) (by decide) (by decide) (X.2.2.2.2 (.classLink RL 13 "java/lang/IndexOutOfBoundsException") (List.mem_cons_of_mem _ (List.mem_append_left _ (List.mem_append_left _ (List.mem_append_left _ (List.mem_append_left _ (List.mem_append_left _ (List.mem_append_left _ (List.mem_append_left _ (List.mem_of_getElem? (i := 0) rfl)))))))))) (va_Nw.use rfl (hE.2.2.1 (.castable "java/lang/IndexOutOfBoundsException" "java/lang/IndexOutOfBoundsException") (by decide +kernel))) hce hcv hcl ?_
  refine lv_astore (lv' := [(6, .ref (q8)), (0, .ref (ad 0 0)), (1, .int (nI (w))), (2, .int (nI (r))), (3, .int (f)), (4, .int (n)), (5, .ref (o9))]) X.1 X.2.1 dL_writeText_17 hl (by decide) rfl (fun ls hl => ?_)
  refine lv_iconst (v := nI 1) X.1 X.2.1 dL_writeText_19 (by decide) ?_
  exact hE9 _ _ _ _ _ _ _ ad L K R I A Q N _ rfl (show _ ≤ 2 by decide) (show _ ≤ 260 by decide) hW ho hO ⟨f0, rfl, fun z => absurd z (by decide)⟩ HB rfl dL_writeText_20

set_option maxHeartbeats 4000000 in
set_option maxRecDepth 100000 in
theorem ww_writeText_2 (l : Launch) (hst : l.stackTraces = false) {G : va_G} {kT : Nat → ClassId} {a0 o9 : Nat} {T : mT} {D : mD} (I : mI T) {w r f n : Nat} (hw : w < 3) (hr : r < 4) (h : f + n ≤ T 1 (T 2 r)) (h2 : 256 < T 7 (w) + n) : wM l yL_writeText wsL_writeText ({ frames := 9, cells := 2, slots := 260, locals := 171 } : Room) G kT a0 o9 [.ref (a0), .int (nI (w)), .int (nI (r)), .int (nI (f)), .int (nI (n)), .ref (o9)] T D 2 (T) (D) (oL kT False 0) (oL kT (2 = 0) (((nI 0) : Int32).toInt64)) := by
  refine wstart (cc := cL_writeText) (maxL := 7) (hh := [(0, 14, 17, 13), (0, 14, 21, 50)]) (by decide) rfl (Nat.le_of_ble_eq_true rfl) (fun ad L K R I A Q N e0 HB h09 ho hP0 p e s m args below meth c Z hE9 X hT hE hW hO ls hl => ?_)
  subst h09
  obtain ⟨f0, rfl, -⟩ := hP0
  have X : CallFix p m c cL_writeText 7 s args wsL_writeText RL := X
  have hl : lv_has ls 7 [(0, .ref (ad 0 0)), (1, .int (nI (w))), (2, .int (nI (r))), (3, .int (nI (f))), (4, .int (nI (n))), (5, .ref (o9))] := hl
  refine lv_aload X.1 X.2.1 dL_writeText_0 (lv_at hl 5 rfl) ?_
  refine lv_iconst (v := nI 0) X.1 X.2.1 dL_writeText_2 (by decide) ?_
  refine lv_aload_n X.1 X.2.1 dL_writeText_3 rfl (lv_at hl 0 rfl) ?_
  refine lv_iload_n X.1 X.2.1 dL_writeText_4 rfl (lv_at hl 1 rfl) ?_
  refine lv_iload_n X.1 X.2.1 dL_writeText_5 rfl (lv_at hl 2 rfl) ?_
  refine lv_iload_n X.1 X.2.1 dL_writeText_6 rfl (lv_at hl 3 rfl) ?_
  refine lv_iload X.1 X.2.1 dL_writeText_7 (lv_at hl 4 rfl) ?_
  refine cCV hE X hW (HB.mem lv_0) (pC_6 (HB.kn lv_0 rfl)) rfl (cb_writeText_d l hst HB hw hr h h2) (cwV 4 X.2.2.2.2 gL_writeText_X6_writeText rfl rfl rfl (by decide +kernel) ⟨Nat.le_of_ble_eq_true rfl, Nat.le_of_ble_eq_true rfl⟩) rfl rfl hl.1 (Nat.le_of_ble_eq_true rfl) dL_writeText_9 ⟨Nat.le_of_ble_eq_true rfl, Nat.le_of_ble_eq_true rfl⟩ (fun H locs q8 ce hW hsz hk hce hcv hcl => ?_)
  have hO := oK hO ho hk
  refine vx_catch X.2.2.2.1 [⟨0, 14, 17, 13⟩] ⟨0, 14, 21, 50⟩ [] hT (List.forall_mem_cons.mpr ⟨Or.inr ⟨by decide, "java/lang/IndexOutOfBoundsException", X.2.2.2.2 (.classLink RL 13 "java/lang/IndexOutOfBoundsException") (List.mem_cons_of_mem _ (List.mem_append_left _ (List.mem_append_left _ (List.mem_append_left _ (List.mem_append_left _ (List.mem_append_left _ (List.mem_append_left _ (List.mem_append_left _ (List.mem_of_getElem? (i := 0) rfl))))))))), hE.2.2.2.2 ("java/lang/IllegalStateException", "java/lang/IndexOutOfBoundsException") (by decide +kernel)⟩, (fun z hz => absurd hz List.not_mem_nil)⟩) (by decide) (by decide) (X.2.2.2.2 (.classLink RL 50 "java/lang/IllegalStateException") (List.mem_cons_of_mem _ (List.mem_append_left _ (List.mem_append_left _ (List.mem_append_left _ (List.mem_append_left _ (List.mem_append_left _ (List.mem_append_left _ (List.mem_append_left _ (List.mem_of_getElem? (i := 1) rfl)))))))))) (va_Nw.use rfl (hE.2.2.1 (.castable "java/lang/IllegalStateException" "java/lang/IllegalStateException") (by decide +kernel))) hce hcv hcl ?_
  refine lv_astore (lv' := [(6, .ref (q8)), (0, .ref (ad 0 0)), (1, .int (nI (w))), (2, .int (nI (r))), (3, .int (nI (f))), (4, .int (nI (n))), (5, .ref (o9))]) X.1 X.2.1 dL_writeText_21 hl (by decide) rfl (fun ls hl => ?_)
  refine lv_iconst (v := nI 2) X.1 X.2.1 dL_writeText_23 (by decide) ?_
  exact hE9 _ _ _ _ _ _ _ ad L K R I A Q N _ rfl (show _ ≤ 2 by decide) (show _ ≤ 260 by decide) hW ho hO ⟨f0, rfl, fun z => absurd z (by decide)⟩ HB rfl dL_writeText_24

theorem wo_writeText (l : Launch) (hst : l.stackTraces = false) {G : va_G} {kT : Nat → ClassId} {a0 o9 : Nat} {T : mT} {D : mD} (I : mI T) (J : mJD D) (w row f n : Int32) : wO l yL_writeText wsL_writeText ({ frames := 9, cells := 2, slots := 260, locals := 171 } : Room) G kT a0 o9 [.ref a0, .int w, .int row, .int f, .int n, .ref o9] T D (sp_part T D 0 w row f n) := by
  by_cases h1 : oN w 3
  · rw [show sp_part T D 0 w row f n = no T D 1 from if_pos (Or.inl h1)]; exact ww_writeText_1a l hst h1
  · obtain ⟨w, hw, rfl⟩ := oN_in (by decide) h1
    by_cases h2 : oN row 4
    · rw [show sp_part T D 0 (nI w) row f n = no T D 1 from if_pos (Or.inr (Or.inl h2))]; exact ww_writeText_1b l hst hw h2
    · obtain ⟨r, hr, rfl⟩ := oN_in (by decide) h2
      have hl : rI T (nI r) = T 1 (T 2 r) := by simp only [rI, nI_clamp (show r < 2 ^ 31 by omega)]
      by_cases h3 : oP (T 1 (T 2 r)) f n
      · rw [show sp_part T D 0 (nI w) (nI r) f n = no T D 1 from if_pos (Or.inr (Or.inr (by rw [hl]; exact h3)))]
        exact ww_writeText_1c l hst I hw hr h3
      · have I2 := I.sr hr
        have I3 := I.sl I2
        obtain ⟨f0, hf, rfl⟩ := nI_of (fun z => h3 (Or.inl z))
        obtain ⟨n0, hn, rfl⟩ := nI_of (fun z => h3 (Or.inr (Or.inl z)))
        have h4 : f0 + n0 ≤ T 1 (T 2 r) := Nat.not_lt.mp (fun z => h3 (Or.inr (Or.inr (by rw [nI_clamp hf, nI_clamp hn]; exact z))))
        have hc : (nI w).toNatClampNeg = w := nI_clamp (by omega)
        have hc2 : (nI r).toNatClampNeg = r := nI_clamp (by omega)
        have ea : 0 + w = w := by omega
        have hno : ¬ (oN (nI w) 3 ∨ oN (nI r) 4 ∨ oP (rI T (nI r)) (nI f0) (nI n0)) := by rw [hl]; exact fun z => z.elim h1 (fun z => z.elim h2 h3)
        by_cases h5 : 256 < T 7 (w) + n0
        · rw [show sp_part T D 0 (nI w) (nI r) (nI f0) (nI n0) = no T D 2 from (if_neg hno).trans (if_pos (by rw [hc, nI_clamp hn, ea]; exact h5))]
          exact ww_writeText_2 l hst I hw hr h4 h5
        · rw [show sp_part T D 0 (nI w) (nI r) (nI f0) (nI n0) = sk_part T D (w) r f0 n0 from (if_neg hno).trans ((if_neg (by rw [hc, nI_clamp hn, ea]; exact h5)).trans (by rw [hc, hc2, nI_clamp hf, nI_clamp hn, ea]))]
          exact ww_writeText l hst I hw hr h4 (Nat.not_lt.mp h5)


set_option maxHeartbeats 4000000 in
set_option maxRecDepth 100000 in
theorem ww_writeSigns (l : Launch) (hst : l.stackTraces = false) {G : va_G} {kT : Nat → ClassId} {a0 o9 : Nat} {T : mT} {D : mD} (I : mI T) {w r f n : Nat} (hw : w < 3) (hr : r < 4) (h : f + n ≤ T 1 (T 2 r)) (h2 : T 7 (w) + n ≤ 256) : wM l yL_writeSigns wsL_writeSigns ({ frames := 9, cells := 2, slots := 260, locals := 171 } : Room) G kT a0 o9 [.ref (a0), .int (nI (w)), .int (nI (r)), .int (nI (f)), .int (nI (n)), .ref (o9)] T D 0 (adT T (w) n) (adD T D (w) (fun i => D 0 (256 * T 2 r + f + i) &&& nI 255) n) (oL kT False 0) (oL kT (0 = 0) (((nI (T 7 (w) + n)) : Int32).toInt64)) := by
  refine wstart (cc := cL_writeSigns) (maxL := 7) (hh := [(0, 14, 17, 13), (0, 14, 21, 50)]) (by decide) rfl (Nat.le_of_ble_eq_true rfl) (fun ad L K R I A Q N e0 HB h09 ho hP0 p e s m args below meth c Z hE9 X hT hE hW hO ls hl => ?_)
  subst h09
  obtain ⟨f0, rfl, -⟩ := hP0
  have X : CallFix p m c cL_writeSigns 7 s args wsL_writeSigns RL := X
  have hl : lv_has ls 7 [(0, .ref (ad 0 0)), (1, .int (nI (w))), (2, .int (nI (r))), (3, .int (nI (f))), (4, .int (nI (n))), (5, .ref (o9))] := hl
  refine lv_aload X.1 X.2.1 dL_writeSigns_0 (lv_at hl 5 rfl) ?_
  refine lv_iconst (v := nI 0) X.1 X.2.1 dL_writeSigns_2 (by decide) ?_
  refine lv_aload_n X.1 X.2.1 dL_writeSigns_3 rfl (lv_at hl 0 rfl) ?_
  refine lv_iload_n X.1 X.2.1 dL_writeSigns_4 rfl (lv_at hl 1 rfl) ?_
  refine lv_iload_n X.1 X.2.1 dL_writeSigns_5 rfl (lv_at hl 2 rfl) ?_
  refine lv_iload_n X.1 X.2.1 dL_writeSigns_6 rfl (lv_at hl 3 rfl) ?_
  refine lv_iload X.1 X.2.1 dL_writeSigns_7 (lv_at hl 4 rfl) ?_
  refine cFi X hW (HB.mem lv_0) (pC_6 (HB.kn lv_0 rfl)) rfl (co_writeSigns l HB hw hr h h2) (cwV 4 X.2.2.2.2 gL_writeSigns_X6_writeSigns rfl rfl rfl (by decide +kernel) ⟨Nat.le_of_ble_eq_true rfl, Nat.le_of_ble_eq_true rfl⟩) rfl rfl hl.1 (Nat.le_of_ble_eq_true rfl) dL_writeSigns_9 ⟨Nat.le_of_ble_eq_true rfl, Nat.le_of_ble_eq_true rfl⟩ (fun H locs hW hsz hk => ?_)
  have hO := oK hO ho hk
  refine lv_i2l (v := (nI (T 7 w + n)).toInt64) X.1 X.2.1 dL_writeSigns_12 rfl ?_
  refine wst X hW hO ho dL_writeSigns_13 (fun H locs hW hO => ?_)
  refine lv_goto (tgt := 25) X.1 X.2.1 dL_writeSigns_14 (by decide) ?_
  refine lv_iconst (v := nI 0) X.1 X.2.1 dL_writeSigns_25 (by decide) ?_
  exact hE9 _ _ _ _ _ _ _ ad L K _ _ _ _ N _ rfl (show _ ≤ 2 by decide) (show _ ≤ 260 by decide) hW ho hO ⟨_, rfl, fun _ => if_pos rfl⟩ (HB.addW (a := w) (by omega) h2 (fun i hi => by rw [HB.sA (uS_row hr) (by omega), show 256 * T 2 r + f + i = 256 * T 2 r + (f + i) by omega]; exact (HB.md.1 _).symm) (fun _ _ => and_255 _)) rfl dL_writeSigns_26

set_option maxHeartbeats 4000000 in
set_option maxRecDepth 100000 in
theorem ww_writeSigns_1a (l : Launch) (hst : l.stackTraces = false) {G : va_G} {kT : Nat → ClassId} {a0 o9 : Nat} {T : mT} {D : mD} {w row f n : Int32} (h : oN w 3) : wM l yL_writeSigns wsL_writeSigns ({ frames := 9, cells := 2, slots := 260, locals := 171 } : Room) G kT a0 o9 [.ref (a0), .int (w), .int (row), .int (f), .int (n), .ref (o9)] T D 1 (T) (D) (oL kT False 0) (oL kT (1 = 0) (((nI 0) : Int32).toInt64)) := by
  refine wstart (cc := cL_writeSigns) (maxL := 7) (hh := [(0, 14, 17, 13), (0, 14, 21, 50)]) (by decide) rfl (Nat.le_of_ble_eq_true rfl) (fun ad L K R I A Q N e0 HB h09 ho hP0 p e s m args below meth c Z hE9 X hT hE hW hO ls hl => ?_)
  subst h09
  obtain ⟨f0, rfl, -⟩ := hP0
  have X : CallFix p m c cL_writeSigns 7 s args wsL_writeSigns RL := X
  have hl : lv_has ls 7 [(0, .ref (ad 0 0)), (1, .int (w)), (2, .int (row)), (3, .int (f)), (4, .int (n)), (5, .ref (o9))] := hl
  refine lv_aload X.1 X.2.1 dL_writeSigns_0 (lv_at hl 5 rfl) ?_
  refine lv_iconst (v := nI 0) X.1 X.2.1 dL_writeSigns_2 (by decide) ?_
  refine lv_aload_n X.1 X.2.1 dL_writeSigns_3 rfl (lv_at hl 0 rfl) ?_
  refine lv_iload_n X.1 X.2.1 dL_writeSigns_4 rfl (lv_at hl 1 rfl) ?_
  refine lv_iload_n X.1 X.2.1 dL_writeSigns_5 rfl (lv_at hl 2 rfl) ?_
  refine lv_iload_n X.1 X.2.1 dL_writeSigns_6 rfl (lv_at hl 3 rfl) ?_
  refine lv_iload X.1 X.2.1 dL_writeSigns_7 (lv_at hl 4 rfl) ?_
  refine cCV hE X hW (HB.mem lv_0) (pC_6 (HB.kn lv_0 rfl)) rfl (cb_writeSigns_a l hst HB h) (cwV 4 X.2.2.2.2 gL_writeSigns_X6_writeSigns rfl rfl rfl (by decide +kernel) ⟨Nat.le_of_ble_eq_true rfl, Nat.le_of_ble_eq_true rfl⟩) rfl rfl hl.1 (Nat.le_of_ble_eq_true rfl) dL_writeSigns_9 ⟨Nat.le_of_ble_eq_true rfl, Nat.le_of_ble_eq_true rfl⟩ (fun H locs q8 ce hW hsz hk hce hcv hcl => ?_)
  have hO := oK hO ho hk
  refine vx_catch X.2.2.2.1 [] ⟨0, 14, 17, 13⟩ [⟨0, 14, 21, 50⟩] hT (fun z hz => absurd hz List.not_mem_nil) (by decide) (by decide) (X.2.2.2.2 (.classLink RL 13 "java/lang/IndexOutOfBoundsException") (List.mem_cons_of_mem _ (List.mem_append_left _ (List.mem_append_left _ (List.mem_append_left _ (List.mem_append_left _ (List.mem_append_left _ (List.mem_append_left _ (List.mem_append_left _ (List.mem_of_getElem? (i := 0) rfl)))))))))) (va_Nw.use rfl (hE.2.2.1 (.castable "java/lang/IndexOutOfBoundsException" "java/lang/IndexOutOfBoundsException") (by decide +kernel))) hce hcv hcl ?_
  refine lv_astore (lv' := [(6, .ref (q8)), (0, .ref (ad 0 0)), (1, .int (w)), (2, .int (row)), (3, .int (f)), (4, .int (n)), (5, .ref (o9))]) X.1 X.2.1 dL_writeSigns_17 hl (by decide) rfl (fun ls hl => ?_)
  refine lv_iconst (v := nI 1) X.1 X.2.1 dL_writeSigns_19 (by decide) ?_
  exact hE9 _ _ _ _ _ _ _ ad L K R I A Q N _ rfl (show _ ≤ 2 by decide) (show _ ≤ 260 by decide) hW ho hO ⟨f0, rfl, fun z => absurd z (by decide)⟩ HB rfl dL_writeSigns_20

set_option maxHeartbeats 4000000 in
set_option maxRecDepth 100000 in
theorem ww_writeSigns_1b (l : Launch) (hst : l.stackTraces = false) {G : va_G} {kT : Nat → ClassId} {a0 o9 : Nat} {T : mT} {D : mD} {w : Nat} {row f n : Int32} (hw : w < 3) (h : oN row 4) : wM l yL_writeSigns wsL_writeSigns ({ frames := 9, cells := 2, slots := 260, locals := 171 } : Room) G kT a0 o9 [.ref (a0), .int (nI (w)), .int (row), .int (f), .int (n), .ref (o9)] T D 1 (T) (D) (oL kT False 0) (oL kT (1 = 0) (((nI 0) : Int32).toInt64)) := by
  refine wstart (cc := cL_writeSigns) (maxL := 7) (hh := [(0, 14, 17, 13), (0, 14, 21, 50)]) (by decide) rfl (Nat.le_of_ble_eq_true rfl) (fun ad L K R I A Q N e0 HB h09 ho hP0 p e s m args below meth c Z hE9 X hT hE hW hO ls hl => ?_)
  subst h09
  obtain ⟨f0, rfl, -⟩ := hP0
  have X : CallFix p m c cL_writeSigns 7 s args wsL_writeSigns RL := X
  have hl : lv_has ls 7 [(0, .ref (ad 0 0)), (1, .int (nI (w))), (2, .int (row)), (3, .int (f)), (4, .int (n)), (5, .ref (o9))] := hl
  refine lv_aload X.1 X.2.1 dL_writeSigns_0 (lv_at hl 5 rfl) ?_
  refine lv_iconst (v := nI 0) X.1 X.2.1 dL_writeSigns_2 (by decide) ?_
  refine lv_aload_n X.1 X.2.1 dL_writeSigns_3 rfl (lv_at hl 0 rfl) ?_
  refine lv_iload_n X.1 X.2.1 dL_writeSigns_4 rfl (lv_at hl 1 rfl) ?_
  refine lv_iload_n X.1 X.2.1 dL_writeSigns_5 rfl (lv_at hl 2 rfl) ?_
  refine lv_iload_n X.1 X.2.1 dL_writeSigns_6 rfl (lv_at hl 3 rfl) ?_
  refine lv_iload X.1 X.2.1 dL_writeSigns_7 (lv_at hl 4 rfl) ?_
  refine cCV hE X hW (HB.mem lv_0) (pC_6 (HB.kn lv_0 rfl)) rfl (cb_writeSigns_b l hst HB hw h) (cwV 4 X.2.2.2.2 gL_writeSigns_X6_writeSigns rfl rfl rfl (by decide +kernel) ⟨Nat.le_of_ble_eq_true rfl, Nat.le_of_ble_eq_true rfl⟩) rfl rfl hl.1 (Nat.le_of_ble_eq_true rfl) dL_writeSigns_9 ⟨Nat.le_of_ble_eq_true rfl, Nat.le_of_ble_eq_true rfl⟩ (fun H locs q8 ce hW hsz hk hce hcv hcl => ?_)
  have hO := oK hO ho hk
  refine vx_catch X.2.2.2.1 [] ⟨0, 14, 17, 13⟩ [⟨0, 14, 21, 50⟩] hT (fun z hz => absurd hz List.not_mem_nil) (by decide) (by decide) (X.2.2.2.2 (.classLink RL 13 "java/lang/IndexOutOfBoundsException") (List.mem_cons_of_mem _ (List.mem_append_left _ (List.mem_append_left _ (List.mem_append_left _ (List.mem_append_left _ (List.mem_append_left _ (List.mem_append_left _ (List.mem_append_left _ (List.mem_of_getElem? (i := 0) rfl)))))))))) (va_Nw.use rfl (hE.2.2.1 (.castable "java/lang/IndexOutOfBoundsException" "java/lang/IndexOutOfBoundsException") (by decide +kernel))) hce hcv hcl ?_
  refine lv_astore (lv' := [(6, .ref (q8)), (0, .ref (ad 0 0)), (1, .int (nI (w))), (2, .int (row)), (3, .int (f)), (4, .int (n)), (5, .ref (o9))]) X.1 X.2.1 dL_writeSigns_17 hl (by decide) rfl (fun ls hl => ?_)
  refine lv_iconst (v := nI 1) X.1 X.2.1 dL_writeSigns_19 (by decide) ?_
  exact hE9 _ _ _ _ _ _ _ ad L K R I A Q N _ rfl (show _ ≤ 2 by decide) (show _ ≤ 260 by decide) hW ho hO ⟨f0, rfl, fun z => absurd z (by decide)⟩ HB rfl dL_writeSigns_20

set_option maxHeartbeats 4000000 in
set_option maxRecDepth 100000 in
theorem ww_writeSigns_1c (l : Launch) (hst : l.stackTraces = false) {G : va_G} {kT : Nat → ClassId} {a0 o9 : Nat} {T : mT} {D : mD} (I : mI T) {w r : Nat} {f n : Int32} (hw : w < 3) (hr : r < 4) (h : oP (T 1 (T 2 r)) f n) : wM l yL_writeSigns wsL_writeSigns ({ frames := 9, cells := 2, slots := 260, locals := 171 } : Room) G kT a0 o9 [.ref (a0), .int (nI (w)), .int (nI (r)), .int (f), .int (n), .ref (o9)] T D 1 (T) (D) (oL kT False 0) (oL kT (1 = 0) (((nI 0) : Int32).toInt64)) := by
  refine wstart (cc := cL_writeSigns) (maxL := 7) (hh := [(0, 14, 17, 13), (0, 14, 21, 50)]) (by decide) rfl (Nat.le_of_ble_eq_true rfl) (fun ad L K R I A Q N e0 HB h09 ho hP0 p e s m args below meth c Z hE9 X hT hE hW hO ls hl => ?_)
  subst h09
  obtain ⟨f0, rfl, -⟩ := hP0
  have X : CallFix p m c cL_writeSigns 7 s args wsL_writeSigns RL := X
  have hl : lv_has ls 7 [(0, .ref (ad 0 0)), (1, .int (nI (w))), (2, .int (nI (r))), (3, .int (f)), (4, .int (n)), (5, .ref (o9))] := hl
  refine lv_aload X.1 X.2.1 dL_writeSigns_0 (lv_at hl 5 rfl) ?_
  refine lv_iconst (v := nI 0) X.1 X.2.1 dL_writeSigns_2 (by decide) ?_
  refine lv_aload_n X.1 X.2.1 dL_writeSigns_3 rfl (lv_at hl 0 rfl) ?_
  refine lv_iload_n X.1 X.2.1 dL_writeSigns_4 rfl (lv_at hl 1 rfl) ?_
  refine lv_iload_n X.1 X.2.1 dL_writeSigns_5 rfl (lv_at hl 2 rfl) ?_
  refine lv_iload_n X.1 X.2.1 dL_writeSigns_6 rfl (lv_at hl 3 rfl) ?_
  refine lv_iload X.1 X.2.1 dL_writeSigns_7 (lv_at hl 4 rfl) ?_
  refine cCV hE X hW (HB.mem lv_0) (pC_6 (HB.kn lv_0 rfl)) rfl (cb_writeSigns_c l hst HB hw hr h) (cwV 4 X.2.2.2.2 gL_writeSigns_X6_writeSigns rfl rfl rfl (by decide +kernel) ⟨Nat.le_of_ble_eq_true rfl, Nat.le_of_ble_eq_true rfl⟩) rfl rfl hl.1 (Nat.le_of_ble_eq_true rfl) dL_writeSigns_9 ⟨Nat.le_of_ble_eq_true rfl, Nat.le_of_ble_eq_true rfl⟩ (fun H locs q8 ce hW hsz hk hce hcv hcl => ?_)
  have hO := oK hO ho hk
  refine vx_catch X.2.2.2.1 [] ⟨0, 14, 17, 13⟩ [⟨0, 14, 21, 50⟩] hT (fun z hz => absurd hz List.not_mem_nil) (by decide) (by decide) (X.2.2.2.2 (.classLink RL 13 "java/lang/IndexOutOfBoundsException") (List.mem_cons_of_mem _ (List.mem_append_left _ (List.mem_append_left _ (List.mem_append_left _ (List.mem_append_left _ (List.mem_append_left _ (List.mem_append_left _ (List.mem_append_left _ (List.mem_of_getElem? (i := 0) rfl)))))))))) (va_Nw.use rfl (hE.2.2.1 (.castable "java/lang/IndexOutOfBoundsException" "java/lang/IndexOutOfBoundsException") (by decide +kernel))) hce hcv hcl ?_
  refine lv_astore (lv' := [(6, .ref (q8)), (0, .ref (ad 0 0)), (1, .int (nI (w))), (2, .int (nI (r))), (3, .int (f)), (4, .int (n)), (5, .ref (o9))]) X.1 X.2.1 dL_writeSigns_17 hl (by decide) rfl (fun ls hl => ?_)
  refine lv_iconst (v := nI 1) X.1 X.2.1 dL_writeSigns_19 (by decide) ?_
  exact hE9 _ _ _ _ _ _ _ ad L K R I A Q N _ rfl (show _ ≤ 2 by decide) (show _ ≤ 260 by decide) hW ho hO ⟨f0, rfl, fun z => absurd z (by decide)⟩ HB rfl dL_writeSigns_20

set_option maxHeartbeats 4000000 in
set_option maxRecDepth 100000 in
theorem ww_writeSigns_2 (l : Launch) (hst : l.stackTraces = false) {G : va_G} {kT : Nat → ClassId} {a0 o9 : Nat} {T : mT} {D : mD} (I : mI T) {w r f n : Nat} (hw : w < 3) (hr : r < 4) (h : f + n ≤ T 1 (T 2 r)) (h2 : 256 < T 7 (w) + n) : wM l yL_writeSigns wsL_writeSigns ({ frames := 9, cells := 2, slots := 260, locals := 171 } : Room) G kT a0 o9 [.ref (a0), .int (nI (w)), .int (nI (r)), .int (nI (f)), .int (nI (n)), .ref (o9)] T D 2 (T) (D) (oL kT False 0) (oL kT (2 = 0) (((nI 0) : Int32).toInt64)) := by
  refine wstart (cc := cL_writeSigns) (maxL := 7) (hh := [(0, 14, 17, 13), (0, 14, 21, 50)]) (by decide) rfl (Nat.le_of_ble_eq_true rfl) (fun ad L K R I A Q N e0 HB h09 ho hP0 p e s m args below meth c Z hE9 X hT hE hW hO ls hl => ?_)
  subst h09
  obtain ⟨f0, rfl, -⟩ := hP0
  have X : CallFix p m c cL_writeSigns 7 s args wsL_writeSigns RL := X
  have hl : lv_has ls 7 [(0, .ref (ad 0 0)), (1, .int (nI (w))), (2, .int (nI (r))), (3, .int (nI (f))), (4, .int (nI (n))), (5, .ref (o9))] := hl
  refine lv_aload X.1 X.2.1 dL_writeSigns_0 (lv_at hl 5 rfl) ?_
  refine lv_iconst (v := nI 0) X.1 X.2.1 dL_writeSigns_2 (by decide) ?_
  refine lv_aload_n X.1 X.2.1 dL_writeSigns_3 rfl (lv_at hl 0 rfl) ?_
  refine lv_iload_n X.1 X.2.1 dL_writeSigns_4 rfl (lv_at hl 1 rfl) ?_
  refine lv_iload_n X.1 X.2.1 dL_writeSigns_5 rfl (lv_at hl 2 rfl) ?_
  refine lv_iload_n X.1 X.2.1 dL_writeSigns_6 rfl (lv_at hl 3 rfl) ?_
  refine lv_iload X.1 X.2.1 dL_writeSigns_7 (lv_at hl 4 rfl) ?_
  refine cCV hE X hW (HB.mem lv_0) (pC_6 (HB.kn lv_0 rfl)) rfl (cb_writeSigns_d l hst HB hw hr h h2) (cwV 4 X.2.2.2.2 gL_writeSigns_X6_writeSigns rfl rfl rfl (by decide +kernel) ⟨Nat.le_of_ble_eq_true rfl, Nat.le_of_ble_eq_true rfl⟩) rfl rfl hl.1 (Nat.le_of_ble_eq_true rfl) dL_writeSigns_9 ⟨Nat.le_of_ble_eq_true rfl, Nat.le_of_ble_eq_true rfl⟩ (fun H locs q8 ce hW hsz hk hce hcv hcl => ?_)
  have hO := oK hO ho hk
  refine vx_catch X.2.2.2.1 [⟨0, 14, 17, 13⟩] ⟨0, 14, 21, 50⟩ [] hT (List.forall_mem_cons.mpr ⟨Or.inr ⟨by decide, "java/lang/IndexOutOfBoundsException", X.2.2.2.2 (.classLink RL 13 "java/lang/IndexOutOfBoundsException") (List.mem_cons_of_mem _ (List.mem_append_left _ (List.mem_append_left _ (List.mem_append_left _ (List.mem_append_left _ (List.mem_append_left _ (List.mem_append_left _ (List.mem_append_left _ (List.mem_of_getElem? (i := 0) rfl))))))))), hE.2.2.2.2 ("java/lang/IllegalStateException", "java/lang/IndexOutOfBoundsException") (by decide +kernel)⟩, (fun z hz => absurd hz List.not_mem_nil)⟩) (by decide) (by decide) (X.2.2.2.2 (.classLink RL 50 "java/lang/IllegalStateException") (List.mem_cons_of_mem _ (List.mem_append_left _ (List.mem_append_left _ (List.mem_append_left _ (List.mem_append_left _ (List.mem_append_left _ (List.mem_append_left _ (List.mem_append_left _ (List.mem_of_getElem? (i := 1) rfl)))))))))) (va_Nw.use rfl (hE.2.2.1 (.castable "java/lang/IllegalStateException" "java/lang/IllegalStateException") (by decide +kernel))) hce hcv hcl ?_
  refine lv_astore (lv' := [(6, .ref (q8)), (0, .ref (ad 0 0)), (1, .int (nI (w))), (2, .int (nI (r))), (3, .int (nI (f))), (4, .int (nI (n))), (5, .ref (o9))]) X.1 X.2.1 dL_writeSigns_21 hl (by decide) rfl (fun ls hl => ?_)
  refine lv_iconst (v := nI 2) X.1 X.2.1 dL_writeSigns_23 (by decide) ?_
  exact hE9 _ _ _ _ _ _ _ ad L K R I A Q N _ rfl (show _ ≤ 2 by decide) (show _ ≤ 260 by decide) hW ho hO ⟨f0, rfl, fun z => absurd z (by decide)⟩ HB rfl dL_writeSigns_24

theorem wo_writeSigns (l : Launch) (hst : l.stackTraces = false) {G : va_G} {kT : Nat → ClassId} {a0 o9 : Nat} {T : mT} {D : mD} (I : mI T) (J : mJD D) (w row f n : Int32) : wO l yL_writeSigns wsL_writeSigns ({ frames := 9, cells := 2, slots := 260, locals := 171 } : Room) G kT a0 o9 [.ref a0, .int w, .int row, .int f, .int n, .ref o9] T D (sp_part T D 0 w row f n) := by
  by_cases h1 : oN w 3
  · rw [show sp_part T D 0 w row f n = no T D 1 from if_pos (Or.inl h1)]; exact ww_writeSigns_1a l hst h1
  · obtain ⟨w, hw, rfl⟩ := oN_in (by decide) h1
    by_cases h2 : oN row 4
    · rw [show sp_part T D 0 (nI w) row f n = no T D 1 from if_pos (Or.inr (Or.inl h2))]; exact ww_writeSigns_1b l hst hw h2
    · obtain ⟨r, hr, rfl⟩ := oN_in (by decide) h2
      have hl : rI T (nI r) = T 1 (T 2 r) := by simp only [rI, nI_clamp (show r < 2 ^ 31 by omega)]
      by_cases h3 : oP (T 1 (T 2 r)) f n
      · rw [show sp_part T D 0 (nI w) (nI r) f n = no T D 1 from if_pos (Or.inr (Or.inr (by rw [hl]; exact h3)))]
        exact ww_writeSigns_1c l hst I hw hr h3
      · have I2 := I.sr hr
        have I3 := I.sl I2
        obtain ⟨f0, hf, rfl⟩ := nI_of (fun z => h3 (Or.inl z))
        obtain ⟨n0, hn, rfl⟩ := nI_of (fun z => h3 (Or.inr (Or.inl z)))
        have h4 : f0 + n0 ≤ T 1 (T 2 r) := Nat.not_lt.mp (fun z => h3 (Or.inr (Or.inr (by rw [nI_clamp hf, nI_clamp hn]; exact z))))
        have hc : (nI w).toNatClampNeg = w := nI_clamp (by omega)
        have hc2 : (nI r).toNatClampNeg = r := nI_clamp (by omega)
        have ea : 0 + w = w := by omega
        have hno : ¬ (oN (nI w) 3 ∨ oN (nI r) 4 ∨ oP (rI T (nI r)) (nI f0) (nI n0)) := by rw [hl]; exact fun z => z.elim h1 (fun z => z.elim h2 h3)
        by_cases h5 : 256 < T 7 (w) + n0
        · rw [show sp_part T D 0 (nI w) (nI r) (nI f0) (nI n0) = no T D 2 from (if_neg hno).trans (if_pos (by rw [hc, nI_clamp hn, ea]; exact h5))]
          exact ww_writeSigns_2 l hst I hw hr h4 h5
        · rw [show sp_part T D 0 (nI w) (nI r) (nI f0) (nI n0) = sk_part T D (w) r f0 n0 from (if_neg hno).trans ((if_neg (by rw [hc, nI_clamp hn, ea]; exact h5)).trans (by rw [hc, hc2, nI_clamp hf, nI_clamp hn, ea]))]
          exact ww_writeSigns l hst I hw hr h4 (Nat.not_lt.mp h5)


set_option maxHeartbeats 4000000 in
set_option maxRecDepth 100000 in
theorem ww_arrayText_1a (l : Launch) (hst : l.stackTraces = false) {G : va_G} {kT : Nat → ClassId} {a0 o9 : Nat} {T : mT} {D : mD} {w row f n : Int32} (h : oN w 3) : wM l yL_arrayText wsL_arrayText ({ frames := 9, cells := 2, slots := 260, locals := 171 } : Room) G kT a0 o9 [.ref (a0), .int (w), .int (row), .int (f), .int (n), .ref (o9)] T D 1 (T) (D) (oL kT False 0) (oL kT (1 = 0) (((nI 0) : Int32).toInt64)) := by
  refine wstart (cc := cL_arrayText) (maxL := 7) (hh := [(0, 14, 17, 13), (0, 14, 21, 50)]) (by decide) rfl (Nat.le_of_ble_eq_true rfl) (fun ad L K R I A Q N e0 HB h09 ho hP0 p e s m args below meth c Z hE9 X hT hE hW hO ls hl => ?_)
  subst h09
  obtain ⟨f0, rfl, -⟩ := hP0
  have X : CallFix p m c cL_arrayText 7 s args wsL_arrayText RL := X
  have hl : lv_has ls 7 [(0, .ref (ad 0 0)), (1, .int (w)), (2, .int (row)), (3, .int (f)), (4, .int (n)), (5, .ref (o9))] := hl
  refine lv_aload X.1 X.2.1 dL_arrayText_0 (lv_at hl 5 rfl) ?_
  refine lv_iconst (v := nI 0) X.1 X.2.1 dL_arrayText_2 (by decide) ?_
  refine lv_aload_n X.1 X.2.1 dL_arrayText_3 rfl (lv_at hl 0 rfl) ?_
  refine lv_iload_n X.1 X.2.1 dL_arrayText_4 rfl (lv_at hl 1 rfl) ?_
  refine lv_iload_n X.1 X.2.1 dL_arrayText_5 rfl (lv_at hl 2 rfl) ?_
  refine lv_iload_n X.1 X.2.1 dL_arrayText_6 rfl (lv_at hl 3 rfl) ?_
  refine lv_iload X.1 X.2.1 dL_arrayText_7 (lv_at hl 4 rfl) ?_
  refine cCV hE X hW (HB.mem lv_0) (pC_6 (HB.kn lv_0 rfl)) rfl (cb_arrayText_a l hst HB h) (cwV 4 X.2.2.2.2 gL_arrayText_X6_arrayText rfl rfl rfl (by decide +kernel) ⟨Nat.le_of_ble_eq_true rfl, Nat.le_of_ble_eq_true rfl⟩) rfl rfl hl.1 (Nat.le_of_ble_eq_true rfl) dL_arrayText_9 ⟨Nat.le_of_ble_eq_true rfl, Nat.le_of_ble_eq_true rfl⟩ (fun H locs q8 ce hW hsz hk hce hcv hcl => ?_)
  have hO := oK hO ho hk
  refine vx_catch X.2.2.2.1 [] ⟨0, 14, 17, 13⟩ [⟨0, 14, 21, 50⟩] hT (fun z hz => absurd hz List.not_mem_nil) (by decide) (by decide) (X.2.2.2.2 (.classLink RL 13 "java/lang/IndexOutOfBoundsException") (List.mem_cons_of_mem _ (List.mem_append_left _ (List.mem_append_left _ (List.mem_append_left _ (List.mem_append_left _ (List.mem_append_left _ (List.mem_append_left _ (List.mem_append_left _ (List.mem_of_getElem? (i := 0) rfl)))))))))) (va_Nw.use rfl (hE.2.2.1 (.castable "java/lang/IndexOutOfBoundsException" "java/lang/IndexOutOfBoundsException") (by decide +kernel))) hce hcv hcl ?_
  refine lv_astore (lv' := [(6, .ref (q8)), (0, .ref (ad 0 0)), (1, .int (w)), (2, .int (row)), (3, .int (f)), (4, .int (n)), (5, .ref (o9))]) X.1 X.2.1 dL_arrayText_17 hl (by decide) rfl (fun ls hl => ?_)
  refine lv_iconst (v := nI 1) X.1 X.2.1 dL_arrayText_19 (by decide) ?_
  exact hE9 _ _ _ _ _ _ _ ad L K R I A Q N _ rfl (show _ ≤ 2 by decide) (show _ ≤ 260 by decide) hW ho hO ⟨f0, rfl, fun z => absurd z (by decide)⟩ HB rfl dL_arrayText_20

set_option maxHeartbeats 4000000 in
set_option maxRecDepth 100000 in
theorem ww_arrayText (l : Launch) (hst : l.stackTraces = false) {G : va_G} {kT : Nat → ClassId} {a0 o9 : Nat} {T : mT} {D : mD} (I : mI T) {w r f n : Nat} (hw : w < 3) (hr : r < 4) (h : f + n ≤ T 1 (T 2 r)) (h2 : T 7 (3 + w) + n ≤ 256) : wM l yL_arrayText wsL_arrayText ({ frames := 9, cells := 2, slots := 260, locals := 171 } : Room) G kT a0 o9 [.ref (a0), .int (nI (w)), .int (nI (r)), .int (nI (f)), .int (nI (n)), .ref (o9)] T D 0 (adT T (3 + w) n) (adD T D (3 + w) (fun i => D 0 (256 * T 2 r + f + i) &&& nI 255) n) (oL kT False 0) (oL kT (0 = 0) (((nI (T 7 (3 + w) + n)) : Int32).toInt64)) := by
  refine wstart (cc := cL_arrayText) (maxL := 7) (hh := [(0, 14, 17, 13), (0, 14, 21, 50)]) (by decide) rfl (Nat.le_of_ble_eq_true rfl) (fun ad L K R I A Q N e0 HB h09 ho hP0 p e s m args below meth c Z hE9 X hT hE hW hO ls hl => ?_)
  subst h09
  obtain ⟨f0, rfl, -⟩ := hP0
  have X : CallFix p m c cL_arrayText 7 s args wsL_arrayText RL := X
  have hl : lv_has ls 7 [(0, .ref (ad 0 0)), (1, .int (nI (w))), (2, .int (nI (r))), (3, .int (nI (f))), (4, .int (nI (n))), (5, .ref (o9))] := hl
  refine lv_aload X.1 X.2.1 dL_arrayText_0 (lv_at hl 5 rfl) ?_
  refine lv_iconst (v := nI 0) X.1 X.2.1 dL_arrayText_2 (by decide) ?_
  refine lv_aload_n X.1 X.2.1 dL_arrayText_3 rfl (lv_at hl 0 rfl) ?_
  refine lv_iload_n X.1 X.2.1 dL_arrayText_4 rfl (lv_at hl 1 rfl) ?_
  refine lv_iload_n X.1 X.2.1 dL_arrayText_5 rfl (lv_at hl 2 rfl) ?_
  refine lv_iload_n X.1 X.2.1 dL_arrayText_6 rfl (lv_at hl 3 rfl) ?_
  refine lv_iload X.1 X.2.1 dL_arrayText_7 (lv_at hl 4 rfl) ?_
  refine cFi X hW (HB.mem lv_0) (pC_6 (HB.kn lv_0 rfl)) rfl (co_arrayText l HB hw hr h h2) (cwV 4 X.2.2.2.2 gL_arrayText_X6_arrayText rfl rfl rfl (by decide +kernel) ⟨Nat.le_of_ble_eq_true rfl, Nat.le_of_ble_eq_true rfl⟩) rfl rfl hl.1 (Nat.le_of_ble_eq_true rfl) dL_arrayText_9 ⟨Nat.le_of_ble_eq_true rfl, Nat.le_of_ble_eq_true rfl⟩ (fun H locs hW hsz hk => ?_)
  have hO := oK hO ho hk
  refine lv_i2l (v := (nI (T 7 (3 + w) + n)).toInt64) X.1 X.2.1 dL_arrayText_12 rfl ?_
  refine wst X hW hO ho dL_arrayText_13 (fun H locs hW hO => ?_)
  refine lv_goto (tgt := 25) X.1 X.2.1 dL_arrayText_14 (by decide) ?_
  refine lv_iconst (v := nI 0) X.1 X.2.1 dL_arrayText_25 (by decide) ?_
  exact hE9 _ _ _ _ _ _ _ ad L K _ _ _ _ N _ rfl (show _ ≤ 2 by decide) (show _ ≤ 260 by decide) hW ho hO ⟨_, rfl, fun _ => if_pos rfl⟩ (HB.addW (a := (3 + w)) (by omega) h2 (fun i hi => by rw [HB.sA (uS_row hr) (by omega), show 256 * T 2 r + f + i = 256 * T 2 r + (f + i) by omega]; exact (HB.md.1 _).symm) (fun _ _ => and_255 _)) rfl dL_arrayText_26

set_option maxHeartbeats 4000000 in
set_option maxRecDepth 100000 in
theorem ww_arrayText_1b (l : Launch) (hst : l.stackTraces = false) {G : va_G} {kT : Nat → ClassId} {a0 o9 : Nat} {T : mT} {D : mD} {w : Nat} {row f n : Int32} (hw : w < 3) (h : oN row 4) : wM l yL_arrayText wsL_arrayText ({ frames := 9, cells := 2, slots := 260, locals := 171 } : Room) G kT a0 o9 [.ref (a0), .int (nI (w)), .int (row), .int (f), .int (n), .ref (o9)] T D 1 (T) (D) (oL kT False 0) (oL kT (1 = 0) (((nI 0) : Int32).toInt64)) := by
  refine wstart (cc := cL_arrayText) (maxL := 7) (hh := [(0, 14, 17, 13), (0, 14, 21, 50)]) (by decide) rfl (Nat.le_of_ble_eq_true rfl) (fun ad L K R I A Q N e0 HB h09 ho hP0 p e s m args below meth c Z hE9 X hT hE hW hO ls hl => ?_)
  subst h09
  obtain ⟨f0, rfl, -⟩ := hP0
  have X : CallFix p m c cL_arrayText 7 s args wsL_arrayText RL := X
  have hl : lv_has ls 7 [(0, .ref (ad 0 0)), (1, .int (nI (w))), (2, .int (row)), (3, .int (f)), (4, .int (n)), (5, .ref (o9))] := hl
  refine lv_aload X.1 X.2.1 dL_arrayText_0 (lv_at hl 5 rfl) ?_
  refine lv_iconst (v := nI 0) X.1 X.2.1 dL_arrayText_2 (by decide) ?_
  refine lv_aload_n X.1 X.2.1 dL_arrayText_3 rfl (lv_at hl 0 rfl) ?_
  refine lv_iload_n X.1 X.2.1 dL_arrayText_4 rfl (lv_at hl 1 rfl) ?_
  refine lv_iload_n X.1 X.2.1 dL_arrayText_5 rfl (lv_at hl 2 rfl) ?_
  refine lv_iload_n X.1 X.2.1 dL_arrayText_6 rfl (lv_at hl 3 rfl) ?_
  refine lv_iload X.1 X.2.1 dL_arrayText_7 (lv_at hl 4 rfl) ?_
  refine cCV hE X hW (HB.mem lv_0) (pC_6 (HB.kn lv_0 rfl)) rfl (cb_arrayText_b l hst HB hw h) (cwV 4 X.2.2.2.2 gL_arrayText_X6_arrayText rfl rfl rfl (by decide +kernel) ⟨Nat.le_of_ble_eq_true rfl, Nat.le_of_ble_eq_true rfl⟩) rfl rfl hl.1 (Nat.le_of_ble_eq_true rfl) dL_arrayText_9 ⟨Nat.le_of_ble_eq_true rfl, Nat.le_of_ble_eq_true rfl⟩ (fun H locs q8 ce hW hsz hk hce hcv hcl => ?_)
  have hO := oK hO ho hk
  refine vx_catch X.2.2.2.1 [] ⟨0, 14, 17, 13⟩ [⟨0, 14, 21, 50⟩] hT (fun z hz => absurd hz List.not_mem_nil) (by decide) (by decide) (X.2.2.2.2 (.classLink RL 13 "java/lang/IndexOutOfBoundsException") (List.mem_cons_of_mem _ (List.mem_append_left _ (List.mem_append_left _ (List.mem_append_left _ (List.mem_append_left _ (List.mem_append_left _ (List.mem_append_left _ (List.mem_append_left _ (List.mem_of_getElem? (i := 0) rfl)))))))))) (va_Nw.use rfl (hE.2.2.1 (.castable "java/lang/IndexOutOfBoundsException" "java/lang/IndexOutOfBoundsException") (by decide +kernel))) hce hcv hcl ?_
  refine lv_astore (lv' := [(6, .ref (q8)), (0, .ref (ad 0 0)), (1, .int (nI (w))), (2, .int (row)), (3, .int (f)), (4, .int (n)), (5, .ref (o9))]) X.1 X.2.1 dL_arrayText_17 hl (by decide) rfl (fun ls hl => ?_)
  refine lv_iconst (v := nI 1) X.1 X.2.1 dL_arrayText_19 (by decide) ?_
  exact hE9 _ _ _ _ _ _ _ ad L K R I A Q N _ rfl (show _ ≤ 2 by decide) (show _ ≤ 260 by decide) hW ho hO ⟨f0, rfl, fun z => absurd z (by decide)⟩ HB rfl dL_arrayText_20

set_option maxHeartbeats 4000000 in
set_option maxRecDepth 100000 in
theorem ww_arrayText_1c (l : Launch) (hst : l.stackTraces = false) {G : va_G} {kT : Nat → ClassId} {a0 o9 : Nat} {T : mT} {D : mD} (I : mI T) {w r : Nat} {f n : Int32} (hw : w < 3) (hr : r < 4) (h : oP (T 1 (T 2 r)) f n) : wM l yL_arrayText wsL_arrayText ({ frames := 9, cells := 2, slots := 260, locals := 171 } : Room) G kT a0 o9 [.ref (a0), .int (nI (w)), .int (nI (r)), .int (f), .int (n), .ref (o9)] T D 1 (T) (D) (oL kT False 0) (oL kT (1 = 0) (((nI 0) : Int32).toInt64)) := by
  refine wstart (cc := cL_arrayText) (maxL := 7) (hh := [(0, 14, 17, 13), (0, 14, 21, 50)]) (by decide) rfl (Nat.le_of_ble_eq_true rfl) (fun ad L K R I A Q N e0 HB h09 ho hP0 p e s m args below meth c Z hE9 X hT hE hW hO ls hl => ?_)
  subst h09
  obtain ⟨f0, rfl, -⟩ := hP0
  have X : CallFix p m c cL_arrayText 7 s args wsL_arrayText RL := X
  have hl : lv_has ls 7 [(0, .ref (ad 0 0)), (1, .int (nI (w))), (2, .int (nI (r))), (3, .int (f)), (4, .int (n)), (5, .ref (o9))] := hl
  refine lv_aload X.1 X.2.1 dL_arrayText_0 (lv_at hl 5 rfl) ?_
  refine lv_iconst (v := nI 0) X.1 X.2.1 dL_arrayText_2 (by decide) ?_
  refine lv_aload_n X.1 X.2.1 dL_arrayText_3 rfl (lv_at hl 0 rfl) ?_
  refine lv_iload_n X.1 X.2.1 dL_arrayText_4 rfl (lv_at hl 1 rfl) ?_
  refine lv_iload_n X.1 X.2.1 dL_arrayText_5 rfl (lv_at hl 2 rfl) ?_
  refine lv_iload_n X.1 X.2.1 dL_arrayText_6 rfl (lv_at hl 3 rfl) ?_
  refine lv_iload X.1 X.2.1 dL_arrayText_7 (lv_at hl 4 rfl) ?_
  refine cCV hE X hW (HB.mem lv_0) (pC_6 (HB.kn lv_0 rfl)) rfl (cb_arrayText_c l hst HB hw hr h) (cwV 4 X.2.2.2.2 gL_arrayText_X6_arrayText rfl rfl rfl (by decide +kernel) ⟨Nat.le_of_ble_eq_true rfl, Nat.le_of_ble_eq_true rfl⟩) rfl rfl hl.1 (Nat.le_of_ble_eq_true rfl) dL_arrayText_9 ⟨Nat.le_of_ble_eq_true rfl, Nat.le_of_ble_eq_true rfl⟩ (fun H locs q8 ce hW hsz hk hce hcv hcl => ?_)
  have hO := oK hO ho hk
  refine vx_catch X.2.2.2.1 [] ⟨0, 14, 17, 13⟩ [⟨0, 14, 21, 50⟩] hT (fun z hz => absurd hz List.not_mem_nil) (by decide) (by decide) (X.2.2.2.2 (.classLink RL 13 "java/lang/IndexOutOfBoundsException") (List.mem_cons_of_mem _ (List.mem_append_left _ (List.mem_append_left _ (List.mem_append_left _ (List.mem_append_left _ (List.mem_append_left _ (List.mem_append_left _ (List.mem_append_left _ (List.mem_of_getElem? (i := 0) rfl)))))))))) (va_Nw.use rfl (hE.2.2.1 (.castable "java/lang/IndexOutOfBoundsException" "java/lang/IndexOutOfBoundsException") (by decide +kernel))) hce hcv hcl ?_
  refine lv_astore (lv' := [(6, .ref (q8)), (0, .ref (ad 0 0)), (1, .int (nI (w))), (2, .int (nI (r))), (3, .int (f)), (4, .int (n)), (5, .ref (o9))]) X.1 X.2.1 dL_arrayText_17 hl (by decide) rfl (fun ls hl => ?_)
  refine lv_iconst (v := nI 1) X.1 X.2.1 dL_arrayText_19 (by decide) ?_
  exact hE9 _ _ _ _ _ _ _ ad L K R I A Q N _ rfl (show _ ≤ 2 by decide) (show _ ≤ 260 by decide) hW ho hO ⟨f0, rfl, fun z => absurd z (by decide)⟩ HB rfl dL_arrayText_20

set_option maxHeartbeats 4000000 in
set_option maxRecDepth 100000 in
theorem ww_arrayText_2 (l : Launch) (hst : l.stackTraces = false) {G : va_G} {kT : Nat → ClassId} {a0 o9 : Nat} {T : mT} {D : mD} (I : mI T) {w r f n : Nat} (hw : w < 3) (hr : r < 4) (h : f + n ≤ T 1 (T 2 r)) (h2 : 256 < T 7 (3 + w) + n) : wM l yL_arrayText wsL_arrayText ({ frames := 9, cells := 2, slots := 260, locals := 171 } : Room) G kT a0 o9 [.ref (a0), .int (nI (w)), .int (nI (r)), .int (nI (f)), .int (nI (n)), .ref (o9)] T D 2 (T) (D) (oL kT False 0) (oL kT (2 = 0) (((nI 0) : Int32).toInt64)) := by
  refine wstart (cc := cL_arrayText) (maxL := 7) (hh := [(0, 14, 17, 13), (0, 14, 21, 50)]) (by decide) rfl (Nat.le_of_ble_eq_true rfl) (fun ad L K R I A Q N e0 HB h09 ho hP0 p e s m args below meth c Z hE9 X hT hE hW hO ls hl => ?_)
  subst h09
  obtain ⟨f0, rfl, -⟩ := hP0
  have X : CallFix p m c cL_arrayText 7 s args wsL_arrayText RL := X
  have hl : lv_has ls 7 [(0, .ref (ad 0 0)), (1, .int (nI (w))), (2, .int (nI (r))), (3, .int (nI (f))), (4, .int (nI (n))), (5, .ref (o9))] := hl
  refine lv_aload X.1 X.2.1 dL_arrayText_0 (lv_at hl 5 rfl) ?_
  refine lv_iconst (v := nI 0) X.1 X.2.1 dL_arrayText_2 (by decide) ?_
  refine lv_aload_n X.1 X.2.1 dL_arrayText_3 rfl (lv_at hl 0 rfl) ?_
  refine lv_iload_n X.1 X.2.1 dL_arrayText_4 rfl (lv_at hl 1 rfl) ?_
  refine lv_iload_n X.1 X.2.1 dL_arrayText_5 rfl (lv_at hl 2 rfl) ?_
  refine lv_iload_n X.1 X.2.1 dL_arrayText_6 rfl (lv_at hl 3 rfl) ?_
  refine lv_iload X.1 X.2.1 dL_arrayText_7 (lv_at hl 4 rfl) ?_
  refine cCV hE X hW (HB.mem lv_0) (pC_6 (HB.kn lv_0 rfl)) rfl (cb_arrayText_d l hst HB hw hr h h2) (cwV 4 X.2.2.2.2 gL_arrayText_X6_arrayText rfl rfl rfl (by decide +kernel) ⟨Nat.le_of_ble_eq_true rfl, Nat.le_of_ble_eq_true rfl⟩) rfl rfl hl.1 (Nat.le_of_ble_eq_true rfl) dL_arrayText_9 ⟨Nat.le_of_ble_eq_true rfl, Nat.le_of_ble_eq_true rfl⟩ (fun H locs q8 ce hW hsz hk hce hcv hcl => ?_)
  have hO := oK hO ho hk
  refine vx_catch X.2.2.2.1 [⟨0, 14, 17, 13⟩] ⟨0, 14, 21, 50⟩ [] hT (List.forall_mem_cons.mpr ⟨Or.inr ⟨by decide, "java/lang/IndexOutOfBoundsException", X.2.2.2.2 (.classLink RL 13 "java/lang/IndexOutOfBoundsException") (List.mem_cons_of_mem _ (List.mem_append_left _ (List.mem_append_left _ (List.mem_append_left _ (List.mem_append_left _ (List.mem_append_left _ (List.mem_append_left _ (List.mem_append_left _ (List.mem_of_getElem? (i := 0) rfl))))))))), hE.2.2.2.2 ("java/lang/IllegalStateException", "java/lang/IndexOutOfBoundsException") (by decide +kernel)⟩, (fun z hz => absurd hz List.not_mem_nil)⟩) (by decide) (by decide) (X.2.2.2.2 (.classLink RL 50 "java/lang/IllegalStateException") (List.mem_cons_of_mem _ (List.mem_append_left _ (List.mem_append_left _ (List.mem_append_left _ (List.mem_append_left _ (List.mem_append_left _ (List.mem_append_left _ (List.mem_append_left _ (List.mem_of_getElem? (i := 1) rfl)))))))))) (va_Nw.use rfl (hE.2.2.1 (.castable "java/lang/IllegalStateException" "java/lang/IllegalStateException") (by decide +kernel))) hce hcv hcl ?_
  refine lv_astore (lv' := [(6, .ref (q8)), (0, .ref (ad 0 0)), (1, .int (nI (w))), (2, .int (nI (r))), (3, .int (nI (f))), (4, .int (nI (n))), (5, .ref (o9))]) X.1 X.2.1 dL_arrayText_21 hl (by decide) rfl (fun ls hl => ?_)
  refine lv_iconst (v := nI 2) X.1 X.2.1 dL_arrayText_23 (by decide) ?_
  exact hE9 _ _ _ _ _ _ _ ad L K R I A Q N _ rfl (show _ ≤ 2 by decide) (show _ ≤ 260 by decide) hW ho hO ⟨f0, rfl, fun z => absurd z (by decide)⟩ HB rfl dL_arrayText_24

theorem wo_arrayText (l : Launch) (hst : l.stackTraces = false) {G : va_G} {kT : Nat → ClassId} {a0 o9 : Nat} {T : mT} {D : mD} (I : mI T) (J : mJD D) (w row f n : Int32) : wO l yL_arrayText wsL_arrayText ({ frames := 9, cells := 2, slots := 260, locals := 171 } : Room) G kT a0 o9 [.ref a0, .int w, .int row, .int f, .int n, .ref o9] T D (sp_part T D 3 w row f n) := by
  by_cases h1 : oN w 3
  · rw [show sp_part T D 3 w row f n = no T D 1 from if_pos (Or.inl h1)]; exact ww_arrayText_1a l hst h1
  · obtain ⟨w, hw, rfl⟩ := oN_in (by decide) h1
    by_cases h2 : oN row 4
    · rw [show sp_part T D 3 (nI w) row f n = no T D 1 from if_pos (Or.inr (Or.inl h2))]; exact ww_arrayText_1b l hst hw h2
    · obtain ⟨r, hr, rfl⟩ := oN_in (by decide) h2
      have hl : rI T (nI r) = T 1 (T 2 r) := by simp only [rI, nI_clamp (show r < 2 ^ 31 by omega)]
      by_cases h3 : oP (T 1 (T 2 r)) f n
      · rw [show sp_part T D 3 (nI w) (nI r) f n = no T D 1 from if_pos (Or.inr (Or.inr (by rw [hl]; exact h3)))]
        exact ww_arrayText_1c l hst I hw hr h3
      · have I2 := I.sr hr
        have I3 := I.sl I2
        obtain ⟨f0, hf, rfl⟩ := nI_of (fun z => h3 (Or.inl z))
        obtain ⟨n0, hn, rfl⟩ := nI_of (fun z => h3 (Or.inr (Or.inl z)))
        have h4 : f0 + n0 ≤ T 1 (T 2 r) := Nat.not_lt.mp (fun z => h3 (Or.inr (Or.inr (by rw [nI_clamp hf, nI_clamp hn]; exact z))))
        have hc : (nI w).toNatClampNeg = w := nI_clamp (by omega)
        have hc2 : (nI r).toNatClampNeg = r := nI_clamp (by omega)
        have ea : 3 + w = 3 + w := by omega
        have hno : ¬ (oN (nI w) 3 ∨ oN (nI r) 4 ∨ oP (rI T (nI r)) (nI f0) (nI n0)) := by rw [hl]; exact fun z => z.elim h1 (fun z => z.elim h2 h3)
        by_cases h5 : 256 < T 7 (3 + w) + n0
        · rw [show sp_part T D 3 (nI w) (nI r) (nI f0) (nI n0) = no T D 2 from (if_neg hno).trans (if_pos (by rw [hc, nI_clamp hn, ea]; exact h5))]
          exact ww_arrayText_2 l hst I hw hr h4 h5
        · rw [show sp_part T D 3 (nI w) (nI r) (nI f0) (nI n0) = sk_part T D (3 + w) r f0 n0 from (if_neg hno).trans ((if_neg (by rw [hc, nI_clamp hn, ea]; exact h5)).trans (by rw [hc, hc2, nI_clamp hf, nI_clamp hn, ea]))]
          exact ww_arrayText l hst I hw hr h4 (Nat.not_lt.mp h5)


set_option maxHeartbeats 4000000 in
set_option maxRecDepth 100000 in
theorem ww_arraySigns (l : Launch) (hst : l.stackTraces = false) {G : va_G} {kT : Nat → ClassId} {a0 o9 : Nat} {T : mT} {D : mD} (I : mI T) {w r f n : Nat} (hw : w < 3) (hr : r < 4) (h : f + n ≤ T 1 (T 2 r)) (h2 : T 7 (3 + w) + n ≤ 256) : wM l yL_arraySigns wsL_arraySigns ({ frames := 9, cells := 2, slots := 260, locals := 171 } : Room) G kT a0 o9 [.ref (a0), .int (nI (w)), .int (nI (r)), .int (nI (f)), .int (nI (n)), .ref (o9)] T D 0 (adT T (3 + w) n) (adD T D (3 + w) (fun i => D 0 (256 * T 2 r + f + i) &&& nI 255) n) (oL kT False 0) (oL kT (0 = 0) (((nI (T 7 (3 + w) + n)) : Int32).toInt64)) := by
  refine wstart (cc := cL_arraySigns) (maxL := 7) (hh := [(0, 14, 17, 13), (0, 14, 21, 50)]) (by decide) rfl (Nat.le_of_ble_eq_true rfl) (fun ad L K R I A Q N e0 HB h09 ho hP0 p e s m args below meth c Z hE9 X hT hE hW hO ls hl => ?_)
  subst h09
  obtain ⟨f0, rfl, -⟩ := hP0
  have X : CallFix p m c cL_arraySigns 7 s args wsL_arraySigns RL := X
  have hl : lv_has ls 7 [(0, .ref (ad 0 0)), (1, .int (nI (w))), (2, .int (nI (r))), (3, .int (nI (f))), (4, .int (nI (n))), (5, .ref (o9))] := hl
  refine lv_aload X.1 X.2.1 dL_arraySigns_0 (lv_at hl 5 rfl) ?_
  refine lv_iconst (v := nI 0) X.1 X.2.1 dL_arraySigns_2 (by decide) ?_
  refine lv_aload_n X.1 X.2.1 dL_arraySigns_3 rfl (lv_at hl 0 rfl) ?_
  refine lv_iload_n X.1 X.2.1 dL_arraySigns_4 rfl (lv_at hl 1 rfl) ?_
  refine lv_iload_n X.1 X.2.1 dL_arraySigns_5 rfl (lv_at hl 2 rfl) ?_
  refine lv_iload_n X.1 X.2.1 dL_arraySigns_6 rfl (lv_at hl 3 rfl) ?_
  refine lv_iload X.1 X.2.1 dL_arraySigns_7 (lv_at hl 4 rfl) ?_
  refine cFi X hW (HB.mem lv_0) (pC_6 (HB.kn lv_0 rfl)) rfl (co_arraySigns l HB hw hr h h2) (cwV 4 X.2.2.2.2 gL_arraySigns_X6_arraySigns rfl rfl rfl (by decide +kernel) ⟨Nat.le_of_ble_eq_true rfl, Nat.le_of_ble_eq_true rfl⟩) rfl rfl hl.1 (Nat.le_of_ble_eq_true rfl) dL_arraySigns_9 ⟨Nat.le_of_ble_eq_true rfl, Nat.le_of_ble_eq_true rfl⟩ (fun H locs hW hsz hk => ?_)
  have hO := oK hO ho hk
  refine lv_i2l (v := (nI (T 7 (3 + w) + n)).toInt64) X.1 X.2.1 dL_arraySigns_12 rfl ?_
  refine wst X hW hO ho dL_arraySigns_13 (fun H locs hW hO => ?_)
  refine lv_goto (tgt := 25) X.1 X.2.1 dL_arraySigns_14 (by decide) ?_
  refine lv_iconst (v := nI 0) X.1 X.2.1 dL_arraySigns_25 (by decide) ?_
  exact hE9 _ _ _ _ _ _ _ ad L K _ _ _ _ N _ rfl (show _ ≤ 2 by decide) (show _ ≤ 260 by decide) hW ho hO ⟨_, rfl, fun _ => if_pos rfl⟩ (HB.addW (a := (3 + w)) (by omega) h2 (fun i hi => by rw [HB.sA (uS_row hr) (by omega), show 256 * T 2 r + f + i = 256 * T 2 r + (f + i) by omega]; exact (HB.md.1 _).symm) (fun _ _ => and_255 _)) rfl dL_arraySigns_26

set_option maxHeartbeats 4000000 in
set_option maxRecDepth 100000 in
theorem ww_arraySigns_1a (l : Launch) (hst : l.stackTraces = false) {G : va_G} {kT : Nat → ClassId} {a0 o9 : Nat} {T : mT} {D : mD} {w row f n : Int32} (h : oN w 3) : wM l yL_arraySigns wsL_arraySigns ({ frames := 9, cells := 2, slots := 260, locals := 171 } : Room) G kT a0 o9 [.ref (a0), .int (w), .int (row), .int (f), .int (n), .ref (o9)] T D 1 (T) (D) (oL kT False 0) (oL kT (1 = 0) (((nI 0) : Int32).toInt64)) := by
  refine wstart (cc := cL_arraySigns) (maxL := 7) (hh := [(0, 14, 17, 13), (0, 14, 21, 50)]) (by decide) rfl (Nat.le_of_ble_eq_true rfl) (fun ad L K R I A Q N e0 HB h09 ho hP0 p e s m args below meth c Z hE9 X hT hE hW hO ls hl => ?_)
  subst h09
  obtain ⟨f0, rfl, -⟩ := hP0
  have X : CallFix p m c cL_arraySigns 7 s args wsL_arraySigns RL := X
  have hl : lv_has ls 7 [(0, .ref (ad 0 0)), (1, .int (w)), (2, .int (row)), (3, .int (f)), (4, .int (n)), (5, .ref (o9))] := hl
  refine lv_aload X.1 X.2.1 dL_arraySigns_0 (lv_at hl 5 rfl) ?_
  refine lv_iconst (v := nI 0) X.1 X.2.1 dL_arraySigns_2 (by decide) ?_
  refine lv_aload_n X.1 X.2.1 dL_arraySigns_3 rfl (lv_at hl 0 rfl) ?_
  refine lv_iload_n X.1 X.2.1 dL_arraySigns_4 rfl (lv_at hl 1 rfl) ?_
  refine lv_iload_n X.1 X.2.1 dL_arraySigns_5 rfl (lv_at hl 2 rfl) ?_
  refine lv_iload_n X.1 X.2.1 dL_arraySigns_6 rfl (lv_at hl 3 rfl) ?_
  refine lv_iload X.1 X.2.1 dL_arraySigns_7 (lv_at hl 4 rfl) ?_
  refine cCV hE X hW (HB.mem lv_0) (pC_6 (HB.kn lv_0 rfl)) rfl (cb_arraySigns_a l hst HB h) (cwV 4 X.2.2.2.2 gL_arraySigns_X6_arraySigns rfl rfl rfl (by decide +kernel) ⟨Nat.le_of_ble_eq_true rfl, Nat.le_of_ble_eq_true rfl⟩) rfl rfl hl.1 (Nat.le_of_ble_eq_true rfl) dL_arraySigns_9 ⟨Nat.le_of_ble_eq_true rfl, Nat.le_of_ble_eq_true rfl⟩ (fun H locs q8 ce hW hsz hk hce hcv hcl => ?_)
  have hO := oK hO ho hk
  refine vx_catch X.2.2.2.1 [] ⟨0, 14, 17, 13⟩ [⟨0, 14, 21, 50⟩] hT (fun z hz => absurd hz List.not_mem_nil) (by decide) (by decide) (X.2.2.2.2 (.classLink RL 13 "java/lang/IndexOutOfBoundsException") (List.mem_cons_of_mem _ (List.mem_append_left _ (List.mem_append_left _ (List.mem_append_left _ (List.mem_append_left _ (List.mem_append_left _ (List.mem_append_left _ (List.mem_append_left _ (List.mem_of_getElem? (i := 0) rfl)))))))))) (va_Nw.use rfl (hE.2.2.1 (.castable "java/lang/IndexOutOfBoundsException" "java/lang/IndexOutOfBoundsException") (by decide +kernel))) hce hcv hcl ?_
  refine lv_astore (lv' := [(6, .ref (q8)), (0, .ref (ad 0 0)), (1, .int (w)), (2, .int (row)), (3, .int (f)), (4, .int (n)), (5, .ref (o9))]) X.1 X.2.1 dL_arraySigns_17 hl (by decide) rfl (fun ls hl => ?_)
  refine lv_iconst (v := nI 1) X.1 X.2.1 dL_arraySigns_19 (by decide) ?_
  exact hE9 _ _ _ _ _ _ _ ad L K R I A Q N _ rfl (show _ ≤ 2 by decide) (show _ ≤ 260 by decide) hW ho hO ⟨f0, rfl, fun z => absurd z (by decide)⟩ HB rfl dL_arraySigns_20

set_option maxHeartbeats 4000000 in
set_option maxRecDepth 100000 in
theorem ww_arraySigns_1b (l : Launch) (hst : l.stackTraces = false) {G : va_G} {kT : Nat → ClassId} {a0 o9 : Nat} {T : mT} {D : mD} {w : Nat} {row f n : Int32} (hw : w < 3) (h : oN row 4) : wM l yL_arraySigns wsL_arraySigns ({ frames := 9, cells := 2, slots := 260, locals := 171 } : Room) G kT a0 o9 [.ref (a0), .int (nI (w)), .int (row), .int (f), .int (n), .ref (o9)] T D 1 (T) (D) (oL kT False 0) (oL kT (1 = 0) (((nI 0) : Int32).toInt64)) := by
  refine wstart (cc := cL_arraySigns) (maxL := 7) (hh := [(0, 14, 17, 13), (0, 14, 21, 50)]) (by decide) rfl (Nat.le_of_ble_eq_true rfl) (fun ad L K R I A Q N e0 HB h09 ho hP0 p e s m args below meth c Z hE9 X hT hE hW hO ls hl => ?_)
  subst h09
  obtain ⟨f0, rfl, -⟩ := hP0
  have X : CallFix p m c cL_arraySigns 7 s args wsL_arraySigns RL := X
  have hl : lv_has ls 7 [(0, .ref (ad 0 0)), (1, .int (nI (w))), (2, .int (row)), (3, .int (f)), (4, .int (n)), (5, .ref (o9))] := hl
  refine lv_aload X.1 X.2.1 dL_arraySigns_0 (lv_at hl 5 rfl) ?_
  refine lv_iconst (v := nI 0) X.1 X.2.1 dL_arraySigns_2 (by decide) ?_
  refine lv_aload_n X.1 X.2.1 dL_arraySigns_3 rfl (lv_at hl 0 rfl) ?_
  refine lv_iload_n X.1 X.2.1 dL_arraySigns_4 rfl (lv_at hl 1 rfl) ?_
  refine lv_iload_n X.1 X.2.1 dL_arraySigns_5 rfl (lv_at hl 2 rfl) ?_
  refine lv_iload_n X.1 X.2.1 dL_arraySigns_6 rfl (lv_at hl 3 rfl) ?_
  refine lv_iload X.1 X.2.1 dL_arraySigns_7 (lv_at hl 4 rfl) ?_
  refine cCV hE X hW (HB.mem lv_0) (pC_6 (HB.kn lv_0 rfl)) rfl (cb_arraySigns_b l hst HB hw h) (cwV 4 X.2.2.2.2 gL_arraySigns_X6_arraySigns rfl rfl rfl (by decide +kernel) ⟨Nat.le_of_ble_eq_true rfl, Nat.le_of_ble_eq_true rfl⟩) rfl rfl hl.1 (Nat.le_of_ble_eq_true rfl) dL_arraySigns_9 ⟨Nat.le_of_ble_eq_true rfl, Nat.le_of_ble_eq_true rfl⟩ (fun H locs q8 ce hW hsz hk hce hcv hcl => ?_)
  have hO := oK hO ho hk
  refine vx_catch X.2.2.2.1 [] ⟨0, 14, 17, 13⟩ [⟨0, 14, 21, 50⟩] hT (fun z hz => absurd hz List.not_mem_nil) (by decide) (by decide) (X.2.2.2.2 (.classLink RL 13 "java/lang/IndexOutOfBoundsException") (List.mem_cons_of_mem _ (List.mem_append_left _ (List.mem_append_left _ (List.mem_append_left _ (List.mem_append_left _ (List.mem_append_left _ (List.mem_append_left _ (List.mem_append_left _ (List.mem_of_getElem? (i := 0) rfl)))))))))) (va_Nw.use rfl (hE.2.2.1 (.castable "java/lang/IndexOutOfBoundsException" "java/lang/IndexOutOfBoundsException") (by decide +kernel))) hce hcv hcl ?_
  refine lv_astore (lv' := [(6, .ref (q8)), (0, .ref (ad 0 0)), (1, .int (nI (w))), (2, .int (row)), (3, .int (f)), (4, .int (n)), (5, .ref (o9))]) X.1 X.2.1 dL_arraySigns_17 hl (by decide) rfl (fun ls hl => ?_)
  refine lv_iconst (v := nI 1) X.1 X.2.1 dL_arraySigns_19 (by decide) ?_
  exact hE9 _ _ _ _ _ _ _ ad L K R I A Q N _ rfl (show _ ≤ 2 by decide) (show _ ≤ 260 by decide) hW ho hO ⟨f0, rfl, fun z => absurd z (by decide)⟩ HB rfl dL_arraySigns_20

set_option maxHeartbeats 4000000 in
set_option maxRecDepth 100000 in
theorem ww_arraySigns_1c (l : Launch) (hst : l.stackTraces = false) {G : va_G} {kT : Nat → ClassId} {a0 o9 : Nat} {T : mT} {D : mD} (I : mI T) {w r : Nat} {f n : Int32} (hw : w < 3) (hr : r < 4) (h : oP (T 1 (T 2 r)) f n) : wM l yL_arraySigns wsL_arraySigns ({ frames := 9, cells := 2, slots := 260, locals := 171 } : Room) G kT a0 o9 [.ref (a0), .int (nI (w)), .int (nI (r)), .int (f), .int (n), .ref (o9)] T D 1 (T) (D) (oL kT False 0) (oL kT (1 = 0) (((nI 0) : Int32).toInt64)) := by
  refine wstart (cc := cL_arraySigns) (maxL := 7) (hh := [(0, 14, 17, 13), (0, 14, 21, 50)]) (by decide) rfl (Nat.le_of_ble_eq_true rfl) (fun ad L K R I A Q N e0 HB h09 ho hP0 p e s m args below meth c Z hE9 X hT hE hW hO ls hl => ?_)
  subst h09
  obtain ⟨f0, rfl, -⟩ := hP0
  have X : CallFix p m c cL_arraySigns 7 s args wsL_arraySigns RL := X
  have hl : lv_has ls 7 [(0, .ref (ad 0 0)), (1, .int (nI (w))), (2, .int (nI (r))), (3, .int (f)), (4, .int (n)), (5, .ref (o9))] := hl
  refine lv_aload X.1 X.2.1 dL_arraySigns_0 (lv_at hl 5 rfl) ?_
  refine lv_iconst (v := nI 0) X.1 X.2.1 dL_arraySigns_2 (by decide) ?_
  refine lv_aload_n X.1 X.2.1 dL_arraySigns_3 rfl (lv_at hl 0 rfl) ?_
  refine lv_iload_n X.1 X.2.1 dL_arraySigns_4 rfl (lv_at hl 1 rfl) ?_
  refine lv_iload_n X.1 X.2.1 dL_arraySigns_5 rfl (lv_at hl 2 rfl) ?_
  refine lv_iload_n X.1 X.2.1 dL_arraySigns_6 rfl (lv_at hl 3 rfl) ?_
  refine lv_iload X.1 X.2.1 dL_arraySigns_7 (lv_at hl 4 rfl) ?_
  refine cCV hE X hW (HB.mem lv_0) (pC_6 (HB.kn lv_0 rfl)) rfl (cb_arraySigns_c l hst HB hw hr h) (cwV 4 X.2.2.2.2 gL_arraySigns_X6_arraySigns rfl rfl rfl (by decide +kernel) ⟨Nat.le_of_ble_eq_true rfl, Nat.le_of_ble_eq_true rfl⟩) rfl rfl hl.1 (Nat.le_of_ble_eq_true rfl) dL_arraySigns_9 ⟨Nat.le_of_ble_eq_true rfl, Nat.le_of_ble_eq_true rfl⟩ (fun H locs q8 ce hW hsz hk hce hcv hcl => ?_)
  have hO := oK hO ho hk
  refine vx_catch X.2.2.2.1 [] ⟨0, 14, 17, 13⟩ [⟨0, 14, 21, 50⟩] hT (fun z hz => absurd hz List.not_mem_nil) (by decide) (by decide) (X.2.2.2.2 (.classLink RL 13 "java/lang/IndexOutOfBoundsException") (List.mem_cons_of_mem _ (List.mem_append_left _ (List.mem_append_left _ (List.mem_append_left _ (List.mem_append_left _ (List.mem_append_left _ (List.mem_append_left _ (List.mem_append_left _ (List.mem_of_getElem? (i := 0) rfl)))))))))) (va_Nw.use rfl (hE.2.2.1 (.castable "java/lang/IndexOutOfBoundsException" "java/lang/IndexOutOfBoundsException") (by decide +kernel))) hce hcv hcl ?_
  refine lv_astore (lv' := [(6, .ref (q8)), (0, .ref (ad 0 0)), (1, .int (nI (w))), (2, .int (nI (r))), (3, .int (f)), (4, .int (n)), (5, .ref (o9))]) X.1 X.2.1 dL_arraySigns_17 hl (by decide) rfl (fun ls hl => ?_)
  refine lv_iconst (v := nI 1) X.1 X.2.1 dL_arraySigns_19 (by decide) ?_
  exact hE9 _ _ _ _ _ _ _ ad L K R I A Q N _ rfl (show _ ≤ 2 by decide) (show _ ≤ 260 by decide) hW ho hO ⟨f0, rfl, fun z => absurd z (by decide)⟩ HB rfl dL_arraySigns_20

set_option maxHeartbeats 4000000 in
set_option maxRecDepth 100000 in
theorem ww_arraySigns_2 (l : Launch) (hst : l.stackTraces = false) {G : va_G} {kT : Nat → ClassId} {a0 o9 : Nat} {T : mT} {D : mD} (I : mI T) {w r f n : Nat} (hw : w < 3) (hr : r < 4) (h : f + n ≤ T 1 (T 2 r)) (h2 : 256 < T 7 (3 + w) + n) : wM l yL_arraySigns wsL_arraySigns ({ frames := 9, cells := 2, slots := 260, locals := 171 } : Room) G kT a0 o9 [.ref (a0), .int (nI (w)), .int (nI (r)), .int (nI (f)), .int (nI (n)), .ref (o9)] T D 2 (T) (D) (oL kT False 0) (oL kT (2 = 0) (((nI 0) : Int32).toInt64)) := by
  refine wstart (cc := cL_arraySigns) (maxL := 7) (hh := [(0, 14, 17, 13), (0, 14, 21, 50)]) (by decide) rfl (Nat.le_of_ble_eq_true rfl) (fun ad L K R I A Q N e0 HB h09 ho hP0 p e s m args below meth c Z hE9 X hT hE hW hO ls hl => ?_)
  subst h09
  obtain ⟨f0, rfl, -⟩ := hP0
  have X : CallFix p m c cL_arraySigns 7 s args wsL_arraySigns RL := X
  have hl : lv_has ls 7 [(0, .ref (ad 0 0)), (1, .int (nI (w))), (2, .int (nI (r))), (3, .int (nI (f))), (4, .int (nI (n))), (5, .ref (o9))] := hl
  refine lv_aload X.1 X.2.1 dL_arraySigns_0 (lv_at hl 5 rfl) ?_
  refine lv_iconst (v := nI 0) X.1 X.2.1 dL_arraySigns_2 (by decide) ?_
  refine lv_aload_n X.1 X.2.1 dL_arraySigns_3 rfl (lv_at hl 0 rfl) ?_
  refine lv_iload_n X.1 X.2.1 dL_arraySigns_4 rfl (lv_at hl 1 rfl) ?_
  refine lv_iload_n X.1 X.2.1 dL_arraySigns_5 rfl (lv_at hl 2 rfl) ?_
  refine lv_iload_n X.1 X.2.1 dL_arraySigns_6 rfl (lv_at hl 3 rfl) ?_
  refine lv_iload X.1 X.2.1 dL_arraySigns_7 (lv_at hl 4 rfl) ?_
  refine cCV hE X hW (HB.mem lv_0) (pC_6 (HB.kn lv_0 rfl)) rfl (cb_arraySigns_d l hst HB hw hr h h2) (cwV 4 X.2.2.2.2 gL_arraySigns_X6_arraySigns rfl rfl rfl (by decide +kernel) ⟨Nat.le_of_ble_eq_true rfl, Nat.le_of_ble_eq_true rfl⟩) rfl rfl hl.1 (Nat.le_of_ble_eq_true rfl) dL_arraySigns_9 ⟨Nat.le_of_ble_eq_true rfl, Nat.le_of_ble_eq_true rfl⟩ (fun H locs q8 ce hW hsz hk hce hcv hcl => ?_)
  have hO := oK hO ho hk
  refine vx_catch X.2.2.2.1 [⟨0, 14, 17, 13⟩] ⟨0, 14, 21, 50⟩ [] hT (List.forall_mem_cons.mpr ⟨Or.inr ⟨by decide, "java/lang/IndexOutOfBoundsException", X.2.2.2.2 (.classLink RL 13 "java/lang/IndexOutOfBoundsException") (List.mem_cons_of_mem _ (List.mem_append_left _ (List.mem_append_left _ (List.mem_append_left _ (List.mem_append_left _ (List.mem_append_left _ (List.mem_append_left _ (List.mem_append_left _ (List.mem_of_getElem? (i := 0) rfl))))))))), hE.2.2.2.2 ("java/lang/IllegalStateException", "java/lang/IndexOutOfBoundsException") (by decide +kernel)⟩, (fun z hz => absurd hz List.not_mem_nil)⟩) (by decide) (by decide) (X.2.2.2.2 (.classLink RL 50 "java/lang/IllegalStateException") (List.mem_cons_of_mem _ (List.mem_append_left _ (List.mem_append_left _ (List.mem_append_left _ (List.mem_append_left _ (List.mem_append_left _ (List.mem_append_left _ (List.mem_append_left _ (List.mem_of_getElem? (i := 1) rfl)))))))))) (va_Nw.use rfl (hE.2.2.1 (.castable "java/lang/IllegalStateException" "java/lang/IllegalStateException") (by decide +kernel))) hce hcv hcl ?_
  refine lv_astore (lv' := [(6, .ref (q8)), (0, .ref (ad 0 0)), (1, .int (nI (w))), (2, .int (nI (r))), (3, .int (nI (f))), (4, .int (nI (n))), (5, .ref (o9))]) X.1 X.2.1 dL_arraySigns_21 hl (by decide) rfl (fun ls hl => ?_)
  refine lv_iconst (v := nI 2) X.1 X.2.1 dL_arraySigns_23 (by decide) ?_
  exact hE9 _ _ _ _ _ _ _ ad L K R I A Q N _ rfl (show _ ≤ 2 by decide) (show _ ≤ 260 by decide) hW ho hO ⟨f0, rfl, fun z => absurd z (by decide)⟩ HB rfl dL_arraySigns_24

theorem wo_arraySigns (l : Launch) (hst : l.stackTraces = false) {G : va_G} {kT : Nat → ClassId} {a0 o9 : Nat} {T : mT} {D : mD} (I : mI T) (J : mJD D) (w row f n : Int32) : wO l yL_arraySigns wsL_arraySigns ({ frames := 9, cells := 2, slots := 260, locals := 171 } : Room) G kT a0 o9 [.ref a0, .int w, .int row, .int f, .int n, .ref o9] T D (sp_part T D 3 w row f n) := by
  by_cases h1 : oN w 3
  · rw [show sp_part T D 3 w row f n = no T D 1 from if_pos (Or.inl h1)]; exact ww_arraySigns_1a l hst h1
  · obtain ⟨w, hw, rfl⟩ := oN_in (by decide) h1
    by_cases h2 : oN row 4
    · rw [show sp_part T D 3 (nI w) row f n = no T D 1 from if_pos (Or.inr (Or.inl h2))]; exact ww_arraySigns_1b l hst hw h2
    · obtain ⟨r, hr, rfl⟩ := oN_in (by decide) h2
      have hl : rI T (nI r) = T 1 (T 2 r) := by simp only [rI, nI_clamp (show r < 2 ^ 31 by omega)]
      by_cases h3 : oP (T 1 (T 2 r)) f n
      · rw [show sp_part T D 3 (nI w) (nI r) f n = no T D 1 from if_pos (Or.inr (Or.inr (by rw [hl]; exact h3)))]
        exact ww_arraySigns_1c l hst I hw hr h3
      · have I2 := I.sr hr
        have I3 := I.sl I2
        obtain ⟨f0, hf, rfl⟩ := nI_of (fun z => h3 (Or.inl z))
        obtain ⟨n0, hn, rfl⟩ := nI_of (fun z => h3 (Or.inr (Or.inl z)))
        have h4 : f0 + n0 ≤ T 1 (T 2 r) := Nat.not_lt.mp (fun z => h3 (Or.inr (Or.inr (by rw [nI_clamp hf, nI_clamp hn]; exact z))))
        have hc : (nI w).toNatClampNeg = w := nI_clamp (by omega)
        have hc2 : (nI r).toNatClampNeg = r := nI_clamp (by omega)
        have ea : 3 + w = 3 + w := by omega
        have hno : ¬ (oN (nI w) 3 ∨ oN (nI r) 4 ∨ oP (rI T (nI r)) (nI f0) (nI n0)) := by rw [hl]; exact fun z => z.elim h1 (fun z => z.elim h2 h3)
        by_cases h5 : 256 < T 7 (3 + w) + n0
        · rw [show sp_part T D 3 (nI w) (nI r) (nI f0) (nI n0) = no T D 2 from (if_neg hno).trans (if_pos (by rw [hc, nI_clamp hn, ea]; exact h5))]
          exact ww_arraySigns_2 l hst I hw hr h4 h5
        · rw [show sp_part T D 3 (nI w) (nI r) (nI f0) (nI n0) = sk_part T D (3 + w) r f0 n0 from (if_neg hno).trans ((if_neg (by rw [hc, nI_clamp hn, ea]; exact h5)).trans (by rw [hc, hc2, nI_clamp hf, nI_clamp hn, ea]))]
          exact ww_arraySigns l hst I hw hr h4 (Nat.not_lt.mp h5)


set_option maxHeartbeats 4000000 in
set_option maxRecDepth 100000 in
theorem ww_take (l : Launch) (hst : l.stackTraces = false) {G : va_G} {kT : Nat → ClassId} {a0 o9 : Nat} {T : mT} {D : mD} (I : mI T) {w r : Nat} (hw : w < 3) (hr : r < 4) : wM l yL_take wsL_take ({ frames := 9, cells := 2, slots := 260, locals := 166 } : Room) G kT a0 o9 [.ref (a0), .int (nI (w)), .int (nI (r)), .ref (o9)] T D 0 (beT T r (T 7 (w))) (beD T (cpF D 19 0 (fun i => D 6 (256 * (w) + i)) (T 7 (w))) (T 7 (w))) (oL kT False 0) (oL kT (0 = 0) (((nI (T 7 (w))) : Int32).toInt64)) := by
  refine wstart (cc := cL_take) (maxL := 5) (hh := [(0, 10, 13, 13)]) (by decide) rfl (Nat.le_of_ble_eq_true rfl) (fun ad L K R I A Q N e0 HB h09 ho hP0 p e s m args below meth c Z hE9 X hT hE hW hO ls hl => ?_)
  subst h09
  obtain ⟨f0, rfl, -⟩ := hP0
  have X : CallFix p m c cL_take 5 s args wsL_take RL := X
  have hl : lv_has ls 5 [(0, .ref (ad 0 0)), (1, .int (nI (w))), (2, .int (nI (r))), (3, .ref (o9))] := hl
  refine lv_aload_n X.1 X.2.1 dL_take_0 rfl (lv_at hl 3 rfl) ?_
  refine lv_iconst (v := nI 0) X.1 X.2.1 dL_take_1 (by decide) ?_
  refine lv_aload_n X.1 X.2.1 dL_take_2 rfl (lv_at hl 0 rfl) ?_
  refine lv_iload_n X.1 X.2.1 dL_take_3 rfl (lv_at hl 1 rfl) ?_
  refine lv_iload_n X.1 X.2.1 dL_take_4 rfl (lv_at hl 2 rfl) ?_
  refine cFN (cs := []) X hW (HB.mem lv_0) (pC_6 (HB.kn lv_0 rfl)) rfl (fun C h => absurd h List.not_mem_nil) (co_take l HB hw hr) (cwV 2 X.2.2.2.2 gL_take_X6_take rfl rfl rfl (by decide +kernel) ⟨Nat.le_of_ble_eq_true rfl, Nat.le_of_ble_eq_true rfl⟩) rfl rfl hl.1 (Nat.le_of_ble_eq_true rfl) dL_take_5 ⟨Nat.le_of_ble_eq_true rfl, Nat.le_of_ble_eq_true rfl⟩ (fun L2 K2 R2 I2 A2 Q2 N2 H locs hW hF hsz hk hL2 => ?_)
  have ho2 := oNew hO ho hL2
  have hO := oK hO ho hk
  obtain ⟨a, b, Q1, A1, hS, rfl, rfl⟩ := hF
  have hna : ∀ k i, lv T k i → ad k i ≠ a := fun k i hl9 z => hS.2.1 (z ▸ HB.mem hl9)
  have hnb : ∀ k i, lv T k i → ad k i ≠ b := fun k i hl9 z => hS.2.2.1 (z ▸ HB.mem hl9)
  have HB1 := HB.mono hS.1
  have H19 := (HB1.keepA (A2 := cpF A1 b 0 (fun i => A1 (ad 8 w) i) (T 7 w)) (fun k i hl9 => cpF_ne (hnb k i hl9))).kept19 (d := 0) (n := T 7 w) (g := fun i => D 6 (256 * w + i)) (fun _ _ => HB.md.2.2.1 _)
  refine lv_i2l (v := (nI (T 7 w)).toInt64) X.1 X.2.1 dL_take_8 rfl ?_
  refine wst X hW hO ho2 dL_take_9 (fun H locs hW hO => ?_)
  refine lv_goto (tgt := 17) X.1 X.2.1 dL_take_10 (by decide) ?_
  refine lv_iconst (v := nI 0) X.1 X.2.1 dL_take_17 (by decide) ?_
  exact hE9 _ _ _ _ _ _ _ (adS ad (fS T) a b) L2 K2 R2 I2 _ _ N2 _ rfl (show _ ≤ 2 by decide) (show _ ≤ 260 by decide) hW ho2 hO ⟨_, rfl, fun _ => if_pos rfl⟩ (H19.newS (h := fun k => cpF D 19 0 (fun i => D 6 (256 * w + i)) (T 7 w) 19 k) hr hS.2.2.2.2.1 hna hnb hS.2.2.2.1 (fun j hj => by rw [cpF_in (Nat.zero_le _) (by omega), cpF_in (Nat.zero_le _) (by omega), Nat.sub_zero]; exact HB1.wA (by omega) hj) (fun j hj => H19.md.2.2.2 j)) (adS_k (Or.inl ⟨by decide, by decide⟩)) dL_take_18

set_option maxHeartbeats 4000000 in
set_option maxRecDepth 100000 in
theorem ww_take_1a (l : Launch) (hst : l.stackTraces = false) {G : va_G} {kT : Nat → ClassId} {a0 o9 : Nat} {T : mT} {D : mD} {w row : Int32} (h : oN w 3) : wM l yL_take wsL_take ({ frames := 9, cells := 2, slots := 260, locals := 166 } : Room) G kT a0 o9 [.ref (a0), .int (w), .int (row), .ref (o9)] T D 1 (T) (D) (oL kT False 0) (oL kT (1 = 0) (((nI 0) : Int32).toInt64)) := by
  refine wstart (cc := cL_take) (maxL := 5) (hh := [(0, 10, 13, 13)]) (by decide) rfl (Nat.le_of_ble_eq_true rfl) (fun ad L K R I A Q N e0 HB h09 ho hP0 p e s m args below meth c Z hE9 X hT hE hW hO ls hl => ?_)
  subst h09
  obtain ⟨f0, rfl, -⟩ := hP0
  have X : CallFix p m c cL_take 5 s args wsL_take RL := X
  have hl : lv_has ls 5 [(0, .ref (ad 0 0)), (1, .int (w)), (2, .int (row)), (3, .ref (o9))] := hl
  refine lv_aload_n X.1 X.2.1 dL_take_0 rfl (lv_at hl 3 rfl) ?_
  refine lv_iconst (v := nI 0) X.1 X.2.1 dL_take_1 (by decide) ?_
  refine lv_aload_n X.1 X.2.1 dL_take_2 rfl (lv_at hl 0 rfl) ?_
  refine lv_iload_n X.1 X.2.1 dL_take_3 rfl (lv_at hl 1 rfl) ?_
  refine lv_iload_n X.1 X.2.1 dL_take_4 rfl (lv_at hl 2 rfl) ?_
  refine cCV hE X hW (HB.mem lv_0) (pC_6 (HB.kn lv_0 rfl)) rfl (cb_take_a l hst HB h) (cwV 2 X.2.2.2.2 gL_take_X6_take rfl rfl rfl (by decide +kernel) ⟨Nat.le_of_ble_eq_true rfl, Nat.le_of_ble_eq_true rfl⟩) rfl rfl hl.1 (Nat.le_of_ble_eq_true rfl) dL_take_5 ⟨Nat.le_of_ble_eq_true rfl, Nat.le_of_ble_eq_true rfl⟩ (fun H locs q8 ce hW hsz hk hce hcv hcl => ?_)
  have hO := oK hO ho hk
  refine vx_catch X.2.2.2.1 [] ⟨0, 10, 13, 13⟩ [] hT (fun z hz => absurd hz List.not_mem_nil) (by decide) (by decide) (X.2.2.2.2 (.classLink RL 13 "java/lang/IndexOutOfBoundsException") (List.mem_cons_of_mem _ (List.mem_append_left _ (List.mem_append_left _ (List.mem_append_left _ (List.mem_append_left _ (List.mem_append_left _ (List.mem_append_left _ (List.mem_of_getElem? (i := 0) rfl))))))))) (va_Nw.use rfl (hE.2.2.1 (.castable "java/lang/IndexOutOfBoundsException" "java/lang/IndexOutOfBoundsException") (by decide +kernel))) hce hcv hcl ?_
  refine lv_astore (lv' := [(4, .ref (q8)), (0, .ref (ad 0 0)), (1, .int (w)), (2, .int (row)), (3, .ref (o9))]) X.1 X.2.1 dL_take_13 hl (by decide) rfl (fun ls hl => ?_)
  refine lv_iconst (v := nI 1) X.1 X.2.1 dL_take_15 (by decide) ?_
  exact hE9 _ _ _ _ _ _ _ ad L K R I A Q N _ rfl (show _ ≤ 2 by decide) (show _ ≤ 260 by decide) hW ho hO ⟨f0, rfl, fun z => absurd z (by decide)⟩ HB rfl dL_take_16

set_option maxHeartbeats 4000000 in
set_option maxRecDepth 100000 in
theorem ww_take_1b (l : Launch) (hst : l.stackTraces = false) {G : va_G} {kT : Nat → ClassId} {a0 o9 : Nat} {T : mT} {D : mD} {w : Nat} {row : Int32} (hw : w < 3) (h : oN row 4) : wM l yL_take wsL_take ({ frames := 9, cells := 2, slots := 260, locals := 166 } : Room) G kT a0 o9 [.ref (a0), .int (nI (w)), .int (row), .ref (o9)] T D 1 (T) (D) (oL kT False 0) (oL kT (1 = 0) (((nI 0) : Int32).toInt64)) := by
  refine wstart (cc := cL_take) (maxL := 5) (hh := [(0, 10, 13, 13)]) (by decide) rfl (Nat.le_of_ble_eq_true rfl) (fun ad L K R I A Q N e0 HB h09 ho hP0 p e s m args below meth c Z hE9 X hT hE hW hO ls hl => ?_)
  subst h09
  obtain ⟨f0, rfl, -⟩ := hP0
  have X : CallFix p m c cL_take 5 s args wsL_take RL := X
  have hl : lv_has ls 5 [(0, .ref (ad 0 0)), (1, .int (nI (w))), (2, .int (row)), (3, .ref (o9))] := hl
  refine lv_aload_n X.1 X.2.1 dL_take_0 rfl (lv_at hl 3 rfl) ?_
  refine lv_iconst (v := nI 0) X.1 X.2.1 dL_take_1 (by decide) ?_
  refine lv_aload_n X.1 X.2.1 dL_take_2 rfl (lv_at hl 0 rfl) ?_
  refine lv_iload_n X.1 X.2.1 dL_take_3 rfl (lv_at hl 1 rfl) ?_
  refine lv_iload_n X.1 X.2.1 dL_take_4 rfl (lv_at hl 2 rfl) ?_
  refine cCV hE X hW (HB.mem lv_0) (pC_6 (HB.kn lv_0 rfl)) rfl (cb_take_b l hst HB hw h) (cwV 2 X.2.2.2.2 gL_take_X6_take rfl rfl rfl (by decide +kernel) ⟨Nat.le_of_ble_eq_true rfl, Nat.le_of_ble_eq_true rfl⟩) rfl rfl hl.1 (Nat.le_of_ble_eq_true rfl) dL_take_5 ⟨Nat.le_of_ble_eq_true rfl, Nat.le_of_ble_eq_true rfl⟩ (fun H locs q8 ce hW hsz hk hce hcv hcl => ?_)
  have hO := oK hO ho hk
  refine vx_catch X.2.2.2.1 [] ⟨0, 10, 13, 13⟩ [] hT (fun z hz => absurd hz List.not_mem_nil) (by decide) (by decide) (X.2.2.2.2 (.classLink RL 13 "java/lang/IndexOutOfBoundsException") (List.mem_cons_of_mem _ (List.mem_append_left _ (List.mem_append_left _ (List.mem_append_left _ (List.mem_append_left _ (List.mem_append_left _ (List.mem_append_left _ (List.mem_of_getElem? (i := 0) rfl))))))))) (va_Nw.use rfl (hE.2.2.1 (.castable "java/lang/IndexOutOfBoundsException" "java/lang/IndexOutOfBoundsException") (by decide +kernel))) hce hcv hcl ?_
  refine lv_astore (lv' := [(4, .ref (q8)), (0, .ref (ad 0 0)), (1, .int (nI (w))), (2, .int (row)), (3, .ref (o9))]) X.1 X.2.1 dL_take_13 hl (by decide) rfl (fun ls hl => ?_)
  refine lv_iconst (v := nI 1) X.1 X.2.1 dL_take_15 (by decide) ?_
  exact hE9 _ _ _ _ _ _ _ ad L K R I A Q N _ rfl (show _ ≤ 2 by decide) (show _ ≤ 260 by decide) hW ho hO ⟨f0, rfl, fun z => absurd z (by decide)⟩ HB rfl dL_take_16

theorem wo_take (l : Launch) (hst : l.stackTraces = false) {G : va_G} {kT : Nat → ClassId} {a0 o9 : Nat} {T : mT} {D : mD} (I : mI T) (J : mJD D) (w row : Int32) : wO l yL_take wsL_take ({ frames := 9, cells := 2, slots := 260, locals := 166 } : Room) G kT a0 o9 [.ref a0, .int w, .int row, .ref o9] T D (sp_taken T D 0 w row) := by
  by_cases h1 : oN w 3
  · rw [show sp_taken T D 0 w row = no T D 1 from if_pos (Or.inl h1)]; exact ww_take_1a l hst h1
  · obtain ⟨w, hw, rfl⟩ := oN_in (by decide) h1
    by_cases h2 : oN row 4
    · rw [show sp_taken T D 0 (nI w) row = no T D 1 from if_pos (Or.inr h2)]; exact ww_take_1b l hst hw h2
    · obtain ⟨r, hr, rfl⟩ := oN_in (by decide) h2
      rw [show sp_taken T D 0 (nI w) (nI r) = sk_taken T D (w) r from (if_neg (fun z => z.elim h1 h2)).trans (by rw [nI_clamp (by omega), nI_clamp (by omega), show 0 + w = w by omega])]
      exact ww_take l hst I hw hr


set_option maxHeartbeats 4000000 in
set_option maxRecDepth 100000 in
theorem ww_arrayTake (l : Launch) (hst : l.stackTraces = false) {G : va_G} {kT : Nat → ClassId} {a0 o9 : Nat} {T : mT} {D : mD} (I : mI T) {w r : Nat} (hw : w < 3) (hr : r < 4) : wM l yL_arrayTake wsL_arrayTake ({ frames := 9, cells := 2, slots := 260, locals := 166 } : Room) G kT a0 o9 [.ref (a0), .int (nI (w)), .int (nI (r)), .ref (o9)] T D 0 (beT T r (T 7 (3 + w))) (beD T (cpF D 19 0 (fun i => D 6 (256 * (3 + w) + i)) (T 7 (3 + w))) (T 7 (3 + w))) (oL kT False 0) (oL kT (0 = 0) (((nI (T 7 (3 + w))) : Int32).toInt64)) := by
  refine wstart (cc := cL_arrayTake) (maxL := 5) (hh := [(0, 10, 13, 13)]) (by decide) rfl (Nat.le_of_ble_eq_true rfl) (fun ad L K R I A Q N e0 HB h09 ho hP0 p e s m args below meth c Z hE9 X hT hE hW hO ls hl => ?_)
  subst h09
  obtain ⟨f0, rfl, -⟩ := hP0
  have X : CallFix p m c cL_arrayTake 5 s args wsL_arrayTake RL := X
  have hl : lv_has ls 5 [(0, .ref (ad 0 0)), (1, .int (nI (w))), (2, .int (nI (r))), (3, .ref (o9))] := hl
  refine lv_aload_n X.1 X.2.1 dL_arrayTake_0 rfl (lv_at hl 3 rfl) ?_
  refine lv_iconst (v := nI 0) X.1 X.2.1 dL_arrayTake_1 (by decide) ?_
  refine lv_aload_n X.1 X.2.1 dL_arrayTake_2 rfl (lv_at hl 0 rfl) ?_
  refine lv_iload_n X.1 X.2.1 dL_arrayTake_3 rfl (lv_at hl 1 rfl) ?_
  refine lv_iload_n X.1 X.2.1 dL_arrayTake_4 rfl (lv_at hl 2 rfl) ?_
  refine cFN (cs := []) X hW (HB.mem lv_0) (pC_6 (HB.kn lv_0 rfl)) rfl (fun C h => absurd h List.not_mem_nil) (co_arrayTake l HB hw hr) (cwV 2 X.2.2.2.2 gL_arrayTake_X6_arrayTake rfl rfl rfl (by decide +kernel) ⟨Nat.le_of_ble_eq_true rfl, Nat.le_of_ble_eq_true rfl⟩) rfl rfl hl.1 (Nat.le_of_ble_eq_true rfl) dL_arrayTake_5 ⟨Nat.le_of_ble_eq_true rfl, Nat.le_of_ble_eq_true rfl⟩ (fun L2 K2 R2 I2 A2 Q2 N2 H locs hW hF hsz hk hL2 => ?_)
  have ho2 := oNew hO ho hL2
  have hO := oK hO ho hk
  obtain ⟨a, b, Q1, A1, hS, rfl, rfl⟩ := hF
  have hna : ∀ k i, lv T k i → ad k i ≠ a := fun k i hl9 z => hS.2.1 (z ▸ HB.mem hl9)
  have hnb : ∀ k i, lv T k i → ad k i ≠ b := fun k i hl9 z => hS.2.2.1 (z ▸ HB.mem hl9)
  have HB1 := HB.mono hS.1
  have H19 := (HB1.keepA (A2 := cpF A1 b 0 (fun i => A1 (ad 8 (3 + w)) i) (T 7 (3 + w))) (fun k i hl9 => cpF_ne (hnb k i hl9))).kept19 (d := 0) (n := T 7 (3 + w)) (g := fun i => D 6 (256 * (3 + w) + i)) (fun _ _ => HB.md.2.2.1 _)
  refine lv_i2l (v := (nI (T 7 (3 + w))).toInt64) X.1 X.2.1 dL_arrayTake_8 rfl ?_
  refine wst X hW hO ho2 dL_arrayTake_9 (fun H locs hW hO => ?_)
  refine lv_goto (tgt := 17) X.1 X.2.1 dL_arrayTake_10 (by decide) ?_
  refine lv_iconst (v := nI 0) X.1 X.2.1 dL_arrayTake_17 (by decide) ?_
  exact hE9 _ _ _ _ _ _ _ (adS ad (fS T) a b) L2 K2 R2 I2 _ _ N2 _ rfl (show _ ≤ 2 by decide) (show _ ≤ 260 by decide) hW ho2 hO ⟨_, rfl, fun _ => if_pos rfl⟩ (H19.newS (h := fun k => cpF D 19 0 (fun i => D 6 (256 * (3 + w) + i)) (T 7 (3 + w)) 19 k) hr hS.2.2.2.2.1 hna hnb hS.2.2.2.1 (fun j hj => by rw [cpF_in (Nat.zero_le _) (by omega), cpF_in (Nat.zero_le _) (by omega), Nat.sub_zero]; exact HB1.wA (by omega) hj) (fun j hj => H19.md.2.2.2 j)) (adS_k (Or.inl ⟨by decide, by decide⟩)) dL_arrayTake_18

set_option maxHeartbeats 4000000 in
set_option maxRecDepth 100000 in
theorem ww_arrayTake_1a (l : Launch) (hst : l.stackTraces = false) {G : va_G} {kT : Nat → ClassId} {a0 o9 : Nat} {T : mT} {D : mD} {w row : Int32} (h : oN w 3) : wM l yL_arrayTake wsL_arrayTake ({ frames := 9, cells := 2, slots := 260, locals := 166 } : Room) G kT a0 o9 [.ref (a0), .int (w), .int (row), .ref (o9)] T D 1 (T) (D) (oL kT False 0) (oL kT (1 = 0) (((nI 0) : Int32).toInt64)) := by
  refine wstart (cc := cL_arrayTake) (maxL := 5) (hh := [(0, 10, 13, 13)]) (by decide) rfl (Nat.le_of_ble_eq_true rfl) (fun ad L K R I A Q N e0 HB h09 ho hP0 p e s m args below meth c Z hE9 X hT hE hW hO ls hl => ?_)
  subst h09
  obtain ⟨f0, rfl, -⟩ := hP0
  have X : CallFix p m c cL_arrayTake 5 s args wsL_arrayTake RL := X
  have hl : lv_has ls 5 [(0, .ref (ad 0 0)), (1, .int (w)), (2, .int (row)), (3, .ref (o9))] := hl
  refine lv_aload_n X.1 X.2.1 dL_arrayTake_0 rfl (lv_at hl 3 rfl) ?_
  refine lv_iconst (v := nI 0) X.1 X.2.1 dL_arrayTake_1 (by decide) ?_
  refine lv_aload_n X.1 X.2.1 dL_arrayTake_2 rfl (lv_at hl 0 rfl) ?_
  refine lv_iload_n X.1 X.2.1 dL_arrayTake_3 rfl (lv_at hl 1 rfl) ?_
  refine lv_iload_n X.1 X.2.1 dL_arrayTake_4 rfl (lv_at hl 2 rfl) ?_
  refine cCV hE X hW (HB.mem lv_0) (pC_6 (HB.kn lv_0 rfl)) rfl (cb_arrayTake_a l hst HB h) (cwV 2 X.2.2.2.2 gL_arrayTake_X6_arrayTake rfl rfl rfl (by decide +kernel) ⟨Nat.le_of_ble_eq_true rfl, Nat.le_of_ble_eq_true rfl⟩) rfl rfl hl.1 (Nat.le_of_ble_eq_true rfl) dL_arrayTake_5 ⟨Nat.le_of_ble_eq_true rfl, Nat.le_of_ble_eq_true rfl⟩ (fun H locs q8 ce hW hsz hk hce hcv hcl => ?_)
  have hO := oK hO ho hk
  refine vx_catch X.2.2.2.1 [] ⟨0, 10, 13, 13⟩ [] hT (fun z hz => absurd hz List.not_mem_nil) (by decide) (by decide) (X.2.2.2.2 (.classLink RL 13 "java/lang/IndexOutOfBoundsException") (List.mem_cons_of_mem _ (List.mem_append_left _ (List.mem_append_left _ (List.mem_append_left _ (List.mem_append_left _ (List.mem_append_left _ (List.mem_append_left _ (List.mem_of_getElem? (i := 0) rfl))))))))) (va_Nw.use rfl (hE.2.2.1 (.castable "java/lang/IndexOutOfBoundsException" "java/lang/IndexOutOfBoundsException") (by decide +kernel))) hce hcv hcl ?_
  refine lv_astore (lv' := [(4, .ref (q8)), (0, .ref (ad 0 0)), (1, .int (w)), (2, .int (row)), (3, .ref (o9))]) X.1 X.2.1 dL_arrayTake_13 hl (by decide) rfl (fun ls hl => ?_)
  refine lv_iconst (v := nI 1) X.1 X.2.1 dL_arrayTake_15 (by decide) ?_
  exact hE9 _ _ _ _ _ _ _ ad L K R I A Q N _ rfl (show _ ≤ 2 by decide) (show _ ≤ 260 by decide) hW ho hO ⟨f0, rfl, fun z => absurd z (by decide)⟩ HB rfl dL_arrayTake_16

set_option maxHeartbeats 4000000 in
set_option maxRecDepth 100000 in
theorem ww_arrayTake_1b (l : Launch) (hst : l.stackTraces = false) {G : va_G} {kT : Nat → ClassId} {a0 o9 : Nat} {T : mT} {D : mD} {w : Nat} {row : Int32} (hw : w < 3) (h : oN row 4) : wM l yL_arrayTake wsL_arrayTake ({ frames := 9, cells := 2, slots := 260, locals := 166 } : Room) G kT a0 o9 [.ref (a0), .int (nI (w)), .int (row), .ref (o9)] T D 1 (T) (D) (oL kT False 0) (oL kT (1 = 0) (((nI 0) : Int32).toInt64)) := by
  refine wstart (cc := cL_arrayTake) (maxL := 5) (hh := [(0, 10, 13, 13)]) (by decide) rfl (Nat.le_of_ble_eq_true rfl) (fun ad L K R I A Q N e0 HB h09 ho hP0 p e s m args below meth c Z hE9 X hT hE hW hO ls hl => ?_)
  subst h09
  obtain ⟨f0, rfl, -⟩ := hP0
  have X : CallFix p m c cL_arrayTake 5 s args wsL_arrayTake RL := X
  have hl : lv_has ls 5 [(0, .ref (ad 0 0)), (1, .int (nI (w))), (2, .int (row)), (3, .ref (o9))] := hl
  refine lv_aload_n X.1 X.2.1 dL_arrayTake_0 rfl (lv_at hl 3 rfl) ?_
  refine lv_iconst (v := nI 0) X.1 X.2.1 dL_arrayTake_1 (by decide) ?_
  refine lv_aload_n X.1 X.2.1 dL_arrayTake_2 rfl (lv_at hl 0 rfl) ?_
  refine lv_iload_n X.1 X.2.1 dL_arrayTake_3 rfl (lv_at hl 1 rfl) ?_
  refine lv_iload_n X.1 X.2.1 dL_arrayTake_4 rfl (lv_at hl 2 rfl) ?_
  refine cCV hE X hW (HB.mem lv_0) (pC_6 (HB.kn lv_0 rfl)) rfl (cb_arrayTake_b l hst HB hw h) (cwV 2 X.2.2.2.2 gL_arrayTake_X6_arrayTake rfl rfl rfl (by decide +kernel) ⟨Nat.le_of_ble_eq_true rfl, Nat.le_of_ble_eq_true rfl⟩) rfl rfl hl.1 (Nat.le_of_ble_eq_true rfl) dL_arrayTake_5 ⟨Nat.le_of_ble_eq_true rfl, Nat.le_of_ble_eq_true rfl⟩ (fun H locs q8 ce hW hsz hk hce hcv hcl => ?_)
  have hO := oK hO ho hk
  refine vx_catch X.2.2.2.1 [] ⟨0, 10, 13, 13⟩ [] hT (fun z hz => absurd hz List.not_mem_nil) (by decide) (by decide) (X.2.2.2.2 (.classLink RL 13 "java/lang/IndexOutOfBoundsException") (List.mem_cons_of_mem _ (List.mem_append_left _ (List.mem_append_left _ (List.mem_append_left _ (List.mem_append_left _ (List.mem_append_left _ (List.mem_append_left _ (List.mem_of_getElem? (i := 0) rfl))))))))) (va_Nw.use rfl (hE.2.2.1 (.castable "java/lang/IndexOutOfBoundsException" "java/lang/IndexOutOfBoundsException") (by decide +kernel))) hce hcv hcl ?_
  refine lv_astore (lv' := [(4, .ref (q8)), (0, .ref (ad 0 0)), (1, .int (nI (w))), (2, .int (row)), (3, .ref (o9))]) X.1 X.2.1 dL_arrayTake_13 hl (by decide) rfl (fun ls hl => ?_)
  refine lv_iconst (v := nI 1) X.1 X.2.1 dL_arrayTake_15 (by decide) ?_
  exact hE9 _ _ _ _ _ _ _ ad L K R I A Q N _ rfl (show _ ≤ 2 by decide) (show _ ≤ 260 by decide) hW ho hO ⟨f0, rfl, fun z => absurd z (by decide)⟩ HB rfl dL_arrayTake_16

theorem wo_arrayTake (l : Launch) (hst : l.stackTraces = false) {G : va_G} {kT : Nat → ClassId} {a0 o9 : Nat} {T : mT} {D : mD} (I : mI T) (J : mJD D) (w row : Int32) : wO l yL_arrayTake wsL_arrayTake ({ frames := 9, cells := 2, slots := 260, locals := 166 } : Room) G kT a0 o9 [.ref a0, .int w, .int row, .ref o9] T D (sp_taken T D 3 w row) := by
  by_cases h1 : oN w 3
  · rw [show sp_taken T D 3 w row = no T D 1 from if_pos (Or.inl h1)]; exact ww_arrayTake_1a l hst h1
  · obtain ⟨w, hw, rfl⟩ := oN_in (by decide) h1
    by_cases h2 : oN row 4
    · rw [show sp_taken T D 3 (nI w) row = no T D 1 from if_pos (Or.inr h2)]; exact ww_arrayTake_1b l hst hw h2
    · obtain ⟨r, hr, rfl⟩ := oN_in (by decide) h2
      rw [show sp_taken T D 3 (nI w) (nI r) = sk_taken T D (3 + w) r from (if_neg (fun z => z.elim h1 h2)).trans (by rw [nI_clamp (by omega), nI_clamp (by omega), show 3 + w = 3 + w by omega])]
      exact ww_arrayTake l hst I hw hr


set_option maxHeartbeats 4000000 in
set_option maxRecDepth 100000 in
theorem ww_begin (l : Launch) (hst : l.stackTraces = false) {G : va_G} {kT : Nat → ClassId} {a0 o9 : Nat} {T : mT} {D : mD} {w : Nat} (hw : w < 3) : wM l yL_begin wsL_begin ({ frames := 8, cells := 2, slots := 260, locals := 142 } : Room) G kT a0 o9 [.ref (a0), .int (nI (w)), .ref (o9)] T D 0 (u2 T 7 (w) 0) (D) (oL kT False 0) (oL kT (0 = 0) (((nI (T 7 (w))) : Int32).toInt64)) := by
  refine wstart (cc := cL_begin) (maxL := 4) (hh := [(0, 9, 12, 13)]) (by decide) rfl (Nat.le_of_ble_eq_true rfl) (fun ad L K R I A Q N e0 HB h09 ho hP0 p e s m args below meth c Z hE9 X hT hE hW hO ls hl => ?_)
  subst h09
  obtain ⟨f0, rfl, -⟩ := hP0
  have X : CallFix p m c cL_begin 4 s args wsL_begin RL := X
  have hl : lv_has ls 4 [(0, .ref (ad 0 0)), (1, .int (nI (w))), (2, .ref (o9))] := hl
  refine lv_aload_n X.1 X.2.1 dL_begin_0 rfl (lv_at hl 2 rfl) ?_
  refine lv_iconst (v := nI 0) X.1 X.2.1 dL_begin_1 (by decide) ?_
  refine lv_aload_n X.1 X.2.1 dL_begin_2 rfl (lv_at hl 0 rfl) ?_
  refine lv_iload_n X.1 X.2.1 dL_begin_3 rfl (lv_at hl 1 rfl) ?_
  refine cFi X hW (HB.mem lv_0) (pC_6 (HB.kn lv_0 rfl)) rfl (co_begin l HB hw) (cwV 1 X.2.2.2.2 gL_begin_X6_begin rfl rfl rfl (by decide +kernel) ⟨Nat.le_of_ble_eq_true rfl, Nat.le_of_ble_eq_true rfl⟩) rfl rfl hl.1 (Nat.le_of_ble_eq_true rfl) dL_begin_4 ⟨Nat.le_of_ble_eq_true rfl, Nat.le_of_ble_eq_true rfl⟩ (fun H locs hW hsz hk => ?_)
  have hO := oK hO ho hk
  refine lv_i2l (v := (nI (T 7 w)).toInt64) X.1 X.2.1 dL_begin_7 rfl ?_
  refine wst X hW hO ho dL_begin_8 (fun H locs hW hO => ?_)
  refine lv_goto (tgt := 15) X.1 X.2.1 dL_begin_9 (by decide) ?_
  refine lv_iconst (v := nI 0) X.1 X.2.1 dL_begin_15 (by decide) ?_
  exact hE9 _ _ _ _ _ _ _ ad L K _ _ _ _ N _ rfl (show _ ≤ 2 by decide) (show _ ≤ 260 by decide) hW ho hO ⟨_, rfl, fun _ => if_pos rfl⟩ (HB.zeroW (by omega)) rfl dL_begin_16

set_option maxHeartbeats 4000000 in
set_option maxRecDepth 100000 in
theorem ww_begin_1 (l : Launch) (hst : l.stackTraces = false) {G : va_G} {kT : Nat → ClassId} {a0 o9 : Nat} {T : mT} {D : mD} {w : Int32} (h : oN w 3) : wM l yL_begin wsL_begin ({ frames := 8, cells := 2, slots := 260, locals := 142 } : Room) G kT a0 o9 [.ref (a0), .int (w), .ref (o9)] T D 1 (T) (D) (oL kT False 0) (oL kT (1 = 0) (((nI 0) : Int32).toInt64)) := by
  refine wstart (cc := cL_begin) (maxL := 4) (hh := [(0, 9, 12, 13)]) (by decide) rfl (Nat.le_of_ble_eq_true rfl) (fun ad L K R I A Q N e0 HB h09 ho hP0 p e s m args below meth c Z hE9 X hT hE hW hO ls hl => ?_)
  subst h09
  obtain ⟨f0, rfl, -⟩ := hP0
  have X : CallFix p m c cL_begin 4 s args wsL_begin RL := X
  have hl : lv_has ls 4 [(0, .ref (ad 0 0)), (1, .int (w)), (2, .ref (o9))] := hl
  refine lv_aload_n X.1 X.2.1 dL_begin_0 rfl (lv_at hl 2 rfl) ?_
  refine lv_iconst (v := nI 0) X.1 X.2.1 dL_begin_1 (by decide) ?_
  refine lv_aload_n X.1 X.2.1 dL_begin_2 rfl (lv_at hl 0 rfl) ?_
  refine lv_iload_n X.1 X.2.1 dL_begin_3 rfl (lv_at hl 1 rfl) ?_
  refine cCV hE X hW (HB.mem lv_0) (pC_6 (HB.kn lv_0 rfl)) rfl (cb_begin_a l hst HB h) (cwV 1 X.2.2.2.2 gL_begin_X6_begin rfl rfl rfl (by decide +kernel) ⟨Nat.le_of_ble_eq_true rfl, Nat.le_of_ble_eq_true rfl⟩) rfl rfl hl.1 (Nat.le_of_ble_eq_true rfl) dL_begin_4 ⟨Nat.le_of_ble_eq_true rfl, Nat.le_of_ble_eq_true rfl⟩ (fun H locs q8 ce hW hsz hk hce hcv hcl => ?_)
  have hO := oK hO ho hk
  refine vx_catch X.2.2.2.1 [] ⟨0, 9, 12, 13⟩ [] hT (fun z hz => absurd hz List.not_mem_nil) (by decide) (by decide) (X.2.2.2.2 (.classLink RL 13 "java/lang/IndexOutOfBoundsException") (List.mem_cons_of_mem _ (List.mem_append_left _ (List.mem_append_left _ (List.mem_append_left _ (List.mem_append_left _ (List.mem_of_getElem? (i := 0) rfl))))))) (va_Nw.use rfl (hE.2.2.1 (.castable "java/lang/IndexOutOfBoundsException" "java/lang/IndexOutOfBoundsException") (by decide +kernel))) hce hcv hcl ?_
  refine lv_astore_n (lv' := [(3, .ref (q8)), (0, .ref (ad 0 0)), (1, .int (w)), (2, .ref (o9))]) X.1 X.2.1 dL_begin_12 rfl hl (by decide) rfl (fun ls hl => ?_)
  refine lv_iconst (v := nI 1) X.1 X.2.1 dL_begin_13 (by decide) ?_
  exact hE9 _ _ _ _ _ _ _ ad L K R I A Q N _ rfl (show _ ≤ 2 by decide) (show _ ≤ 260 by decide) hW ho hO ⟨f0, rfl, fun z => absurd z (by decide)⟩ HB rfl dL_begin_14

theorem wo_begin (l : Launch) (hst : l.stackTraces = false) {G : va_G} {kT : Nat → ClassId} {a0 o9 : Nat} {T : mT} {D : mD} (I : mI T) (J : mJD D) (w : Int32) : wO l yL_begin wsL_begin ({ frames := 8, cells := 2, slots := 260, locals := 142 } : Room) G kT a0 o9 [.ref a0, .int w, .ref o9] T D (sp_begin T D 0 w) := by
  by_cases h1 : oN w 3
  · rw [show sp_begin T D 0 w = no T D 1 from if_pos h1]; exact ww_begin_1 l hst h1
  · obtain ⟨w, hw, rfl⟩ := oN_in (by decide) h1
    rw [show sp_begin T D 0 (nI w) = (0, nI (T 7 (w)), u2 T 7 (w) 0, D) from (if_neg h1).trans (by rw [nI_clamp (by omega), show 0 + w = w by omega])]
    exact ww_begin l hst hw


set_option maxHeartbeats 4000000 in
set_option maxRecDepth 100000 in
theorem ww_empty_1 (l : Launch) (hst : l.stackTraces = false) {G : va_G} {kT : Nat → ClassId} {a0 o9 : Nat} {T : mT} {D : mD} {w : Int32} (h : oN w 3) : wM l yL_empty wsL_empty ({ frames := 8, cells := 2, slots := 260, locals := 142 } : Room) G kT a0 o9 [.ref (a0), .int (w), .ref (o9)] T D 1 (T) (D) (oL kT False 0) (oL kT (1 = 0) (((nI 0) : Int32).toInt64)) := by
  refine wstart (cc := cL_empty) (maxL := 4) (hh := [(0, 9, 12, 13)]) (by decide) rfl (Nat.le_of_ble_eq_true rfl) (fun ad L K R I A Q N e0 HB h09 ho hP0 p e s m args below meth c Z hE9 X hT hE hW hO ls hl => ?_)
  subst h09
  obtain ⟨f0, rfl, -⟩ := hP0
  have X : CallFix p m c cL_empty 4 s args wsL_empty RL := X
  have hl : lv_has ls 4 [(0, .ref (ad 0 0)), (1, .int (w)), (2, .ref (o9))] := hl
  refine lv_aload_n X.1 X.2.1 dL_empty_0 rfl (lv_at hl 2 rfl) ?_
  refine lv_iconst (v := nI 0) X.1 X.2.1 dL_empty_1 (by decide) ?_
  refine lv_aload_n X.1 X.2.1 dL_empty_2 rfl (lv_at hl 0 rfl) ?_
  refine lv_iload_n X.1 X.2.1 dL_empty_3 rfl (lv_at hl 1 rfl) ?_
  refine cCV hE X hW (HB.mem lv_0) (pC_6 (HB.kn lv_0 rfl)) rfl (cb_empty_a l hst HB h) (cwV 1 X.2.2.2.2 gL_empty_X6_empty rfl rfl rfl (by decide +kernel) ⟨Nat.le_of_ble_eq_true rfl, Nat.le_of_ble_eq_true rfl⟩) rfl rfl hl.1 (Nat.le_of_ble_eq_true rfl) dL_empty_4 ⟨Nat.le_of_ble_eq_true rfl, Nat.le_of_ble_eq_true rfl⟩ (fun H locs q8 ce hW hsz hk hce hcv hcl => ?_)
  have hO := oK hO ho hk
  refine vx_catch X.2.2.2.1 [] ⟨0, 9, 12, 13⟩ [] hT (fun z hz => absurd hz List.not_mem_nil) (by decide) (by decide) (X.2.2.2.2 (.classLink RL 13 "java/lang/IndexOutOfBoundsException") (List.mem_cons_of_mem _ (List.mem_append_left _ (List.mem_append_left _ (List.mem_append_left _ (List.mem_append_left _ (List.mem_of_getElem? (i := 0) rfl))))))) (va_Nw.use rfl (hE.2.2.1 (.castable "java/lang/IndexOutOfBoundsException" "java/lang/IndexOutOfBoundsException") (by decide +kernel))) hce hcv hcl ?_
  refine lv_astore_n (lv' := [(3, .ref (q8)), (0, .ref (ad 0 0)), (1, .int (w)), (2, .ref (o9))]) X.1 X.2.1 dL_empty_12 rfl hl (by decide) rfl (fun ls hl => ?_)
  refine lv_iconst (v := nI 1) X.1 X.2.1 dL_empty_13 (by decide) ?_
  exact hE9 _ _ _ _ _ _ _ ad L K R I A Q N _ rfl (show _ ≤ 2 by decide) (show _ ≤ 260 by decide) hW ho hO ⟨f0, rfl, fun z => absurd z (by decide)⟩ HB rfl dL_empty_14

set_option maxHeartbeats 4000000 in
set_option maxRecDepth 100000 in
theorem ww_empty (l : Launch) (hst : l.stackTraces = false) {G : va_G} {kT : Nat → ClassId} {a0 o9 : Nat} {T : mT} {D : mD} {w : Nat} (hw : w < 3) : wM l yL_empty wsL_empty ({ frames := 8, cells := 2, slots := 260, locals := 142 } : Room) G kT a0 o9 [.ref (a0), .int (nI (w)), .ref (o9)] T D 0 (u2 T 7 (3 + w) 0) (D) (oL kT False 0) (oL kT (0 = 0) (((nI (T 7 (3 + w))) : Int32).toInt64)) := by
  refine wstart (cc := cL_empty) (maxL := 4) (hh := [(0, 9, 12, 13)]) (by decide) rfl (Nat.le_of_ble_eq_true rfl) (fun ad L K R I A Q N e0 HB h09 ho hP0 p e s m args below meth c Z hE9 X hT hE hW hO ls hl => ?_)
  subst h09
  obtain ⟨f0, rfl, -⟩ := hP0
  have X : CallFix p m c cL_empty 4 s args wsL_empty RL := X
  have hl : lv_has ls 4 [(0, .ref (ad 0 0)), (1, .int (nI (w))), (2, .ref (o9))] := hl
  refine lv_aload_n X.1 X.2.1 dL_empty_0 rfl (lv_at hl 2 rfl) ?_
  refine lv_iconst (v := nI 0) X.1 X.2.1 dL_empty_1 (by decide) ?_
  refine lv_aload_n X.1 X.2.1 dL_empty_2 rfl (lv_at hl 0 rfl) ?_
  refine lv_iload_n X.1 X.2.1 dL_empty_3 rfl (lv_at hl 1 rfl) ?_
  refine cFi X hW (HB.mem lv_0) (pC_6 (HB.kn lv_0 rfl)) rfl (co_empty l HB hw) (cwV 1 X.2.2.2.2 gL_empty_X6_empty rfl rfl rfl (by decide +kernel) ⟨Nat.le_of_ble_eq_true rfl, Nat.le_of_ble_eq_true rfl⟩) rfl rfl hl.1 (Nat.le_of_ble_eq_true rfl) dL_empty_4 ⟨Nat.le_of_ble_eq_true rfl, Nat.le_of_ble_eq_true rfl⟩ (fun H locs hW hsz hk => ?_)
  have hO := oK hO ho hk
  refine lv_i2l (v := (nI (T 7 (3 + w))).toInt64) X.1 X.2.1 dL_empty_7 rfl ?_
  refine wst X hW hO ho dL_empty_8 (fun H locs hW hO => ?_)
  refine lv_goto (tgt := 15) X.1 X.2.1 dL_empty_9 (by decide) ?_
  refine lv_iconst (v := nI 0) X.1 X.2.1 dL_empty_15 (by decide) ?_
  exact hE9 _ _ _ _ _ _ _ ad L K _ _ _ _ N _ rfl (show _ ≤ 2 by decide) (show _ ≤ 260 by decide) hW ho hO ⟨_, rfl, fun _ => if_pos rfl⟩ (HB.zeroW (by omega)) rfl dL_empty_16

theorem wo_empty (l : Launch) (hst : l.stackTraces = false) {G : va_G} {kT : Nat → ClassId} {a0 o9 : Nat} {T : mT} {D : mD} (I : mI T) (J : mJD D) (w : Int32) : wO l yL_empty wsL_empty ({ frames := 8, cells := 2, slots := 260, locals := 142 } : Room) G kT a0 o9 [.ref a0, .int w, .ref o9] T D (sp_begin T D 3 w) := by
  by_cases h1 : oN w 3
  · rw [show sp_begin T D 3 w = no T D 1 from if_pos h1]; exact ww_empty_1 l hst h1
  · obtain ⟨w, hw, rfl⟩ := oN_in (by decide) h1
    rw [show sp_begin T D 3 (nI w) = (0, nI (T 7 (3 + w)), u2 T 7 (3 + w) 0, D) from (if_neg h1).trans (by rw [nI_clamp (by omega), show 3 + w = 3 + w by omega])]
    exact ww_empty l hst hw


set_option maxHeartbeats 4000000 in
set_option maxRecDepth 100000 in
theorem ww_size (l : Launch) (hst : l.stackTraces = false) {G : va_G} {kT : Nat → ClassId} {a0 o9 : Nat} {T : mT} {D : mD} {w : Nat} (hw : w < 3) : wM l yL_size wsL_size ({ frames := 8, cells := 2, slots := 260, locals := 142 } : Room) G kT a0 o9 [.ref (a0), .int (nI (w)), .ref (o9)] T D 0 (T) (D) (oL kT False 0) (oL kT (0 = 0) (((nI (T 7 (w))) : Int32).toInt64)) := by
  refine wstart (cc := cL_size) (maxL := 4) (hh := [(0, 9, 12, 13)]) (by decide) rfl (Nat.le_of_ble_eq_true rfl) (fun ad L K R I A Q N e0 HB h09 ho hP0 p e s m args below meth c Z hE9 X hT hE hW hO ls hl => ?_)
  subst h09
  obtain ⟨f0, rfl, -⟩ := hP0
  have X : CallFix p m c cL_size 4 s args wsL_size RL := X
  have hl : lv_has ls 4 [(0, .ref (ad 0 0)), (1, .int (nI (w))), (2, .ref (o9))] := hl
  refine lv_aload_n X.1 X.2.1 dL_size_0 rfl (lv_at hl 2 rfl) ?_
  refine lv_iconst (v := nI 0) X.1 X.2.1 dL_size_1 (by decide) ?_
  refine lv_aload_n X.1 X.2.1 dL_size_2 rfl (lv_at hl 0 rfl) ?_
  refine lv_iload_n X.1 X.2.1 dL_size_3 rfl (lv_at hl 1 rfl) ?_
  refine cFi X hW (HB.mem lv_0) (pC_6 (HB.kn lv_0 rfl)) rfl (co_size l HB hw) (cwV 1 X.2.2.2.2 gL_size_X6_size rfl rfl rfl (by decide +kernel) ⟨Nat.le_of_ble_eq_true rfl, Nat.le_of_ble_eq_true rfl⟩) rfl rfl hl.1 (Nat.le_of_ble_eq_true rfl) dL_size_4 ⟨Nat.le_of_ble_eq_true rfl, Nat.le_of_ble_eq_true rfl⟩ (fun H locs hW hsz hk => ?_)
  have hO := oK hO ho hk
  refine lv_i2l (v := (nI (T 7 w)).toInt64) X.1 X.2.1 dL_size_7 rfl ?_
  refine wst X hW hO ho dL_size_8 (fun H locs hW hO => ?_)
  refine lv_goto (tgt := 15) X.1 X.2.1 dL_size_9 (by decide) ?_
  refine lv_iconst (v := nI 0) X.1 X.2.1 dL_size_15 (by decide) ?_
  exact hE9 _ _ _ _ _ _ _ ad L K _ _ _ _ N _ rfl (show _ ≤ 2 by decide) (show _ ≤ 260 by decide) hW ho hO ⟨_, rfl, fun _ => if_pos rfl⟩ (HB) rfl dL_size_16

set_option maxHeartbeats 4000000 in
set_option maxRecDepth 100000 in
theorem ww_size_1 (l : Launch) (hst : l.stackTraces = false) {G : va_G} {kT : Nat → ClassId} {a0 o9 : Nat} {T : mT} {D : mD} {w : Int32} (h : oN w 3) : wM l yL_size wsL_size ({ frames := 8, cells := 2, slots := 260, locals := 142 } : Room) G kT a0 o9 [.ref (a0), .int (w), .ref (o9)] T D 1 (T) (D) (oL kT False 0) (oL kT (1 = 0) (((nI 0) : Int32).toInt64)) := by
  refine wstart (cc := cL_size) (maxL := 4) (hh := [(0, 9, 12, 13)]) (by decide) rfl (Nat.le_of_ble_eq_true rfl) (fun ad L K R I A Q N e0 HB h09 ho hP0 p e s m args below meth c Z hE9 X hT hE hW hO ls hl => ?_)
  subst h09
  obtain ⟨f0, rfl, -⟩ := hP0
  have X : CallFix p m c cL_size 4 s args wsL_size RL := X
  have hl : lv_has ls 4 [(0, .ref (ad 0 0)), (1, .int (w)), (2, .ref (o9))] := hl
  refine lv_aload_n X.1 X.2.1 dL_size_0 rfl (lv_at hl 2 rfl) ?_
  refine lv_iconst (v := nI 0) X.1 X.2.1 dL_size_1 (by decide) ?_
  refine lv_aload_n X.1 X.2.1 dL_size_2 rfl (lv_at hl 0 rfl) ?_
  refine lv_iload_n X.1 X.2.1 dL_size_3 rfl (lv_at hl 1 rfl) ?_
  refine cCV hE X hW (HB.mem lv_0) (pC_6 (HB.kn lv_0 rfl)) rfl (cb_size_a l hst HB h) (cwV 1 X.2.2.2.2 gL_size_X6_size rfl rfl rfl (by decide +kernel) ⟨Nat.le_of_ble_eq_true rfl, Nat.le_of_ble_eq_true rfl⟩) rfl rfl hl.1 (Nat.le_of_ble_eq_true rfl) dL_size_4 ⟨Nat.le_of_ble_eq_true rfl, Nat.le_of_ble_eq_true rfl⟩ (fun H locs q8 ce hW hsz hk hce hcv hcl => ?_)
  have hO := oK hO ho hk
  refine vx_catch X.2.2.2.1 [] ⟨0, 9, 12, 13⟩ [] hT (fun z hz => absurd hz List.not_mem_nil) (by decide) (by decide) (X.2.2.2.2 (.classLink RL 13 "java/lang/IndexOutOfBoundsException") (List.mem_cons_of_mem _ (List.mem_append_left _ (List.mem_append_left _ (List.mem_append_left _ (List.mem_append_left _ (List.mem_of_getElem? (i := 0) rfl))))))) (va_Nw.use rfl (hE.2.2.1 (.castable "java/lang/IndexOutOfBoundsException" "java/lang/IndexOutOfBoundsException") (by decide +kernel))) hce hcv hcl ?_
  refine lv_astore_n (lv' := [(3, .ref (q8)), (0, .ref (ad 0 0)), (1, .int (w)), (2, .ref (o9))]) X.1 X.2.1 dL_size_12 rfl hl (by decide) rfl (fun ls hl => ?_)
  refine lv_iconst (v := nI 1) X.1 X.2.1 dL_size_13 (by decide) ?_
  exact hE9 _ _ _ _ _ _ _ ad L K R I A Q N _ rfl (show _ ≤ 2 by decide) (show _ ≤ 260 by decide) hW ho hO ⟨f0, rfl, fun z => absurd z (by decide)⟩ HB rfl dL_size_14

theorem wo_size (l : Launch) (hst : l.stackTraces = false) {G : va_G} {kT : Nat → ClassId} {a0 o9 : Nat} {T : mT} {D : mD} (I : mI T) (J : mJD D) (w : Int32) : wO l yL_size wsL_size ({ frames := 8, cells := 2, slots := 260, locals := 142 } : Room) G kT a0 o9 [.ref a0, .int w, .ref o9] T D (sp_size T D 0 w) := by
  by_cases h1 : oN w 3
  · rw [show sp_size T D 0 w = no T D 1 from if_pos h1]; exact ww_size_1 l hst h1
  · obtain ⟨w, hw, rfl⟩ := oN_in (by decide) h1
    rw [show sp_size T D 0 (nI w) = (0, nI (T 7 (w)), T, D) from (if_neg h1).trans (by rw [nI_clamp (by omega), show 0 + w = w by omega])]
    exact ww_size l hst hw


set_option maxHeartbeats 4000000 in
set_option maxRecDepth 100000 in
theorem ww_arraySize_1 (l : Launch) (hst : l.stackTraces = false) {G : va_G} {kT : Nat → ClassId} {a0 o9 : Nat} {T : mT} {D : mD} {w : Int32} (h : oN w 3) : wM l yL_arraySize wsL_arraySize ({ frames := 8, cells := 2, slots := 260, locals := 142 } : Room) G kT a0 o9 [.ref (a0), .int (w), .ref (o9)] T D 1 (T) (D) (oL kT False 0) (oL kT (1 = 0) (((nI 0) : Int32).toInt64)) := by
  refine wstart (cc := cL_arraySize) (maxL := 4) (hh := [(0, 9, 12, 13)]) (by decide) rfl (Nat.le_of_ble_eq_true rfl) (fun ad L K R I A Q N e0 HB h09 ho hP0 p e s m args below meth c Z hE9 X hT hE hW hO ls hl => ?_)
  subst h09
  obtain ⟨f0, rfl, -⟩ := hP0
  have X : CallFix p m c cL_arraySize 4 s args wsL_arraySize RL := X
  have hl : lv_has ls 4 [(0, .ref (ad 0 0)), (1, .int (w)), (2, .ref (o9))] := hl
  refine lv_aload_n X.1 X.2.1 dL_arraySize_0 rfl (lv_at hl 2 rfl) ?_
  refine lv_iconst (v := nI 0) X.1 X.2.1 dL_arraySize_1 (by decide) ?_
  refine lv_aload_n X.1 X.2.1 dL_arraySize_2 rfl (lv_at hl 0 rfl) ?_
  refine lv_iload_n X.1 X.2.1 dL_arraySize_3 rfl (lv_at hl 1 rfl) ?_
  refine cCV hE X hW (HB.mem lv_0) (pC_6 (HB.kn lv_0 rfl)) rfl (cb_arraySize_a l hst HB h) (cwV 1 X.2.2.2.2 gL_arraySize_X6_arraySize rfl rfl rfl (by decide +kernel) ⟨Nat.le_of_ble_eq_true rfl, Nat.le_of_ble_eq_true rfl⟩) rfl rfl hl.1 (Nat.le_of_ble_eq_true rfl) dL_arraySize_4 ⟨Nat.le_of_ble_eq_true rfl, Nat.le_of_ble_eq_true rfl⟩ (fun H locs q8 ce hW hsz hk hce hcv hcl => ?_)
  have hO := oK hO ho hk
  refine vx_catch X.2.2.2.1 [] ⟨0, 9, 12, 13⟩ [] hT (fun z hz => absurd hz List.not_mem_nil) (by decide) (by decide) (X.2.2.2.2 (.classLink RL 13 "java/lang/IndexOutOfBoundsException") (List.mem_cons_of_mem _ (List.mem_append_left _ (List.mem_append_left _ (List.mem_append_left _ (List.mem_append_left _ (List.mem_of_getElem? (i := 0) rfl))))))) (va_Nw.use rfl (hE.2.2.1 (.castable "java/lang/IndexOutOfBoundsException" "java/lang/IndexOutOfBoundsException") (by decide +kernel))) hce hcv hcl ?_
  refine lv_astore_n (lv' := [(3, .ref (q8)), (0, .ref (ad 0 0)), (1, .int (w)), (2, .ref (o9))]) X.1 X.2.1 dL_arraySize_12 rfl hl (by decide) rfl (fun ls hl => ?_)
  refine lv_iconst (v := nI 1) X.1 X.2.1 dL_arraySize_13 (by decide) ?_
  exact hE9 _ _ _ _ _ _ _ ad L K R I A Q N _ rfl (show _ ≤ 2 by decide) (show _ ≤ 260 by decide) hW ho hO ⟨f0, rfl, fun z => absurd z (by decide)⟩ HB rfl dL_arraySize_14

set_option maxHeartbeats 4000000 in
set_option maxRecDepth 100000 in
theorem ww_arraySize (l : Launch) (hst : l.stackTraces = false) {G : va_G} {kT : Nat → ClassId} {a0 o9 : Nat} {T : mT} {D : mD} {w : Nat} (hw : w < 3) : wM l yL_arraySize wsL_arraySize ({ frames := 8, cells := 2, slots := 260, locals := 142 } : Room) G kT a0 o9 [.ref (a0), .int (nI (w)), .ref (o9)] T D 0 (T) (D) (oL kT False 0) (oL kT (0 = 0) (((nI (T 7 (3 + w))) : Int32).toInt64)) := by
  refine wstart (cc := cL_arraySize) (maxL := 4) (hh := [(0, 9, 12, 13)]) (by decide) rfl (Nat.le_of_ble_eq_true rfl) (fun ad L K R I A Q N e0 HB h09 ho hP0 p e s m args below meth c Z hE9 X hT hE hW hO ls hl => ?_)
  subst h09
  obtain ⟨f0, rfl, -⟩ := hP0
  have X : CallFix p m c cL_arraySize 4 s args wsL_arraySize RL := X
  have hl : lv_has ls 4 [(0, .ref (ad 0 0)), (1, .int (nI (w))), (2, .ref (o9))] := hl
  refine lv_aload_n X.1 X.2.1 dL_arraySize_0 rfl (lv_at hl 2 rfl) ?_
  refine lv_iconst (v := nI 0) X.1 X.2.1 dL_arraySize_1 (by decide) ?_
  refine lv_aload_n X.1 X.2.1 dL_arraySize_2 rfl (lv_at hl 0 rfl) ?_
  refine lv_iload_n X.1 X.2.1 dL_arraySize_3 rfl (lv_at hl 1 rfl) ?_
  refine cFi X hW (HB.mem lv_0) (pC_6 (HB.kn lv_0 rfl)) rfl (co_arraySize l HB hw) (cwV 1 X.2.2.2.2 gL_arraySize_X6_arraySize rfl rfl rfl (by decide +kernel) ⟨Nat.le_of_ble_eq_true rfl, Nat.le_of_ble_eq_true rfl⟩) rfl rfl hl.1 (Nat.le_of_ble_eq_true rfl) dL_arraySize_4 ⟨Nat.le_of_ble_eq_true rfl, Nat.le_of_ble_eq_true rfl⟩ (fun H locs hW hsz hk => ?_)
  have hO := oK hO ho hk
  refine lv_i2l (v := (nI (T 7 (3 + w))).toInt64) X.1 X.2.1 dL_arraySize_7 rfl ?_
  refine wst X hW hO ho dL_arraySize_8 (fun H locs hW hO => ?_)
  refine lv_goto (tgt := 15) X.1 X.2.1 dL_arraySize_9 (by decide) ?_
  refine lv_iconst (v := nI 0) X.1 X.2.1 dL_arraySize_15 (by decide) ?_
  exact hE9 _ _ _ _ _ _ _ ad L K _ _ _ _ N _ rfl (show _ ≤ 2 by decide) (show _ ≤ 260 by decide) hW ho hO ⟨_, rfl, fun _ => if_pos rfl⟩ (HB) rfl dL_arraySize_16

theorem wo_arraySize (l : Launch) (hst : l.stackTraces = false) {G : va_G} {kT : Nat → ClassId} {a0 o9 : Nat} {T : mT} {D : mD} (I : mI T) (J : mJD D) (w : Int32) : wO l yL_arraySize wsL_arraySize ({ frames := 8, cells := 2, slots := 260, locals := 142 } : Room) G kT a0 o9 [.ref a0, .int w, .ref o9] T D (sp_size T D 3 w) := by
  by_cases h1 : oN w 3
  · rw [show sp_size T D 3 w = no T D 1 from if_pos h1]; exact ww_arraySize_1 l hst h1
  · obtain ⟨w, hw, rfl⟩ := oN_in (by decide) h1
    rw [show sp_size T D 3 (nI w) = (0, nI (T 7 (3 + w)), T, D) from (if_neg h1).trans (by rw [nI_clamp (by omega), show 3 + w = 3 + w by omega])]
    exact ww_arraySize l hst hw


set_option maxHeartbeats 4000000 in
set_option maxRecDepth 100000 in
theorem ww_pour_1a (l : Launch) (hst : l.stackTraces = false) {G : va_G} {kT : Nat → ClassId} {a0 o9 : Nat} {T : mT} {D : mD} {w v : Int32} (h : oN w 3) : wM l yL_pour wsL_pour ({ frames := 9, cells := 2, slots := 260, locals := 164 } : Room) G kT a0 o9 [.ref (a0), .int (w), .int (v), .ref (o9)] T D 1 (T) (D) (oL kT False 0) (oL kT (1 = 0) (((nI 0) : Int32).toInt64)) := by
  refine wstart (cc := cL_pour) (maxL := 5) (hh := [(0, 10, 13, 13), (0, 10, 17, 50)]) (by decide) rfl (Nat.le_of_ble_eq_true rfl) (fun ad L K R I A Q N e0 HB h09 ho hP0 p e s m args below meth c Z hE9 X hT hE hW hO ls hl => ?_)
  subst h09
  obtain ⟨f0, rfl, -⟩ := hP0
  have X : CallFix p m c cL_pour 5 s args wsL_pour RL := X
  have hl : lv_has ls 5 [(0, .ref (ad 0 0)), (1, .int (w)), (2, .int (v)), (3, .ref (o9))] := hl
  refine lv_aload_n X.1 X.2.1 dL_pour_0 rfl (lv_at hl 3 rfl) ?_
  refine lv_iconst (v := nI 0) X.1 X.2.1 dL_pour_1 (by decide) ?_
  refine lv_aload_n X.1 X.2.1 dL_pour_2 rfl (lv_at hl 0 rfl) ?_
  refine lv_iload_n X.1 X.2.1 dL_pour_3 rfl (lv_at hl 1 rfl) ?_
  refine lv_iload_n X.1 X.2.1 dL_pour_4 rfl (lv_at hl 2 rfl) ?_
  refine cCV hE X hW (HB.mem lv_0) (pC_6 (HB.kn lv_0 rfl)) rfl (cb_pour_a l hst HB h) (cwV 2 X.2.2.2.2 gL_pour_X6_pour rfl rfl rfl (by decide +kernel) ⟨Nat.le_of_ble_eq_true rfl, Nat.le_of_ble_eq_true rfl⟩) rfl rfl hl.1 (Nat.le_of_ble_eq_true rfl) dL_pour_5 ⟨Nat.le_of_ble_eq_true rfl, Nat.le_of_ble_eq_true rfl⟩ (fun H locs q8 ce hW hsz hk hce hcv hcl => ?_)
  have hO := oK hO ho hk
  refine vx_catch X.2.2.2.1 [] ⟨0, 10, 13, 13⟩ [⟨0, 10, 17, 50⟩] hT (fun z hz => absurd hz List.not_mem_nil) (by decide) (by decide) (X.2.2.2.2 (.classLink RL 13 "java/lang/IndexOutOfBoundsException") (List.mem_cons_of_mem _ (List.mem_append_left _ (List.mem_append_left _ (List.mem_append_left _ (List.mem_append_left _ (List.mem_append_left _ (List.mem_append_left _ (List.mem_of_getElem? (i := 0) rfl))))))))) (va_Nw.use rfl (hE.2.2.1 (.castable "java/lang/IndexOutOfBoundsException" "java/lang/IndexOutOfBoundsException") (by decide +kernel))) hce hcv hcl ?_
  refine lv_astore (lv' := [(4, .ref (q8)), (0, .ref (ad 0 0)), (1, .int (w)), (2, .int (v)), (3, .ref (o9))]) X.1 X.2.1 dL_pour_13 hl (by decide) rfl (fun ls hl => ?_)
  refine lv_iconst (v := nI 1) X.1 X.2.1 dL_pour_15 (by decide) ?_
  exact hE9 _ _ _ _ _ _ _ ad L K R I A Q N _ rfl (show _ ≤ 2 by decide) (show _ ≤ 260 by decide) hW ho hO ⟨f0, rfl, fun z => absurd z (by decide)⟩ HB rfl dL_pour_16

set_option maxHeartbeats 4000000 in
set_option maxRecDepth 100000 in
theorem ww_pour (l : Launch) (hst : l.stackTraces = false) {G : va_G} {kT : Nat → ClassId} {a0 o9 : Nat} {T : mT} {D : mD} (I : mI T) {w v : Nat} (hw : w < 3) (hv : v < 3) (h : T 7 (v) + T 7 (3 + w) ≤ 256) : wM l yL_pour wsL_pour ({ frames := 9, cells := 2, slots := 260, locals := 164 } : Room) G kT a0 o9 [.ref (a0), .int (nI (w)), .int (nI (v)), .ref (o9)] T D 0 (adT T (v) (T 7 (3 + w))) (adD T D (v) (fun i => D 6 (256 * (3 + w) + i) &&& nI 255) (T 7 (3 + w))) (oL kT False 0) (oL kT (0 = 0) (((nI (T 7 (v) + T 7 (3 + w))) : Int32).toInt64)) := by
  refine wstart (cc := cL_pour) (maxL := 5) (hh := [(0, 10, 13, 13), (0, 10, 17, 50)]) (by decide) rfl (Nat.le_of_ble_eq_true rfl) (fun ad L K R I A Q N e0 HB h09 ho hP0 p e s m args below meth c Z hE9 X hT hE hW hO ls hl => ?_)
  subst h09
  obtain ⟨f0, rfl, -⟩ := hP0
  have X : CallFix p m c cL_pour 5 s args wsL_pour RL := X
  have hl : lv_has ls 5 [(0, .ref (ad 0 0)), (1, .int (nI (w))), (2, .int (nI (v))), (3, .ref (o9))] := hl
  refine lv_aload_n X.1 X.2.1 dL_pour_0 rfl (lv_at hl 3 rfl) ?_
  refine lv_iconst (v := nI 0) X.1 X.2.1 dL_pour_1 (by decide) ?_
  refine lv_aload_n X.1 X.2.1 dL_pour_2 rfl (lv_at hl 0 rfl) ?_
  refine lv_iload_n X.1 X.2.1 dL_pour_3 rfl (lv_at hl 1 rfl) ?_
  refine lv_iload_n X.1 X.2.1 dL_pour_4 rfl (lv_at hl 2 rfl) ?_
  refine cFi X hW (HB.mem lv_0) (pC_6 (HB.kn lv_0 rfl)) rfl (co_pour l HB hw hv h) (cwV 2 X.2.2.2.2 gL_pour_X6_pour rfl rfl rfl (by decide +kernel) ⟨Nat.le_of_ble_eq_true rfl, Nat.le_of_ble_eq_true rfl⟩) rfl rfl hl.1 (Nat.le_of_ble_eq_true rfl) dL_pour_5 ⟨Nat.le_of_ble_eq_true rfl, Nat.le_of_ble_eq_true rfl⟩ (fun H locs hW hsz hk => ?_)
  have hO := oK hO ho hk
  refine lv_i2l (v := (nI (T 7 v + T 7 (3 + w))).toInt64) X.1 X.2.1 dL_pour_8 rfl ?_
  refine wst X hW hO ho dL_pour_9 (fun H locs hW hO => ?_)
  refine lv_goto (tgt := 21) X.1 X.2.1 dL_pour_10 (by decide) ?_
  refine lv_iconst (v := nI 0) X.1 X.2.1 dL_pour_21 (by decide) ?_
  exact hE9 _ _ _ _ _ _ _ ad L K _ _ _ _ N _ rfl (show _ ≤ 2 by decide) (show _ ≤ 260 by decide) hW ho hO ⟨_, rfl, fun _ => if_pos rfl⟩ (HB.addW (a := v) (by omega) h (fun i hi => by rw [HB.wA (by omega) (by omega), Nat.zero_add]; exact (HB.md.2.2.1 _).symm) (fun _ _ => and_255 _)) rfl dL_pour_22

set_option maxHeartbeats 4000000 in
set_option maxRecDepth 100000 in
theorem ww_pour_1b (l : Launch) (hst : l.stackTraces = false) {G : va_G} {kT : Nat → ClassId} {a0 o9 : Nat} {T : mT} {D : mD} {w : Nat} {v : Int32} (hw : w < 3) (h : oN v 3) : wM l yL_pour wsL_pour ({ frames := 9, cells := 2, slots := 260, locals := 164 } : Room) G kT a0 o9 [.ref (a0), .int (nI (w)), .int (v), .ref (o9)] T D 1 (T) (D) (oL kT False 0) (oL kT (1 = 0) (((nI 0) : Int32).toInt64)) := by
  refine wstart (cc := cL_pour) (maxL := 5) (hh := [(0, 10, 13, 13), (0, 10, 17, 50)]) (by decide) rfl (Nat.le_of_ble_eq_true rfl) (fun ad L K R I A Q N e0 HB h09 ho hP0 p e s m args below meth c Z hE9 X hT hE hW hO ls hl => ?_)
  subst h09
  obtain ⟨f0, rfl, -⟩ := hP0
  have X : CallFix p m c cL_pour 5 s args wsL_pour RL := X
  have hl : lv_has ls 5 [(0, .ref (ad 0 0)), (1, .int (nI (w))), (2, .int (v)), (3, .ref (o9))] := hl
  refine lv_aload_n X.1 X.2.1 dL_pour_0 rfl (lv_at hl 3 rfl) ?_
  refine lv_iconst (v := nI 0) X.1 X.2.1 dL_pour_1 (by decide) ?_
  refine lv_aload_n X.1 X.2.1 dL_pour_2 rfl (lv_at hl 0 rfl) ?_
  refine lv_iload_n X.1 X.2.1 dL_pour_3 rfl (lv_at hl 1 rfl) ?_
  refine lv_iload_n X.1 X.2.1 dL_pour_4 rfl (lv_at hl 2 rfl) ?_
  refine cCV hE X hW (HB.mem lv_0) (pC_6 (HB.kn lv_0 rfl)) rfl (cb_pour_b l hst HB hw h) (cwV 2 X.2.2.2.2 gL_pour_X6_pour rfl rfl rfl (by decide +kernel) ⟨Nat.le_of_ble_eq_true rfl, Nat.le_of_ble_eq_true rfl⟩) rfl rfl hl.1 (Nat.le_of_ble_eq_true rfl) dL_pour_5 ⟨Nat.le_of_ble_eq_true rfl, Nat.le_of_ble_eq_true rfl⟩ (fun H locs q8 ce hW hsz hk hce hcv hcl => ?_)
  have hO := oK hO ho hk
  refine vx_catch X.2.2.2.1 [] ⟨0, 10, 13, 13⟩ [⟨0, 10, 17, 50⟩] hT (fun z hz => absurd hz List.not_mem_nil) (by decide) (by decide) (X.2.2.2.2 (.classLink RL 13 "java/lang/IndexOutOfBoundsException") (List.mem_cons_of_mem _ (List.mem_append_left _ (List.mem_append_left _ (List.mem_append_left _ (List.mem_append_left _ (List.mem_append_left _ (List.mem_append_left _ (List.mem_of_getElem? (i := 0) rfl))))))))) (va_Nw.use rfl (hE.2.2.1 (.castable "java/lang/IndexOutOfBoundsException" "java/lang/IndexOutOfBoundsException") (by decide +kernel))) hce hcv hcl ?_
  refine lv_astore (lv' := [(4, .ref (q8)), (0, .ref (ad 0 0)), (1, .int (nI (w))), (2, .int (v)), (3, .ref (o9))]) X.1 X.2.1 dL_pour_13 hl (by decide) rfl (fun ls hl => ?_)
  refine lv_iconst (v := nI 1) X.1 X.2.1 dL_pour_15 (by decide) ?_
  exact hE9 _ _ _ _ _ _ _ ad L K R I A Q N _ rfl (show _ ≤ 2 by decide) (show _ ≤ 260 by decide) hW ho hO ⟨f0, rfl, fun z => absurd z (by decide)⟩ HB rfl dL_pour_16

set_option maxHeartbeats 4000000 in
set_option maxRecDepth 100000 in
theorem ww_pour_3 (l : Launch) (hst : l.stackTraces = false) {G : va_G} {kT : Nat → ClassId} {a0 o9 : Nat} {T : mT} {D : mD} (I : mI T) {w v : Nat} (hw : w < 3) (hv : v < 3) (h : 256 < T 7 (v) + T 7 (3 + w)) : wM l yL_pour wsL_pour ({ frames := 9, cells := 2, slots := 260, locals := 164 } : Room) G kT a0 o9 [.ref (a0), .int (nI (w)), .int (nI (v)), .ref (o9)] T D 2 (T) (D) (oL kT False 0) (oL kT (2 = 0) (((nI 0) : Int32).toInt64)) := by
  refine wstart (cc := cL_pour) (maxL := 5) (hh := [(0, 10, 13, 13), (0, 10, 17, 50)]) (by decide) rfl (Nat.le_of_ble_eq_true rfl) (fun ad L K R I A Q N e0 HB h09 ho hP0 p e s m args below meth c Z hE9 X hT hE hW hO ls hl => ?_)
  subst h09
  obtain ⟨f0, rfl, -⟩ := hP0
  have X : CallFix p m c cL_pour 5 s args wsL_pour RL := X
  have hl : lv_has ls 5 [(0, .ref (ad 0 0)), (1, .int (nI (w))), (2, .int (nI (v))), (3, .ref (o9))] := hl
  refine lv_aload_n X.1 X.2.1 dL_pour_0 rfl (lv_at hl 3 rfl) ?_
  refine lv_iconst (v := nI 0) X.1 X.2.1 dL_pour_1 (by decide) ?_
  refine lv_aload_n X.1 X.2.1 dL_pour_2 rfl (lv_at hl 0 rfl) ?_
  refine lv_iload_n X.1 X.2.1 dL_pour_3 rfl (lv_at hl 1 rfl) ?_
  refine lv_iload_n X.1 X.2.1 dL_pour_4 rfl (lv_at hl 2 rfl) ?_
  refine cCV hE X hW (HB.mem lv_0) (pC_6 (HB.kn lv_0 rfl)) rfl (cb_pour_c l hst HB hw hv h) (cwV 2 X.2.2.2.2 gL_pour_X6_pour rfl rfl rfl (by decide +kernel) ⟨Nat.le_of_ble_eq_true rfl, Nat.le_of_ble_eq_true rfl⟩) rfl rfl hl.1 (Nat.le_of_ble_eq_true rfl) dL_pour_5 ⟨Nat.le_of_ble_eq_true rfl, Nat.le_of_ble_eq_true rfl⟩ (fun H locs q8 ce hW hsz hk hce hcv hcl => ?_)
  have hO := oK hO ho hk
  refine vx_catch X.2.2.2.1 [⟨0, 10, 13, 13⟩] ⟨0, 10, 17, 50⟩ [] hT (List.forall_mem_cons.mpr ⟨Or.inr ⟨by decide, "java/lang/IndexOutOfBoundsException", X.2.2.2.2 (.classLink RL 13 "java/lang/IndexOutOfBoundsException") (List.mem_cons_of_mem _ (List.mem_append_left _ (List.mem_append_left _ (List.mem_append_left _ (List.mem_append_left _ (List.mem_append_left _ (List.mem_append_left _ (List.mem_of_getElem? (i := 0) rfl)))))))), hE.2.2.2.2 ("java/lang/IllegalStateException", "java/lang/IndexOutOfBoundsException") (by decide +kernel)⟩, (fun z hz => absurd hz List.not_mem_nil)⟩) (by decide) (by decide) (X.2.2.2.2 (.classLink RL 50 "java/lang/IllegalStateException") (List.mem_cons_of_mem _ (List.mem_append_left _ (List.mem_append_left _ (List.mem_append_left _ (List.mem_append_left _ (List.mem_append_left _ (List.mem_append_left _ (List.mem_of_getElem? (i := 1) rfl))))))))) (va_Nw.use rfl (hE.2.2.1 (.castable "java/lang/IllegalStateException" "java/lang/IllegalStateException") (by decide +kernel))) hce hcv hcl ?_
  refine lv_astore (lv' := [(4, .ref (q8)), (0, .ref (ad 0 0)), (1, .int (nI (w))), (2, .int (nI (v))), (3, .ref (o9))]) X.1 X.2.1 dL_pour_17 hl (by decide) rfl (fun ls hl => ?_)
  refine lv_iconst (v := nI 2) X.1 X.2.1 dL_pour_19 (by decide) ?_
  exact hE9 _ _ _ _ _ _ _ ad L K R I A Q N _ rfl (show _ ≤ 2 by decide) (show _ ≤ 260 by decide) hW ho hO ⟨f0, rfl, fun z => absurd z (by decide)⟩ HB rfl dL_pour_20

theorem wo_pour (l : Launch) (hst : l.stackTraces = false) {G : va_G} {kT : Nat → ClassId} {a0 o9 : Nat} {T : mT} {D : mD} (I : mI T) (J : mJD D) (w v : Int32) : wO l yL_pour wsL_pour ({ frames := 9, cells := 2, slots := 260, locals := 164 } : Room) G kT a0 o9 [.ref a0, .int w, .int v, .ref o9] T D (sp_pour T D w v) := by
  by_cases h1 : oN w 3
  · rw [show sp_pour T D w v = no T D 1 from if_pos (Or.inl h1)]; exact ww_pour_1a l hst h1
  · obtain ⟨w, hw, rfl⟩ := oN_in (by decide) h1
    by_cases h2 : oN v 3
    · rw [show sp_pour T D (nI w) v = no T D 1 from if_pos (Or.inr h2)]; exact ww_pour_1b l hst hw h2
    · obtain ⟨v, hv, rfl⟩ := oN_in (by decide) h2
      have hc : (nI w).toNatClampNeg = w := nI_clamp (by omega)
      have hc2 : (nI v).toNatClampNeg = v := nI_clamp (by omega)
      have hno : ¬ (oN (nI w) 3 ∨ oN (nI v) 3) := fun z => z.elim h1 h2
      by_cases h3 : 256 < T 7 (v) + T 7 (3 + w)
      · rw [show sp_pour T D (nI w) (nI v) = no T D 2 from (if_neg hno).trans (if_pos (by rw [hc, hc2]; exact h3))]; exact ww_pour_3 l hst I hw hv h3
      · rw [show sp_pour T D (nI w) (nI v) = sk_pour T D (3 + w) (v) from (if_neg hno).trans ((if_neg (by rw [hc, hc2]; exact h3)).trans (by rw [hc, hc2]))]
        exact ww_pour l hst I hw hv (Nat.not_lt.mp h3)


set_option maxHeartbeats 4000000 in
set_option maxRecDepth 100000 in
theorem ww_pourOver (l : Launch) (hst : l.stackTraces = false) {G : va_G} {kT : Nat → ClassId} {a0 o9 : Nat} {T : mT} {D : mD} (I : mI T) {w v : Nat} (hw : w < 3) (hv : v < 3) (hwv : w ≠ v) (h : T 7 (3 + v) + T 7 (3 + w) ≤ 256) : wM l yL_pourOver wsL_pourOver ({ frames := 9, cells := 2, slots := 260, locals := 166 } : Room) G kT a0 o9 [.ref (a0), .int (nI (w)), .int (nI (v)), .ref (o9)] T D 0 (adT T (3 + v) (T 7 (3 + w))) (adD T D (3 + v) (fun i => D 6 (256 * (3 + w) + i) &&& nI 255) (T 7 (3 + w))) (oL kT False 0) (oL kT (0 = 0) (((nI (T 7 (3 + v) + T 7 (3 + w))) : Int32).toInt64)) := by
  refine wstart (cc := cL_pourOver) (maxL := 5) (hh := [(0, 10, 13, 13), (0, 10, 17, 15), (0, 10, 21, 50)]) (by decide) rfl (Nat.le_of_ble_eq_true rfl) (fun ad L K R I A Q N e0 HB h09 ho hP0 p e s m args below meth c Z hE9 X hT hE hW hO ls hl => ?_)
  subst h09
  obtain ⟨f0, rfl, -⟩ := hP0
  have X : CallFix p m c cL_pourOver 5 s args wsL_pourOver RL := X
  have hl : lv_has ls 5 [(0, .ref (ad 0 0)), (1, .int (nI (w))), (2, .int (nI (v))), (3, .ref (o9))] := hl
  refine lv_aload_n X.1 X.2.1 dL_pourOver_0 rfl (lv_at hl 3 rfl) ?_
  refine lv_iconst (v := nI 0) X.1 X.2.1 dL_pourOver_1 (by decide) ?_
  refine lv_aload_n X.1 X.2.1 dL_pourOver_2 rfl (lv_at hl 0 rfl) ?_
  refine lv_iload_n X.1 X.2.1 dL_pourOver_3 rfl (lv_at hl 1 rfl) ?_
  refine lv_iload_n X.1 X.2.1 dL_pourOver_4 rfl (lv_at hl 2 rfl) ?_
  refine cFi X hW (HB.mem lv_0) (pC_6 (HB.kn lv_0 rfl)) rfl (co_pourOver l HB hw hv hwv h) (cwV 2 X.2.2.2.2 gL_pourOver_X6_pourOver rfl rfl rfl (by decide +kernel) ⟨Nat.le_of_ble_eq_true rfl, Nat.le_of_ble_eq_true rfl⟩) rfl rfl hl.1 (Nat.le_of_ble_eq_true rfl) dL_pourOver_5 ⟨Nat.le_of_ble_eq_true rfl, Nat.le_of_ble_eq_true rfl⟩ (fun H locs hW hsz hk => ?_)
  have hO := oK hO ho hk
  refine lv_i2l (v := (nI (T 7 (3 + v) + T 7 (3 + w))).toInt64) X.1 X.2.1 dL_pourOver_8 rfl ?_
  refine wst X hW hO ho dL_pourOver_9 (fun H locs hW hO => ?_)
  refine lv_goto (tgt := 25) X.1 X.2.1 dL_pourOver_10 (by decide) ?_
  refine lv_iconst (v := nI 0) X.1 X.2.1 dL_pourOver_25 (by decide) ?_
  exact hE9 _ _ _ _ _ _ _ ad L K _ _ _ _ N _ rfl (show _ ≤ 2 by decide) (show _ ≤ 260 by decide) hW ho hO ⟨_, rfl, fun _ => if_pos rfl⟩ (HB.addW (a := 3 + v) (by omega) h (fun i hi => by rw [HB.wA (by omega) (by omega), Nat.zero_add]; exact (HB.md.2.2.1 _).symm) (fun _ _ => and_255 _)) rfl dL_pourOver_26

set_option maxHeartbeats 4000000 in
set_option maxRecDepth 100000 in
theorem ww_pourOver_1a (l : Launch) (hst : l.stackTraces = false) {G : va_G} {kT : Nat → ClassId} {a0 o9 : Nat} {T : mT} {D : mD} {w v : Int32} (h : oN w 3) : wM l yL_pourOver wsL_pourOver ({ frames := 9, cells := 2, slots := 260, locals := 166 } : Room) G kT a0 o9 [.ref (a0), .int (w), .int (v), .ref (o9)] T D 1 (T) (D) (oL kT False 0) (oL kT (1 = 0) (((nI 0) : Int32).toInt64)) := by
  refine wstart (cc := cL_pourOver) (maxL := 5) (hh := [(0, 10, 13, 13), (0, 10, 17, 15), (0, 10, 21, 50)]) (by decide) rfl (Nat.le_of_ble_eq_true rfl) (fun ad L K R I A Q N e0 HB h09 ho hP0 p e s m args below meth c Z hE9 X hT hE hW hO ls hl => ?_)
  subst h09
  obtain ⟨f0, rfl, -⟩ := hP0
  have X : CallFix p m c cL_pourOver 5 s args wsL_pourOver RL := X
  have hl : lv_has ls 5 [(0, .ref (ad 0 0)), (1, .int (w)), (2, .int (v)), (3, .ref (o9))] := hl
  refine lv_aload_n X.1 X.2.1 dL_pourOver_0 rfl (lv_at hl 3 rfl) ?_
  refine lv_iconst (v := nI 0) X.1 X.2.1 dL_pourOver_1 (by decide) ?_
  refine lv_aload_n X.1 X.2.1 dL_pourOver_2 rfl (lv_at hl 0 rfl) ?_
  refine lv_iload_n X.1 X.2.1 dL_pourOver_3 rfl (lv_at hl 1 rfl) ?_
  refine lv_iload_n X.1 X.2.1 dL_pourOver_4 rfl (lv_at hl 2 rfl) ?_
  refine cCV hE X hW (HB.mem lv_0) (pC_6 (HB.kn lv_0 rfl)) rfl (cb_pourOver_a l hst HB h) (cwV 2 X.2.2.2.2 gL_pourOver_X6_pourOver rfl rfl rfl (by decide +kernel) ⟨Nat.le_of_ble_eq_true rfl, Nat.le_of_ble_eq_true rfl⟩) rfl rfl hl.1 (Nat.le_of_ble_eq_true rfl) dL_pourOver_5 ⟨Nat.le_of_ble_eq_true rfl, Nat.le_of_ble_eq_true rfl⟩ (fun H locs q8 ce hW hsz hk hce hcv hcl => ?_)
  have hO := oK hO ho hk
  refine vx_catch X.2.2.2.1 [] ⟨0, 10, 13, 13⟩ [⟨0, 10, 17, 15⟩, ⟨0, 10, 21, 50⟩] hT (fun z hz => absurd hz List.not_mem_nil) (by decide) (by decide) (X.2.2.2.2 (.classLink RL 13 "java/lang/IndexOutOfBoundsException") (List.mem_cons_of_mem _ (List.mem_append_left _ (List.mem_append_left _ (List.mem_append_left _ (List.mem_append_left _ (List.mem_append_left _ (List.mem_append_left _ (List.mem_append_left _ (List.mem_of_getElem? (i := 0) rfl)))))))))) (va_Nw.use rfl (hE.2.2.1 (.castable "java/lang/IndexOutOfBoundsException" "java/lang/IndexOutOfBoundsException") (by decide +kernel))) hce hcv hcl ?_
  refine lv_astore (lv' := [(4, .ref (q8)), (0, .ref (ad 0 0)), (1, .int (w)), (2, .int (v)), (3, .ref (o9))]) X.1 X.2.1 dL_pourOver_13 hl (by decide) rfl (fun ls hl => ?_)
  refine lv_iconst (v := nI 1) X.1 X.2.1 dL_pourOver_15 (by decide) ?_
  exact hE9 _ _ _ _ _ _ _ ad L K R I A Q N _ rfl (show _ ≤ 2 by decide) (show _ ≤ 260 by decide) hW ho hO ⟨f0, rfl, fun z => absurd z (by decide)⟩ HB rfl dL_pourOver_16

set_option maxHeartbeats 4000000 in
set_option maxRecDepth 100000 in
theorem ww_pourOver_1b (l : Launch) (hst : l.stackTraces = false) {G : va_G} {kT : Nat → ClassId} {a0 o9 : Nat} {T : mT} {D : mD} {w : Nat} {v : Int32} (hw : w < 3) (h : oN v 3) : wM l yL_pourOver wsL_pourOver ({ frames := 9, cells := 2, slots := 260, locals := 166 } : Room) G kT a0 o9 [.ref (a0), .int (nI (w)), .int (v), .ref (o9)] T D 1 (T) (D) (oL kT False 0) (oL kT (1 = 0) (((nI 0) : Int32).toInt64)) := by
  refine wstart (cc := cL_pourOver) (maxL := 5) (hh := [(0, 10, 13, 13), (0, 10, 17, 15), (0, 10, 21, 50)]) (by decide) rfl (Nat.le_of_ble_eq_true rfl) (fun ad L K R I A Q N e0 HB h09 ho hP0 p e s m args below meth c Z hE9 X hT hE hW hO ls hl => ?_)
  subst h09
  obtain ⟨f0, rfl, -⟩ := hP0
  have X : CallFix p m c cL_pourOver 5 s args wsL_pourOver RL := X
  have hl : lv_has ls 5 [(0, .ref (ad 0 0)), (1, .int (nI (w))), (2, .int (v)), (3, .ref (o9))] := hl
  refine lv_aload_n X.1 X.2.1 dL_pourOver_0 rfl (lv_at hl 3 rfl) ?_
  refine lv_iconst (v := nI 0) X.1 X.2.1 dL_pourOver_1 (by decide) ?_
  refine lv_aload_n X.1 X.2.1 dL_pourOver_2 rfl (lv_at hl 0 rfl) ?_
  refine lv_iload_n X.1 X.2.1 dL_pourOver_3 rfl (lv_at hl 1 rfl) ?_
  refine lv_iload_n X.1 X.2.1 dL_pourOver_4 rfl (lv_at hl 2 rfl) ?_
  refine cCV hE X hW (HB.mem lv_0) (pC_6 (HB.kn lv_0 rfl)) rfl (cb_pourOver_b l hst HB hw h) (cwV 2 X.2.2.2.2 gL_pourOver_X6_pourOver rfl rfl rfl (by decide +kernel) ⟨Nat.le_of_ble_eq_true rfl, Nat.le_of_ble_eq_true rfl⟩) rfl rfl hl.1 (Nat.le_of_ble_eq_true rfl) dL_pourOver_5 ⟨Nat.le_of_ble_eq_true rfl, Nat.le_of_ble_eq_true rfl⟩ (fun H locs q8 ce hW hsz hk hce hcv hcl => ?_)
  have hO := oK hO ho hk
  refine vx_catch X.2.2.2.1 [] ⟨0, 10, 13, 13⟩ [⟨0, 10, 17, 15⟩, ⟨0, 10, 21, 50⟩] hT (fun z hz => absurd hz List.not_mem_nil) (by decide) (by decide) (X.2.2.2.2 (.classLink RL 13 "java/lang/IndexOutOfBoundsException") (List.mem_cons_of_mem _ (List.mem_append_left _ (List.mem_append_left _ (List.mem_append_left _ (List.mem_append_left _ (List.mem_append_left _ (List.mem_append_left _ (List.mem_append_left _ (List.mem_of_getElem? (i := 0) rfl)))))))))) (va_Nw.use rfl (hE.2.2.1 (.castable "java/lang/IndexOutOfBoundsException" "java/lang/IndexOutOfBoundsException") (by decide +kernel))) hce hcv hcl ?_
  refine lv_astore (lv' := [(4, .ref (q8)), (0, .ref (ad 0 0)), (1, .int (nI (w))), (2, .int (v)), (3, .ref (o9))]) X.1 X.2.1 dL_pourOver_13 hl (by decide) rfl (fun ls hl => ?_)
  refine lv_iconst (v := nI 1) X.1 X.2.1 dL_pourOver_15 (by decide) ?_
  exact hE9 _ _ _ _ _ _ _ ad L K R I A Q N _ rfl (show _ ≤ 2 by decide) (show _ ≤ 260 by decide) hW ho hO ⟨f0, rfl, fun z => absurd z (by decide)⟩ HB rfl dL_pourOver_16

set_option maxHeartbeats 4000000 in
set_option maxRecDepth 100000 in
theorem ww_pourOver_2 (l : Launch) (hst : l.stackTraces = false) {G : va_G} {kT : Nat → ClassId} {a0 o9 : Nat} {T : mT} {D : mD} {w : Nat} (hw : w < 3) : wM l yL_pourOver wsL_pourOver ({ frames := 9, cells := 2, slots := 260, locals := 166 } : Room) G kT a0 o9 [.ref (a0), .int (nI (w)), .int (nI (w)), .ref (o9)] T D 2 (T) (D) (oL kT False 0) (oL kT (2 = 0) (((nI 0) : Int32).toInt64)) := by
  refine wstart (cc := cL_pourOver) (maxL := 5) (hh := [(0, 10, 13, 13), (0, 10, 17, 15), (0, 10, 21, 50)]) (by decide) rfl (Nat.le_of_ble_eq_true rfl) (fun ad L K R I A Q N e0 HB h09 ho hP0 p e s m args below meth c Z hE9 X hT hE hW hO ls hl => ?_)
  subst h09
  obtain ⟨f0, rfl, -⟩ := hP0
  have X : CallFix p m c cL_pourOver 5 s args wsL_pourOver RL := X
  have hl : lv_has ls 5 [(0, .ref (ad 0 0)), (1, .int (nI (w))), (2, .int (nI (w))), (3, .ref (o9))] := hl
  refine lv_aload_n X.1 X.2.1 dL_pourOver_0 rfl (lv_at hl 3 rfl) ?_
  refine lv_iconst (v := nI 0) X.1 X.2.1 dL_pourOver_1 (by decide) ?_
  refine lv_aload_n X.1 X.2.1 dL_pourOver_2 rfl (lv_at hl 0 rfl) ?_
  refine lv_iload_n X.1 X.2.1 dL_pourOver_3 rfl (lv_at hl 1 rfl) ?_
  refine lv_iload_n X.1 X.2.1 dL_pourOver_4 rfl (lv_at hl 2 rfl) ?_
  refine cCV hE X hW (HB.mem lv_0) (pC_6 (HB.kn lv_0 rfl)) rfl (cb_pourOver_c l hst HB hw) (cwV 2 X.2.2.2.2 gL_pourOver_X6_pourOver rfl rfl rfl (by decide +kernel) ⟨Nat.le_of_ble_eq_true rfl, Nat.le_of_ble_eq_true rfl⟩) rfl rfl hl.1 (Nat.le_of_ble_eq_true rfl) dL_pourOver_5 ⟨Nat.le_of_ble_eq_true rfl, Nat.le_of_ble_eq_true rfl⟩ (fun H locs q8 ce hW hsz hk hce hcv hcl => ?_)
  have hO := oK hO ho hk
  refine vx_catch X.2.2.2.1 [⟨0, 10, 13, 13⟩] ⟨0, 10, 17, 15⟩ [⟨0, 10, 21, 50⟩] hT (List.forall_mem_cons.mpr ⟨Or.inr ⟨by decide, "java/lang/IndexOutOfBoundsException", X.2.2.2.2 (.classLink RL 13 "java/lang/IndexOutOfBoundsException") (List.mem_cons_of_mem _ (List.mem_append_left _ (List.mem_append_left _ (List.mem_append_left _ (List.mem_append_left _ (List.mem_append_left _ (List.mem_append_left _ (List.mem_append_left _ (List.mem_of_getElem? (i := 0) rfl))))))))), hE.2.2.2.2 ("java/lang/IllegalArgumentException", "java/lang/IndexOutOfBoundsException") (by decide +kernel)⟩, (fun z hz => absurd hz List.not_mem_nil)⟩) (by decide) (by decide) (X.2.2.2.2 (.classLink RL 15 "java/lang/IllegalArgumentException") (List.mem_cons_of_mem _ (List.mem_append_left _ (List.mem_append_left _ (List.mem_append_left _ (List.mem_append_left _ (List.mem_append_left _ (List.mem_append_left _ (List.mem_append_left _ (List.mem_of_getElem? (i := 1) rfl)))))))))) (va_Nw.use rfl (hE.2.2.1 (.castable "java/lang/IllegalArgumentException" "java/lang/IllegalArgumentException") (by decide +kernel))) hce hcv hcl ?_
  refine lv_astore (lv' := [(4, .ref (q8)), (0, .ref (ad 0 0)), (1, .int (nI (w))), (2, .int (nI (w))), (3, .ref (o9))]) X.1 X.2.1 dL_pourOver_17 hl (by decide) rfl (fun ls hl => ?_)
  refine lv_iconst (v := nI 2) X.1 X.2.1 dL_pourOver_19 (by decide) ?_
  exact hE9 _ _ _ _ _ _ _ ad L K R I A Q N _ rfl (show _ ≤ 2 by decide) (show _ ≤ 260 by decide) hW ho hO ⟨f0, rfl, fun z => absurd z (by decide)⟩ HB rfl dL_pourOver_20

set_option maxHeartbeats 4000000 in
set_option maxRecDepth 100000 in
theorem ww_pourOver_3 (l : Launch) (hst : l.stackTraces = false) {G : va_G} {kT : Nat → ClassId} {a0 o9 : Nat} {T : mT} {D : mD} (I : mI T) {w v : Nat} (hw : w < 3) (hv : v < 3) (hwv : w ≠ v) (h : 256 < T 7 (3 + v) + T 7 (3 + w)) : wM l yL_pourOver wsL_pourOver ({ frames := 9, cells := 2, slots := 260, locals := 166 } : Room) G kT a0 o9 [.ref (a0), .int (nI (w)), .int (nI (v)), .ref (o9)] T D 3 (T) (D) (oL kT False 0) (oL kT (3 = 0) (((nI 0) : Int32).toInt64)) := by
  refine wstart (cc := cL_pourOver) (maxL := 5) (hh := [(0, 10, 13, 13), (0, 10, 17, 15), (0, 10, 21, 50)]) (by decide) rfl (Nat.le_of_ble_eq_true rfl) (fun ad L K R I A Q N e0 HB h09 ho hP0 p e s m args below meth c Z hE9 X hT hE hW hO ls hl => ?_)
  subst h09
  obtain ⟨f0, rfl, -⟩ := hP0
  have X : CallFix p m c cL_pourOver 5 s args wsL_pourOver RL := X
  have hl : lv_has ls 5 [(0, .ref (ad 0 0)), (1, .int (nI (w))), (2, .int (nI (v))), (3, .ref (o9))] := hl
  refine lv_aload_n X.1 X.2.1 dL_pourOver_0 rfl (lv_at hl 3 rfl) ?_
  refine lv_iconst (v := nI 0) X.1 X.2.1 dL_pourOver_1 (by decide) ?_
  refine lv_aload_n X.1 X.2.1 dL_pourOver_2 rfl (lv_at hl 0 rfl) ?_
  refine lv_iload_n X.1 X.2.1 dL_pourOver_3 rfl (lv_at hl 1 rfl) ?_
  refine lv_iload_n X.1 X.2.1 dL_pourOver_4 rfl (lv_at hl 2 rfl) ?_
  refine cCV hE X hW (HB.mem lv_0) (pC_6 (HB.kn lv_0 rfl)) rfl (cb_pourOver_d l hst HB hw hv hwv h) (cwV 2 X.2.2.2.2 gL_pourOver_X6_pourOver rfl rfl rfl (by decide +kernel) ⟨Nat.le_of_ble_eq_true rfl, Nat.le_of_ble_eq_true rfl⟩) rfl rfl hl.1 (Nat.le_of_ble_eq_true rfl) dL_pourOver_5 ⟨Nat.le_of_ble_eq_true rfl, Nat.le_of_ble_eq_true rfl⟩ (fun H locs q8 ce hW hsz hk hce hcv hcl => ?_)
  have hO := oK hO ho hk
  refine vx_catch X.2.2.2.1 [⟨0, 10, 13, 13⟩, ⟨0, 10, 17, 15⟩] ⟨0, 10, 21, 50⟩ [] hT (List.forall_mem_cons.mpr ⟨Or.inr ⟨by decide, "java/lang/IndexOutOfBoundsException", X.2.2.2.2 (.classLink RL 13 "java/lang/IndexOutOfBoundsException") (List.mem_cons_of_mem _ (List.mem_append_left _ (List.mem_append_left _ (List.mem_append_left _ (List.mem_append_left _ (List.mem_append_left _ (List.mem_append_left _ (List.mem_append_left _ (List.mem_of_getElem? (i := 0) rfl))))))))), hE.2.2.2.2 ("java/lang/IllegalStateException", "java/lang/IndexOutOfBoundsException") (by decide +kernel)⟩, (List.forall_mem_cons.mpr ⟨Or.inr ⟨by decide, "java/lang/IllegalArgumentException", X.2.2.2.2 (.classLink RL 15 "java/lang/IllegalArgumentException") (List.mem_cons_of_mem _ (List.mem_append_left _ (List.mem_append_left _ (List.mem_append_left _ (List.mem_append_left _ (List.mem_append_left _ (List.mem_append_left _ (List.mem_append_left _ (List.mem_of_getElem? (i := 1) rfl))))))))), hE.2.2.2.2 ("java/lang/IllegalStateException", "java/lang/IllegalArgumentException") (by decide +kernel)⟩, (fun z hz => absurd hz List.not_mem_nil)⟩)⟩) (by decide) (by decide) (X.2.2.2.2 (.classLink RL 50 "java/lang/IllegalStateException") (List.mem_cons_of_mem _ (List.mem_append_left _ (List.mem_append_left _ (List.mem_append_left _ (List.mem_append_left _ (List.mem_append_left _ (List.mem_append_left _ (List.mem_append_left _ (List.mem_of_getElem? (i := 2) rfl)))))))))) (va_Nw.use rfl (hE.2.2.1 (.castable "java/lang/IllegalStateException" "java/lang/IllegalStateException") (by decide +kernel))) hce hcv hcl ?_
  refine lv_astore (lv' := [(4, .ref (q8)), (0, .ref (ad 0 0)), (1, .int (nI (w))), (2, .int (nI (v))), (3, .ref (o9))]) X.1 X.2.1 dL_pourOver_21 hl (by decide) rfl (fun ls hl => ?_)
  refine lv_iconst (v := nI 3) X.1 X.2.1 dL_pourOver_23 (by decide) ?_
  exact hE9 _ _ _ _ _ _ _ ad L K R I A Q N _ rfl (show _ ≤ 2 by decide) (show _ ≤ 260 by decide) hW ho hO ⟨f0, rfl, fun z => absurd z (by decide)⟩ HB rfl dL_pourOver_24

theorem wo_pourOver (l : Launch) (hst : l.stackTraces = false) {G : va_G} {kT : Nat → ClassId} {a0 o9 : Nat} {T : mT} {D : mD} (I : mI T) (J : mJD D) (w v : Int32) : wO l yL_pourOver wsL_pourOver ({ frames := 9, cells := 2, slots := 260, locals := 166 } : Room) G kT a0 o9 [.ref a0, .int w, .int v, .ref o9] T D (sp_pourOver T D w v) := by
  by_cases h1 : oN w 3
  · rw [show sp_pourOver T D w v = no T D 1 from if_pos (Or.inl h1)]; exact ww_pourOver_1a l hst h1
  · obtain ⟨w, hw, rfl⟩ := oN_in (by decide) h1
    by_cases h2 : oN v 3
    · rw [show sp_pourOver T D (nI w) v = no T D 1 from if_pos (Or.inr h2)]; exact ww_pourOver_1b l hst hw h2
    · obtain ⟨v, hv, rfl⟩ := oN_in (by decide) h2
      have hc : (nI w).toNatClampNeg = w := nI_clamp (by omega)
      have hc2 : (nI v).toNatClampNeg = v := nI_clamp (by omega)
      have hno : ¬ (oN (nI w) 3 ∨ oN (nI v) 3) := fun z => z.elim h1 h2
      by_cases h4 : w = v
      · subst h4
        rw [show sp_pourOver T D (nI w) (nI w) = no T D 2 from (if_neg hno).trans (if_pos rfl)]; exact ww_pourOver_2 l hst hw
      have hne : ¬ nI w = nI v := fun z => h4 (nI_inj (by omega) (by omega) z)
      by_cases h3 : 256 < T 7 (3 + v) + T 7 (3 + w)
      · rw [show sp_pourOver T D (nI w) (nI v) = no T D 3 from (if_neg hno).trans ((if_neg hne).trans (if_pos (by rw [hc, hc2]; exact h3)))]; exact ww_pourOver_3 l hst I hw hv h4 h3
      · rw [show sp_pourOver T D (nI w) (nI v) = sk_pour T D (3 + w) (3 + v) from (if_neg hno).trans ((if_neg hne).trans ((if_neg (by rw [hc, hc2]; exact h3)).trans (by rw [hc, hc2])))]
        exact ww_pourOver l hst I hw hv h4 (Nat.not_lt.mp h3)

set_option maxHeartbeats 4000000 in
set_option maxRecDepth 100000 in
theorem ww_areLike_1a (l : Launch) (hst : l.stackTraces = false) {G : va_G} {kT : Nat → ClassId} {a0 o9 : Nat} {T : mT} {D : mD} {w v : Int32} (h : oN w 3) : wM l yL_areLike wsL_areLike ({ frames := 8, cells := 2, slots := 260, locals := 143 } : Room) G kT a0 o9 [.ref (a0), .int (w), .int (v), .ref (o9)] T D 1 (T) (D) (oL kT False 0) (oL kT (1 = 0) (((nI 0) : Int32).toInt64)) := by
  refine wstart (cc := cL_areLike) (maxL := 5) (hh := [(0, 17, 20, 13)]) (by decide) rfl (Nat.le_of_ble_eq_true rfl) (fun ad L K R I A Q N e0 HB h09 ho hP0 p e s m args below meth c Z hE9 X hT hE hW hO ls hl => ?_)
  subst h09
  obtain ⟨f0, rfl, -⟩ := hP0
  have X : CallFix p m c cL_areLike 5 s args wsL_areLike RL := X
  have hl : lv_has ls 5 [(0, .ref (ad 0 0)), (1, .int (w)), (2, .int (v)), (3, .ref (o9))] := hl
  refine lv_aload_n X.1 X.2.1 dL_areLike_0 rfl (lv_at hl 3 rfl) ?_
  refine lv_iconst (v := nI 0) X.1 X.2.1 dL_areLike_1 (by decide) ?_
  refine lv_aload_n X.1 X.2.1 dL_areLike_2 rfl (lv_at hl 0 rfl) ?_
  refine lv_iload_n X.1 X.2.1 dL_areLike_3 rfl (lv_at hl 1 rfl) ?_
  refine lv_iload_n X.1 X.2.1 dL_areLike_4 rfl (lv_at hl 2 rfl) ?_
  refine cCV hE X hW (HB.mem lv_0) (pC_6 (HB.kn lv_0 rfl)) rfl (cb_areLike_a l hst HB h) (cwV 2 X.2.2.2.2 gL_areLike_X6_areLike rfl rfl rfl (by decide +kernel) ⟨Nat.le_of_ble_eq_true rfl, Nat.le_of_ble_eq_true rfl⟩) rfl rfl hl.1 (Nat.le_of_ble_eq_true rfl) dL_areLike_5 ⟨Nat.le_of_ble_eq_true rfl, Nat.le_of_ble_eq_true rfl⟩ (fun H locs q8 ce hW hsz hk hce hcv hcl => ?_)
  have hO := oK hO ho hk
  refine vx_catch X.2.2.2.1 [] ⟨0, 17, 20, 13⟩ [] hT (fun z hz => absurd hz List.not_mem_nil) (by decide) (by decide) (X.2.2.2.2 (.classLink RL 13 "java/lang/IndexOutOfBoundsException") (List.mem_cons_of_mem _ (List.mem_append_left _ (List.mem_append_left _ (List.mem_append_left _ (List.mem_append_left _ (List.mem_append_left _ (List.mem_of_getElem? (i := 0) rfl)))))))) (va_Nw.use rfl (hE.2.2.1 (.castable "java/lang/IndexOutOfBoundsException" "java/lang/IndexOutOfBoundsException") (by decide +kernel))) hce hcv hcl ?_
  refine lv_astore (lv' := [(4, .ref (q8)), (0, .ref (ad 0 0)), (1, .int (w)), (2, .int (v)), (3, .ref (o9))]) X.1 X.2.1 dL_areLike_20 hl (by decide) rfl (fun ls hl => ?_)
  refine lv_iconst (v := nI 1) X.1 X.2.1 dL_areLike_22 (by decide) ?_
  exact hE9 _ _ _ _ _ _ _ ad L K R I A Q N _ rfl (show _ ≤ 2 by decide) (show _ ≤ 260 by decide) hW ho hO ⟨f0, rfl, fun z => absurd z (by decide)⟩ HB rfl dL_areLike_23

set_option maxHeartbeats 4000000 in
set_option maxRecDepth 100000 in
theorem ww_areLike_1b (l : Launch) (hst : l.stackTraces = false) {G : va_G} {kT : Nat → ClassId} {a0 o9 : Nat} {T : mT} {D : mD} {w : Nat} {v : Int32} (hw : w < 3) (h : oN v 3) : wM l yL_areLike wsL_areLike ({ frames := 8, cells := 2, slots := 260, locals := 143 } : Room) G kT a0 o9 [.ref (a0), .int (nI (w)), .int (v), .ref (o9)] T D 1 (T) (D) (oL kT False 0) (oL kT (1 = 0) (((nI 0) : Int32).toInt64)) := by
  refine wstart (cc := cL_areLike) (maxL := 5) (hh := [(0, 17, 20, 13)]) (by decide) rfl (Nat.le_of_ble_eq_true rfl) (fun ad L K R I A Q N e0 HB h09 ho hP0 p e s m args below meth c Z hE9 X hT hE hW hO ls hl => ?_)
  subst h09
  obtain ⟨f0, rfl, -⟩ := hP0
  have X : CallFix p m c cL_areLike 5 s args wsL_areLike RL := X
  have hl : lv_has ls 5 [(0, .ref (ad 0 0)), (1, .int (nI (w))), (2, .int (v)), (3, .ref (o9))] := hl
  refine lv_aload_n X.1 X.2.1 dL_areLike_0 rfl (lv_at hl 3 rfl) ?_
  refine lv_iconst (v := nI 0) X.1 X.2.1 dL_areLike_1 (by decide) ?_
  refine lv_aload_n X.1 X.2.1 dL_areLike_2 rfl (lv_at hl 0 rfl) ?_
  refine lv_iload_n X.1 X.2.1 dL_areLike_3 rfl (lv_at hl 1 rfl) ?_
  refine lv_iload_n X.1 X.2.1 dL_areLike_4 rfl (lv_at hl 2 rfl) ?_
  refine cCV hE X hW (HB.mem lv_0) (pC_6 (HB.kn lv_0 rfl)) rfl (cb_areLike_b l hst HB hw h) (cwV 2 X.2.2.2.2 gL_areLike_X6_areLike rfl rfl rfl (by decide +kernel) ⟨Nat.le_of_ble_eq_true rfl, Nat.le_of_ble_eq_true rfl⟩) rfl rfl hl.1 (Nat.le_of_ble_eq_true rfl) dL_areLike_5 ⟨Nat.le_of_ble_eq_true rfl, Nat.le_of_ble_eq_true rfl⟩ (fun H locs q8 ce hW hsz hk hce hcv hcl => ?_)
  have hO := oK hO ho hk
  refine vx_catch X.2.2.2.1 [] ⟨0, 17, 20, 13⟩ [] hT (fun z hz => absurd hz List.not_mem_nil) (by decide) (by decide) (X.2.2.2.2 (.classLink RL 13 "java/lang/IndexOutOfBoundsException") (List.mem_cons_of_mem _ (List.mem_append_left _ (List.mem_append_left _ (List.mem_append_left _ (List.mem_append_left _ (List.mem_append_left _ (List.mem_of_getElem? (i := 0) rfl)))))))) (va_Nw.use rfl (hE.2.2.1 (.castable "java/lang/IndexOutOfBoundsException" "java/lang/IndexOutOfBoundsException") (by decide +kernel))) hce hcv hcl ?_
  refine lv_astore (lv' := [(4, .ref (q8)), (0, .ref (ad 0 0)), (1, .int (nI (w))), (2, .int (v)), (3, .ref (o9))]) X.1 X.2.1 dL_areLike_20 hl (by decide) rfl (fun ls hl => ?_)
  refine lv_iconst (v := nI 1) X.1 X.2.1 dL_areLike_22 (by decide) ?_
  exact hE9 _ _ _ _ _ _ _ ad L K R I A Q N _ rfl (show _ ≤ 2 by decide) (show _ ≤ 260 by decide) hW ho hO ⟨f0, rfl, fun z => absurd z (by decide)⟩ HB rfl dL_areLike_23

set_option maxHeartbeats 4000000 in
set_option maxRecDepth 100000 in
theorem ww_areLike_e (l : Launch) (hst : l.stackTraces = false) {G : va_G} {kT : Nat → ClassId} {a0 o9 : Nat} {T : mT} {D : mD} (I : mI T) {w v : Nat} (hw : w < 3) (hv : v < 3) (h : T 7 w = T 7 (3 + v)) : wM l yL_areLike wsL_areLike ({ frames := 8, cells := 2, slots := 260, locals := 143 } : Room) G kT a0 o9 [.ref (a0), .int (nI (w)), .int (nI (v)), .ref (o9)] T D 0 (T) (D) (oL kT False 0) (oL kT (0 = 0) (((nI (lkF (fun i => D 6 (256 * w + i)) (fun i => D 6 (256 * (3 + v) + i)) (T 7 w))) : Int32).toInt64)) := by
  refine wstart (cc := cL_areLike) (maxL := 5) (hh := [(0, 17, 20, 13)]) (by decide) rfl (Nat.le_of_ble_eq_true rfl) (fun ad L K R I A Q N e0 HB h09 ho hP0 p e s m args below meth c Z hE9 X hT hE hW hO ls hl => ?_)
  subst h09
  obtain ⟨f0, rfl, -⟩ := hP0
  have X : CallFix p m c cL_areLike 5 s args wsL_areLike RL := X
  have hl : lv_has ls 5 [(0, .ref (ad 0 0)), (1, .int (nI (w))), (2, .int (nI (v))), (3, .ref (o9))] := hl
  have e9 : sk_like T D w (3 + v) = lkF (fun i => D 6 (256 * w + i)) (fun i => D 6 (256 * (3 + v) + i)) (T 7 w) := if_pos h
  have e8 : sk_like T D w (3 + v) ≤ 1 := by unfold sk_like; split <;> first | exact lkF_le _ | exact Nat.zero_le _
  refine lv_aload_n X.1 X.2.1 dL_areLike_0 rfl (lv_at hl 3 rfl) ?_
  refine lv_iconst (v := nI 0) X.1 X.2.1 dL_areLike_1 (by decide) ?_
  refine lv_aload_n X.1 X.2.1 dL_areLike_2 rfl (lv_at hl 0 rfl) ?_
  refine lv_iload_n X.1 X.2.1 dL_areLike_3 rfl (lv_at hl 1 rfl) ?_
  refine lv_iload_n X.1 X.2.1 dL_areLike_4 rfl (lv_at hl 2 rfl) ?_
  refine cFi X hW (HB.mem lv_0) (pC_6 (HB.kn lv_0 rfl)) rfl (co_areLike l HB hw hv) (cwV 2 X.2.2.2.2 gL_areLike_X6_areLike rfl rfl rfl (by decide +kernel) ⟨Nat.le_of_ble_eq_true rfl, Nat.le_of_ble_eq_true rfl⟩) rfl rfl hl.1 (Nat.le_of_ble_eq_true rfl) dL_areLike_5 ⟨Nat.le_of_ble_eq_true rfl, Nat.le_of_ble_eq_true rfl⟩ (fun H locs hW hsz hk => ?_)
  have hO := oK hO ho hk
  rcases Decidable.em (sk_like T D w (3 + v) = 0) with hs | hs
  · skip
    refine n_if_eq_t (tgt := 15) X.1 X.2.1 dL_areLike_8 (by decide) (hs) (by omega) ?_
    refine lv_lconst (v := lN 0) X.1 X.2.1 dL_areLike_15 rfl ?_
    refine wst X hW hO ho dL_areLike_16 (fun H locs hW hO => ?_)
    refine lv_goto (tgt := 24) X.1 X.2.1 dL_areLike_17 (by decide) ?_
    refine lv_iconst (v := nI 0) X.1 X.2.1 dL_areLike_24 (by decide) ?_
    exact hE9 _ _ _ _ _ _ _ ad L K _ _ _ _ N _ rfl (show _ ≤ 2 by decide) (show _ ≤ 260 by decide) hW ho hO ⟨_, rfl, fun _ => (if_pos rfl).trans (by rw [← e9, hs]; rfl)⟩ (HB) rfl dL_areLike_25
  · have hs1 : sk_like T D w (3 + v) = 1 := by omega
    refine n_if_eq_f (tgt := 15) X.1 X.2.1 dL_areLike_8 (by decide) (hs) (by omega) ?_
    refine lv_lconst (v := lN 1) X.1 X.2.1 dL_areLike_11 rfl ?_
    refine lv_goto (tgt := 16) X.1 X.2.1 dL_areLike_12 (by decide) ?_
    refine wst X hW hO ho dL_areLike_16 (fun H locs hW hO => ?_)
    refine lv_goto (tgt := 24) X.1 X.2.1 dL_areLike_17 (by decide) ?_
    refine lv_iconst (v := nI 0) X.1 X.2.1 dL_areLike_24 (by decide) ?_
    exact hE9 _ _ _ _ _ _ _ ad L K _ _ _ _ N _ rfl (show _ ≤ 2 by decide) (show _ ≤ 260 by decide) hW ho hO ⟨_, rfl, fun _ => (if_pos rfl).trans (by rw [← e9, hs1]; rfl)⟩ (HB) rfl dL_areLike_25

set_option maxHeartbeats 4000000 in
set_option maxRecDepth 100000 in
theorem ww_areLike_n (l : Launch) (hst : l.stackTraces = false) {G : va_G} {kT : Nat → ClassId} {a0 o9 : Nat} {T : mT} {D : mD} (I : mI T) {w v : Nat} (hw : w < 3) (hv : v < 3) (h : T 7 w ≠ T 7 (3 + v)) : wM l yL_areLike wsL_areLike ({ frames := 8, cells := 2, slots := 260, locals := 143 } : Room) G kT a0 o9 [.ref (a0), .int (nI (w)), .int (nI (v)), .ref (o9)] T D 0 (T) (D) (oL kT False 0) (oL kT (0 = 0) (((nI 0) : Int32).toInt64)) := by
  refine wstart (cc := cL_areLike) (maxL := 5) (hh := [(0, 17, 20, 13)]) (by decide) rfl (Nat.le_of_ble_eq_true rfl) (fun ad L K R I A Q N e0 HB h09 ho hP0 p e s m args below meth c Z hE9 X hT hE hW hO ls hl => ?_)
  subst h09
  obtain ⟨f0, rfl, -⟩ := hP0
  have X : CallFix p m c cL_areLike 5 s args wsL_areLike RL := X
  have hl : lv_has ls 5 [(0, .ref (ad 0 0)), (1, .int (nI (w))), (2, .int (nI (v))), (3, .ref (o9))] := hl
  have e9 : sk_like T D w (3 + v) = 0 := if_neg h
  have e8 : sk_like T D w (3 + v) ≤ 1 := by unfold sk_like; split <;> first | exact lkF_le _ | exact Nat.zero_le _
  refine lv_aload_n X.1 X.2.1 dL_areLike_0 rfl (lv_at hl 3 rfl) ?_
  refine lv_iconst (v := nI 0) X.1 X.2.1 dL_areLike_1 (by decide) ?_
  refine lv_aload_n X.1 X.2.1 dL_areLike_2 rfl (lv_at hl 0 rfl) ?_
  refine lv_iload_n X.1 X.2.1 dL_areLike_3 rfl (lv_at hl 1 rfl) ?_
  refine lv_iload_n X.1 X.2.1 dL_areLike_4 rfl (lv_at hl 2 rfl) ?_
  refine cFi X hW (HB.mem lv_0) (pC_6 (HB.kn lv_0 rfl)) rfl (co_areLike l HB hw hv) (cwV 2 X.2.2.2.2 gL_areLike_X6_areLike rfl rfl rfl (by decide +kernel) ⟨Nat.le_of_ble_eq_true rfl, Nat.le_of_ble_eq_true rfl⟩) rfl rfl hl.1 (Nat.le_of_ble_eq_true rfl) dL_areLike_5 ⟨Nat.le_of_ble_eq_true rfl, Nat.le_of_ble_eq_true rfl⟩ (fun H locs hW hsz hk => ?_)
  have hO := oK hO ho hk
  rcases Decidable.em (sk_like T D w (3 + v) = 0) with hs | hs
  · skip
    refine n_if_eq_t (tgt := 15) X.1 X.2.1 dL_areLike_8 (by decide) (hs) (by omega) ?_
    refine lv_lconst (v := lN 0) X.1 X.2.1 dL_areLike_15 rfl ?_
    refine wst X hW hO ho dL_areLike_16 (fun H locs hW hO => ?_)
    refine lv_goto (tgt := 24) X.1 X.2.1 dL_areLike_17 (by decide) ?_
    refine lv_iconst (v := nI 0) X.1 X.2.1 dL_areLike_24 (by decide) ?_
    exact hE9 _ _ _ _ _ _ _ ad L K _ _ _ _ N _ rfl (show _ ≤ 2 by decide) (show _ ≤ 260 by decide) hW ho hO ⟨_, rfl, fun _ => (if_pos rfl).trans (by rw [← e9, hs]; rfl)⟩ (HB) rfl dL_areLike_25
  · have hs1 : sk_like T D w (3 + v) = 1 := by omega
    refine n_if_eq_f (tgt := 15) X.1 X.2.1 dL_areLike_8 (by decide) (hs) (by omega) ?_
    refine lv_lconst (v := lN 1) X.1 X.2.1 dL_areLike_11 rfl ?_
    refine lv_goto (tgt := 16) X.1 X.2.1 dL_areLike_12 (by decide) ?_
    refine wst X hW hO ho dL_areLike_16 (fun H locs hW hO => ?_)
    refine lv_goto (tgt := 24) X.1 X.2.1 dL_areLike_17 (by decide) ?_
    refine lv_iconst (v := nI 0) X.1 X.2.1 dL_areLike_24 (by decide) ?_
    exact hE9 _ _ _ _ _ _ _ ad L K _ _ _ _ N _ rfl (show _ ≤ 2 by decide) (show _ ≤ 260 by decide) hW ho hO ⟨_, rfl, fun _ => (if_pos rfl).trans (by rw [← e9, hs1]; rfl)⟩ (HB) rfl dL_areLike_25

theorem wo_areLike (l : Launch) (hst : l.stackTraces = false) {G : va_G} {kT : Nat → ClassId} {a0 o9 : Nat} {T : mT} {D : mD} (I : mI T) (J : mJD D) (w v : Int32) : wO l yL_areLike wsL_areLike ({ frames := 8, cells := 2, slots := 260, locals := 143 } : Room) G kT a0 o9 [.ref a0, .int w, .int v, .ref o9] T D (sp_areLike T D w v) := by
  by_cases h1 : oN w 3
  · rw [show sp_areLike T D w v = no T D 1 from if_pos (Or.inl h1)]; exact ww_areLike_1a l hst h1
  · obtain ⟨w, hw, rfl⟩ := oN_in (by decide) h1
    by_cases h2 : oN v 3
    · rw [show sp_areLike T D (nI w) v = no T D 1 from if_pos (Or.inr h2)]; exact ww_areLike_1b l hst hw h2
    · obtain ⟨v, hv, rfl⟩ := oN_in (by decide) h2
      have hc : (nI w).toNatClampNeg = w := nI_clamp (by omega)
      have hc2 : (nI v).toNatClampNeg = v := nI_clamp (by omega)
      have hno : ¬ (oN (nI w) 3 ∨ oN (nI v) 3) := fun z => z.elim h1 h2
      rw [show sp_areLike T D (nI w) (nI v) = (0, nI (sk_like T D w (3 + v)), T, D) from (if_neg hno).trans (by rw [hc, hc2])]
      by_cases h3 : T 7 w = T 7 (3 + v)
      · rw [show sk_like T D w (3 + v) = lkF (fun i => D 6 (256 * w + i)) (fun i => D 6 (256 * (3 + v) + i)) (T 7 w) from if_pos h3]
        exact ww_areLike_e l hst I hw hv h3
      · rw [show sk_like T D w (3 + v) = 0 from if_neg h3]
        exact ww_areLike_n l hst I hw hv h3
