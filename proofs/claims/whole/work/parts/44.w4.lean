set_option maxHeartbeats 4000000 in
set_option maxRecDepth 100000 in
theorem ww_join (l : Launch) (hst : l.stackTraces = false) {G : va_G} {kT : Nat → ClassId} {a0 o9 : Nat} {T : mT} {D : mD} (I : mI T) {j a b : Nat} (hj : j < 2) (ha : a < 4) (hb : b < 4) : wM l yL_join wsL_join ({ frames := 8, cells := 2, slots := 260, locals := 147 } : Room) G kT a0 o9 [.ref (a0), .int (nI (j)), .int (nI (a)), .int (nI (b)), .ref (o9)] T D 0 (jn2 T j a b) (D) (oL kT False 0) (oL kT (0 = 0) (((nI (bL T a + bL T b)) : Int32).toInt64)) := by
  refine wstart (cc := cL_join) (maxL := 6) (hh := [(0, 12, 15, 13)]) (by decide) rfl (Nat.le_of_ble_eq_true rfl) (fun ad L K R I A Q N e0 HB h09 ho hP0 p e s m args below meth c Z hE9 X hT hE hW hO ls hl => ?_)
  subst h09
  obtain ⟨f0, rfl, -⟩ := hP0
  have X : CallFix p m c cL_join 6 s args wsL_join RL := X
  have hl : lv_has ls 6 [(0, .ref (ad 0 0)), (1, .int (nI (j))), (2, .int (nI (a))), (3, .int (nI (b))), (4, .ref (o9))] := hl
  refine lv_aload X.1 X.2.1 dL_join_0 (lv_at hl 4 rfl) ?_
  refine lv_iconst (v := nI 0) X.1 X.2.1 dL_join_2 (by decide) ?_
  refine lv_aload_n X.1 X.2.1 dL_join_3 rfl (lv_at hl 0 rfl) ?_
  refine lv_iload_n X.1 X.2.1 dL_join_4 rfl (lv_at hl 1 rfl) ?_
  refine lv_iload_n X.1 X.2.1 dL_join_5 rfl (lv_at hl 2 rfl) ?_
  refine lv_iload_n X.1 X.2.1 dL_join_6 rfl (lv_at hl 3 rfl) ?_
  refine cFi X hW (HB.mem lv_0) (pC_6 (HB.kn lv_0 rfl)) rfl (co_join l HB hj ha hb) (cwV 3 X.2.2.2.2 gL_join_X6_join rfl rfl rfl (by decide +kernel) ⟨Nat.le_of_ble_eq_true rfl, Nat.le_of_ble_eq_true rfl⟩) rfl rfl hl.1 (Nat.le_of_ble_eq_true rfl) dL_join_7 ⟨Nat.le_of_ble_eq_true rfl, Nat.le_of_ble_eq_true rfl⟩ (fun H locs hW hsz hk => ?_)
  have hO := oK hO ho hk
  refine lv_i2l (v := (nI (0 + bL T a + bL T b)).toInt64) X.1 X.2.1 dL_join_10 rfl ?_
  refine wst X hW hO ho dL_join_11 (fun H locs hW hO => ?_)
  refine lv_goto (tgt := 19) X.1 X.2.1 dL_join_12 (by decide) ?_
  refine lv_iconst (v := nI 0) X.1 X.2.1 dL_join_19 (by decide) ?_
  exact hE9 _ _ _ _ _ _ _ ad L K _ _ _ _ N _ rfl (show _ ≤ 2 by decide) (show _ ≤ 260 by decide) hW ho hO ⟨_, rfl, fun _ => (if_pos rfl).trans (by rw [Nat.zero_add])⟩ (HB.join2 hj ha hb) rfl dL_join_20

set_option maxHeartbeats 4000000 in
set_option maxRecDepth 100000 in
theorem ww_join_1j (l : Launch) (hst : l.stackTraces = false) {G : va_G} {kT : Nat → ClassId} {a0 o9 : Nat} {T : mT} {D : mD} {j a b : Int32} (h : oN j 2) : wM l yL_join wsL_join ({ frames := 8, cells := 2, slots := 260, locals := 147 } : Room) G kT a0 o9 [.ref (a0), .int (j), .int (a), .int (b), .ref (o9)] T D 1 (T) (D) (oL kT False 0) (oL kT (1 = 0) (((nI 0) : Int32).toInt64)) := by
  refine wstart (cc := cL_join) (maxL := 6) (hh := [(0, 12, 15, 13)]) (by decide) rfl (Nat.le_of_ble_eq_true rfl) (fun ad L K R I A Q N e0 HB h09 ho hP0 p e s m args below meth c Z hE9 X hT hE hW hO ls hl => ?_)
  subst h09
  obtain ⟨f0, rfl, -⟩ := hP0
  have X : CallFix p m c cL_join 6 s args wsL_join RL := X
  have hl : lv_has ls 6 [(0, .ref (ad 0 0)), (1, .int (j)), (2, .int (a)), (3, .int (b)), (4, .ref (o9))] := hl
  refine lv_aload X.1 X.2.1 dL_join_0 (lv_at hl 4 rfl) ?_
  refine lv_iconst (v := nI 0) X.1 X.2.1 dL_join_2 (by decide) ?_
  refine lv_aload_n X.1 X.2.1 dL_join_3 rfl (lv_at hl 0 rfl) ?_
  refine lv_iload_n X.1 X.2.1 dL_join_4 rfl (lv_at hl 1 rfl) ?_
  refine lv_iload_n X.1 X.2.1 dL_join_5 rfl (lv_at hl 2 rfl) ?_
  refine lv_iload_n X.1 X.2.1 dL_join_6 rfl (lv_at hl 3 rfl) ?_
  refine cCV hE X hW (HB.mem lv_0) (pC_6 (HB.kn lv_0 rfl)) rfl (cb_join_a l hst HB h) (cwV 3 X.2.2.2.2 gL_join_X6_join rfl rfl rfl (by decide +kernel) ⟨Nat.le_of_ble_eq_true rfl, Nat.le_of_ble_eq_true rfl⟩) rfl rfl hl.1 (Nat.le_of_ble_eq_true rfl) dL_join_7 ⟨Nat.le_of_ble_eq_true rfl, Nat.le_of_ble_eq_true rfl⟩ (fun H locs q8 ce hW hsz hk hce hcv hcl => ?_)
  have hO := oK hO ho hk
  refine vx_catch X.2.2.2.1 [] ⟨0, 12, 15, 13⟩ [] hT (fun z hz => absurd hz List.not_mem_nil) (by decide) (by decide) (X.2.2.2.2 (.classLink RL 13 "java/lang/IndexOutOfBoundsException") (List.mem_cons_of_mem _ (List.mem_append_left _ (List.mem_append_left _ (List.mem_append_left _ (List.mem_append_left _ (List.mem_append_left _ (List.mem_append_left _ (List.mem_of_getElem? (i := 0) rfl))))))))) (va_Nw.use rfl (hE.2.2.1 (.castable "java/lang/IndexOutOfBoundsException" "java/lang/IndexOutOfBoundsException") (by decide +kernel))) hce hcv hcl ?_
  refine lv_astore (lv' := [(5, .ref (q8)), (0, .ref (ad 0 0)), (1, .int (j)), (2, .int (a)), (3, .int (b)), (4, .ref (o9))]) X.1 X.2.1 dL_join_15 hl (by decide) rfl (fun ls hl => ?_)
  refine lv_iconst (v := nI 1) X.1 X.2.1 dL_join_17 (by decide) ?_
  exact hE9 _ _ _ _ _ _ _ ad L K R I A Q N _ rfl (show _ ≤ 2 by decide) (show _ ≤ 260 by decide) hW ho hO ⟨f0, rfl, fun z => absurd z (by decide)⟩ HB rfl dL_join_18

set_option maxHeartbeats 4000000 in
set_option maxRecDepth 100000 in
theorem ww_join_1a (l : Launch) (hst : l.stackTraces = false) {G : va_G} {kT : Nat → ClassId} {a0 o9 : Nat} {T : mT} {D : mD} {j  : Nat} {a b : Int32} (hj : j < 2)  (h : oN a 4) : wM l yL_join wsL_join ({ frames := 8, cells := 2, slots := 260, locals := 147 } : Room) G kT a0 o9 [.ref (a0), .int (nI (j)), .int (a), .int (b), .ref (o9)] T D 1 (T) (D) (oL kT False 0) (oL kT (1 = 0) (((nI 0) : Int32).toInt64)) := by
  refine wstart (cc := cL_join) (maxL := 6) (hh := [(0, 12, 15, 13)]) (by decide) rfl (Nat.le_of_ble_eq_true rfl) (fun ad L K R I A Q N e0 HB h09 ho hP0 p e s m args below meth c Z hE9 X hT hE hW hO ls hl => ?_)
  subst h09
  obtain ⟨f0, rfl, -⟩ := hP0
  have X : CallFix p m c cL_join 6 s args wsL_join RL := X
  have hl : lv_has ls 6 [(0, .ref (ad 0 0)), (1, .int (nI (j))), (2, .int (a)), (3, .int (b)), (4, .ref (o9))] := hl
  refine lv_aload X.1 X.2.1 dL_join_0 (lv_at hl 4 rfl) ?_
  refine lv_iconst (v := nI 0) X.1 X.2.1 dL_join_2 (by decide) ?_
  refine lv_aload_n X.1 X.2.1 dL_join_3 rfl (lv_at hl 0 rfl) ?_
  refine lv_iload_n X.1 X.2.1 dL_join_4 rfl (lv_at hl 1 rfl) ?_
  refine lv_iload_n X.1 X.2.1 dL_join_5 rfl (lv_at hl 2 rfl) ?_
  refine lv_iload_n X.1 X.2.1 dL_join_6 rfl (lv_at hl 3 rfl) ?_
  refine cCV hE X hW (HB.mem lv_0) (pC_6 (HB.kn lv_0 rfl)) rfl (cb_join_b l hst HB hj h) (cwV 3 X.2.2.2.2 gL_join_X6_join rfl rfl rfl (by decide +kernel) ⟨Nat.le_of_ble_eq_true rfl, Nat.le_of_ble_eq_true rfl⟩) rfl rfl hl.1 (Nat.le_of_ble_eq_true rfl) dL_join_7 ⟨Nat.le_of_ble_eq_true rfl, Nat.le_of_ble_eq_true rfl⟩ (fun H locs q8 ce hW hsz hk hce hcv hcl => ?_)
  have hO := oK hO ho hk
  refine vx_catch X.2.2.2.1 [] ⟨0, 12, 15, 13⟩ [] hT (fun z hz => absurd hz List.not_mem_nil) (by decide) (by decide) (X.2.2.2.2 (.classLink RL 13 "java/lang/IndexOutOfBoundsException") (List.mem_cons_of_mem _ (List.mem_append_left _ (List.mem_append_left _ (List.mem_append_left _ (List.mem_append_left _ (List.mem_append_left _ (List.mem_append_left _ (List.mem_of_getElem? (i := 0) rfl))))))))) (va_Nw.use rfl (hE.2.2.1 (.castable "java/lang/IndexOutOfBoundsException" "java/lang/IndexOutOfBoundsException") (by decide +kernel))) hce hcv hcl ?_
  refine lv_astore (lv' := [(5, .ref (q8)), (0, .ref (ad 0 0)), (1, .int (nI (j))), (2, .int (a)), (3, .int (b)), (4, .ref (o9))]) X.1 X.2.1 dL_join_15 hl (by decide) rfl (fun ls hl => ?_)
  refine lv_iconst (v := nI 1) X.1 X.2.1 dL_join_17 (by decide) ?_
  exact hE9 _ _ _ _ _ _ _ ad L K R I A Q N _ rfl (show _ ≤ 2 by decide) (show _ ≤ 260 by decide) hW ho hO ⟨f0, rfl, fun z => absurd z (by decide)⟩ HB rfl dL_join_18

set_option maxHeartbeats 4000000 in
set_option maxRecDepth 100000 in
theorem ww_join_1b (l : Launch) (hst : l.stackTraces = false) {G : va_G} {kT : Nat → ClassId} {a0 o9 : Nat} {T : mT} {D : mD} {j a : Nat} {b : Int32} (hj : j < 2) (ha : a < 4) (h : oN b 4) : wM l yL_join wsL_join ({ frames := 8, cells := 2, slots := 260, locals := 147 } : Room) G kT a0 o9 [.ref (a0), .int (nI (j)), .int (nI (a)), .int (b), .ref (o9)] T D 1 (T) (D) (oL kT False 0) (oL kT (1 = 0) (((nI 0) : Int32).toInt64)) := by
  refine wstart (cc := cL_join) (maxL := 6) (hh := [(0, 12, 15, 13)]) (by decide) rfl (Nat.le_of_ble_eq_true rfl) (fun ad L K R I A Q N e0 HB h09 ho hP0 p e s m args below meth c Z hE9 X hT hE hW hO ls hl => ?_)
  subst h09
  obtain ⟨f0, rfl, -⟩ := hP0
  have X : CallFix p m c cL_join 6 s args wsL_join RL := X
  have hl : lv_has ls 6 [(0, .ref (ad 0 0)), (1, .int (nI (j))), (2, .int (nI (a))), (3, .int (b)), (4, .ref (o9))] := hl
  refine lv_aload X.1 X.2.1 dL_join_0 (lv_at hl 4 rfl) ?_
  refine lv_iconst (v := nI 0) X.1 X.2.1 dL_join_2 (by decide) ?_
  refine lv_aload_n X.1 X.2.1 dL_join_3 rfl (lv_at hl 0 rfl) ?_
  refine lv_iload_n X.1 X.2.1 dL_join_4 rfl (lv_at hl 1 rfl) ?_
  refine lv_iload_n X.1 X.2.1 dL_join_5 rfl (lv_at hl 2 rfl) ?_
  refine lv_iload_n X.1 X.2.1 dL_join_6 rfl (lv_at hl 3 rfl) ?_
  refine cCV hE X hW (HB.mem lv_0) (pC_6 (HB.kn lv_0 rfl)) rfl (cb_join_c l hst HB hj ha h) (cwV 3 X.2.2.2.2 gL_join_X6_join rfl rfl rfl (by decide +kernel) ⟨Nat.le_of_ble_eq_true rfl, Nat.le_of_ble_eq_true rfl⟩) rfl rfl hl.1 (Nat.le_of_ble_eq_true rfl) dL_join_7 ⟨Nat.le_of_ble_eq_true rfl, Nat.le_of_ble_eq_true rfl⟩ (fun H locs q8 ce hW hsz hk hce hcv hcl => ?_)
  have hO := oK hO ho hk
  refine vx_catch X.2.2.2.1 [] ⟨0, 12, 15, 13⟩ [] hT (fun z hz => absurd hz List.not_mem_nil) (by decide) (by decide) (X.2.2.2.2 (.classLink RL 13 "java/lang/IndexOutOfBoundsException") (List.mem_cons_of_mem _ (List.mem_append_left _ (List.mem_append_left _ (List.mem_append_left _ (List.mem_append_left _ (List.mem_append_left _ (List.mem_append_left _ (List.mem_of_getElem? (i := 0) rfl))))))))) (va_Nw.use rfl (hE.2.2.1 (.castable "java/lang/IndexOutOfBoundsException" "java/lang/IndexOutOfBoundsException") (by decide +kernel))) hce hcv hcl ?_
  refine lv_astore (lv' := [(5, .ref (q8)), (0, .ref (ad 0 0)), (1, .int (nI (j))), (2, .int (nI (a))), (3, .int (b)), (4, .ref (o9))]) X.1 X.2.1 dL_join_15 hl (by decide) rfl (fun ls hl => ?_)
  refine lv_iconst (v := nI 1) X.1 X.2.1 dL_join_17 (by decide) ?_
  exact hE9 _ _ _ _ _ _ _ ad L K R I A Q N _ rfl (show _ ≤ 2 by decide) (show _ ≤ 260 by decide) hW ho hO ⟨f0, rfl, fun z => absurd z (by decide)⟩ HB rfl dL_join_18

theorem wo_join (l : Launch) (hst : l.stackTraces = false) {G : va_G} {kT : Nat → ClassId} {a0 o9 : Nat} {T : mT} {D : mD} (I : mI T) (J : mJD D) (j a b : Int32) : wO l yL_join wsL_join ({ frames := 8, cells := 2, slots := 260, locals := 147 } : Room) G kT a0 o9 [.ref a0, .int j, .int a, .int b, .ref o9] T D (sp_join T D j a b) := by
  by_cases h0 : oN j 2
  · rw [show sp_join T D j a b = no T D 1 from if_pos (Or.inl h0)]; exact ww_join_1j l hst h0
  obtain ⟨j, hj, rfl⟩ := oN_in (by decide) h0
  by_cases ha : oN a 4
  · rw [show sp_join T D (nI j) a b = no T D 1 from if_pos (Or.inr (Or.inl ha))]; exact ww_join_1a l hst hj  ha
  obtain ⟨a, ga, rfl⟩ := oN_in (by decide) ha
  by_cases hb : oN b 4
  · rw [show sp_join T D (nI j) (nI a) b = no T D 1 from if_pos (Or.inr (Or.inr (hb)))]; exact ww_join_1b l hst hj ga hb
  obtain ⟨b, gb, rfl⟩ := oN_in (by decide) hb
  rw [show sp_join T D (nI j) (nI a) (nI b) = (0, nI (bL T a + bL T b), jn2 T j a b, D) from (if_neg (fun z => z.elim h0 (fun z => z.elim ha hb))).trans (by rw [nI_clamp (show j < 2 ^ 31 by omega), nI_clamp (show a < 2 ^ 31 by omega), nI_clamp (show b < 2 ^ 31 by omega)])]
  exact ww_join l hst I hj ga gb


set_option maxHeartbeats 4000000 in
set_option maxRecDepth 100000 in
theorem ww_joinThree (l : Launch) (hst : l.stackTraces = false) {G : va_G} {kT : Nat → ClassId} {a0 o9 : Nat} {T : mT} {D : mD} (I : mI T) {j a b d : Nat} {lf : Int32} (hj : j < 2) (ha : a < 4) (hb : b < 4) (hd : d < 4) : wM l yL_joinThree wsL_joinThree ({ frames := 8, cells := 2, slots := 260, locals := 150 } : Room) G kT a0 o9 [.ref (a0), .int (nI (j)), .int (nI (a)), .int (nI (b)), .int (nI (d)), .int (lf), .ref (o9)] T D 0 (jn3 T j a b d) (D) (oL kT False 0) (oL kT (0 = 0) (((nI (bL T a + bL T b + bL T d)) : Int32).toInt64)) := by
  refine wstart (cc := cL_joinThree) (maxL := 8) (hh := [(0, 16, 19, 13)]) (by decide) rfl (Nat.le_of_ble_eq_true rfl) (fun ad L K R I A Q N e0 HB h09 ho hP0 p e s m args below meth c Z hE9 X hT hE hW hO ls hl => ?_)
  subst h09
  obtain ⟨f0, rfl, -⟩ := hP0
  have X : CallFix p m c cL_joinThree 8 s args wsL_joinThree RL := X
  have hl : lv_has ls 8 [(0, .ref (ad 0 0)), (1, .int (nI (j))), (2, .int (nI (a))), (3, .int (nI (b))), (4, .int (nI (d))), (5, .int (lf)), (6, .ref (o9))] := hl
  refine lv_aload X.1 X.2.1 dL_joinThree_0 (lv_at hl 6 rfl) ?_
  refine lv_iconst (v := nI 0) X.1 X.2.1 dL_joinThree_2 (by decide) ?_
  refine lv_aload_n X.1 X.2.1 dL_joinThree_3 rfl (lv_at hl 0 rfl) ?_
  refine lv_iload_n X.1 X.2.1 dL_joinThree_4 rfl (lv_at hl 1 rfl) ?_
  refine lv_iload_n X.1 X.2.1 dL_joinThree_5 rfl (lv_at hl 2 rfl) ?_
  refine lv_iload_n X.1 X.2.1 dL_joinThree_6 rfl (lv_at hl 3 rfl) ?_
  refine lv_iload X.1 X.2.1 dL_joinThree_7 (lv_at hl 4 rfl) ?_
  refine lv_iload X.1 X.2.1 dL_joinThree_9 (lv_at hl 5 rfl) ?_
  refine cFi X hW (HB.mem lv_0) (pC_6 (HB.kn lv_0 rfl)) rfl (co_joinThree l HB (lf := lf) hj ha hb hd) (cwV 5 X.2.2.2.2 gL_joinThree_X6_joinThree rfl rfl rfl (by decide +kernel) ⟨Nat.le_of_ble_eq_true rfl, Nat.le_of_ble_eq_true rfl⟩) rfl rfl hl.1 (Nat.le_of_ble_eq_true rfl) dL_joinThree_11 ⟨Nat.le_of_ble_eq_true rfl, Nat.le_of_ble_eq_true rfl⟩ (fun H locs hW hsz hk => ?_)
  have hO := oK hO ho hk
  refine lv_i2l (v := (nI (0 + bL T a + bL T b + bL T d)).toInt64) X.1 X.2.1 dL_joinThree_14 rfl ?_
  refine wst X hW hO ho dL_joinThree_15 (fun H locs hW hO => ?_)
  refine lv_goto (tgt := 23) X.1 X.2.1 dL_joinThree_16 (by decide) ?_
  refine lv_iconst (v := nI 0) X.1 X.2.1 dL_joinThree_23 (by decide) ?_
  exact hE9 _ _ _ _ _ _ _ ad L K _ _ _ _ N _ rfl (show _ ≤ 2 by decide) (show _ ≤ 260 by decide) hW ho hO ⟨_, rfl, fun _ => (if_pos rfl).trans (by rw [Nat.zero_add])⟩ (HB.join3 hj ha hb hd) rfl dL_joinThree_24

set_option maxHeartbeats 4000000 in
set_option maxRecDepth 100000 in
theorem ww_joinThree_1j (l : Launch) (hst : l.stackTraces = false) {G : va_G} {kT : Nat → ClassId} {a0 o9 : Nat} {T : mT} {D : mD} {j a b d : Int32} {lf : Int32} (h : oN j 2) : wM l yL_joinThree wsL_joinThree ({ frames := 8, cells := 2, slots := 260, locals := 150 } : Room) G kT a0 o9 [.ref (a0), .int (j), .int (a), .int (b), .int (d), .int (lf), .ref (o9)] T D 1 (T) (D) (oL kT False 0) (oL kT (1 = 0) (((nI 0) : Int32).toInt64)) := by
  refine wstart (cc := cL_joinThree) (maxL := 8) (hh := [(0, 16, 19, 13)]) (by decide) rfl (Nat.le_of_ble_eq_true rfl) (fun ad L K R I A Q N e0 HB h09 ho hP0 p e s m args below meth c Z hE9 X hT hE hW hO ls hl => ?_)
  subst h09
  obtain ⟨f0, rfl, -⟩ := hP0
  have X : CallFix p m c cL_joinThree 8 s args wsL_joinThree RL := X
  have hl : lv_has ls 8 [(0, .ref (ad 0 0)), (1, .int (j)), (2, .int (a)), (3, .int (b)), (4, .int (d)), (5, .int (lf)), (6, .ref (o9))] := hl
  refine lv_aload X.1 X.2.1 dL_joinThree_0 (lv_at hl 6 rfl) ?_
  refine lv_iconst (v := nI 0) X.1 X.2.1 dL_joinThree_2 (by decide) ?_
  refine lv_aload_n X.1 X.2.1 dL_joinThree_3 rfl (lv_at hl 0 rfl) ?_
  refine lv_iload_n X.1 X.2.1 dL_joinThree_4 rfl (lv_at hl 1 rfl) ?_
  refine lv_iload_n X.1 X.2.1 dL_joinThree_5 rfl (lv_at hl 2 rfl) ?_
  refine lv_iload_n X.1 X.2.1 dL_joinThree_6 rfl (lv_at hl 3 rfl) ?_
  refine lv_iload X.1 X.2.1 dL_joinThree_7 (lv_at hl 4 rfl) ?_
  refine lv_iload X.1 X.2.1 dL_joinThree_9 (lv_at hl 5 rfl) ?_
  refine cCV hE X hW (HB.mem lv_0) (pC_6 (HB.kn lv_0 rfl)) rfl (cb_joinThree_a l hst HB h) (cwV 5 X.2.2.2.2 gL_joinThree_X6_joinThree rfl rfl rfl (by decide +kernel) ⟨Nat.le_of_ble_eq_true rfl, Nat.le_of_ble_eq_true rfl⟩) rfl rfl hl.1 (Nat.le_of_ble_eq_true rfl) dL_joinThree_11 ⟨Nat.le_of_ble_eq_true rfl, Nat.le_of_ble_eq_true rfl⟩ (fun H locs q8 ce hW hsz hk hce hcv hcl => ?_)
  have hO := oK hO ho hk
  refine vx_catch X.2.2.2.1 [] ⟨0, 16, 19, 13⟩ [] hT (fun z hz => absurd hz List.not_mem_nil) (by decide) (by decide) (X.2.2.2.2 (.classLink RL 13 "java/lang/IndexOutOfBoundsException") (List.mem_cons_of_mem _ (List.mem_append_left _ (List.mem_append_left _ (List.mem_append_left _ (List.mem_append_left _ (List.mem_append_left _ (List.mem_append_left _ (List.mem_of_getElem? (i := 0) rfl))))))))) (va_Nw.use rfl (hE.2.2.1 (.castable "java/lang/IndexOutOfBoundsException" "java/lang/IndexOutOfBoundsException") (by decide +kernel))) hce hcv hcl ?_
  refine lv_astore (lv' := [(7, .ref (q8)), (0, .ref (ad 0 0)), (1, .int (j)), (2, .int (a)), (3, .int (b)), (4, .int (d)), (5, .int (lf)), (6, .ref (o9))]) X.1 X.2.1 dL_joinThree_19 hl (by decide) rfl (fun ls hl => ?_)
  refine lv_iconst (v := nI 1) X.1 X.2.1 dL_joinThree_21 (by decide) ?_
  exact hE9 _ _ _ _ _ _ _ ad L K R I A Q N _ rfl (show _ ≤ 2 by decide) (show _ ≤ 260 by decide) hW ho hO ⟨f0, rfl, fun z => absurd z (by decide)⟩ HB rfl dL_joinThree_22

set_option maxHeartbeats 4000000 in
set_option maxRecDepth 100000 in
theorem ww_joinThree_1a (l : Launch) (hst : l.stackTraces = false) {G : va_G} {kT : Nat → ClassId} {a0 o9 : Nat} {T : mT} {D : mD} {j  : Nat} {a b d : Int32} {lf : Int32} (hj : j < 2)  (h : oN a 4) : wM l yL_joinThree wsL_joinThree ({ frames := 8, cells := 2, slots := 260, locals := 150 } : Room) G kT a0 o9 [.ref (a0), .int (nI (j)), .int (a), .int (b), .int (d), .int (lf), .ref (o9)] T D 1 (T) (D) (oL kT False 0) (oL kT (1 = 0) (((nI 0) : Int32).toInt64)) := by
  refine wstart (cc := cL_joinThree) (maxL := 8) (hh := [(0, 16, 19, 13)]) (by decide) rfl (Nat.le_of_ble_eq_true rfl) (fun ad L K R I A Q N e0 HB h09 ho hP0 p e s m args below meth c Z hE9 X hT hE hW hO ls hl => ?_)
  subst h09
  obtain ⟨f0, rfl, -⟩ := hP0
  have X : CallFix p m c cL_joinThree 8 s args wsL_joinThree RL := X
  have hl : lv_has ls 8 [(0, .ref (ad 0 0)), (1, .int (nI (j))), (2, .int (a)), (3, .int (b)), (4, .int (d)), (5, .int (lf)), (6, .ref (o9))] := hl
  refine lv_aload X.1 X.2.1 dL_joinThree_0 (lv_at hl 6 rfl) ?_
  refine lv_iconst (v := nI 0) X.1 X.2.1 dL_joinThree_2 (by decide) ?_
  refine lv_aload_n X.1 X.2.1 dL_joinThree_3 rfl (lv_at hl 0 rfl) ?_
  refine lv_iload_n X.1 X.2.1 dL_joinThree_4 rfl (lv_at hl 1 rfl) ?_
  refine lv_iload_n X.1 X.2.1 dL_joinThree_5 rfl (lv_at hl 2 rfl) ?_
  refine lv_iload_n X.1 X.2.1 dL_joinThree_6 rfl (lv_at hl 3 rfl) ?_
  refine lv_iload X.1 X.2.1 dL_joinThree_7 (lv_at hl 4 rfl) ?_
  refine lv_iload X.1 X.2.1 dL_joinThree_9 (lv_at hl 5 rfl) ?_
  refine cCV hE X hW (HB.mem lv_0) (pC_6 (HB.kn lv_0 rfl)) rfl (cb_joinThree_b l hst HB hj h) (cwV 5 X.2.2.2.2 gL_joinThree_X6_joinThree rfl rfl rfl (by decide +kernel) ⟨Nat.le_of_ble_eq_true rfl, Nat.le_of_ble_eq_true rfl⟩) rfl rfl hl.1 (Nat.le_of_ble_eq_true rfl) dL_joinThree_11 ⟨Nat.le_of_ble_eq_true rfl, Nat.le_of_ble_eq_true rfl⟩ (fun H locs q8 ce hW hsz hk hce hcv hcl => ?_)
  have hO := oK hO ho hk
  refine vx_catch X.2.2.2.1 [] ⟨0, 16, 19, 13⟩ [] hT (fun z hz => absurd hz List.not_mem_nil) (by decide) (by decide) (X.2.2.2.2 (.classLink RL 13 "java/lang/IndexOutOfBoundsException") (List.mem_cons_of_mem _ (List.mem_append_left _ (List.mem_append_left _ (List.mem_append_left _ (List.mem_append_left _ (List.mem_append_left _ (List.mem_append_left _ (List.mem_of_getElem? (i := 0) rfl))))))))) (va_Nw.use rfl (hE.2.2.1 (.castable "java/lang/IndexOutOfBoundsException" "java/lang/IndexOutOfBoundsException") (by decide +kernel))) hce hcv hcl ?_
  refine lv_astore (lv' := [(7, .ref (q8)), (0, .ref (ad 0 0)), (1, .int (nI (j))), (2, .int (a)), (3, .int (b)), (4, .int (d)), (5, .int (lf)), (6, .ref (o9))]) X.1 X.2.1 dL_joinThree_19 hl (by decide) rfl (fun ls hl => ?_)
  refine lv_iconst (v := nI 1) X.1 X.2.1 dL_joinThree_21 (by decide) ?_
  exact hE9 _ _ _ _ _ _ _ ad L K R I A Q N _ rfl (show _ ≤ 2 by decide) (show _ ≤ 260 by decide) hW ho hO ⟨f0, rfl, fun z => absurd z (by decide)⟩ HB rfl dL_joinThree_22

set_option maxHeartbeats 4000000 in
set_option maxRecDepth 100000 in
theorem ww_joinThree_1b (l : Launch) (hst : l.stackTraces = false) {G : va_G} {kT : Nat → ClassId} {a0 o9 : Nat} {T : mT} {D : mD} {j a : Nat} {b d : Int32} {lf : Int32} (hj : j < 2) (ha : a < 4) (h : oN b 4) : wM l yL_joinThree wsL_joinThree ({ frames := 8, cells := 2, slots := 260, locals := 150 } : Room) G kT a0 o9 [.ref (a0), .int (nI (j)), .int (nI (a)), .int (b), .int (d), .int (lf), .ref (o9)] T D 1 (T) (D) (oL kT False 0) (oL kT (1 = 0) (((nI 0) : Int32).toInt64)) := by
  refine wstart (cc := cL_joinThree) (maxL := 8) (hh := [(0, 16, 19, 13)]) (by decide) rfl (Nat.le_of_ble_eq_true rfl) (fun ad L K R I A Q N e0 HB h09 ho hP0 p e s m args below meth c Z hE9 X hT hE hW hO ls hl => ?_)
  subst h09
  obtain ⟨f0, rfl, -⟩ := hP0
  have X : CallFix p m c cL_joinThree 8 s args wsL_joinThree RL := X
  have hl : lv_has ls 8 [(0, .ref (ad 0 0)), (1, .int (nI (j))), (2, .int (nI (a))), (3, .int (b)), (4, .int (d)), (5, .int (lf)), (6, .ref (o9))] := hl
  refine lv_aload X.1 X.2.1 dL_joinThree_0 (lv_at hl 6 rfl) ?_
  refine lv_iconst (v := nI 0) X.1 X.2.1 dL_joinThree_2 (by decide) ?_
  refine lv_aload_n X.1 X.2.1 dL_joinThree_3 rfl (lv_at hl 0 rfl) ?_
  refine lv_iload_n X.1 X.2.1 dL_joinThree_4 rfl (lv_at hl 1 rfl) ?_
  refine lv_iload_n X.1 X.2.1 dL_joinThree_5 rfl (lv_at hl 2 rfl) ?_
  refine lv_iload_n X.1 X.2.1 dL_joinThree_6 rfl (lv_at hl 3 rfl) ?_
  refine lv_iload X.1 X.2.1 dL_joinThree_7 (lv_at hl 4 rfl) ?_
  refine lv_iload X.1 X.2.1 dL_joinThree_9 (lv_at hl 5 rfl) ?_
  refine cCV hE X hW (HB.mem lv_0) (pC_6 (HB.kn lv_0 rfl)) rfl (cb_joinThree_c l hst HB hj ha h) (cwV 5 X.2.2.2.2 gL_joinThree_X6_joinThree rfl rfl rfl (by decide +kernel) ⟨Nat.le_of_ble_eq_true rfl, Nat.le_of_ble_eq_true rfl⟩) rfl rfl hl.1 (Nat.le_of_ble_eq_true rfl) dL_joinThree_11 ⟨Nat.le_of_ble_eq_true rfl, Nat.le_of_ble_eq_true rfl⟩ (fun H locs q8 ce hW hsz hk hce hcv hcl => ?_)
  have hO := oK hO ho hk
  refine vx_catch X.2.2.2.1 [] ⟨0, 16, 19, 13⟩ [] hT (fun z hz => absurd hz List.not_mem_nil) (by decide) (by decide) (X.2.2.2.2 (.classLink RL 13 "java/lang/IndexOutOfBoundsException") (List.mem_cons_of_mem _ (List.mem_append_left _ (List.mem_append_left _ (List.mem_append_left _ (List.mem_append_left _ (List.mem_append_left _ (List.mem_append_left _ (List.mem_of_getElem? (i := 0) rfl))))))))) (va_Nw.use rfl (hE.2.2.1 (.castable "java/lang/IndexOutOfBoundsException" "java/lang/IndexOutOfBoundsException") (by decide +kernel))) hce hcv hcl ?_
  refine lv_astore (lv' := [(7, .ref (q8)), (0, .ref (ad 0 0)), (1, .int (nI (j))), (2, .int (nI (a))), (3, .int (b)), (4, .int (d)), (5, .int (lf)), (6, .ref (o9))]) X.1 X.2.1 dL_joinThree_19 hl (by decide) rfl (fun ls hl => ?_)
  refine lv_iconst (v := nI 1) X.1 X.2.1 dL_joinThree_21 (by decide) ?_
  exact hE9 _ _ _ _ _ _ _ ad L K R I A Q N _ rfl (show _ ≤ 2 by decide) (show _ ≤ 260 by decide) hW ho hO ⟨f0, rfl, fun z => absurd z (by decide)⟩ HB rfl dL_joinThree_22

set_option maxHeartbeats 4000000 in
set_option maxRecDepth 100000 in
theorem ww_joinThree_1d (l : Launch) (hst : l.stackTraces = false) {G : va_G} {kT : Nat → ClassId} {a0 o9 : Nat} {T : mT} {D : mD} {j a b : Nat} {d : Int32} {lf : Int32} (hj : j < 2) (ha : a < 4) (hb : b < 4) (h : oN d 4) : wM l yL_joinThree wsL_joinThree ({ frames := 8, cells := 2, slots := 260, locals := 150 } : Room) G kT a0 o9 [.ref (a0), .int (nI (j)), .int (nI (a)), .int (nI (b)), .int (d), .int (lf), .ref (o9)] T D 1 (T) (D) (oL kT False 0) (oL kT (1 = 0) (((nI 0) : Int32).toInt64)) := by
  refine wstart (cc := cL_joinThree) (maxL := 8) (hh := [(0, 16, 19, 13)]) (by decide) rfl (Nat.le_of_ble_eq_true rfl) (fun ad L K R I A Q N e0 HB h09 ho hP0 p e s m args below meth c Z hE9 X hT hE hW hO ls hl => ?_)
  subst h09
  obtain ⟨f0, rfl, -⟩ := hP0
  have X : CallFix p m c cL_joinThree 8 s args wsL_joinThree RL := X
  have hl : lv_has ls 8 [(0, .ref (ad 0 0)), (1, .int (nI (j))), (2, .int (nI (a))), (3, .int (nI (b))), (4, .int (d)), (5, .int (lf)), (6, .ref (o9))] := hl
  refine lv_aload X.1 X.2.1 dL_joinThree_0 (lv_at hl 6 rfl) ?_
  refine lv_iconst (v := nI 0) X.1 X.2.1 dL_joinThree_2 (by decide) ?_
  refine lv_aload_n X.1 X.2.1 dL_joinThree_3 rfl (lv_at hl 0 rfl) ?_
  refine lv_iload_n X.1 X.2.1 dL_joinThree_4 rfl (lv_at hl 1 rfl) ?_
  refine lv_iload_n X.1 X.2.1 dL_joinThree_5 rfl (lv_at hl 2 rfl) ?_
  refine lv_iload_n X.1 X.2.1 dL_joinThree_6 rfl (lv_at hl 3 rfl) ?_
  refine lv_iload X.1 X.2.1 dL_joinThree_7 (lv_at hl 4 rfl) ?_
  refine lv_iload X.1 X.2.1 dL_joinThree_9 (lv_at hl 5 rfl) ?_
  refine cCV hE X hW (HB.mem lv_0) (pC_6 (HB.kn lv_0 rfl)) rfl (cb_joinThree_d l hst HB hj ha hb h) (cwV 5 X.2.2.2.2 gL_joinThree_X6_joinThree rfl rfl rfl (by decide +kernel) ⟨Nat.le_of_ble_eq_true rfl, Nat.le_of_ble_eq_true rfl⟩) rfl rfl hl.1 (Nat.le_of_ble_eq_true rfl) dL_joinThree_11 ⟨Nat.le_of_ble_eq_true rfl, Nat.le_of_ble_eq_true rfl⟩ (fun H locs q8 ce hW hsz hk hce hcv hcl => ?_)
  have hO := oK hO ho hk
  refine vx_catch X.2.2.2.1 [] ⟨0, 16, 19, 13⟩ [] hT (fun z hz => absurd hz List.not_mem_nil) (by decide) (by decide) (X.2.2.2.2 (.classLink RL 13 "java/lang/IndexOutOfBoundsException") (List.mem_cons_of_mem _ (List.mem_append_left _ (List.mem_append_left _ (List.mem_append_left _ (List.mem_append_left _ (List.mem_append_left _ (List.mem_append_left _ (List.mem_of_getElem? (i := 0) rfl))))))))) (va_Nw.use rfl (hE.2.2.1 (.castable "java/lang/IndexOutOfBoundsException" "java/lang/IndexOutOfBoundsException") (by decide +kernel))) hce hcv hcl ?_
  refine lv_astore (lv' := [(7, .ref (q8)), (0, .ref (ad 0 0)), (1, .int (nI (j))), (2, .int (nI (a))), (3, .int (nI (b))), (4, .int (d)), (5, .int (lf)), (6, .ref (o9))]) X.1 X.2.1 dL_joinThree_19 hl (by decide) rfl (fun ls hl => ?_)
  refine lv_iconst (v := nI 1) X.1 X.2.1 dL_joinThree_21 (by decide) ?_
  exact hE9 _ _ _ _ _ _ _ ad L K R I A Q N _ rfl (show _ ≤ 2 by decide) (show _ ≤ 260 by decide) hW ho hO ⟨f0, rfl, fun z => absurd z (by decide)⟩ HB rfl dL_joinThree_22

theorem wo_joinThree (l : Launch) (hst : l.stackTraces = false) {G : va_G} {kT : Nat → ClassId} {a0 o9 : Nat} {T : mT} {D : mD} (I : mI T) (J : mJD D) (j a b d lf : Int32) : wO l yL_joinThree wsL_joinThree ({ frames := 8, cells := 2, slots := 260, locals := 150 } : Room) G kT a0 o9 [.ref a0, .int j, .int a, .int b, .int d, .int lf, .ref o9] T D (sp_joinThree T D j a b d) := by
  by_cases h0 : oN j 2
  · rw [show sp_joinThree T D j a b d = no T D 1 from if_pos (Or.inl h0)]; exact ww_joinThree_1j l hst h0
  obtain ⟨j, hj, rfl⟩ := oN_in (by decide) h0
  by_cases ha : oN a 4
  · rw [show sp_joinThree T D (nI j) a b d = no T D 1 from if_pos (Or.inr (Or.inl ha))]; exact ww_joinThree_1a l hst hj  ha
  obtain ⟨a, ga, rfl⟩ := oN_in (by decide) ha
  by_cases hb : oN b 4
  · rw [show sp_joinThree T D (nI j) (nI a) b d = no T D 1 from if_pos (Or.inr (Or.inr (Or.inl hb)))]; exact ww_joinThree_1b l hst hj ga hb
  obtain ⟨b, gb, rfl⟩ := oN_in (by decide) hb
  by_cases hd : oN d 4
  · rw [show sp_joinThree T D (nI j) (nI a) (nI b) d = no T D 1 from if_pos (Or.inr (Or.inr (Or.inr (hd))))]; exact ww_joinThree_1d l hst hj ga gb hd
  obtain ⟨d, gd, rfl⟩ := oN_in (by decide) hd
  rw [show sp_joinThree T D (nI j) (nI a) (nI b) (nI d) = (0, nI (bL T a + bL T b + bL T d), jn3 T j a b d, D) from (if_neg (fun z => z.elim h0 (fun z => z.elim ha (fun z => z.elim hb hd)))).trans (by rw [nI_clamp (show j < 2 ^ 31 by omega), nI_clamp (show a < 2 ^ 31 by omega), nI_clamp (show b < 2 ^ 31 by omega), nI_clamp (show d < 2 ^ 31 by omega)])]
  exact ww_joinThree l hst I hj ga gb gd


set_option maxHeartbeats 4000000 in
set_option maxRecDepth 100000 in
theorem ww_next_1 (l : Launch) (hst : l.stackTraces = false) {G : va_G} {kT : Nat → ClassId} {a0 o9 : Nat} {T : mT} {D : mD} {j : Int32} (h : oN j 2) : wM l yL_next wsL_next ({ frames := 9, cells := 2, slots := 260, locals := 164 } : Room) G kT a0 o9 [.ref (a0), .int (j), .ref (o9)] T D 1 (T) (D) (oL kT False 0) (oL kT (1 = 0) (((nI 0) : Int32).toInt64)) := by
  refine wstart (cc := cL_next) (maxL := 4) (hh := [(0, 9, 12, 13), (0, 9, 15, 108)]) (by decide) rfl (Nat.le_of_ble_eq_true rfl) (fun ad L K R I A Q N e0 HB h09 ho hP0 p e s m args below meth c Z hE9 X hT hE hW hO ls hl => ?_)
  subst h09
  obtain ⟨f0, rfl, -⟩ := hP0
  have X : CallFix p m c cL_next 4 s args wsL_next RL := X
  have hl : lv_has ls 4 [(0, .ref (ad 0 0)), (1, .int (j)), (2, .ref (o9))] := hl
  refine lv_aload_n X.1 X.2.1 dL_next_0 rfl (lv_at hl 2 rfl) ?_
  refine lv_iconst (v := nI 0) X.1 X.2.1 dL_next_1 (by decide) ?_
  refine lv_aload_n X.1 X.2.1 dL_next_2 rfl (lv_at hl 0 rfl) ?_
  refine lv_iload_n X.1 X.2.1 dL_next_3 rfl (lv_at hl 1 rfl) ?_
  refine cCV hE X hW (HB.mem lv_0) (pC_6 (HB.kn lv_0 rfl)) rfl (cb_next_a l hst HB h) (cwV 1 X.2.2.2.2 gL_next_X6_next rfl rfl rfl (by decide +kernel) ⟨Nat.le_of_ble_eq_true rfl, Nat.le_of_ble_eq_true rfl⟩) rfl rfl hl.1 (Nat.le_of_ble_eq_true rfl) dL_next_4 ⟨Nat.le_of_ble_eq_true rfl, Nat.le_of_ble_eq_true rfl⟩ (fun H locs q8 ce hW hsz hk hce hcv hcl => ?_)
  have hO := oK hO ho hk
  refine vx_catch X.2.2.2.1 [] ⟨0, 9, 12, 13⟩ [⟨0, 9, 15, 108⟩] hT (fun z hz => absurd hz List.not_mem_nil) (by decide) (by decide) (X.2.2.2.2 (.classLink RL 13 "java/lang/IndexOutOfBoundsException") (List.mem_cons_of_mem _ (List.mem_append_left _ (List.mem_append_left _ (List.mem_append_left _ (List.mem_append_left _ (List.mem_append_left _ (List.mem_append_left _ (List.mem_append_left _ (List.mem_of_getElem? (i := 0) rfl)))))))))) (va_Nw.use rfl (hE.2.2.1 (.castable "java/lang/IndexOutOfBoundsException" "java/lang/IndexOutOfBoundsException") (by decide +kernel))) hce hcv hcl ?_
  refine lv_astore_n (lv' := [(3, .ref (q8)), (0, .ref (ad 0 0)), (1, .int (j)), (2, .ref (o9))]) X.1 X.2.1 dL_next_12 rfl hl (by decide) rfl (fun ls hl => ?_)
  refine lv_iconst (v := nI 1) X.1 X.2.1 dL_next_13 (by decide) ?_
  exact hE9 _ _ _ _ _ _ _ ad L K R I A Q N _ rfl (show _ ≤ 2 by decide) (show _ ≤ 260 by decide) hW ho hO ⟨f0, rfl, fun z => absurd z (by decide)⟩ HB rfl dL_next_14

set_option maxHeartbeats 4000000 in
set_option maxRecDepth 100000 in
theorem ww_next_2 (l : Launch) (hst : l.stackTraces = false) {G : va_G} {kT : Nat → ClassId} {a0 o9 : Nat} {T : mT} {D : mD} {j : Nat} (hj : j < 2) (h : T 13 j = 0) : wM l yL_next wsL_next ({ frames := 9, cells := 2, slots := 260, locals := 164 } : Room) G kT a0 o9 [.ref (a0), .int (nI (j)), .ref (o9)] T D 2 (T) (D) (oL kT False 0) (oL kT (2 = 0) (((nI 0) : Int32).toInt64)) := by
  refine wstart (cc := cL_next) (maxL := 4) (hh := [(0, 9, 12, 13), (0, 9, 15, 108)]) (by decide) rfl (Nat.le_of_ble_eq_true rfl) (fun ad L K R I A Q N e0 HB h09 ho hP0 p e s m args below meth c Z hE9 X hT hE hW hO ls hl => ?_)
  subst h09
  obtain ⟨f0, rfl, -⟩ := hP0
  have X : CallFix p m c cL_next 4 s args wsL_next RL := X
  have hl : lv_has ls 4 [(0, .ref (ad 0 0)), (1, .int (nI (j))), (2, .ref (o9))] := hl
  obtain ⟨pl, hjs, hpl⟩ := HB.js hj
  refine lv_aload_n X.1 X.2.1 dL_next_0 rfl (lv_at hl 2 rfl) ?_
  refine lv_iconst (v := nI 0) X.1 X.2.1 dL_next_1 (by decide) ?_
  refine lv_aload_n X.1 X.2.1 dL_next_2 rfl (lv_at hl 0 rfl) ?_
  refine lv_iload_n X.1 X.2.1 dL_next_3 rfl (lv_at hl 1 rfl) ?_
  refine cCV hE X hW (HB.mem lv_0) (pC_6 (HB.kn lv_0 rfl)) rfl (cb_next_b l hst HB hj hjs h) (cwV 1 X.2.2.2.2 gL_next_X6_next rfl rfl rfl (by decide +kernel) ⟨Nat.le_of_ble_eq_true rfl, Nat.le_of_ble_eq_true rfl⟩) rfl rfl hl.1 (Nat.le_of_ble_eq_true rfl) dL_next_4 ⟨Nat.le_of_ble_eq_true rfl, Nat.le_of_ble_eq_true rfl⟩ (fun H locs q8 ce hW hsz hk hce hcv hcl => ?_)
  have hO := oK hO ho hk
  refine vx_catch X.2.2.2.1 [⟨0, 9, 12, 13⟩] ⟨0, 9, 15, 108⟩ [] hT (List.forall_mem_cons.mpr ⟨Or.inr ⟨by decide, "java/lang/IndexOutOfBoundsException", X.2.2.2.2 (.classLink RL 13 "java/lang/IndexOutOfBoundsException") (List.mem_cons_of_mem _ (List.mem_append_left _ (List.mem_append_left _ (List.mem_append_left _ (List.mem_append_left _ (List.mem_append_left _ (List.mem_append_left _ (List.mem_append_left _ (List.mem_of_getElem? (i := 0) rfl))))))))), hE.2.2.2.2 ("java/lang/UnsupportedOperationException", "java/lang/IndexOutOfBoundsException") (by decide +kernel)⟩, (fun z hz => absurd hz List.not_mem_nil)⟩) (by decide) (by decide) (X.2.2.2.2 (.classLink RL 108 "java/lang/UnsupportedOperationException") (List.mem_cons_of_mem _ (List.mem_append_left _ (List.mem_append_left _ (List.mem_append_left _ (List.mem_append_left _ (List.mem_append_left _ (List.mem_append_left _ (List.mem_append_left _ (List.mem_of_getElem? (i := 1) rfl)))))))))) (va_Nw.use rfl (hE.2.2.1 (.castable "java/lang/UnsupportedOperationException" "java/lang/UnsupportedOperationException") (by decide +kernel))) hce hcv hcl ?_
  refine lv_astore_n (lv' := [(3, .ref (q8)), (0, .ref (ad 0 0)), (1, .int (nI (j))), (2, .ref (o9))]) X.1 X.2.1 dL_next_15 rfl hl (by decide) rfl (fun ls hl => ?_)
  refine lv_iconst (v := nI 2) X.1 X.2.1 dL_next_16 (by decide) ?_
  exact hE9 _ _ _ _ _ _ _ ad L K R I A Q N _ rfl (show _ ≤ 2 by decide) (show _ ≤ 260 by decide) hW ho hO ⟨f0, rfl, fun z => absurd z (by decide)⟩ HB rfl dL_next_17

set_option maxHeartbeats 4000000 in
set_option maxRecDepth 100000 in
theorem ww_next_g (l : Launch) (hst : l.stackTraces = false) {G : va_G} {kT : Nat → ClassId} {a0 o9 : Nat} {T : mT} {D : mD} (I : mI T) {j : Nat} (hj : j < 2) (h0 : T 13 j ≠ 0) (hw : wnT T j 16 j < wnT T j 13 j) : wM l yL_next wsL_next ({ frames := 9, cells := 2, slots := 260, locals := 164 } : Room) G kT a0 o9 [.ref (a0), .int (nI (j)), .ref (o9)] T D 0 (gtT (wnT T j) j) (D) (oL kT False 0) (oL kT (0 = 0) (((gtD (wnT T j) D j &&& nI 255) : Int32).toInt64)) := by
  refine wstart (cc := cL_next) (maxL := 4) (hh := [(0, 9, 12, 13), (0, 9, 15, 108)]) (by decide) rfl (Nat.le_of_ble_eq_true rfl) (fun ad L K R I A Q N e0 HB h09 ho hP0 p e s m args below meth c Z hE9 X hT hE hW hO ls hl => ?_)
  subst h09
  obtain ⟨f0, rfl, -⟩ := hP0
  have X : CallFix p m c cL_next 4 s args wsL_next RL := X
  have hl : lv_has ls 4 [(0, .ref (ad 0 0)), (1, .int (nI (j))), (2, .ref (o9))] := hl
  obtain ⟨pl, hjs, hpl⟩ := HB.js hj
  have hp9 := hjs.2.2.2.2.2.2.2.2.2.2.2
  obtain ⟨f1, f2, f3, f4⟩ := HB.fbw hj hpl
  have e13 : wnT T j 13 = T 13 := wnT_k (by decide)
  rw [e13, ← f1] at hw
  have hlt := HB.here hj hjs hw
  have e9 := HB.gt (i := 0) hj hpl hw hlt
  refine lv_aload_n X.1 X.2.1 dL_next_0 rfl (lv_at hl 2 rfl) ?_
  refine lv_iconst (v := nI 0) X.1 X.2.1 dL_next_1 (by decide) ?_
  refine lv_aload_n X.1 X.2.1 dL_next_2 rfl (lv_at hl 0 rfl) ?_
  refine lv_iload_n X.1 X.2.1 dL_next_3 rfl (lv_at hl 1 rfl) ?_
  refine cFi X hW (HB.mem lv_0) (pC_6 (HB.kn lv_0 rfl)) rfl (co_next l HB hj hjs h0 hw) (cwV 1 X.2.2.2.2 gL_next_X6_next rfl rfl rfl (by decide +kernel) ⟨Nat.le_of_ble_eq_true rfl, Nat.le_of_ble_eq_true rfl⟩) rfl rfl hl.1 (Nat.le_of_ble_eq_true rfl) dL_next_4 ⟨Nat.le_of_ble_eq_true rfl, Nat.le_of_ble_eq_true rfl⟩ (fun H locs hW hsz hk => ?_)
  have hO := oK hO ho hk
  refine lv_i2l (v := (A (ad 6 (T 14 (3 * j + (fb (T 13 j) (fun k => T 4 (T 14 (3 * j + k) - 1)) (T 16 j) pl).1) - 1)) (fb (T 13 j) (fun k => T 4 (T 14 (3 * j + k) - 1)) (T 16 j) pl).2 &&& nI 255).toInt64) X.1 X.2.1 dL_next_7 rfl ?_
  refine wst X hW hO ho dL_next_8 (fun H locs hW hO => ?_)
  refine lv_goto (tgt := 18) X.1 X.2.1 dL_next_9 (by decide) ?_
  refine lv_iconst (v := nI 0) X.1 X.2.1 dL_next_18 (by decide) ?_
  exact hE9 _ _ _ _ _ _ _ ad L K _ _ _ _ N _ rfl (show _ ≤ 2 by decide) (show _ ≤ 260 by decide) hW ho hO ⟨_, rfl, fun _ => (if_pos rfl).trans (congrArg (fun z : Int32 => (z &&& nI 255).toInt64) e9)⟩ (HB.next_n (n := 1) hj hpl hp9 hw hlt) rfl dL_next_19

set_option maxHeartbeats 4000000 in
set_option maxRecDepth 100000 in
theorem ww_next_e (l : Launch) (hst : l.stackTraces = false) {G : va_G} {kT : Nat → ClassId} {a0 o9 : Nat} {T : mT} {D : mD} (I : mI T) {j : Nat} (hj : j < 2) (h0 : T 13 j ≠ 0) (hw : ¬ wnT T j 16 j < wnT T j 13 j) : wM l yL_next wsL_next ({ frames := 9, cells := 2, slots := 260, locals := 164 } : Room) G kT a0 o9 [.ref (a0), .int (nI (j)), .ref (o9)] T D 0 (wnT T j) (D) (oL kT False 0) (oL kT (0 = 0) (((-1) : Int32).toInt64)) := by
  refine wstart (cc := cL_next) (maxL := 4) (hh := [(0, 9, 12, 13), (0, 9, 15, 108)]) (by decide) rfl (Nat.le_of_ble_eq_true rfl) (fun ad L K R I A Q N e0 HB h09 ho hP0 p e s m args below meth c Z hE9 X hT hE hW hO ls hl => ?_)
  subst h09
  obtain ⟨f0, rfl, -⟩ := hP0
  have X : CallFix p m c cL_next 4 s args wsL_next RL := X
  have hl : lv_has ls 4 [(0, .ref (ad 0 0)), (1, .int (nI (j))), (2, .ref (o9))] := hl
  obtain ⟨pl, hjs, hpl⟩ := HB.js hj
  have hp9 := hjs.2.2.2.2.2.2.2.2.2.2.2
  obtain ⟨f1, f2, f3, f4⟩ := HB.fbw hj hpl
  have e13 : wnT T j 13 = T 13 := wnT_k (by decide)
  rw [e13, ← f1] at hw
  refine lv_aload_n X.1 X.2.1 dL_next_0 rfl (lv_at hl 2 rfl) ?_
  refine lv_iconst (v := nI 0) X.1 X.2.1 dL_next_1 (by decide) ?_
  refine lv_aload_n X.1 X.2.1 dL_next_2 rfl (lv_at hl 0 rfl) ?_
  refine lv_iload_n X.1 X.2.1 dL_next_3 rfl (lv_at hl 1 rfl) ?_
  refine cFi X hW (HB.mem lv_0) (pC_6 (HB.kn lv_0 rfl)) rfl (co_next_e l HB hj hjs h0 hw) (cwV 1 X.2.2.2.2 gL_next_X6_next rfl rfl rfl (by decide +kernel) ⟨Nat.le_of_ble_eq_true rfl, Nat.le_of_ble_eq_true rfl⟩) rfl rfl hl.1 (Nat.le_of_ble_eq_true rfl) dL_next_4 ⟨Nat.le_of_ble_eq_true rfl, Nat.le_of_ble_eq_true rfl⟩ (fun H locs hW hsz hk => ?_)
  have hO := oK hO ho hk
  refine lv_i2l (v := (-1).toInt64) X.1 X.2.1 dL_next_7 rfl ?_
  refine wst X hW hO ho dL_next_8 (fun H locs hW hO => ?_)
  refine lv_goto (tgt := 18) X.1 X.2.1 dL_next_9 (by decide) ?_
  refine lv_iconst (v := nI 0) X.1 X.2.1 dL_next_18 (by decide) ?_
  exact hE9 _ _ _ _ _ _ _ ad L K _ _ _ _ N _ rfl (show _ ≤ 2 by decide) (show _ ≤ 260 by decide) hW ho hO ⟨_, rfl, fun _ => if_pos rfl⟩ (HB.next_e hj (HB.rj j hj).2.2.2.1 hpl hp9) rfl dL_next_19

theorem wo_next (l : Launch) (hst : l.stackTraces = false) {G : va_G} {kT : Nat → ClassId} {a0 o9 : Nat} {T : mT} {D : mD} (I : mI T) (J : mJD D) (j : Int32) : wO l yL_next wsL_next ({ frames := 9, cells := 2, slots := 260, locals := 164 } : Room) G kT a0 o9 [.ref a0, .int j, .ref o9] T D (sp_next T D j) := by
  by_cases h1 : oN j 2
  · rw [show sp_next T D j = no T D 1 from if_pos h1]; exact ww_next_1 l hst h1
  · obtain ⟨j, hj, rfl⟩ := oN_in (by decide) h1
    have hc : (nI j).toNatClampNeg = j := nI_clamp (by omega)
    by_cases h2 : T 13 j = 0
    · rw [show sp_next T D (nI j) = no T D 2 from (if_neg h1).trans (if_pos (by rw [hc]; exact h2))]; exact ww_next_2 l hst hj h2
    · rw [show sp_next T D (nI j) = sk_next T D j from (if_neg h1).trans ((if_neg (by rw [hc]; exact h2)).trans (by rw [hc]))]
      by_cases hw : wnT T j 16 j < wnT T j 13 j
      · rw [show sk_next T D j = _ from if_pos hw]; exact ww_next_g l hst I hj h2 hw
      · rw [show sk_next T D j = _ from if_neg hw]; exact ww_next_e l hst I hj h2 hw


set_option maxHeartbeats 4000000 in
set_option maxRecDepth 100000 in
theorem ww_left (l : Launch) (hst : l.stackTraces = false) {G : va_G} {kT : Nat → ClassId} {a0 o9 : Nat} {T : mT} {D : mD} (I : mI T) {j : Nat} (hj : j < 2) (h0 : T 13 j ≠ 0) : wM l yL_left wsL_left ({ frames := 9, cells := 2, slots := 260, locals := 164 } : Room) G kT a0 o9 [.ref (a0), .int (nI (j)), .ref (o9)] T D 0 (T) (D) (oL kT False 0) (oL kT (0 = 0) (((nI (lfN T j)) : Int32).toInt64)) := by
  refine wstart (cc := cL_left) (maxL := 4) (hh := [(0, 9, 12, 13), (0, 9, 15, 108)]) (by decide) rfl (Nat.le_of_ble_eq_true rfl) (fun ad L K R I A Q N e0 HB h09 ho hP0 p e s m args below meth c Z hE9 X hT hE hW hO ls hl => ?_)
  subst h09
  obtain ⟨f0, rfl, -⟩ := hP0
  have X : CallFix p m c cL_left 4 s args wsL_left RL := X
  have hl : lv_has ls 4 [(0, .ref (ad 0 0)), (1, .int (nI (j))), (2, .ref (o9))] := hl
  obtain ⟨pl, hjs, hpl⟩ := HB.js hj
  refine lv_aload_n X.1 X.2.1 dL_left_0 rfl (lv_at hl 2 rfl) ?_
  refine lv_iconst (v := nI 0) X.1 X.2.1 dL_left_1 (by decide) ?_
  refine lv_aload_n X.1 X.2.1 dL_left_2 rfl (lv_at hl 0 rfl) ?_
  refine lv_iload_n X.1 X.2.1 dL_left_3 rfl (lv_at hl 1 rfl) ?_
  refine cFi X hW (HB.mem lv_0) (pC_6 (HB.kn lv_0 rfl)) rfl (co_left l HB hj hjs h0 hpl) (cwV 1 X.2.2.2.2 gL_left_X6_left rfl rfl rfl (by decide +kernel) ⟨Nat.le_of_ble_eq_true rfl, Nat.le_of_ble_eq_true rfl⟩) rfl rfl hl.1 (Nat.le_of_ble_eq_true rfl) dL_left_4 ⟨Nat.le_of_ble_eq_true rfl, Nat.le_of_ble_eq_true rfl⟩ (fun H locs hW hsz hk => ?_)
  have hO := oK hO ho hk
  refine lv_i2l (v := (nI (lfN T j)).toInt64) X.1 X.2.1 dL_left_7 rfl ?_
  refine wst X hW hO ho dL_left_8 (fun H locs hW hO => ?_)
  refine lv_goto (tgt := 18) X.1 X.2.1 dL_left_9 (by decide) ?_
  refine lv_iconst (v := nI 0) X.1 X.2.1 dL_left_18 (by decide) ?_
  exact hE9 _ _ _ _ _ _ _ ad L K _ _ _ _ N _ rfl (show _ ≤ 2 by decide) (show _ ≤ 260 by decide) hW ho hO ⟨_, rfl, fun _ => if_pos rfl⟩ (HB) rfl dL_left_19

set_option maxHeartbeats 4000000 in
set_option maxRecDepth 100000 in
theorem ww_left_1 (l : Launch) (hst : l.stackTraces = false) {G : va_G} {kT : Nat → ClassId} {a0 o9 : Nat} {T : mT} {D : mD} {j : Int32} (h : oN j 2) : wM l yL_left wsL_left ({ frames := 9, cells := 2, slots := 260, locals := 164 } : Room) G kT a0 o9 [.ref (a0), .int (j), .ref (o9)] T D 1 (T) (D) (oL kT False 0) (oL kT (1 = 0) (((nI 0) : Int32).toInt64)) := by
  refine wstart (cc := cL_left) (maxL := 4) (hh := [(0, 9, 12, 13), (0, 9, 15, 108)]) (by decide) rfl (Nat.le_of_ble_eq_true rfl) (fun ad L K R I A Q N e0 HB h09 ho hP0 p e s m args below meth c Z hE9 X hT hE hW hO ls hl => ?_)
  subst h09
  obtain ⟨f0, rfl, -⟩ := hP0
  have X : CallFix p m c cL_left 4 s args wsL_left RL := X
  have hl : lv_has ls 4 [(0, .ref (ad 0 0)), (1, .int (j)), (2, .ref (o9))] := hl
  refine lv_aload_n X.1 X.2.1 dL_left_0 rfl (lv_at hl 2 rfl) ?_
  refine lv_iconst (v := nI 0) X.1 X.2.1 dL_left_1 (by decide) ?_
  refine lv_aload_n X.1 X.2.1 dL_left_2 rfl (lv_at hl 0 rfl) ?_
  refine lv_iload_n X.1 X.2.1 dL_left_3 rfl (lv_at hl 1 rfl) ?_
  refine cCV hE X hW (HB.mem lv_0) (pC_6 (HB.kn lv_0 rfl)) rfl (cb_left_a l hst HB h) (cwV 1 X.2.2.2.2 gL_left_X6_left rfl rfl rfl (by decide +kernel) ⟨Nat.le_of_ble_eq_true rfl, Nat.le_of_ble_eq_true rfl⟩) rfl rfl hl.1 (Nat.le_of_ble_eq_true rfl) dL_left_4 ⟨Nat.le_of_ble_eq_true rfl, Nat.le_of_ble_eq_true rfl⟩ (fun H locs q8 ce hW hsz hk hce hcv hcl => ?_)
  have hO := oK hO ho hk
  refine vx_catch X.2.2.2.1 [] ⟨0, 9, 12, 13⟩ [⟨0, 9, 15, 108⟩] hT (fun z hz => absurd hz List.not_mem_nil) (by decide) (by decide) (X.2.2.2.2 (.classLink RL 13 "java/lang/IndexOutOfBoundsException") (List.mem_cons_of_mem _ (List.mem_append_left _ (List.mem_append_left _ (List.mem_append_left _ (List.mem_append_left _ (List.mem_append_left _ (List.mem_append_left _ (List.mem_append_left _ (List.mem_of_getElem? (i := 0) rfl)))))))))) (va_Nw.use rfl (hE.2.2.1 (.castable "java/lang/IndexOutOfBoundsException" "java/lang/IndexOutOfBoundsException") (by decide +kernel))) hce hcv hcl ?_
  refine lv_astore_n (lv' := [(3, .ref (q8)), (0, .ref (ad 0 0)), (1, .int (j)), (2, .ref (o9))]) X.1 X.2.1 dL_left_12 rfl hl (by decide) rfl (fun ls hl => ?_)
  refine lv_iconst (v := nI 1) X.1 X.2.1 dL_left_13 (by decide) ?_
  exact hE9 _ _ _ _ _ _ _ ad L K R I A Q N _ rfl (show _ ≤ 2 by decide) (show _ ≤ 260 by decide) hW ho hO ⟨f0, rfl, fun z => absurd z (by decide)⟩ HB rfl dL_left_14

set_option maxHeartbeats 4000000 in
set_option maxRecDepth 100000 in
theorem ww_left_2 (l : Launch) (hst : l.stackTraces = false) {G : va_G} {kT : Nat → ClassId} {a0 o9 : Nat} {T : mT} {D : mD} {j : Nat} (hj : j < 2) (h : T 13 j = 0) : wM l yL_left wsL_left ({ frames := 9, cells := 2, slots := 260, locals := 164 } : Room) G kT a0 o9 [.ref (a0), .int (nI (j)), .ref (o9)] T D 2 (T) (D) (oL kT False 0) (oL kT (2 = 0) (((nI 0) : Int32).toInt64)) := by
  refine wstart (cc := cL_left) (maxL := 4) (hh := [(0, 9, 12, 13), (0, 9, 15, 108)]) (by decide) rfl (Nat.le_of_ble_eq_true rfl) (fun ad L K R I A Q N e0 HB h09 ho hP0 p e s m args below meth c Z hE9 X hT hE hW hO ls hl => ?_)
  subst h09
  obtain ⟨f0, rfl, -⟩ := hP0
  have X : CallFix p m c cL_left 4 s args wsL_left RL := X
  have hl : lv_has ls 4 [(0, .ref (ad 0 0)), (1, .int (nI (j))), (2, .ref (o9))] := hl
  obtain ⟨pl, hjs, hpl⟩ := HB.js hj
  refine lv_aload_n X.1 X.2.1 dL_left_0 rfl (lv_at hl 2 rfl) ?_
  refine lv_iconst (v := nI 0) X.1 X.2.1 dL_left_1 (by decide) ?_
  refine lv_aload_n X.1 X.2.1 dL_left_2 rfl (lv_at hl 0 rfl) ?_
  refine lv_iload_n X.1 X.2.1 dL_left_3 rfl (lv_at hl 1 rfl) ?_
  refine cCV hE X hW (HB.mem lv_0) (pC_6 (HB.kn lv_0 rfl)) rfl (cb_left_b l hst HB hj hjs h) (cwV 1 X.2.2.2.2 gL_left_X6_left rfl rfl rfl (by decide +kernel) ⟨Nat.le_of_ble_eq_true rfl, Nat.le_of_ble_eq_true rfl⟩) rfl rfl hl.1 (Nat.le_of_ble_eq_true rfl) dL_left_4 ⟨Nat.le_of_ble_eq_true rfl, Nat.le_of_ble_eq_true rfl⟩ (fun H locs q8 ce hW hsz hk hce hcv hcl => ?_)
  have hO := oK hO ho hk
  refine vx_catch X.2.2.2.1 [⟨0, 9, 12, 13⟩] ⟨0, 9, 15, 108⟩ [] hT (List.forall_mem_cons.mpr ⟨Or.inr ⟨by decide, "java/lang/IndexOutOfBoundsException", X.2.2.2.2 (.classLink RL 13 "java/lang/IndexOutOfBoundsException") (List.mem_cons_of_mem _ (List.mem_append_left _ (List.mem_append_left _ (List.mem_append_left _ (List.mem_append_left _ (List.mem_append_left _ (List.mem_append_left _ (List.mem_append_left _ (List.mem_of_getElem? (i := 0) rfl))))))))), hE.2.2.2.2 ("java/lang/UnsupportedOperationException", "java/lang/IndexOutOfBoundsException") (by decide +kernel)⟩, (fun z hz => absurd hz List.not_mem_nil)⟩) (by decide) (by decide) (X.2.2.2.2 (.classLink RL 108 "java/lang/UnsupportedOperationException") (List.mem_cons_of_mem _ (List.mem_append_left _ (List.mem_append_left _ (List.mem_append_left _ (List.mem_append_left _ (List.mem_append_left _ (List.mem_append_left _ (List.mem_append_left _ (List.mem_of_getElem? (i := 1) rfl)))))))))) (va_Nw.use rfl (hE.2.2.1 (.castable "java/lang/UnsupportedOperationException" "java/lang/UnsupportedOperationException") (by decide +kernel))) hce hcv hcl ?_
  refine lv_astore_n (lv' := [(3, .ref (q8)), (0, .ref (ad 0 0)), (1, .int (nI (j))), (2, .ref (o9))]) X.1 X.2.1 dL_left_15 rfl hl (by decide) rfl (fun ls hl => ?_)
  refine lv_iconst (v := nI 2) X.1 X.2.1 dL_left_16 (by decide) ?_
  exact hE9 _ _ _ _ _ _ _ ad L K R I A Q N _ rfl (show _ ≤ 2 by decide) (show _ ≤ 260 by decide) hW ho hO ⟨f0, rfl, fun z => absurd z (by decide)⟩ HB rfl dL_left_17

theorem wo_left (l : Launch) (hst : l.stackTraces = false) {G : va_G} {kT : Nat → ClassId} {a0 o9 : Nat} {T : mT} {D : mD} (I : mI T) (J : mJD D) (j : Int32) : wO l yL_left wsL_left ({ frames := 9, cells := 2, slots := 260, locals := 164 } : Room) G kT a0 o9 [.ref a0, .int j, .ref o9] T D (sp_left T D j) := by
  by_cases h1 : oN j 2
  · rw [show sp_left T D j = no T D 1 from if_pos h1]; exact ww_left_1 l hst h1
  · obtain ⟨j, hj, rfl⟩ := oN_in (by decide) h1
    have hc : (nI j).toNatClampNeg = j := nI_clamp (by omega)
    by_cases h2 : T 13 j = 0
    · rw [show sp_left T D (nI j) = no T D 2 from (if_neg h1).trans (if_pos (by rw [hc]; exact h2))]; exact ww_left_2 l hst hj h2
    · rw [show sp_left T D (nI j) = (0, nI (lfN T j), T, D) from (if_neg h1).trans ((if_neg (by rw [hc]; exact h2)).trans (by rw [hc]))]
      exact ww_left l hst I hj h2


set_option maxHeartbeats 4000000 in
set_option maxRecDepth 100000 in
theorem ww_nextPart_1a (l : Launch) (hst : l.stackTraces = false) {G : va_G} {kT : Nat → ClassId} {a0 o9 : Nat} {T : mT} {D : mD} {j row f n : Int32} (h : oN j 2) : wM l yL_nextPart wsL_nextPart ({ frames := 9, cells := 2, slots := 260, locals := 169 } : Room) G kT a0 o9 [.ref (a0), .int (j), .int (row), .int (f), .int (n), .ref (o9)] T D 1 (T) (D) (oL kT False 0) (oL kT (1 = 0) (((nI 0) : Int32).toInt64)) := by
  refine wstart (cc := cL_nextPart) (maxL := 7) (hh := [(0, 14, 17, 13), (0, 14, 21, 15), (0, 14, 25, 108), (0, 14, 29, 50)]) (by decide) rfl (Nat.le_of_ble_eq_true rfl) (fun ad L K R I A Q N e0 HB h09 ho hP0 p e s m args below meth c Z hE9 X hT hE hW hO ls hl => ?_)
  subst h09
  obtain ⟨f0, rfl, -⟩ := hP0
  have X : CallFix p m c cL_nextPart 7 s args wsL_nextPart RL := X
  have hl : lv_has ls 7 [(0, .ref (ad 0 0)), (1, .int (j)), (2, .int (row)), (3, .int (f)), (4, .int (n)), (5, .ref (o9))] := hl
  refine lv_aload X.1 X.2.1 dL_nextPart_0 (lv_at hl 5 rfl) ?_
  refine lv_iconst (v := nI 0) X.1 X.2.1 dL_nextPart_2 (by decide) ?_
  refine lv_aload_n X.1 X.2.1 dL_nextPart_3 rfl (lv_at hl 0 rfl) ?_
  refine lv_iload_n X.1 X.2.1 dL_nextPart_4 rfl (lv_at hl 1 rfl) ?_
  refine lv_iload_n X.1 X.2.1 dL_nextPart_5 rfl (lv_at hl 2 rfl) ?_
  refine lv_iload_n X.1 X.2.1 dL_nextPart_6 rfl (lv_at hl 3 rfl) ?_
  refine lv_iload X.1 X.2.1 dL_nextPart_7 (lv_at hl 4 rfl) ?_
  refine cCV hE X hW (HB.mem lv_0) (pC_6 (HB.kn lv_0 rfl)) rfl (cb_nextPart_a l hst HB h) (cwV 4 X.2.2.2.2 gL_nextPart_X6_nextPart rfl rfl rfl (by decide +kernel) ⟨Nat.le_of_ble_eq_true rfl, Nat.le_of_ble_eq_true rfl⟩) rfl rfl hl.1 (Nat.le_of_ble_eq_true rfl) dL_nextPart_9 ⟨Nat.le_of_ble_eq_true rfl, Nat.le_of_ble_eq_true rfl⟩ (fun H locs q8 ce hW hsz hk hce hcv hcl => ?_)
  have hO := oK hO ho hk
  refine vx_catch X.2.2.2.1 [] ⟨0, 14, 17, 13⟩ [⟨0, 14, 21, 15⟩, ⟨0, 14, 25, 108⟩, ⟨0, 14, 29, 50⟩] hT (fun z hz => absurd hz List.not_mem_nil) (by decide) (by decide) (X.2.2.2.2 (.classLink RL 13 "java/lang/IndexOutOfBoundsException") (List.mem_cons_of_mem _ (List.mem_append_left _ (List.mem_append_left _ (List.mem_append_left _ (List.mem_append_left _ (List.mem_append_left _ (List.mem_append_left _ (List.mem_append_left _ (List.mem_append_left _ (List.mem_append_left _ (List.mem_of_getElem? (i := 0) rfl)))))))))))) (va_Nw.use rfl (hE.2.2.1 (.castable "java/lang/IndexOutOfBoundsException" "java/lang/IndexOutOfBoundsException") (by decide +kernel))) hce hcv hcl ?_
  refine lv_astore (lv' := [(6, .ref (q8)), (0, .ref (ad 0 0)), (1, .int (j)), (2, .int (row)), (3, .int (f)), (4, .int (n)), (5, .ref (o9))]) X.1 X.2.1 dL_nextPart_17 hl (by decide) rfl (fun ls hl => ?_)
  refine lv_iconst (v := nI 1) X.1 X.2.1 dL_nextPart_19 (by decide) ?_
  exact hE9 _ _ _ _ _ _ _ ad L K R I A Q N _ rfl (show _ ≤ 2 by decide) (show _ ≤ 260 by decide) hW ho hO ⟨f0, rfl, fun z => absurd z (by decide)⟩ HB rfl dL_nextPart_20

set_option maxHeartbeats 4000000 in
set_option maxRecDepth 100000 in
theorem ww_nextPart_1by (l : Launch) (hst : l.stackTraces = false) {G : va_G} {kT : Nat → ClassId} {a0 o9 : Nat} {T : mT} {D : mD} {j : Nat} {row f n : Int32} (hj : j < 2) (h : oN row 4) (hn : nI 1 ≤ n) : wM l yL_nextPart wsL_nextPart ({ frames := 9, cells := 2, slots := 260, locals := 169 } : Room) G kT a0 o9 [.ref (a0), .int (nI (j)), .int (row), .int (f), .int (n), .ref (o9)] T D 1 (T) (D) (oL kT False 0) (oL kT (1 = 0) (((nI 0) : Int32).toInt64)) := by
  refine wstart (cc := cL_nextPart) (maxL := 7) (hh := [(0, 14, 17, 13), (0, 14, 21, 15), (0, 14, 25, 108), (0, 14, 29, 50)]) (by decide) rfl (Nat.le_of_ble_eq_true rfl) (fun ad L K R I A Q N e0 HB h09 ho hP0 p e s m args below meth c Z hE9 X hT hE hW hO ls hl => ?_)
  subst h09
  obtain ⟨f0, rfl, -⟩ := hP0
  have X : CallFix p m c cL_nextPart 7 s args wsL_nextPart RL := X
  have hl : lv_has ls 7 [(0, .ref (ad 0 0)), (1, .int (nI (j))), (2, .int (row)), (3, .int (f)), (4, .int (n)), (5, .ref (o9))] := hl
  refine lv_aload X.1 X.2.1 dL_nextPart_0 (lv_at hl 5 rfl) ?_
  refine lv_iconst (v := nI 0) X.1 X.2.1 dL_nextPart_2 (by decide) ?_
  refine lv_aload_n X.1 X.2.1 dL_nextPart_3 rfl (lv_at hl 0 rfl) ?_
  refine lv_iload_n X.1 X.2.1 dL_nextPart_4 rfl (lv_at hl 1 rfl) ?_
  refine lv_iload_n X.1 X.2.1 dL_nextPart_5 rfl (lv_at hl 2 rfl) ?_
  refine lv_iload_n X.1 X.2.1 dL_nextPart_6 rfl (lv_at hl 3 rfl) ?_
  refine lv_iload X.1 X.2.1 dL_nextPart_7 (lv_at hl 4 rfl) ?_
  refine cCV hE X hW (HB.mem lv_0) (pC_6 (HB.kn lv_0 rfl)) rfl (cb_nextPart_b l hst HB hj h) (cwV 4 X.2.2.2.2 gL_nextPart_X6_nextPart rfl rfl rfl (by decide +kernel) ⟨Nat.le_of_ble_eq_true rfl, Nat.le_of_ble_eq_true rfl⟩) rfl rfl hl.1 (Nat.le_of_ble_eq_true rfl) dL_nextPart_9 ⟨Nat.le_of_ble_eq_true rfl, Nat.le_of_ble_eq_true rfl⟩ (fun H locs q8 ce hW hsz hk hce hcv hcl => ?_)
  have hO := oK hO ho hk
  refine vx_catch X.2.2.2.1 [] ⟨0, 14, 17, 13⟩ [⟨0, 14, 21, 15⟩, ⟨0, 14, 25, 108⟩, ⟨0, 14, 29, 50⟩] hT (fun z hz => absurd hz List.not_mem_nil) (by decide) (by decide) (X.2.2.2.2 (.classLink RL 13 "java/lang/IndexOutOfBoundsException") (List.mem_cons_of_mem _ (List.mem_append_left _ (List.mem_append_left _ (List.mem_append_left _ (List.mem_append_left _ (List.mem_append_left _ (List.mem_append_left _ (List.mem_append_left _ (List.mem_append_left _ (List.mem_append_left _ (List.mem_of_getElem? (i := 0) rfl)))))))))))) (va_Nw.use rfl (hE.2.2.1 (.castable "java/lang/IndexOutOfBoundsException" "java/lang/IndexOutOfBoundsException") (by decide +kernel))) hce hcv hcl ?_
  refine lv_astore (lv' := [(6, .ref (q8)), (0, .ref (ad 0 0)), (1, .int (nI (j))), (2, .int (row)), (3, .int (f)), (4, .int (n)), (5, .ref (o9))]) X.1 X.2.1 dL_nextPart_17 hl (by decide) rfl (fun ls hl => ?_)
  refine lv_iconst (v := nI 1) X.1 X.2.1 dL_nextPart_19 (by decide) ?_
  exact hE9 _ _ _ _ _ _ _ ad L K R I A Q N _ rfl (show _ ≤ 2 by decide) (show _ ≤ 260 by decide) hW ho hO ⟨f0, rfl, fun z => absurd z (by decide)⟩ HB rfl dL_nextPart_20

set_option maxHeartbeats 4000000 in
set_option maxRecDepth 100000 in
theorem ww_nextPart_1bx (l : Launch) (hst : l.stackTraces = false) {G : va_G} {kT : Nat → ClassId} {a0 o9 : Nat} {T : mT} {D : mD} {j : Nat} {row f n : Int32} (hj : j < 2) (h : oN row 4) (hn : ¬ nI 1 ≤ n) : wM l yL_nextPart wsL_nextPart ({ frames := 9, cells := 2, slots := 260, locals := 169 } : Room) G kT a0 o9 [.ref (a0), .int (nI (j)), .int (row), .int (f), .int (n), .ref (o9)] T D 1 (T) (D) (oL kT False 0) (oL kT (1 = 0) (((nI 0) : Int32).toInt64)) := by
  refine wstart (cc := cL_nextPart) (maxL := 7) (hh := [(0, 14, 17, 13), (0, 14, 21, 15), (0, 14, 25, 108), (0, 14, 29, 50)]) (by decide) rfl (Nat.le_of_ble_eq_true rfl) (fun ad L K R I A Q N e0 HB h09 ho hP0 p e s m args below meth c Z hE9 X hT hE hW hO ls hl => ?_)
  subst h09
  obtain ⟨f0, rfl, -⟩ := hP0
  have X : CallFix p m c cL_nextPart 7 s args wsL_nextPart RL := X
  have hl : lv_has ls 7 [(0, .ref (ad 0 0)), (1, .int (nI (j))), (2, .int (row)), (3, .int (f)), (4, .int (n)), (5, .ref (o9))] := hl
  refine lv_aload X.1 X.2.1 dL_nextPart_0 (lv_at hl 5 rfl) ?_
  refine lv_iconst (v := nI 0) X.1 X.2.1 dL_nextPart_2 (by decide) ?_
  refine lv_aload_n X.1 X.2.1 dL_nextPart_3 rfl (lv_at hl 0 rfl) ?_
  refine lv_iload_n X.1 X.2.1 dL_nextPart_4 rfl (lv_at hl 1 rfl) ?_
  refine lv_iload_n X.1 X.2.1 dL_nextPart_5 rfl (lv_at hl 2 rfl) ?_
  refine lv_iload_n X.1 X.2.1 dL_nextPart_6 rfl (lv_at hl 3 rfl) ?_
  refine lv_iload X.1 X.2.1 dL_nextPart_7 (lv_at hl 4 rfl) ?_
  refine cCV hE X hW (HB.mem lv_0) (pC_6 (HB.kn lv_0 rfl)) rfl (cb_nextPart_b l hst HB hj h) (cwV 4 X.2.2.2.2 gL_nextPart_X6_nextPart rfl rfl rfl (by decide +kernel) ⟨Nat.le_of_ble_eq_true rfl, Nat.le_of_ble_eq_true rfl⟩) rfl rfl hl.1 (Nat.le_of_ble_eq_true rfl) dL_nextPart_9 ⟨Nat.le_of_ble_eq_true rfl, Nat.le_of_ble_eq_true rfl⟩ (fun H locs q8 ce hW hsz hk hce hcv hcl => ?_)
  have hO := oK hO ho hk
  refine vx_catch X.2.2.2.1 [] ⟨0, 14, 17, 13⟩ [⟨0, 14, 21, 15⟩, ⟨0, 14, 25, 108⟩, ⟨0, 14, 29, 50⟩] hT (fun z hz => absurd hz List.not_mem_nil) (by decide) (by decide) (X.2.2.2.2 (.classLink RL 13 "java/lang/IndexOutOfBoundsException") (List.mem_cons_of_mem _ (List.mem_append_left _ (List.mem_append_left _ (List.mem_append_left _ (List.mem_append_left _ (List.mem_append_left _ (List.mem_append_left _ (List.mem_append_left _ (List.mem_append_left _ (List.mem_append_left _ (List.mem_of_getElem? (i := 0) rfl)))))))))))) (va_Nw.use rfl (hE.2.2.1 (.castable "java/lang/IndexOutOfBoundsException" "java/lang/IndexOutOfBoundsException") (by decide +kernel))) hce hcv hcl ?_
  refine lv_astore (lv' := [(6, .ref (q8)), (0, .ref (ad 0 0)), (1, .int (nI (j))), (2, .int (row)), (3, .int (f)), (4, .int (n)), (5, .ref (o9))]) X.1 X.2.1 dL_nextPart_17 hl (by decide) rfl (fun ls hl => ?_)
  refine lv_iconst (v := nI 1) X.1 X.2.1 dL_nextPart_19 (by decide) ?_
  exact hE9 _ _ _ _ _ _ _ ad L K R I A Q N _ rfl (show _ ≤ 2 by decide) (show _ ≤ 260 by decide) hW ho hO ⟨f0, rfl, fun z => absurd z (by decide)⟩ HB rfl dL_nextPart_20

set_option maxHeartbeats 4000000 in
set_option maxRecDepth 100000 in
theorem ww_nextPart_1c (l : Launch) (hst : l.stackTraces = false) {G : va_G} {kT : Nat → ClassId} {a0 o9 : Nat} {T : mT} {D : mD} (I : mI T) {j r : Nat} {f n : Int32} (hj : j < 2) (hr : r < 4) (hn : nI 1 ≤ n) (h : oP (T 4 (T 5 r)) f n) : wM l yL_nextPart wsL_nextPart ({ frames := 9, cells := 2, slots := 260, locals := 169 } : Room) G kT a0 o9 [.ref (a0), .int (nI (j)), .int (nI (r)), .int (f), .int (n), .ref (o9)] T D 1 (T) (D) (oL kT False 0) (oL kT (1 = 0) (((nI 0) : Int32).toInt64)) := by
  refine wstart (cc := cL_nextPart) (maxL := 7) (hh := [(0, 14, 17, 13), (0, 14, 21, 15), (0, 14, 25, 108), (0, 14, 29, 50)]) (by decide) rfl (Nat.le_of_ble_eq_true rfl) (fun ad L K R I A Q N e0 HB h09 ho hP0 p e s m args below meth c Z hE9 X hT hE hW hO ls hl => ?_)
  subst h09
  obtain ⟨f0, rfl, -⟩ := hP0
  have X : CallFix p m c cL_nextPart 7 s args wsL_nextPart RL := X
  have hl : lv_has ls 7 [(0, .ref (ad 0 0)), (1, .int (nI (j))), (2, .int (nI (r))), (3, .int (f)), (4, .int (n)), (5, .ref (o9))] := hl
  refine lv_aload X.1 X.2.1 dL_nextPart_0 (lv_at hl 5 rfl) ?_
  refine lv_iconst (v := nI 0) X.1 X.2.1 dL_nextPart_2 (by decide) ?_
  refine lv_aload_n X.1 X.2.1 dL_nextPart_3 rfl (lv_at hl 0 rfl) ?_
  refine lv_iload_n X.1 X.2.1 dL_nextPart_4 rfl (lv_at hl 1 rfl) ?_
  refine lv_iload_n X.1 X.2.1 dL_nextPart_5 rfl (lv_at hl 2 rfl) ?_
  refine lv_iload_n X.1 X.2.1 dL_nextPart_6 rfl (lv_at hl 3 rfl) ?_
  refine lv_iload X.1 X.2.1 dL_nextPart_7 (lv_at hl 4 rfl) ?_
  refine cCV hE X hW (HB.mem lv_0) (pC_6 (HB.kn lv_0 rfl)) rfl (cb_nextPart_c l hst HB hj hr h) (cwV 4 X.2.2.2.2 gL_nextPart_X6_nextPart rfl rfl rfl (by decide +kernel) ⟨Nat.le_of_ble_eq_true rfl, Nat.le_of_ble_eq_true rfl⟩) rfl rfl hl.1 (Nat.le_of_ble_eq_true rfl) dL_nextPart_9 ⟨Nat.le_of_ble_eq_true rfl, Nat.le_of_ble_eq_true rfl⟩ (fun H locs q8 ce hW hsz hk hce hcv hcl => ?_)
  have hO := oK hO ho hk
  refine vx_catch X.2.2.2.1 [] ⟨0, 14, 17, 13⟩ [⟨0, 14, 21, 15⟩, ⟨0, 14, 25, 108⟩, ⟨0, 14, 29, 50⟩] hT (fun z hz => absurd hz List.not_mem_nil) (by decide) (by decide) (X.2.2.2.2 (.classLink RL 13 "java/lang/IndexOutOfBoundsException") (List.mem_cons_of_mem _ (List.mem_append_left _ (List.mem_append_left _ (List.mem_append_left _ (List.mem_append_left _ (List.mem_append_left _ (List.mem_append_left _ (List.mem_append_left _ (List.mem_append_left _ (List.mem_append_left _ (List.mem_of_getElem? (i := 0) rfl)))))))))))) (va_Nw.use rfl (hE.2.2.1 (.castable "java/lang/IndexOutOfBoundsException" "java/lang/IndexOutOfBoundsException") (by decide +kernel))) hce hcv hcl ?_
  refine lv_astore (lv' := [(6, .ref (q8)), (0, .ref (ad 0 0)), (1, .int (nI (j))), (2, .int (nI (r))), (3, .int (f)), (4, .int (n)), (5, .ref (o9))]) X.1 X.2.1 dL_nextPart_17 hl (by decide) rfl (fun ls hl => ?_)
  refine lv_iconst (v := nI 1) X.1 X.2.1 dL_nextPart_19 (by decide) ?_
  exact hE9 _ _ _ _ _ _ _ ad L K R I A Q N _ rfl (show _ ≤ 2 by decide) (show _ ≤ 260 by decide) hW ho hO ⟨f0, rfl, fun z => absurd z (by decide)⟩ HB rfl dL_nextPart_20

set_option maxHeartbeats 4000000 in
set_option maxRecDepth 100000 in
theorem ww_nextPart_1d (l : Launch) (hst : l.stackTraces = false) {G : va_G} {kT : Nat → ClassId} {a0 o9 : Nat} {T : mT} {D : mD} (I : mI T) {j r : Nat} {f n : Int32} (hj : j < 2) (hr : r < 4) (hn : ¬ nI 1 ≤ n) (h : oP (T 4 (T 5 r)) f (nI 0)) : wM l yL_nextPart wsL_nextPart ({ frames := 9, cells := 2, slots := 260, locals := 169 } : Room) G kT a0 o9 [.ref (a0), .int (nI (j)), .int (nI (r)), .int (f), .int (n), .ref (o9)] T D 1 (T) (D) (oL kT False 0) (oL kT (1 = 0) (((nI 0) : Int32).toInt64)) := by
  refine wstart (cc := cL_nextPart) (maxL := 7) (hh := [(0, 14, 17, 13), (0, 14, 21, 15), (0, 14, 25, 108), (0, 14, 29, 50)]) (by decide) rfl (Nat.le_of_ble_eq_true rfl) (fun ad L K R I A Q N e0 HB h09 ho hP0 p e s m args below meth c Z hE9 X hT hE hW hO ls hl => ?_)
  subst h09
  obtain ⟨f0, rfl, -⟩ := hP0
  have X : CallFix p m c cL_nextPart 7 s args wsL_nextPart RL := X
  have hl : lv_has ls 7 [(0, .ref (ad 0 0)), (1, .int (nI (j))), (2, .int (nI (r))), (3, .int (f)), (4, .int (n)), (5, .ref (o9))] := hl
  refine lv_aload X.1 X.2.1 dL_nextPart_0 (lv_at hl 5 rfl) ?_
  refine lv_iconst (v := nI 0) X.1 X.2.1 dL_nextPart_2 (by decide) ?_
  refine lv_aload_n X.1 X.2.1 dL_nextPart_3 rfl (lv_at hl 0 rfl) ?_
  refine lv_iload_n X.1 X.2.1 dL_nextPart_4 rfl (lv_at hl 1 rfl) ?_
  refine lv_iload_n X.1 X.2.1 dL_nextPart_5 rfl (lv_at hl 2 rfl) ?_
  refine lv_iload_n X.1 X.2.1 dL_nextPart_6 rfl (lv_at hl 3 rfl) ?_
  refine lv_iload X.1 X.2.1 dL_nextPart_7 (lv_at hl 4 rfl) ?_
  refine cCV hE X hW (HB.mem lv_0) (pC_6 (HB.kn lv_0 rfl)) rfl (cb_nextPart_c l hst HB hj hr (oP_0 h)) (cwV 4 X.2.2.2.2 gL_nextPart_X6_nextPart rfl rfl rfl (by decide +kernel) ⟨Nat.le_of_ble_eq_true rfl, Nat.le_of_ble_eq_true rfl⟩) rfl rfl hl.1 (Nat.le_of_ble_eq_true rfl) dL_nextPart_9 ⟨Nat.le_of_ble_eq_true rfl, Nat.le_of_ble_eq_true rfl⟩ (fun H locs q8 ce hW hsz hk hce hcv hcl => ?_)
  have hO := oK hO ho hk
  refine vx_catch X.2.2.2.1 [] ⟨0, 14, 17, 13⟩ [⟨0, 14, 21, 15⟩, ⟨0, 14, 25, 108⟩, ⟨0, 14, 29, 50⟩] hT (fun z hz => absurd hz List.not_mem_nil) (by decide) (by decide) (X.2.2.2.2 (.classLink RL 13 "java/lang/IndexOutOfBoundsException") (List.mem_cons_of_mem _ (List.mem_append_left _ (List.mem_append_left _ (List.mem_append_left _ (List.mem_append_left _ (List.mem_append_left _ (List.mem_append_left _ (List.mem_append_left _ (List.mem_append_left _ (List.mem_append_left _ (List.mem_of_getElem? (i := 0) rfl)))))))))))) (va_Nw.use rfl (hE.2.2.1 (.castable "java/lang/IndexOutOfBoundsException" "java/lang/IndexOutOfBoundsException") (by decide +kernel))) hce hcv hcl ?_
  refine lv_astore (lv' := [(6, .ref (q8)), (0, .ref (ad 0 0)), (1, .int (nI (j))), (2, .int (nI (r))), (3, .int (f)), (4, .int (n)), (5, .ref (o9))]) X.1 X.2.1 dL_nextPart_17 hl (by decide) rfl (fun ls hl => ?_)
  refine lv_iconst (v := nI 1) X.1 X.2.1 dL_nextPart_19 (by decide) ?_
  exact hE9 _ _ _ _ _ _ _ ad L K R I A Q N _ rfl (show _ ≤ 2 by decide) (show _ ≤ 260 by decide) hW ho hO ⟨f0, rfl, fun z => absurd z (by decide)⟩ HB rfl dL_nextPart_20

set_option maxHeartbeats 4000000 in
set_option maxRecDepth 100000 in
theorem ww_nextPart_1e (l : Launch) (hst : l.stackTraces = false) {G : va_G} {kT : Nat → ClassId} {a0 o9 : Nat} {T : mT} {D : mD} (I : mI T) {j r f : Nat} {n : Int32} (hj : j < 2) (hr : r < 4) (hf : f ≤ T 4 (T 5 r)) (hn : ¬ nI 1 ≤ n) (h : n < 0) : wM l yL_nextPart wsL_nextPart ({ frames := 9, cells := 2, slots := 260, locals := 169 } : Room) G kT a0 o9 [.ref (a0), .int (nI (j)), .int (nI (r)), .int (nI (f)), .int (n), .ref (o9)] T D 1 (T) (D) (oL kT False 0) (oL kT (1 = 0) (((nI 0) : Int32).toInt64)) := by
  refine wstart (cc := cL_nextPart) (maxL := 7) (hh := [(0, 14, 17, 13), (0, 14, 21, 15), (0, 14, 25, 108), (0, 14, 29, 50)]) (by decide) rfl (Nat.le_of_ble_eq_true rfl) (fun ad L K R I A Q N e0 HB h09 ho hP0 p e s m args below meth c Z hE9 X hT hE hW hO ls hl => ?_)
  subst h09
  obtain ⟨f0, rfl, -⟩ := hP0
  have X : CallFix p m c cL_nextPart 7 s args wsL_nextPart RL := X
  have hl : lv_has ls 7 [(0, .ref (ad 0 0)), (1, .int (nI (j))), (2, .int (nI (r))), (3, .int (nI (f))), (4, .int (n)), (5, .ref (o9))] := hl
  refine lv_aload X.1 X.2.1 dL_nextPart_0 (lv_at hl 5 rfl) ?_
  refine lv_iconst (v := nI 0) X.1 X.2.1 dL_nextPart_2 (by decide) ?_
  refine lv_aload_n X.1 X.2.1 dL_nextPart_3 rfl (lv_at hl 0 rfl) ?_
  refine lv_iload_n X.1 X.2.1 dL_nextPart_4 rfl (lv_at hl 1 rfl) ?_
  refine lv_iload_n X.1 X.2.1 dL_nextPart_5 rfl (lv_at hl 2 rfl) ?_
  refine lv_iload_n X.1 X.2.1 dL_nextPart_6 rfl (lv_at hl 3 rfl) ?_
  refine lv_iload X.1 X.2.1 dL_nextPart_7 (lv_at hl 4 rfl) ?_
  refine cCV hE X hW (HB.mem lv_0) (pC_6 (HB.kn lv_0 rfl)) rfl (cb_nextPart_c l hst HB hj hr (Or.inr (Or.inl h))) (cwV 4 X.2.2.2.2 gL_nextPart_X6_nextPart rfl rfl rfl (by decide +kernel) ⟨Nat.le_of_ble_eq_true rfl, Nat.le_of_ble_eq_true rfl⟩) rfl rfl hl.1 (Nat.le_of_ble_eq_true rfl) dL_nextPart_9 ⟨Nat.le_of_ble_eq_true rfl, Nat.le_of_ble_eq_true rfl⟩ (fun H locs q8 ce hW hsz hk hce hcv hcl => ?_)
  have hO := oK hO ho hk
  refine vx_catch X.2.2.2.1 [] ⟨0, 14, 17, 13⟩ [⟨0, 14, 21, 15⟩, ⟨0, 14, 25, 108⟩, ⟨0, 14, 29, 50⟩] hT (fun z hz => absurd hz List.not_mem_nil) (by decide) (by decide) (X.2.2.2.2 (.classLink RL 13 "java/lang/IndexOutOfBoundsException") (List.mem_cons_of_mem _ (List.mem_append_left _ (List.mem_append_left _ (List.mem_append_left _ (List.mem_append_left _ (List.mem_append_left _ (List.mem_append_left _ (List.mem_append_left _ (List.mem_append_left _ (List.mem_append_left _ (List.mem_of_getElem? (i := 0) rfl)))))))))))) (va_Nw.use rfl (hE.2.2.1 (.castable "java/lang/IndexOutOfBoundsException" "java/lang/IndexOutOfBoundsException") (by decide +kernel))) hce hcv hcl ?_
  refine lv_astore (lv' := [(6, .ref (q8)), (0, .ref (ad 0 0)), (1, .int (nI (j))), (2, .int (nI (r))), (3, .int (nI (f))), (4, .int (n)), (5, .ref (o9))]) X.1 X.2.1 dL_nextPart_17 hl (by decide) rfl (fun ls hl => ?_)
  refine lv_iconst (v := nI 1) X.1 X.2.1 dL_nextPart_19 (by decide) ?_
  exact hE9 _ _ _ _ _ _ _ ad L K R I A Q N _ rfl (show _ ≤ 2 by decide) (show _ ≤ 260 by decide) hW ho hO ⟨f0, rfl, fun z => absurd z (by decide)⟩ HB rfl dL_nextPart_20

set_option maxHeartbeats 4000000 in
set_option maxRecDepth 100000 in
theorem ww_nextPart_2 (l : Launch) (hst : l.stackTraces = false) {G : va_G} {kT : Nat → ClassId} {a0 o9 : Nat} {T : mT} {D : mD} (I : mI T) {j r f : Nat} (hj : j < 2) (hr : r < 4) (hf : f ≤ T 4 (T 5 r)) : wM l yL_nextPart wsL_nextPart ({ frames := 9, cells := 2, slots := 260, locals := 169 } : Room) G kT a0 o9 [.ref (a0), .int (nI (j)), .int (nI (r)), .int (nI (f)), .int (nI (0)), .ref (o9)] T D 2 (T) (D) (oL kT False 0) (oL kT (2 = 0) (((nI 0) : Int32).toInt64)) := by
  refine wstart (cc := cL_nextPart) (maxL := 7) (hh := [(0, 14, 17, 13), (0, 14, 21, 15), (0, 14, 25, 108), (0, 14, 29, 50)]) (by decide) rfl (Nat.le_of_ble_eq_true rfl) (fun ad L K R I A Q N e0 HB h09 ho hP0 p e s m args below meth c Z hE9 X hT hE hW hO ls hl => ?_)
  subst h09
  obtain ⟨f0, rfl, -⟩ := hP0
  have X : CallFix p m c cL_nextPart 7 s args wsL_nextPart RL := X
  have hl : lv_has ls 7 [(0, .ref (ad 0 0)), (1, .int (nI (j))), (2, .int (nI (r))), (3, .int (nI (f))), (4, .int (nI (0))), (5, .ref (o9))] := hl
  refine lv_aload X.1 X.2.1 dL_nextPart_0 (lv_at hl 5 rfl) ?_
  refine lv_iconst (v := nI 0) X.1 X.2.1 dL_nextPart_2 (by decide) ?_
  refine lv_aload_n X.1 X.2.1 dL_nextPart_3 rfl (lv_at hl 0 rfl) ?_
  refine lv_iload_n X.1 X.2.1 dL_nextPart_4 rfl (lv_at hl 1 rfl) ?_
  refine lv_iload_n X.1 X.2.1 dL_nextPart_5 rfl (lv_at hl 2 rfl) ?_
  refine lv_iload_n X.1 X.2.1 dL_nextPart_6 rfl (lv_at hl 3 rfl) ?_
  refine lv_iload X.1 X.2.1 dL_nextPart_7 (lv_at hl 4 rfl) ?_
  refine cCV hE X hW (HB.mem lv_0) (pC_6 (HB.kn lv_0 rfl)) rfl (cb_nextPart_d l hst HB hj hr hf) (cwV 4 X.2.2.2.2 gL_nextPart_X6_nextPart rfl rfl rfl (by decide +kernel) ⟨Nat.le_of_ble_eq_true rfl, Nat.le_of_ble_eq_true rfl⟩) rfl rfl hl.1 (Nat.le_of_ble_eq_true rfl) dL_nextPart_9 ⟨Nat.le_of_ble_eq_true rfl, Nat.le_of_ble_eq_true rfl⟩ (fun H locs q8 ce hW hsz hk hce hcv hcl => ?_)
  have hO := oK hO ho hk
  refine vx_catch X.2.2.2.1 [⟨0, 14, 17, 13⟩] ⟨0, 14, 21, 15⟩ [⟨0, 14, 25, 108⟩, ⟨0, 14, 29, 50⟩] hT (List.forall_mem_cons.mpr ⟨Or.inr ⟨by decide, "java/lang/IndexOutOfBoundsException", X.2.2.2.2 (.classLink RL 13 "java/lang/IndexOutOfBoundsException") (List.mem_cons_of_mem _ (List.mem_append_left _ (List.mem_append_left _ (List.mem_append_left _ (List.mem_append_left _ (List.mem_append_left _ (List.mem_append_left _ (List.mem_append_left _ (List.mem_append_left _ (List.mem_append_left _ (List.mem_of_getElem? (i := 0) rfl))))))))))), hE.2.2.2.2 ("java/lang/IllegalArgumentException", "java/lang/IndexOutOfBoundsException") (by decide +kernel)⟩, (fun z hz => absurd hz List.not_mem_nil)⟩) (by decide) (by decide) (X.2.2.2.2 (.classLink RL 15 "java/lang/IllegalArgumentException") (List.mem_cons_of_mem _ (List.mem_append_left _ (List.mem_append_left _ (List.mem_append_left _ (List.mem_append_left _ (List.mem_append_left _ (List.mem_append_left _ (List.mem_append_left _ (List.mem_append_left _ (List.mem_append_left _ (List.mem_of_getElem? (i := 1) rfl)))))))))))) (va_Nw.use rfl (hE.2.2.1 (.castable "java/lang/IllegalArgumentException" "java/lang/IllegalArgumentException") (by decide +kernel))) hce hcv hcl ?_
  refine lv_astore (lv' := [(6, .ref (q8)), (0, .ref (ad 0 0)), (1, .int (nI (j))), (2, .int (nI (r))), (3, .int (nI (f))), (4, .int (nI (0))), (5, .ref (o9))]) X.1 X.2.1 dL_nextPart_21 hl (by decide) rfl (fun ls hl => ?_)
  refine lv_iconst (v := nI 2) X.1 X.2.1 dL_nextPart_23 (by decide) ?_
  exact hE9 _ _ _ _ _ _ _ ad L K R I A Q N _ rfl (show _ ≤ 2 by decide) (show _ ≤ 260 by decide) hW ho hO ⟨f0, rfl, fun z => absurd z (by decide)⟩ HB rfl dL_nextPart_24

set_option maxHeartbeats 4000000 in
set_option maxRecDepth 100000 in
theorem ww_nextPart_3 (l : Launch) (hst : l.stackTraces = false) {G : va_G} {kT : Nat → ClassId} {a0 o9 : Nat} {T : mT} {D : mD} (I : mI T) {j r f n : Nat} (hj : j < 2) (hr : r < 4) (hf : f + n ≤ T 4 (T 5 r)) (hn : n ≠ 0) (h0 : T 13 j = 0) : wM l yL_nextPart wsL_nextPart ({ frames := 9, cells := 2, slots := 260, locals := 169 } : Room) G kT a0 o9 [.ref (a0), .int (nI (j)), .int (nI (r)), .int (nI (f)), .int (nI (n)), .ref (o9)] T D 3 (T) (D) (oL kT False 0) (oL kT (3 = 0) (((nI 0) : Int32).toInt64)) := by
  refine wstart (cc := cL_nextPart) (maxL := 7) (hh := [(0, 14, 17, 13), (0, 14, 21, 15), (0, 14, 25, 108), (0, 14, 29, 50)]) (by decide) rfl (Nat.le_of_ble_eq_true rfl) (fun ad L K R I A Q N e0 HB h09 ho hP0 p e s m args below meth c Z hE9 X hT hE hW hO ls hl => ?_)
  subst h09
  obtain ⟨f0, rfl, -⟩ := hP0
  have X : CallFix p m c cL_nextPart 7 s args wsL_nextPart RL := X
  have hl : lv_has ls 7 [(0, .ref (ad 0 0)), (1, .int (nI (j))), (2, .int (nI (r))), (3, .int (nI (f))), (4, .int (nI (n))), (5, .ref (o9))] := hl
  obtain ⟨pl, hjs, hpl⟩ := HB.js hj
  refine lv_aload X.1 X.2.1 dL_nextPart_0 (lv_at hl 5 rfl) ?_
  refine lv_iconst (v := nI 0) X.1 X.2.1 dL_nextPart_2 (by decide) ?_
  refine lv_aload_n X.1 X.2.1 dL_nextPart_3 rfl (lv_at hl 0 rfl) ?_
  refine lv_iload_n X.1 X.2.1 dL_nextPart_4 rfl (lv_at hl 1 rfl) ?_
  refine lv_iload_n X.1 X.2.1 dL_nextPart_5 rfl (lv_at hl 2 rfl) ?_
  refine lv_iload_n X.1 X.2.1 dL_nextPart_6 rfl (lv_at hl 3 rfl) ?_
  refine lv_iload X.1 X.2.1 dL_nextPart_7 (lv_at hl 4 rfl) ?_
  refine cCV hE X hW (HB.mem lv_0) (pC_6 (HB.kn lv_0 rfl)) rfl (cb_nextPart_e l hst HB hj hjs h0 hr hf hn) (cwV 4 X.2.2.2.2 gL_nextPart_X6_nextPart rfl rfl rfl (by decide +kernel) ⟨Nat.le_of_ble_eq_true rfl, Nat.le_of_ble_eq_true rfl⟩) rfl rfl hl.1 (Nat.le_of_ble_eq_true rfl) dL_nextPart_9 ⟨Nat.le_of_ble_eq_true rfl, Nat.le_of_ble_eq_true rfl⟩ (fun H locs q8 ce hW hsz hk hce hcv hcl => ?_)
  have hO := oK hO ho hk
  refine vx_catch X.2.2.2.1 [⟨0, 14, 17, 13⟩, ⟨0, 14, 21, 15⟩] ⟨0, 14, 25, 108⟩ [⟨0, 14, 29, 50⟩] hT (List.forall_mem_cons.mpr ⟨Or.inr ⟨by decide, "java/lang/IndexOutOfBoundsException", X.2.2.2.2 (.classLink RL 13 "java/lang/IndexOutOfBoundsException") (List.mem_cons_of_mem _ (List.mem_append_left _ (List.mem_append_left _ (List.mem_append_left _ (List.mem_append_left _ (List.mem_append_left _ (List.mem_append_left _ (List.mem_append_left _ (List.mem_append_left _ (List.mem_append_left _ (List.mem_of_getElem? (i := 0) rfl))))))))))), hE.2.2.2.2 ("java/lang/UnsupportedOperationException", "java/lang/IndexOutOfBoundsException") (by decide +kernel)⟩, (List.forall_mem_cons.mpr ⟨Or.inr ⟨by decide, "java/lang/IllegalArgumentException", X.2.2.2.2 (.classLink RL 15 "java/lang/IllegalArgumentException") (List.mem_cons_of_mem _ (List.mem_append_left _ (List.mem_append_left _ (List.mem_append_left _ (List.mem_append_left _ (List.mem_append_left _ (List.mem_append_left _ (List.mem_append_left _ (List.mem_append_left _ (List.mem_append_left _ (List.mem_of_getElem? (i := 1) rfl))))))))))), hE.2.2.2.2 ("java/lang/UnsupportedOperationException", "java/lang/IllegalArgumentException") (by decide +kernel)⟩, (fun z hz => absurd hz List.not_mem_nil)⟩)⟩) (by decide) (by decide) (X.2.2.2.2 (.classLink RL 108 "java/lang/UnsupportedOperationException") (List.mem_cons_of_mem _ (List.mem_append_left _ (List.mem_append_left _ (List.mem_append_left _ (List.mem_append_left _ (List.mem_append_left _ (List.mem_append_left _ (List.mem_append_left _ (List.mem_append_left _ (List.mem_append_left _ (List.mem_of_getElem? (i := 2) rfl)))))))))))) (va_Nw.use rfl (hE.2.2.1 (.castable "java/lang/UnsupportedOperationException" "java/lang/UnsupportedOperationException") (by decide +kernel))) hce hcv hcl ?_
  refine lv_astore (lv' := [(6, .ref (q8)), (0, .ref (ad 0 0)), (1, .int (nI (j))), (2, .int (nI (r))), (3, .int (nI (f))), (4, .int (nI (n))), (5, .ref (o9))]) X.1 X.2.1 dL_nextPart_25 hl (by decide) rfl (fun ls hl => ?_)
  refine lv_iconst (v := nI 3) X.1 X.2.1 dL_nextPart_27 (by decide) ?_
  exact hE9 _ _ _ _ _ _ _ ad L K R I A Q N _ rfl (show _ ≤ 2 by decide) (show _ ≤ 260 by decide) hW ho hO ⟨f0, rfl, fun z => absurd z (by decide)⟩ HB rfl dL_nextPart_28

set_option maxHeartbeats 4000000 in
set_option maxRecDepth 100000 in
theorem ww_nextPart_4 (l : Launch) (hst : l.stackTraces = false) {G : va_G} {kT : Nat → ClassId} {a0 o9 : Nat} {T : mT} {D : mD} (I : mI T) {j r f n : Nat} (hj : j < 2) (hr : r < 4) (hf : f + n ≤ T 4 (T 5 r)) (hn : n ≠ 0) (h0 : T 13 j ≠ 0) (h4 : itN T j r (T 13 j) = 1) : wM l yL_nextPart wsL_nextPart ({ frames := 9, cells := 2, slots := 260, locals := 169 } : Room) G kT a0 o9 [.ref (a0), .int (nI (j)), .int (nI (r)), .int (nI (f)), .int (nI (n)), .ref (o9)] T D 4 (T) (D) (oL kT False 0) (oL kT (4 = 0) (((nI 0) : Int32).toInt64)) := by
  refine wstart (cc := cL_nextPart) (maxL := 7) (hh := [(0, 14, 17, 13), (0, 14, 21, 15), (0, 14, 25, 108), (0, 14, 29, 50)]) (by decide) rfl (Nat.le_of_ble_eq_true rfl) (fun ad L K R I A Q N e0 HB h09 ho hP0 p e s m args below meth c Z hE9 X hT hE hW hO ls hl => ?_)
  subst h09
  obtain ⟨f0, rfl, -⟩ := hP0
  have X : CallFix p m c cL_nextPart 7 s args wsL_nextPart RL := X
  have hl : lv_has ls 7 [(0, .ref (ad 0 0)), (1, .int (nI (j))), (2, .int (nI (r))), (3, .int (nI (f))), (4, .int (nI (n))), (5, .ref (o9))] := hl
  obtain ⟨pl, hjs, hpl⟩ := HB.js hj
  obtain ⟨k0, hk0, hd, hno⟩ := it_ex _ h4
  refine lv_aload X.1 X.2.1 dL_nextPart_0 (lv_at hl 5 rfl) ?_
  refine lv_iconst (v := nI 0) X.1 X.2.1 dL_nextPart_2 (by decide) ?_
  refine lv_aload_n X.1 X.2.1 dL_nextPart_3 rfl (lv_at hl 0 rfl) ?_
  refine lv_iload_n X.1 X.2.1 dL_nextPart_4 rfl (lv_at hl 1 rfl) ?_
  refine lv_iload_n X.1 X.2.1 dL_nextPart_5 rfl (lv_at hl 2 rfl) ?_
  refine lv_iload_n X.1 X.2.1 dL_nextPart_6 rfl (lv_at hl 3 rfl) ?_
  refine lv_iload X.1 X.2.1 dL_nextPart_7 (lv_at hl 4 rfl) ?_
  refine cCV hE X hW (HB.mem lv_0) (pC_6 (HB.kn lv_0 rfl)) rfl (cb_nextPart_f l hst HB hj hjs hr hf hn h0 k0 hk0 hd hno) (cwV 4 X.2.2.2.2 gL_nextPart_X6_nextPart rfl rfl rfl (by decide +kernel) ⟨Nat.le_of_ble_eq_true rfl, Nat.le_of_ble_eq_true rfl⟩) rfl rfl hl.1 (Nat.le_of_ble_eq_true rfl) dL_nextPart_9 ⟨Nat.le_of_ble_eq_true rfl, Nat.le_of_ble_eq_true rfl⟩ (fun H locs q8 ce hW hsz hk hce hcv hcl => ?_)
  have hO := oK hO ho hk
  refine vx_catch X.2.2.2.1 [⟨0, 14, 17, 13⟩, ⟨0, 14, 21, 15⟩, ⟨0, 14, 25, 108⟩] ⟨0, 14, 29, 50⟩ [] hT (List.forall_mem_cons.mpr ⟨Or.inr ⟨by decide, "java/lang/IndexOutOfBoundsException", X.2.2.2.2 (.classLink RL 13 "java/lang/IndexOutOfBoundsException") (List.mem_cons_of_mem _ (List.mem_append_left _ (List.mem_append_left _ (List.mem_append_left _ (List.mem_append_left _ (List.mem_append_left _ (List.mem_append_left _ (List.mem_append_left _ (List.mem_append_left _ (List.mem_append_left _ (List.mem_of_getElem? (i := 0) rfl))))))))))), hE.2.2.2.2 ("java/lang/IllegalStateException", "java/lang/IndexOutOfBoundsException") (by decide +kernel)⟩, (List.forall_mem_cons.mpr ⟨Or.inr ⟨by decide, "java/lang/IllegalArgumentException", X.2.2.2.2 (.classLink RL 15 "java/lang/IllegalArgumentException") (List.mem_cons_of_mem _ (List.mem_append_left _ (List.mem_append_left _ (List.mem_append_left _ (List.mem_append_left _ (List.mem_append_left _ (List.mem_append_left _ (List.mem_append_left _ (List.mem_append_left _ (List.mem_append_left _ (List.mem_of_getElem? (i := 1) rfl))))))))))), hE.2.2.2.2 ("java/lang/IllegalStateException", "java/lang/IllegalArgumentException") (by decide +kernel)⟩, (List.forall_mem_cons.mpr ⟨Or.inr ⟨by decide, "java/lang/UnsupportedOperationException", X.2.2.2.2 (.classLink RL 108 "java/lang/UnsupportedOperationException") (List.mem_cons_of_mem _ (List.mem_append_left _ (List.mem_append_left _ (List.mem_append_left _ (List.mem_append_left _ (List.mem_append_left _ (List.mem_append_left _ (List.mem_append_left _ (List.mem_append_left _ (List.mem_append_left _ (List.mem_of_getElem? (i := 2) rfl))))))))))), hE.2.2.2.2 ("java/lang/IllegalStateException", "java/lang/UnsupportedOperationException") (by decide +kernel)⟩, (fun z hz => absurd hz List.not_mem_nil)⟩)⟩)⟩) (by decide) (by decide) (X.2.2.2.2 (.classLink RL 50 "java/lang/IllegalStateException") (List.mem_cons_of_mem _ (List.mem_append_left _ (List.mem_append_left _ (List.mem_append_left _ (List.mem_append_left _ (List.mem_append_left _ (List.mem_append_left _ (List.mem_append_left _ (List.mem_append_left _ (List.mem_append_left _ (List.mem_of_getElem? (i := 3) rfl)))))))))))) (va_Nw.use rfl (hE.2.2.1 (.castable "java/lang/IllegalStateException" "java/lang/IllegalStateException") (by decide +kernel))) hce hcv hcl ?_
  refine lv_astore (lv' := [(6, .ref (q8)), (0, .ref (ad 0 0)), (1, .int (nI (j))), (2, .int (nI (r))), (3, .int (nI (f))), (4, .int (nI (n))), (5, .ref (o9))]) X.1 X.2.1 dL_nextPart_29 hl (by decide) rfl (fun ls hl => ?_)
  refine lv_iconst (v := nI 4) X.1 X.2.1 dL_nextPart_31 (by decide) ?_
  exact hE9 _ _ _ _ _ _ _ ad L K R I A Q N _ rfl (show _ ≤ 2 by decide) (show _ ≤ 260 by decide) hW ho hO ⟨f0, rfl, fun z => absurd z (by decide)⟩ HB rfl dL_nextPart_32

set_option maxHeartbeats 4000000 in
set_option maxRecDepth 100000 in
theorem ww_nextPart_g (l : Launch) (hst : l.stackTraces = false) {G : va_G} {kT : Nat → ClassId} {a0 o9 : Nat} {T : mT} {D : mD} (I : mI T) {j r f n : Nat} (hj : j < 2) (hr : r < 4) (hf : f + n ≤ T 4 (T 5 r)) (hn : n ≠ 0) (h0 : T 13 j ≠ 0) (h4 : ¬ itN T j r (T 13 j) = 1) (hw : wnT T j 16 j < wnT T j 13 j) : wM l yL_nextPart wsL_nextPart ({ frames := 9, cells := 2, slots := 260, locals := 169 } : Room) G kT a0 o9 [.ref (a0), .int (nI (j)), .int (nI (r)), .int (nI (f)), .int (nI (n)), .ref (o9)] T D 0 (gnT (wnT T j) j (min n (lfN (wnT T j) j))) (cpF D 3 (64 * T 5 r + f) (npF (wnT T j) D j) (min n (lfN (wnT T j) j))) (oL kT False 0) (oL kT (0 = 0) (((nI (min n (lfN (wnT T j) j))) : Int32).toInt64)) := by
  refine wstart (cc := cL_nextPart) (maxL := 7) (hh := [(0, 14, 17, 13), (0, 14, 21, 15), (0, 14, 25, 108), (0, 14, 29, 50)]) (by decide) rfl (Nat.le_of_ble_eq_true rfl) (fun ad L K R I A Q N e0 HB h09 ho hP0 p e s m args below meth c Z hE9 X hT hE hW hO ls hl => ?_)
  subst h09
  obtain ⟨f0, rfl, -⟩ := hP0
  have X : CallFix p m c cL_nextPart 7 s args wsL_nextPart RL := X
  have hl : lv_has ls 7 [(0, .ref (ad 0 0)), (1, .int (nI (j))), (2, .int (nI (r))), (3, .int (nI (f))), (4, .int (nI (n))), (5, .ref (o9))] := hl
  obtain ⟨pl, hjs, hpl⟩ := HB.js hj
  have hp9 := hjs.2.2.2.2.2.2.2.2.2.2.2
  obtain ⟨f1, f2, f3, f4⟩ := HB.fbw hj hpl
  have e13 : wnT T j 13 = T 13 := wnT_k (by decide)
  rw [e13, ← f1] at hw
  have hlt := HB.here hj hjs hw
  have e9 := HB.lf hj hpl hw
  rw [← e9] at hE9
  have HNN := HB.next_n (n := min n (T 4 (T 14 (3 * j + (fb (T 13 j) (fun k => T 4 (T 14 (3 * j + k) - 1)) (T 16 j) pl).1) - 1) - (fb (T 13 j) (fun k => T 4 (T 14 (3 * j + k) - 1)) (T 16 j) pl).2)) hj hpl hp9 hw (by omega)
  refine lv_aload X.1 X.2.1 dL_nextPart_0 (lv_at hl 5 rfl) ?_
  refine lv_iconst (v := nI 0) X.1 X.2.1 dL_nextPart_2 (by decide) ?_
  refine lv_aload_n X.1 X.2.1 dL_nextPart_3 rfl (lv_at hl 0 rfl) ?_
  refine lv_iload_n X.1 X.2.1 dL_nextPart_4 rfl (lv_at hl 1 rfl) ?_
  refine lv_iload_n X.1 X.2.1 dL_nextPart_5 rfl (lv_at hl 2 rfl) ?_
  refine lv_iload_n X.1 X.2.1 dL_nextPart_6 rfl (lv_at hl 3 rfl) ?_
  refine lv_iload X.1 X.2.1 dL_nextPart_7 (lv_at hl 4 rfl) ?_
  refine cFi X hW (HB.mem lv_0) (pC_6 (HB.kn lv_0 rfl)) rfl (co_nextPart l HB hj hjs hr hf hn h0 (it_no _ h4) hw) (cwV 4 X.2.2.2.2 gL_nextPart_X6_nextPart rfl rfl rfl (by decide +kernel) ⟨Nat.le_of_ble_eq_true rfl, Nat.le_of_ble_eq_true rfl⟩) rfl rfl hl.1 (Nat.le_of_ble_eq_true rfl) dL_nextPart_9 ⟨Nat.le_of_ble_eq_true rfl, Nat.le_of_ble_eq_true rfl⟩ (fun H locs hW hsz hk => ?_)
  have hO := oK hO ho hk
  refine lv_i2l (v := (nI (min n (T 4 (T 14 (3 * j + (fb (T 13 j) (fun k => T 4 (T 14 (3 * j + k) - 1)) (T 16 j) pl).1) - 1) - (fb (T 13 j) (fun k => T 4 (T 14 (3 * j + k) - 1)) (T 16 j) pl).2))).toInt64) X.1 X.2.1 dL_nextPart_12 rfl ?_
  refine wst X hW hO ho dL_nextPart_13 (fun H locs hW hO => ?_)
  refine lv_goto (tgt := 33) X.1 X.2.1 dL_nextPart_14 (by decide) ?_
  refine lv_iconst (v := nI 0) X.1 X.2.1 dL_nextPart_33 (by decide) ?_
  exact hE9 _ _ _ _ _ _ _ ad L K _ _ _ _ N _ rfl (show _ ≤ 2 by decide) (show _ ≤ 260 by decide) hW ho hO ⟨_, rfl, fun _ => if_pos rfl⟩ (HNN.putB (z := T 5 r) (Or.inl ⟨r, hr, by rw [gn_k (by decide) (by decide) (by decide)]⟩) (by rw [gn_k (by decide) (by decide) (by decide)]; omega) (fun i hi => HB.gt hj hpl hw (by omega)) (fun i hi => HB.md.2.1 _)) rfl dL_nextPart_34

set_option maxHeartbeats 4000000 in
set_option maxRecDepth 100000 in
theorem ww_nextPart_e (l : Launch) (hst : l.stackTraces = false) {G : va_G} {kT : Nat → ClassId} {a0 o9 : Nat} {T : mT} {D : mD} (I : mI T) {j r f n : Nat} (hj : j < 2) (hr : r < 4) (hf : f + n ≤ T 4 (T 5 r)) (hn : n ≠ 0) (h0 : T 13 j ≠ 0) (h4 : ¬ itN T j r (T 13 j) = 1) (hw : ¬ wnT T j 16 j < wnT T j 13 j) : wM l yL_nextPart wsL_nextPart ({ frames := 9, cells := 2, slots := 260, locals := 169 } : Room) G kT a0 o9 [.ref (a0), .int (nI (j)), .int (nI (r)), .int (nI (f)), .int (nI (n)), .ref (o9)] T D 0 (wnT T j) (D) (oL kT False 0) (oL kT (0 = 0) (((-1) : Int32).toInt64)) := by
  refine wstart (cc := cL_nextPart) (maxL := 7) (hh := [(0, 14, 17, 13), (0, 14, 21, 15), (0, 14, 25, 108), (0, 14, 29, 50)]) (by decide) rfl (Nat.le_of_ble_eq_true rfl) (fun ad L K R I A Q N e0 HB h09 ho hP0 p e s m args below meth c Z hE9 X hT hE hW hO ls hl => ?_)
  subst h09
  obtain ⟨f0, rfl, -⟩ := hP0
  have X : CallFix p m c cL_nextPart 7 s args wsL_nextPart RL := X
  have hl : lv_has ls 7 [(0, .ref (ad 0 0)), (1, .int (nI (j))), (2, .int (nI (r))), (3, .int (nI (f))), (4, .int (nI (n))), (5, .ref (o9))] := hl
  obtain ⟨pl, hjs, hpl⟩ := HB.js hj
  have hp9 := hjs.2.2.2.2.2.2.2.2.2.2.2
  obtain ⟨f1, f2, f3, f4⟩ := HB.fbw hj hpl
  have e13 : wnT T j 13 = T 13 := wnT_k (by decide)
  rw [e13, ← f1] at hw
  refine lv_aload X.1 X.2.1 dL_nextPart_0 (lv_at hl 5 rfl) ?_
  refine lv_iconst (v := nI 0) X.1 X.2.1 dL_nextPart_2 (by decide) ?_
  refine lv_aload_n X.1 X.2.1 dL_nextPart_3 rfl (lv_at hl 0 rfl) ?_
  refine lv_iload_n X.1 X.2.1 dL_nextPart_4 rfl (lv_at hl 1 rfl) ?_
  refine lv_iload_n X.1 X.2.1 dL_nextPart_5 rfl (lv_at hl 2 rfl) ?_
  refine lv_iload_n X.1 X.2.1 dL_nextPart_6 rfl (lv_at hl 3 rfl) ?_
  refine lv_iload X.1 X.2.1 dL_nextPart_7 (lv_at hl 4 rfl) ?_
  refine cFi X hW (HB.mem lv_0) (pC_6 (HB.kn lv_0 rfl)) rfl (co_nextPart_e l HB hj hjs hr hf hn h0 (it_no _ h4) hw) (cwV 4 X.2.2.2.2 gL_nextPart_X6_nextPart rfl rfl rfl (by decide +kernel) ⟨Nat.le_of_ble_eq_true rfl, Nat.le_of_ble_eq_true rfl⟩) rfl rfl hl.1 (Nat.le_of_ble_eq_true rfl) dL_nextPart_9 ⟨Nat.le_of_ble_eq_true rfl, Nat.le_of_ble_eq_true rfl⟩ (fun H locs hW hsz hk => ?_)
  have hO := oK hO ho hk
  refine lv_i2l (v := (-1).toInt64) X.1 X.2.1 dL_nextPart_12 rfl ?_
  refine wst X hW hO ho dL_nextPart_13 (fun H locs hW hO => ?_)
  refine lv_goto (tgt := 33) X.1 X.2.1 dL_nextPart_14 (by decide) ?_
  refine lv_iconst (v := nI 0) X.1 X.2.1 dL_nextPart_33 (by decide) ?_
  exact hE9 _ _ _ _ _ _ _ ad L K _ _ _ _ N _ rfl (show _ ≤ 2 by decide) (show _ ≤ 260 by decide) hW ho hO ⟨_, rfl, fun _ => if_pos rfl⟩ (HB.next_e hj (HB.rj j hj).2.2.2.1 hpl hp9) rfl dL_nextPart_34

theorem wo_nextPart (l : Launch) (hst : l.stackTraces = false) {G : va_G} {kT : Nat → ClassId} {a0 o9 : Nat} {T : mT} {D : mD} (I : mI T) (J : mJD D) (j row f n : Int32) : wO l yL_nextPart wsL_nextPart ({ frames := 9, cells := 2, slots := 260, locals := 169 } : Room) G kT a0 o9 [.ref a0, .int j, .int row, .int f, .int n, .ref o9] T D (sp_nextPart T D j row f n) := by
  by_cases h1 : oN j 2
  · rw [show sp_nextPart T D j row f n = no T D 1 from if_pos (Or.inl h1)]; exact ww_nextPart_1a l hst h1
  · obtain ⟨j, hj, rfl⟩ := oN_in (by decide) h1
    by_cases h2 : oN row 4
    · rw [show sp_nextPart T D (nI j) row f n = no T D 1 from if_pos (Or.inr (Or.inl h2))]
      by_cases hn : nI 1 ≤ n
      · exact ww_nextPart_1by l hst hj h2 hn
      · exact ww_nextPart_1bx l hst hj h2 hn
    · obtain ⟨r, hr, rfl⟩ := oN_in (by decide) h2
      have hl : bI T (nI r) = T 4 (T 5 r) := by simp only [bI, nI_clamp (show r < 2 ^ 31 by omega)]
      have I2 := I.br hr
      have I3 := I.bl I2
      by_cases h3 : oP (T 4 (T 5 r)) f n
      · rw [show sp_nextPart T D (nI j) (nI r) f n = no T D 1 from if_pos (Or.inr (Or.inr (by rw [hl]; exact h3)))]
        by_cases hn : nI 1 ≤ n
        · exact ww_nextPart_1c l hst I hj hr hn h3
        · by_cases h4 : oP (T 4 (T 5 r)) f (nI 0)
          · exact ww_nextPart_1d l hst I hj hr hn h4
          · obtain ⟨f0, hf, rfl⟩ := nI_of (fun z => h4 (Or.inl z))
            have h5 : f0 ≤ T 4 (T 5 r) := Nat.not_lt.mp (fun z => h4 (Or.inr (Or.inr (by rw [nI_clamp hf, nI_clamp (by decide)]; exact z))))
            refine ww_nextPart_1e l hst I hj hr h5 hn ?_
            rcases h3 with h3 | h3 | h3
            · exact absurd h3 (fun z => h4 (Or.inl z))
            · exact h3
            · refine Classical.byContradiction (fun g => ?_)
              obtain ⟨n0, hn0, rfl⟩ := nI_of g
              rw [nI_clamp hf, nI_clamp hn0] at h3
              exact hn ((nI_leI (by decide) hn0).mpr (by omega))
      · obtain ⟨f0, hf, rfl⟩ := nI_of (fun z => h3 (Or.inl z))
        obtain ⟨n0, hn, rfl⟩ := nI_of (fun z => h3 (Or.inr (Or.inl z)))
        have h4 : f0 + n0 ≤ T 4 (T 5 r) := Nat.not_lt.mp (fun z => h3 (Or.inr (Or.inr (by rw [nI_clamp hf, nI_clamp hn]; exact z))))
        have hc : (nI j).toNatClampNeg = j := nI_clamp (by omega)
        have hc2 : (nI r).toNatClampNeg = r := nI_clamp (by omega)
        have hc3 : (nI f0).toNatClampNeg = f0 := nI_clamp hf
        have hc4 : (nI n0).toNatClampNeg = n0 := nI_clamp hn
        have hno : ¬ (oN (nI j) 2 ∨ oN (nI r) 4 ∨ oP (bI T (nI r)) (nI f0) (nI n0)) := by rw [hl]; exact fun z => z.elim h1 (fun z => z.elim h2 h3)
        have e0 : sp_nextPart T D (nI j) (nI r) (nI f0) (nI n0) = if n0 = 0 then no T D 2 else if T 13 j = 0 then no T D 3 else if itN T j r (T 13 j) = 1 then no T D 4 else sk_nextPart T D j r f0 n0 := by
          rw [sp_nextPart, if_neg hno, hc, hc2, hc3, hc4]
        rw [e0]
        by_cases h5 : n0 = 0
        · subst h5; rw [if_pos rfl]; exact ww_nextPart_2 l hst I hj hr (by omega)
        · rw [if_neg h5]
          by_cases h6 : T 13 j = 0
          · rw [if_pos h6]; exact ww_nextPart_3 l hst I hj hr h4 h5 h6
          · rw [if_neg h6]
            by_cases h7 : itN T j r (T 13 j) = 1
            · rw [if_pos h7]; exact ww_nextPart_4 l hst I hj hr h4 h5 h6 h7
            · rw [if_neg h7]
              by_cases hw : wnT T j 16 j < wnT T j 13 j
              · rw [show sk_nextPart T D j r f0 n0 = _ from if_pos hw]; exact ww_nextPart_g l hst I hj hr h4 h5 h6 h7 hw
              · rw [show sk_nextPart T D j r f0 n0 = _ from if_neg hw]; exact ww_nextPart_e l hst I hj hr h4 h5 h6 h7 hw

set_option maxHeartbeats 4000000 in
set_option maxRecDepth 100000 in
theorem ww_pass_1 (l : Launch) (hst : l.stackTraces = false) {G : va_G} {kT : Nat → ClassId} {a0 o9 : Nat} {T : mT} {D : mD} {j : Int32} {lm : Int64} (h : oN j 2) : wM l yL_pass wsL_pass ({ frames := 9, cells := 2, slots := 260, locals := 166 } : Room) G kT a0 o9 [.ref (a0), .int (j), .long (lm), .ref (o9)] T D 1 (T) (D) (oL kT False 0) (oL kT (1 = 0) (lN 0)) := by
  refine wstart (cc := cL_pass) (maxL := 6) (hh := [(0, 10, 13, 13), (0, 10, 17, 15), (0, 10, 21, 108)]) (by decide) rfl (Nat.le_of_ble_eq_true rfl) (fun ad L K R I A Q N e0 HB h09 ho hP0 p e s m args below meth c Z hE9 X hT hE hW hO ls hl => ?_)
  subst h09
  obtain ⟨f0, rfl, -⟩ := hP0
  have X : CallFix p m c cL_pass 6 s args wsL_pass RL := X
  have hl : lv_has ls 6 [(0, .ref (ad 0 0)), (1, .int (j)), (2, .long (lm)), (4, .ref (o9))] := hl
  refine lv_aload X.1 X.2.1 dL_pass_0 (lv_at hl 3 rfl) ?_
  refine lv_iconst (v := nI 0) X.1 X.2.1 dL_pass_2 (by decide) ?_
  refine lv_aload_n X.1 X.2.1 dL_pass_3 rfl (lv_at hl 0 rfl) ?_
  refine lv_iload_n X.1 X.2.1 dL_pass_4 rfl (lv_at hl 1 rfl) ?_
  refine lv_lload_n X.1 X.2.1 dL_pass_5 rfl (lv_at hl 2 rfl) ?_
  refine cCV hE X hW (HB.mem lv_0) (pC_6 (HB.kn lv_0 rfl)) rfl (cb_pass_a l hst HB h) (cwV 2 X.2.2.2.2 gL_pass_X6_pass rfl rfl rfl (by decide +kernel) ⟨Nat.le_of_ble_eq_true rfl, Nat.le_of_ble_eq_true rfl⟩) rfl rfl hl.1 (Nat.le_of_ble_eq_true rfl) dL_pass_6 ⟨Nat.le_of_ble_eq_true rfl, Nat.le_of_ble_eq_true rfl⟩ (fun H locs q8 ce hW hsz hk hce hcv hcl => ?_)
  have hO := oK hO ho hk
  refine vx_catch X.2.2.2.1 [] ⟨0, 10, 13, 13⟩ [⟨0, 10, 17, 15⟩, ⟨0, 10, 21, 108⟩] hT (fun z hz => absurd hz List.not_mem_nil) (by decide) (by decide) (X.2.2.2.2 (.classLink RL 13 "java/lang/IndexOutOfBoundsException") (List.mem_cons_of_mem _ (List.mem_append_left _ (List.mem_append_left _ (List.mem_append_left _ (List.mem_append_left _ (List.mem_append_left _ (List.mem_append_left _ (List.mem_append_left _ (List.mem_append_left _ (List.mem_of_getElem? (i := 0) rfl))))))))))) (va_Nw.use rfl (hE.2.2.1 (.castable "java/lang/IndexOutOfBoundsException" "java/lang/IndexOutOfBoundsException") (by decide +kernel))) hce hcv hcl ?_
  refine lv_astore (lv' := [(5, .ref (q8)), (0, .ref (ad 0 0)), (1, .int (j)), (2, .long (lm)), (4, .ref (o9))]) X.1 X.2.1 dL_pass_13 hl (by decide) rfl (fun ls hl => ?_)
  refine lv_iconst (v := nI 1) X.1 X.2.1 dL_pass_15 (by decide) ?_
  exact hE9 _ _ _ _ _ _ _ ad L K R I A Q N _ rfl (show _ ≤ 2 by decide) (show _ ≤ 260 by decide) hW ho hO ⟨f0, rfl, fun z => absurd z (by decide)⟩ HB rfl dL_pass_16

set_option maxHeartbeats 4000000 in
set_option maxRecDepth 100000 in
theorem ww_pass (l : Launch) (hst : l.stackTraces = false) {G : va_G} {kT : Nat → ClassId} {a0 o9 : Nat} {T : mT} {D : mD} (I : mI T) {j n : Nat} (hj : j < 2) (hn : n < 2 ^ 63) (h : n ≤ 1000) (h0 : T 13 j ≠ 0) : wM l yL_pass wsL_pass ({ frames := 9, cells := 2, slots := 260, locals := 166 } : Room) G kT a0 o9 [.ref (a0), .int (nI (j)), .long (lN n), .ref (o9)] T D 0 (psT j n T) (D) (oL kT False 0) (oL kT (0 = 0) (lN (psN j n T))) := by
  refine wstart (cc := cL_pass) (maxL := 6) (hh := [(0, 10, 13, 13), (0, 10, 17, 15), (0, 10, 21, 108)]) (by decide) rfl (Nat.le_of_ble_eq_true rfl) (fun ad L K R I A Q N e0 HB h09 ho hP0 p e s m args below meth c Z hE9 X hT hE hW hO ls hl => ?_)
  subst h09
  obtain ⟨f0, rfl, -⟩ := hP0
  have X : CallFix p m c cL_pass 6 s args wsL_pass RL := X
  have hl : lv_has ls 6 [(0, .ref (ad 0 0)), (1, .int (nI (j))), (2, .long (lN n)), (4, .ref (o9))] := hl
  obtain ⟨pl, hjs, hpl⟩ := HB.js hj
  obtain ⟨g1, g2⟩ := Rep.passed hj n T I pl HB hpl hjs.2.2.2.2.2.2.2.2.2.2.2 hjs.2.2.2.2.2.2.2.2.1
  refine lv_aload X.1 X.2.1 dL_pass_0 (lv_at hl 3 rfl) ?_
  refine lv_iconst (v := nI 0) X.1 X.2.1 dL_pass_2 (by decide) ?_
  refine lv_aload_n X.1 X.2.1 dL_pass_3 rfl (lv_at hl 0 rfl) ?_
  refine lv_iload_n X.1 X.2.1 dL_pass_4 rfl (lv_at hl 1 rfl) ?_
  refine lv_lload_n X.1 X.2.1 dL_pass_5 rfl (lv_at hl 2 rfl) ?_
  refine cFl X hW (HB.mem lv_0) (pC_6 (HB.kn lv_0 rfl)) rfl (co_pass l HB (M := n) hj hjs h0 h) (cwV 2 X.2.2.2.2 gL_pass_X6_pass rfl rfl rfl (by decide +kernel) ⟨Nat.le_of_ble_eq_true rfl, Nat.le_of_ble_eq_true rfl⟩) rfl rfl hl.1 (Nat.le_of_ble_eq_true rfl) dL_pass_6 ⟨Nat.le_of_ble_eq_true rfl, Nat.le_of_ble_eq_true rfl⟩ (fun H locs hW hsz hk => ?_)
  have hO := oK hO ho hk
  refine wst X hW hO ho dL_pass_9 (fun H locs hW hO => ?_)
  refine lv_goto (tgt := 25) X.1 X.2.1 dL_pass_10 (by decide) ?_
  refine lv_iconst (v := nI 0) X.1 X.2.1 dL_pass_25 (by decide) ?_
  exact hE9 _ _ _ _ _ _ _ ad L K _ _ _ _ N _ rfl (show _ ≤ 2 by decide) (show _ ≤ 260 by decide) hW ho hO ⟨_, rfl, fun _ => (if_pos rfl).trans (by rw [g1])⟩ (g2) rfl dL_pass_26

set_option maxHeartbeats 4000000 in
set_option maxRecDepth 100000 in
theorem ww_pass_2a (l : Launch) (hst : l.stackTraces = false) {G : va_G} {kT : Nat → ClassId} {a0 o9 : Nat} {T : mT} {D : mD} {j : Nat} {lm : Int64} (hj : j < 2) (h : lm < 0) : wM l yL_pass wsL_pass ({ frames := 9, cells := 2, slots := 260, locals := 166 } : Room) G kT a0 o9 [.ref (a0), .int (nI (j)), .long (lm), .ref (o9)] T D 2 (T) (D) (oL kT False 0) (oL kT (2 = 0) (lN 0)) := by
  refine wstart (cc := cL_pass) (maxL := 6) (hh := [(0, 10, 13, 13), (0, 10, 17, 15), (0, 10, 21, 108)]) (by decide) rfl (Nat.le_of_ble_eq_true rfl) (fun ad L K R I A Q N e0 HB h09 ho hP0 p e s m args below meth c Z hE9 X hT hE hW hO ls hl => ?_)
  subst h09
  obtain ⟨f0, rfl, -⟩ := hP0
  have X : CallFix p m c cL_pass 6 s args wsL_pass RL := X
  have hl : lv_has ls 6 [(0, .ref (ad 0 0)), (1, .int (nI (j))), (2, .long (lm)), (4, .ref (o9))] := hl
  refine lv_aload X.1 X.2.1 dL_pass_0 (lv_at hl 3 rfl) ?_
  refine lv_iconst (v := nI 0) X.1 X.2.1 dL_pass_2 (by decide) ?_
  refine lv_aload_n X.1 X.2.1 dL_pass_3 rfl (lv_at hl 0 rfl) ?_
  refine lv_iload_n X.1 X.2.1 dL_pass_4 rfl (lv_at hl 1 rfl) ?_
  refine lv_lload_n X.1 X.2.1 dL_pass_5 rfl (lv_at hl 2 rfl) ?_
  refine cCV hE X hW (HB.mem lv_0) (pC_6 (HB.kn lv_0 rfl)) rfl (cb_pass_b l hst HB hj (Or.inl h)) (cwV 2 X.2.2.2.2 gL_pass_X6_pass rfl rfl rfl (by decide +kernel) ⟨Nat.le_of_ble_eq_true rfl, Nat.le_of_ble_eq_true rfl⟩) rfl rfl hl.1 (Nat.le_of_ble_eq_true rfl) dL_pass_6 ⟨Nat.le_of_ble_eq_true rfl, Nat.le_of_ble_eq_true rfl⟩ (fun H locs q8 ce hW hsz hk hce hcv hcl => ?_)
  have hO := oK hO ho hk
  refine vx_catch X.2.2.2.1 [⟨0, 10, 13, 13⟩] ⟨0, 10, 17, 15⟩ [⟨0, 10, 21, 108⟩] hT (List.forall_mem_cons.mpr ⟨Or.inr ⟨by decide, "java/lang/IndexOutOfBoundsException", X.2.2.2.2 (.classLink RL 13 "java/lang/IndexOutOfBoundsException") (List.mem_cons_of_mem _ (List.mem_append_left _ (List.mem_append_left _ (List.mem_append_left _ (List.mem_append_left _ (List.mem_append_left _ (List.mem_append_left _ (List.mem_append_left _ (List.mem_append_left _ (List.mem_of_getElem? (i := 0) rfl)))))))))), hE.2.2.2.2 ("java/lang/IllegalArgumentException", "java/lang/IndexOutOfBoundsException") (by decide +kernel)⟩, (fun z hz => absurd hz List.not_mem_nil)⟩) (by decide) (by decide) (X.2.2.2.2 (.classLink RL 15 "java/lang/IllegalArgumentException") (List.mem_cons_of_mem _ (List.mem_append_left _ (List.mem_append_left _ (List.mem_append_left _ (List.mem_append_left _ (List.mem_append_left _ (List.mem_append_left _ (List.mem_append_left _ (List.mem_append_left _ (List.mem_of_getElem? (i := 1) rfl))))))))))) (va_Nw.use rfl (hE.2.2.1 (.castable "java/lang/IllegalArgumentException" "java/lang/IllegalArgumentException") (by decide +kernel))) hce hcv hcl ?_
  refine lv_astore (lv' := [(5, .ref (q8)), (0, .ref (ad 0 0)), (1, .int (nI (j))), (2, .long (lm)), (4, .ref (o9))]) X.1 X.2.1 dL_pass_17 hl (by decide) rfl (fun ls hl => ?_)
  refine lv_iconst (v := nI 2) X.1 X.2.1 dL_pass_19 (by decide) ?_
  exact hE9 _ _ _ _ _ _ _ ad L K R I A Q N _ rfl (show _ ≤ 2 by decide) (show _ ≤ 260 by decide) hW ho hO ⟨f0, rfl, fun z => absurd z (by decide)⟩ HB rfl dL_pass_20

set_option maxHeartbeats 4000000 in
set_option maxRecDepth 100000 in
theorem ww_pass_2b (l : Launch) (hst : l.stackTraces = false) {G : va_G} {kT : Nat → ClassId} {a0 o9 : Nat} {T : mT} {D : mD} {j n : Nat} (hj : j < 2) (hn : n < 2 ^ 63) (h : 1000 < n) : wM l yL_pass wsL_pass ({ frames := 9, cells := 2, slots := 260, locals := 166 } : Room) G kT a0 o9 [.ref (a0), .int (nI (j)), .long (lN n), .ref (o9)] T D 2 (T) (D) (oL kT False 0) (oL kT (2 = 0) (lN 0)) := by
  refine wstart (cc := cL_pass) (maxL := 6) (hh := [(0, 10, 13, 13), (0, 10, 17, 15), (0, 10, 21, 108)]) (by decide) rfl (Nat.le_of_ble_eq_true rfl) (fun ad L K R I A Q N e0 HB h09 ho hP0 p e s m args below meth c Z hE9 X hT hE hW hO ls hl => ?_)
  subst h09
  obtain ⟨f0, rfl, -⟩ := hP0
  have X : CallFix p m c cL_pass 6 s args wsL_pass RL := X
  have hl : lv_has ls 6 [(0, .ref (ad 0 0)), (1, .int (nI (j))), (2, .long (lN n)), (4, .ref (o9))] := hl
  refine lv_aload X.1 X.2.1 dL_pass_0 (lv_at hl 3 rfl) ?_
  refine lv_iconst (v := nI 0) X.1 X.2.1 dL_pass_2 (by decide) ?_
  refine lv_aload_n X.1 X.2.1 dL_pass_3 rfl (lv_at hl 0 rfl) ?_
  refine lv_iload_n X.1 X.2.1 dL_pass_4 rfl (lv_at hl 1 rfl) ?_
  refine lv_lload_n X.1 X.2.1 dL_pass_5 rfl (lv_at hl 2 rfl) ?_
  refine cCV hE X hW (HB.mem lv_0) (pC_6 (HB.kn lv_0 rfl)) rfl (cb_pass_b l hst HB hj (Or.inr ((pk_lLT (a := 1000) (by decide) hn).mpr h))) (cwV 2 X.2.2.2.2 gL_pass_X6_pass rfl rfl rfl (by decide +kernel) ⟨Nat.le_of_ble_eq_true rfl, Nat.le_of_ble_eq_true rfl⟩) rfl rfl hl.1 (Nat.le_of_ble_eq_true rfl) dL_pass_6 ⟨Nat.le_of_ble_eq_true rfl, Nat.le_of_ble_eq_true rfl⟩ (fun H locs q8 ce hW hsz hk hce hcv hcl => ?_)
  have hO := oK hO ho hk
  refine vx_catch X.2.2.2.1 [⟨0, 10, 13, 13⟩] ⟨0, 10, 17, 15⟩ [⟨0, 10, 21, 108⟩] hT (List.forall_mem_cons.mpr ⟨Or.inr ⟨by decide, "java/lang/IndexOutOfBoundsException", X.2.2.2.2 (.classLink RL 13 "java/lang/IndexOutOfBoundsException") (List.mem_cons_of_mem _ (List.mem_append_left _ (List.mem_append_left _ (List.mem_append_left _ (List.mem_append_left _ (List.mem_append_left _ (List.mem_append_left _ (List.mem_append_left _ (List.mem_append_left _ (List.mem_of_getElem? (i := 0) rfl)))))))))), hE.2.2.2.2 ("java/lang/IllegalArgumentException", "java/lang/IndexOutOfBoundsException") (by decide +kernel)⟩, (fun z hz => absurd hz List.not_mem_nil)⟩) (by decide) (by decide) (X.2.2.2.2 (.classLink RL 15 "java/lang/IllegalArgumentException") (List.mem_cons_of_mem _ (List.mem_append_left _ (List.mem_append_left _ (List.mem_append_left _ (List.mem_append_left _ (List.mem_append_left _ (List.mem_append_left _ (List.mem_append_left _ (List.mem_append_left _ (List.mem_of_getElem? (i := 1) rfl))))))))))) (va_Nw.use rfl (hE.2.2.1 (.castable "java/lang/IllegalArgumentException" "java/lang/IllegalArgumentException") (by decide +kernel))) hce hcv hcl ?_
  refine lv_astore (lv' := [(5, .ref (q8)), (0, .ref (ad 0 0)), (1, .int (nI (j))), (2, .long (lN n)), (4, .ref (o9))]) X.1 X.2.1 dL_pass_17 hl (by decide) rfl (fun ls hl => ?_)
  refine lv_iconst (v := nI 2) X.1 X.2.1 dL_pass_19 (by decide) ?_
  exact hE9 _ _ _ _ _ _ _ ad L K R I A Q N _ rfl (show _ ≤ 2 by decide) (show _ ≤ 260 by decide) hW ho hO ⟨f0, rfl, fun z => absurd z (by decide)⟩ HB rfl dL_pass_20

set_option maxHeartbeats 4000000 in
set_option maxRecDepth 100000 in
theorem ww_pass_3 (l : Launch) (hst : l.stackTraces = false) {G : va_G} {kT : Nat → ClassId} {a0 o9 : Nat} {T : mT} {D : mD} (I : mI T) {j n : Nat} (hj : j < 2) (hn : n < 2 ^ 63) (h : n ≤ 1000) (h0 : T 13 j = 0) : wM l yL_pass wsL_pass ({ frames := 9, cells := 2, slots := 260, locals := 166 } : Room) G kT a0 o9 [.ref (a0), .int (nI (j)), .long (lN n), .ref (o9)] T D 3 (T) (D) (oL kT False 0) (oL kT (3 = 0) (lN 0)) := by
  refine wstart (cc := cL_pass) (maxL := 6) (hh := [(0, 10, 13, 13), (0, 10, 17, 15), (0, 10, 21, 108)]) (by decide) rfl (Nat.le_of_ble_eq_true rfl) (fun ad L K R I A Q N e0 HB h09 ho hP0 p e s m args below meth c Z hE9 X hT hE hW hO ls hl => ?_)
  subst h09
  obtain ⟨f0, rfl, -⟩ := hP0
  have X : CallFix p m c cL_pass 6 s args wsL_pass RL := X
  have hl : lv_has ls 6 [(0, .ref (ad 0 0)), (1, .int (nI (j))), (2, .long (lN n)), (4, .ref (o9))] := hl
  obtain ⟨pl, hjs, hpl⟩ := HB.js hj
  refine lv_aload X.1 X.2.1 dL_pass_0 (lv_at hl 3 rfl) ?_
  refine lv_iconst (v := nI 0) X.1 X.2.1 dL_pass_2 (by decide) ?_
  refine lv_aload_n X.1 X.2.1 dL_pass_3 rfl (lv_at hl 0 rfl) ?_
  refine lv_iload_n X.1 X.2.1 dL_pass_4 rfl (lv_at hl 1 rfl) ?_
  refine lv_lload_n X.1 X.2.1 dL_pass_5 rfl (lv_at hl 2 rfl) ?_
  refine cCV hE X hW (HB.mem lv_0) (pC_6 (HB.kn lv_0 rfl)) rfl (cb_pass_c l hst HB hj hjs h0 h) (cwV 2 X.2.2.2.2 gL_pass_X6_pass rfl rfl rfl (by decide +kernel) ⟨Nat.le_of_ble_eq_true rfl, Nat.le_of_ble_eq_true rfl⟩) rfl rfl hl.1 (Nat.le_of_ble_eq_true rfl) dL_pass_6 ⟨Nat.le_of_ble_eq_true rfl, Nat.le_of_ble_eq_true rfl⟩ (fun H locs q8 ce hW hsz hk hce hcv hcl => ?_)
  have hO := oK hO ho hk
  refine vx_catch X.2.2.2.1 [⟨0, 10, 13, 13⟩, ⟨0, 10, 17, 15⟩] ⟨0, 10, 21, 108⟩ [] hT (List.forall_mem_cons.mpr ⟨Or.inr ⟨by decide, "java/lang/IndexOutOfBoundsException", X.2.2.2.2 (.classLink RL 13 "java/lang/IndexOutOfBoundsException") (List.mem_cons_of_mem _ (List.mem_append_left _ (List.mem_append_left _ (List.mem_append_left _ (List.mem_append_left _ (List.mem_append_left _ (List.mem_append_left _ (List.mem_append_left _ (List.mem_append_left _ (List.mem_of_getElem? (i := 0) rfl)))))))))), hE.2.2.2.2 ("java/lang/UnsupportedOperationException", "java/lang/IndexOutOfBoundsException") (by decide +kernel)⟩, (List.forall_mem_cons.mpr ⟨Or.inr ⟨by decide, "java/lang/IllegalArgumentException", X.2.2.2.2 (.classLink RL 15 "java/lang/IllegalArgumentException") (List.mem_cons_of_mem _ (List.mem_append_left _ (List.mem_append_left _ (List.mem_append_left _ (List.mem_append_left _ (List.mem_append_left _ (List.mem_append_left _ (List.mem_append_left _ (List.mem_append_left _ (List.mem_of_getElem? (i := 1) rfl)))))))))), hE.2.2.2.2 ("java/lang/UnsupportedOperationException", "java/lang/IllegalArgumentException") (by decide +kernel)⟩, (fun z hz => absurd hz List.not_mem_nil)⟩)⟩) (by decide) (by decide) (X.2.2.2.2 (.classLink RL 108 "java/lang/UnsupportedOperationException") (List.mem_cons_of_mem _ (List.mem_append_left _ (List.mem_append_left _ (List.mem_append_left _ (List.mem_append_left _ (List.mem_append_left _ (List.mem_append_left _ (List.mem_append_left _ (List.mem_append_left _ (List.mem_of_getElem? (i := 2) rfl))))))))))) (va_Nw.use rfl (hE.2.2.1 (.castable "java/lang/UnsupportedOperationException" "java/lang/UnsupportedOperationException") (by decide +kernel))) hce hcv hcl ?_
  refine lv_astore (lv' := [(5, .ref (q8)), (0, .ref (ad 0 0)), (1, .int (nI (j))), (2, .long (lN n)), (4, .ref (o9))]) X.1 X.2.1 dL_pass_21 hl (by decide) rfl (fun ls hl => ?_)
  refine lv_iconst (v := nI 3) X.1 X.2.1 dL_pass_23 (by decide) ?_
  exact hE9 _ _ _ _ _ _ _ ad L K R I A Q N _ rfl (show _ ≤ 2 by decide) (show _ ≤ 260 by decide) hW ho hO ⟨f0, rfl, fun z => absurd z (by decide)⟩ HB rfl dL_pass_24

theorem wo_pass (l : Launch) (hst : l.stackTraces = false) {G : va_G} {kT : Nat → ClassId} {a0 o9 : Nat} {T : mT} {D : mD} (I : mI T) (J : mJD D) (j : Int32) (m : Int64) : wOl l yL_pass wsL_pass ({ frames := 9, cells := 2, slots := 260, locals := 166 } : Room) G kT a0 o9 [.ref a0, .int j, .long m, .ref o9] T D (sp_pass T D j m) := by
  by_cases h1 : oN j 2
  · rw [show sp_pass T D j m = nol T D 1 from if_pos h1]; exact ww_pass_1 l hst h1
  · obtain ⟨j, hj, rfl⟩ := oN_in (by decide) h1
    have hc : (nI j).toNatClampNeg = j := nI_clamp (by omega)
    by_cases h2 : m < 0
    · rw [show sp_pass T D (nI j) m = nol T D 2 from (if_neg h1).trans (if_pos (Or.inl h2))]; exact ww_pass_2a l hst hj h2
    · obtain ⟨n, hn, rfl⟩ := pk_lOf h2
      have e3 : (1000 < lN n) ↔ 1000 < n := pk_lLT (a := 1000) (by decide) hn
      by_cases h3 : 1000 < n
      · rw [show sp_pass T D (nI j) (lN n) = nol T D 2 from (if_neg h1).trans (if_pos (Or.inr (e3.mpr h3)))]; exact ww_pass_2b l hst hj hn h3
      · have h4 : ¬ (lN n < 0 ∨ 1000 < lN n) := fun z => z.elim h2 (fun z => h3 (e3.mp z))
        have e4 : (lN n).toInt.toNat = n := by rw [pk_lT hn]; rfl
        by_cases h5 : T 13 j = 0
        · rw [show sp_pass T D (nI j) (lN n) = nol T D 3 from (if_neg h1).trans ((if_neg h4).trans (if_pos (by rw [hc]; exact h5)))]; exact ww_pass_3 l hst I hj hn (Nat.not_lt.mp h3) h5
        · rw [show sp_pass T D (nI j) (lN n) = (0, psN j n T, psT j n T, D) from (if_neg h1).trans ((if_neg h4).trans ((if_neg (by rw [hc]; exact h5)).trans (by rw [hc, e4])))]
          exact ww_pass l hst I hj hn (Nat.not_lt.mp h3) h5


set_option maxHeartbeats 4000000 in
set_option maxRecDepth 100000 in
theorem ww_share (l : Launch) (hst : l.stackTraces = false) {G : va_G} {kT : Nat → ClassId} {a0 o9 : Nat} {T : mT} {D : mD} (I : mI T) {j : Nat} (hj : j < 2) (h : T 13 j ≠ 0) (h2 : T 17 j ≠ 0) : wM l yL_passedShare wsL_passedShare ({ frames := 9, cells := 2, slots := 260, locals := 165 } : Room) G kT a0 o9 [.ref (a0), .int (nI (j)), .ref (o9)] T D 0 (T) (D) (oD kT False 0) (oD kT (0 = 0) (FP.f2d (shV T j))) := by
  refine wstart (cc := cL_passedShare) (maxL := 4) (hh := [(0, 9, 12, 13), (0, 9, 15, 108), (0, 9, 18, 149)]) (by decide) rfl (Nat.le_of_ble_eq_true rfl) (fun ad L K R I A Q N e0 HB h09 ho hP0 p e s m args below meth c Z hE9 X hT hE hW hO ls hl => ?_)
  subst h09
  obtain ⟨f0, rfl, -⟩ := hP0
  have X : CallFix p m c cL_passedShare 4 s args wsL_passedShare RL := X
  have hl : lv_has ls 4 [(0, .ref (ad 0 0)), (1, .int (nI (j))), (2, .ref (o9))] := hl
  obtain ⟨pl, hjs, hpl⟩ := HB.js hj
  have h179 := (HB.mi.st hj).2.2.1
  refine lv_aload_n X.1 X.2.1 dL_passedShare_0 rfl (lv_at hl 2 rfl) ?_
  refine lv_iconst (v := nI 0) X.1 X.2.1 dL_passedShare_1 (by decide) ?_
  refine lv_aload_n X.1 X.2.1 dL_passedShare_2 rfl (lv_at hl 0 rfl) ?_
  refine lv_iload_n X.1 X.2.1 dL_passedShare_3 rfl (lv_at hl 1 rfl) ?_
  refine cFf X hW (HB.mem lv_0) (pC_6 (HB.kn lv_0 rfl)) rfl (co_passedShare l HB hj hjs h h2) (cwV 1 X.2.2.2.2 gL_passedShare_X6_passedShare rfl rfl rfl (by decide +kernel) ⟨Nat.le_of_ble_eq_true rfl, Nat.le_of_ble_eq_true rfl⟩) rfl rfl hl.1 (Nat.le_of_ble_eq_true rfl) dL_passedShare_4 ⟨Nat.le_of_ble_eq_true rfl, Nat.le_of_ble_eq_true rfl⟩ (fun H locs hW hsz hk => ?_)
  have hO := oK hO ho hk
  refine lv_f2d X.1 X.2.1 dL_passedShare_7 (n64_of (f2d_n (fdiv_n32 _ _ (by rw [nI_toInt (by omega)]; omega)))) ?_
  refine wsd X hW hO ho dL_passedShare_8 (fun H locs hW hO => ?_)
  refine lv_goto (tgt := 21) X.1 X.2.1 dL_passedShare_9 (by decide) ?_
  refine lv_iconst (v := nI 0) X.1 X.2.1 dL_passedShare_21 (by decide) ?_
  exact hE9 _ _ _ _ _ _ _ ad L K _ _ _ _ N _ rfl (show _ ≤ 2 by decide) (show _ ≤ 260 by decide) hW ho hO ⟨_, rfl, fun _ => if_pos rfl⟩ (HB) rfl dL_passedShare_22

set_option maxHeartbeats 4000000 in
set_option maxRecDepth 100000 in
theorem ww_share_1 (l : Launch) (hst : l.stackTraces = false) {G : va_G} {kT : Nat → ClassId} {a0 o9 : Nat} {T : mT} {D : mD} {j : Int32} (h : oN j 2) : wM l yL_passedShare wsL_passedShare ({ frames := 9, cells := 2, slots := 260, locals := 165 } : Room) G kT a0 o9 [.ref (a0), .int (j), .ref (o9)] T D 1 (T) (D) (oD kT False 0) (oD kT (1 = 0) (FP.f2d (FP.fconst0))) := by
  refine wstart (cc := cL_passedShare) (maxL := 4) (hh := [(0, 9, 12, 13), (0, 9, 15, 108), (0, 9, 18, 149)]) (by decide) rfl (Nat.le_of_ble_eq_true rfl) (fun ad L K R I A Q N e0 HB h09 ho hP0 p e s m args below meth c Z hE9 X hT hE hW hO ls hl => ?_)
  subst h09
  obtain ⟨f0, rfl, -⟩ := hP0
  have X : CallFix p m c cL_passedShare 4 s args wsL_passedShare RL := X
  have hl : lv_has ls 4 [(0, .ref (ad 0 0)), (1, .int (j)), (2, .ref (o9))] := hl
  refine lv_aload_n X.1 X.2.1 dL_passedShare_0 rfl (lv_at hl 2 rfl) ?_
  refine lv_iconst (v := nI 0) X.1 X.2.1 dL_passedShare_1 (by decide) ?_
  refine lv_aload_n X.1 X.2.1 dL_passedShare_2 rfl (lv_at hl 0 rfl) ?_
  refine lv_iload_n X.1 X.2.1 dL_passedShare_3 rfl (lv_at hl 1 rfl) ?_
  refine cCV hE X hW (HB.mem lv_0) (pC_6 (HB.kn lv_0 rfl)) rfl (cb_passedShare_a l hst HB h) (cwV 1 X.2.2.2.2 gL_passedShare_X6_passedShare rfl rfl rfl (by decide +kernel) ⟨Nat.le_of_ble_eq_true rfl, Nat.le_of_ble_eq_true rfl⟩) rfl rfl hl.1 (Nat.le_of_ble_eq_true rfl) dL_passedShare_4 ⟨Nat.le_of_ble_eq_true rfl, Nat.le_of_ble_eq_true rfl⟩ (fun H locs q8 ce hW hsz hk hce hcv hcl => ?_)
  have hO := oK hO ho hk
  refine vx_catch X.2.2.2.1 [] ⟨0, 9, 12, 13⟩ [⟨0, 9, 15, 108⟩, ⟨0, 9, 18, 149⟩] hT (fun z hz => absurd hz List.not_mem_nil) (by decide) (by decide) (X.2.2.2.2 (.classLink RL 13 "java/lang/IndexOutOfBoundsException") (List.mem_cons_of_mem _ (List.mem_append_left _ (List.mem_append_left _ (List.mem_append_left _ (List.mem_append_left _ (List.mem_append_left _ (List.mem_append_left _ (List.mem_append_left _ (List.mem_of_getElem? (i := 0) rfl)))))))))) (va_Nw.use rfl (hE.2.2.1 (.castable "java/lang/IndexOutOfBoundsException" "java/lang/IndexOutOfBoundsException") (by decide +kernel))) hce hcv hcl ?_
  refine lv_astore_n (lv' := [(3, .ref (q8)), (0, .ref (ad 0 0)), (1, .int (j)), (2, .ref (o9))]) X.1 X.2.1 dL_passedShare_12 rfl hl (by decide) rfl (fun ls hl => ?_)
  refine lv_iconst (v := nI 1) X.1 X.2.1 dL_passedShare_13 (by decide) ?_
  exact hE9 _ _ _ _ _ _ _ ad L K R I A Q N _ rfl (show _ ≤ 2 by decide) (show _ ≤ 260 by decide) hW ho hO ⟨f0, rfl, fun z => absurd z (by decide)⟩ HB rfl dL_passedShare_14

set_option maxHeartbeats 4000000 in
set_option maxRecDepth 100000 in
theorem ww_share_2 (l : Launch) (hst : l.stackTraces = false) {G : va_G} {kT : Nat → ClassId} {a0 o9 : Nat} {T : mT} {D : mD} {j : Nat} (hj : j < 2) (h : T 13 j = 0) : wM l yL_passedShare wsL_passedShare ({ frames := 9, cells := 2, slots := 260, locals := 165 } : Room) G kT a0 o9 [.ref (a0), .int (nI (j)), .ref (o9)] T D 2 (T) (D) (oD kT False 0) (oD kT (2 = 0) (FP.f2d (FP.fconst0))) := by
  refine wstart (cc := cL_passedShare) (maxL := 4) (hh := [(0, 9, 12, 13), (0, 9, 15, 108), (0, 9, 18, 149)]) (by decide) rfl (Nat.le_of_ble_eq_true rfl) (fun ad L K R I A Q N e0 HB h09 ho hP0 p e s m args below meth c Z hE9 X hT hE hW hO ls hl => ?_)
  subst h09
  obtain ⟨f0, rfl, -⟩ := hP0
  have X : CallFix p m c cL_passedShare 4 s args wsL_passedShare RL := X
  have hl : lv_has ls 4 [(0, .ref (ad 0 0)), (1, .int (nI (j))), (2, .ref (o9))] := hl
  obtain ⟨pl, hjs, hpl⟩ := HB.js hj
  refine lv_aload_n X.1 X.2.1 dL_passedShare_0 rfl (lv_at hl 2 rfl) ?_
  refine lv_iconst (v := nI 0) X.1 X.2.1 dL_passedShare_1 (by decide) ?_
  refine lv_aload_n X.1 X.2.1 dL_passedShare_2 rfl (lv_at hl 0 rfl) ?_
  refine lv_iload_n X.1 X.2.1 dL_passedShare_3 rfl (lv_at hl 1 rfl) ?_
  refine cCV hE X hW (HB.mem lv_0) (pC_6 (HB.kn lv_0 rfl)) rfl (cb_passedShare_b l hst HB hj hjs h) (cwV 1 X.2.2.2.2 gL_passedShare_X6_passedShare rfl rfl rfl (by decide +kernel) ⟨Nat.le_of_ble_eq_true rfl, Nat.le_of_ble_eq_true rfl⟩) rfl rfl hl.1 (Nat.le_of_ble_eq_true rfl) dL_passedShare_4 ⟨Nat.le_of_ble_eq_true rfl, Nat.le_of_ble_eq_true rfl⟩ (fun H locs q8 ce hW hsz hk hce hcv hcl => ?_)
  have hO := oK hO ho hk
  refine vx_catch X.2.2.2.1 [⟨0, 9, 12, 13⟩] ⟨0, 9, 15, 108⟩ [⟨0, 9, 18, 149⟩] hT (List.forall_mem_cons.mpr ⟨Or.inr ⟨by decide, "java/lang/IndexOutOfBoundsException", X.2.2.2.2 (.classLink RL 13 "java/lang/IndexOutOfBoundsException") (List.mem_cons_of_mem _ (List.mem_append_left _ (List.mem_append_left _ (List.mem_append_left _ (List.mem_append_left _ (List.mem_append_left _ (List.mem_append_left _ (List.mem_append_left _ (List.mem_of_getElem? (i := 0) rfl))))))))), hE.2.2.2.2 ("java/lang/UnsupportedOperationException", "java/lang/IndexOutOfBoundsException") (by decide +kernel)⟩, (fun z hz => absurd hz List.not_mem_nil)⟩) (by decide) (by decide) (X.2.2.2.2 (.classLink RL 108 "java/lang/UnsupportedOperationException") (List.mem_cons_of_mem _ (List.mem_append_left _ (List.mem_append_left _ (List.mem_append_left _ (List.mem_append_left _ (List.mem_append_left _ (List.mem_append_left _ (List.mem_append_left _ (List.mem_of_getElem? (i := 1) rfl)))))))))) (va_Nw.use rfl (hE.2.2.1 (.castable "java/lang/UnsupportedOperationException" "java/lang/UnsupportedOperationException") (by decide +kernel))) hce hcv hcl ?_
  refine lv_astore_n (lv' := [(3, .ref (q8)), (0, .ref (ad 0 0)), (1, .int (nI (j))), (2, .ref (o9))]) X.1 X.2.1 dL_passedShare_15 rfl hl (by decide) rfl (fun ls hl => ?_)
  refine lv_iconst (v := nI 2) X.1 X.2.1 dL_passedShare_16 (by decide) ?_
  exact hE9 _ _ _ _ _ _ _ ad L K R I A Q N _ rfl (show _ ≤ 2 by decide) (show _ ≤ 260 by decide) hW ho hO ⟨f0, rfl, fun z => absurd z (by decide)⟩ HB rfl dL_passedShare_17

set_option maxHeartbeats 4000000 in
set_option maxRecDepth 100000 in
theorem ww_share_3 (l : Launch) (hst : l.stackTraces = false) {G : va_G} {kT : Nat → ClassId} {a0 o9 : Nat} {T : mT} {D : mD} (I : mI T) {j : Nat} (hj : j < 2) (h : T 13 j ≠ 0) (h2 : T 17 j = 0) : wM l yL_passedShare wsL_passedShare ({ frames := 9, cells := 2, slots := 260, locals := 165 } : Room) G kT a0 o9 [.ref (a0), .int (nI (j)), .ref (o9)] T D 3 (T) (D) (oD kT False 0) (oD kT (3 = 0) (FP.f2d (FP.fconst0))) := by
  refine wstart (cc := cL_passedShare) (maxL := 4) (hh := [(0, 9, 12, 13), (0, 9, 15, 108), (0, 9, 18, 149)]) (by decide) rfl (Nat.le_of_ble_eq_true rfl) (fun ad L K R I A Q N e0 HB h09 ho hP0 p e s m args below meth c Z hE9 X hT hE hW hO ls hl => ?_)
  subst h09
  obtain ⟨f0, rfl, -⟩ := hP0
  have X : CallFix p m c cL_passedShare 4 s args wsL_passedShare RL := X
  have hl : lv_has ls 4 [(0, .ref (ad 0 0)), (1, .int (nI (j))), (2, .ref (o9))] := hl
  obtain ⟨pl, hjs, hpl⟩ := HB.js hj
  refine lv_aload_n X.1 X.2.1 dL_passedShare_0 rfl (lv_at hl 2 rfl) ?_
  refine lv_iconst (v := nI 0) X.1 X.2.1 dL_passedShare_1 (by decide) ?_
  refine lv_aload_n X.1 X.2.1 dL_passedShare_2 rfl (lv_at hl 0 rfl) ?_
  refine lv_iload_n X.1 X.2.1 dL_passedShare_3 rfl (lv_at hl 1 rfl) ?_
  refine cCV hE X hW (HB.mem lv_0) (pC_6 (HB.kn lv_0 rfl)) rfl (cb_passedShare_c l hst HB hj hjs h h2) (cwV 1 X.2.2.2.2 gL_passedShare_X6_passedShare rfl rfl rfl (by decide +kernel) ⟨Nat.le_of_ble_eq_true rfl, Nat.le_of_ble_eq_true rfl⟩) rfl rfl hl.1 (Nat.le_of_ble_eq_true rfl) dL_passedShare_4 ⟨Nat.le_of_ble_eq_true rfl, Nat.le_of_ble_eq_true rfl⟩ (fun H locs q8 ce hW hsz hk hce hcv hcl => ?_)
  have hO := oK hO ho hk
  refine vx_catch X.2.2.2.1 [⟨0, 9, 12, 13⟩, ⟨0, 9, 15, 108⟩] ⟨0, 9, 18, 149⟩ [] hT (List.forall_mem_cons.mpr ⟨Or.inr ⟨by decide, "java/lang/IndexOutOfBoundsException", X.2.2.2.2 (.classLink RL 13 "java/lang/IndexOutOfBoundsException") (List.mem_cons_of_mem _ (List.mem_append_left _ (List.mem_append_left _ (List.mem_append_left _ (List.mem_append_left _ (List.mem_append_left _ (List.mem_append_left _ (List.mem_append_left _ (List.mem_of_getElem? (i := 0) rfl))))))))), hE.2.2.2.2 ("java/lang/ArithmeticException", "java/lang/IndexOutOfBoundsException") (by decide +kernel)⟩, (List.forall_mem_cons.mpr ⟨Or.inr ⟨by decide, "java/lang/UnsupportedOperationException", X.2.2.2.2 (.classLink RL 108 "java/lang/UnsupportedOperationException") (List.mem_cons_of_mem _ (List.mem_append_left _ (List.mem_append_left _ (List.mem_append_left _ (List.mem_append_left _ (List.mem_append_left _ (List.mem_append_left _ (List.mem_append_left _ (List.mem_of_getElem? (i := 1) rfl))))))))), hE.2.2.2.2 ("java/lang/ArithmeticException", "java/lang/UnsupportedOperationException") (by decide +kernel)⟩, (fun z hz => absurd hz List.not_mem_nil)⟩)⟩) (by decide) (by decide) (X.2.2.2.2 (.classLink RL 149 "java/lang/ArithmeticException") (List.mem_cons_of_mem _ (List.mem_append_left _ (List.mem_append_left _ (List.mem_append_left _ (List.mem_append_left _ (List.mem_append_left _ (List.mem_append_left _ (List.mem_append_left _ (List.mem_of_getElem? (i := 2) rfl)))))))))) (va_Nw.use rfl (hE.2.2.1 (.castable "java/lang/ArithmeticException" "java/lang/ArithmeticException") (by decide +kernel))) hce hcv hcl ?_
  refine lv_astore_n (lv' := [(3, .ref (q8)), (0, .ref (ad 0 0)), (1, .int (nI (j))), (2, .ref (o9))]) X.1 X.2.1 dL_passedShare_18 rfl hl (by decide) rfl (fun ls hl => ?_)
  refine lv_iconst (v := nI 3) X.1 X.2.1 dL_passedShare_19 (by decide) ?_
  exact hE9 _ _ _ _ _ _ _ ad L K R I A Q N _ rfl (show _ ≤ 2 by decide) (show _ ≤ 260 by decide) hW ho hO ⟨f0, rfl, fun z => absurd z (by decide)⟩ HB rfl dL_passedShare_20

theorem wo_passedShare (l : Launch) (hst : l.stackTraces = false) {G : va_G} {kT : Nat → ClassId} {a0 o9 : Nat} {T : mT} {D : mD} (I : mI T) (J : mJD D) (j : Int32) : wOf l yL_passedShare wsL_passedShare ({ frames := 9, cells := 2, slots := 260, locals := 165 } : Room) G kT a0 o9 [.ref a0, .int j, .ref o9] T D (sp_share T D j) := by
  by_cases h1 : oN j 2
  · rw [show sp_share T D j = nof T D 1 from if_pos h1]; exact ww_share_1 l hst h1
  · obtain ⟨j, hj, rfl⟩ := oN_in (by decide) h1
    have hc : (nI j).toNatClampNeg = j := nI_clamp (by omega)
    by_cases h2 : T 13 j = 0
    · rw [show sp_share T D (nI j) = nof T D 2 from (if_neg h1).trans (if_pos (by rw [hc]; exact h2))]; exact ww_share_2 l hst hj h2
    · by_cases h3 : T 17 j = 0
      · rw [show sp_share T D (nI j) = nof T D 3 from (if_neg h1).trans ((if_neg (by rw [hc]; exact h2)).trans (if_pos (by rw [hc]; exact h3)))]; exact ww_share_3 l hst I hj h2 h3
      · rw [show sp_share T D (nI j) = (0, shV T j, T, D) from (if_neg h1).trans ((if_neg (by rw [hc]; exact h2)).trans ((if_neg (by rw [hc]; exact h3)).trans (by rw [hc])))]; exact ww_share l hst I hj h2 h3

