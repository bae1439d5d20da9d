theorem oP_0 {len : Nat} {f n : Int32} (h : oP len f (nI 0)) : oP len f n := by
  rcases h with h | h | h
  · exact Or.inl h
  · exact absurd h (nI_pos (by decide))
  · rw [nI_clamp (by decide), Nat.add_zero] at h
    exact Or.inr (Or.inr (by omega))
theorem f2d_n {x : UInt32} (h : Jvm.FP.Core.fIsNaN x = false) : Jvm.FP.Core.dIsNaN (FP.f2d x) = false := by
  rw [FP.f2d, if_neg (by rw [h]; decide)]
  exact Jvm.FP.Core.f2d_out h

set_option maxHeartbeats 4000000 in
set_option maxRecDepth 100000 in
theorem ww_make_1 (l : Launch) (hst : l.stackTraces = false) {G : va_G} {kT : Nat → ClassId} {a0 o9 : Nat} {T : mT} {D : mD} {row len : Int32} (h : oN row 4) : wM l yL_make wsL_make ({ frames := 8, cells := 2, slots := 260, locals := 144 } : Room) G kT a0 o9 [.ref (a0), .int (row), .int (len), .ref (o9)] T D 1 (T) (D) (oL kT False 0) (oL kT (1 = 0) (((nI 0) : Int32).toInt64)) := by
  refine wstart (cc := cL_make) (maxL := 5) (hh := [(0, 10, 13, 13), (0, 10, 17, 15)]) (by decide) rfl (Nat.le_of_ble_eq_true rfl) (fun ad L K R I A Q N e0 HB h09 ho hP0 p e s m args below meth c Z hE9 X hT hE hW hO ls hl => ?_)
  subst h09
  obtain ⟨f0, rfl, -⟩ := hP0
  have X : CallFix p m c cL_make 5 s args wsL_make RL := X
  have hl : lv_has ls 5 [(0, .ref (ad 0 0)), (1, .int (row)), (2, .int (len)), (3, .ref (o9))] := hl
  refine lv_aload_n X.1 X.2.1 dL_make_0 rfl (lv_at hl 3 rfl) ?_
  refine lv_iconst (v := nI 0) X.1 X.2.1 dL_make_1 (by decide) ?_
  refine lv_aload_n X.1 X.2.1 dL_make_2 rfl (lv_at hl 0 rfl) ?_
  refine lv_iload_n X.1 X.2.1 dL_make_3 rfl (lv_at hl 1 rfl) ?_
  refine lv_iload_n X.1 X.2.1 dL_make_4 rfl (lv_at hl 2 rfl) ?_
  refine cCV hE X hW (HB.mem lv_0) (pC_6 (HB.kn lv_0 rfl)) rfl (cb_make_a l hst HB h) (cwV 2 X.2.2.2.2 gL_make_X6_make rfl rfl rfl (by decide +kernel) ⟨Nat.le_of_ble_eq_true rfl, Nat.le_of_ble_eq_true rfl⟩) rfl rfl hl.1 (Nat.le_of_ble_eq_true rfl) dL_make_5 ⟨Nat.le_of_ble_eq_true rfl, Nat.le_of_ble_eq_true rfl⟩ (fun H locs q8 ce hW hsz hk hce hcv hcl => ?_)
  have hO := oK hO ho hk
  refine vx_catch X.2.2.2.1 [] ⟨0, 10, 13, 13⟩ [⟨0, 10, 17, 15⟩] hT (fun z hz => absurd hz List.not_mem_nil) (by decide) (by decide) (X.2.2.2.2 (.classLink RL 13 "java/lang/IndexOutOfBoundsException") (List.mem_cons_of_mem _ (List.mem_append_left _ (List.mem_append_left _ (List.mem_append_left _ (List.mem_append_left _ (List.mem_append_left _ (List.mem_append_left _ (List.mem_of_getElem? (i := 0) rfl))))))))) (va_Nw.use rfl (hE.2.2.1 (.castable "java/lang/IndexOutOfBoundsException" "java/lang/IndexOutOfBoundsException") (by decide +kernel))) hce hcv hcl ?_
  refine lv_astore (lv' := [(4, .ref (q8)), (0, .ref (ad 0 0)), (1, .int (row)), (2, .int (len)), (3, .ref (o9))]) X.1 X.2.1 dL_make_13 hl (by decide) rfl (fun ls hl => ?_)
  refine lv_iconst (v := nI 1) X.1 X.2.1 dL_make_15 (by decide) ?_
  exact hE9 _ _ _ _ _ _ _ ad L K R I A Q N _ rfl (show _ ≤ 2 by decide) (show _ ≤ 260 by decide) hW ho hO ⟨f0, rfl, fun z => absurd z (by decide)⟩ HB rfl dL_make_16

set_option maxHeartbeats 4000000 in
set_option maxRecDepth 100000 in
theorem ww_make (l : Launch) (hst : l.stackTraces = false) {G : va_G} {kT : Nat → ClassId} {a0 o9 : Nat} {T : mT} {D : mD} (I : mI T) {r n : Nat} (hr : r < 4) (hn : n < 257) : wM l yL_make wsL_make ({ frames := 8, cells := 2, slots := 260, locals := 144 } : Room) G kT a0 o9 [.ref (a0), .int (nI (r)), .int (nI (n)), .ref (o9)] T D 0 (beT T r n) (beD T (cpF D 19 0 (fun _ => nI 0) n) n) (oL kT False 0) (oL kT (0 = 0) (((nI (T 1 (T 2 r))) : Int32).toInt64)) := by
  refine wstart (cc := cL_make) (maxL := 5) (hh := [(0, 10, 13, 13), (0, 10, 17, 15)]) (by decide) rfl (Nat.le_of_ble_eq_true rfl) (fun ad L K R I A Q N e0 HB h09 ho hP0 p e s m args below meth c Z hE9 X hT hE hW hO ls hl => ?_)
  subst h09
  obtain ⟨f0, rfl, -⟩ := hP0
  have X : CallFix p m c cL_make 5 s args wsL_make RL := X
  have hl : lv_has ls 5 [(0, .ref (ad 0 0)), (1, .int (nI (r))), (2, .int (nI (n))), (3, .ref (o9))] := hl
  refine lv_aload_n X.1 X.2.1 dL_make_0 rfl (lv_at hl 3 rfl) ?_
  refine lv_iconst (v := nI 0) X.1 X.2.1 dL_make_1 (by decide) ?_
  refine lv_aload_n X.1 X.2.1 dL_make_2 rfl (lv_at hl 0 rfl) ?_
  refine lv_iload_n X.1 X.2.1 dL_make_3 rfl (lv_at hl 1 rfl) ?_
  refine lv_iload_n X.1 X.2.1 dL_make_4 rfl (lv_at hl 2 rfl) ?_
  refine cFN (cs := []) X hW (HB.mem lv_0) (pC_6 (HB.kn lv_0 rfl)) rfl (fun C h => absurd h List.not_mem_nil) (co_make l HB (n := n) hr (by omega)) (cwV 2 X.2.2.2.2 gL_make_X6_make rfl rfl rfl (by decide +kernel) ⟨Nat.le_of_ble_eq_true rfl, Nat.le_of_ble_eq_true rfl⟩) rfl rfl hl.1 (Nat.le_of_ble_eq_true rfl) dL_make_5 ⟨Nat.le_of_ble_eq_true rfl, Nat.le_of_ble_eq_true rfl⟩ (fun L2 K2 R2 I2 A2 Q2 N2 H locs hW hF hsz hk hL2 => ?_)
  have ho2 := oNew hO ho hL2
  have hO := oK hO ho hk
  obtain ⟨a, b, Q1, A1, hS, rfl, rfl⟩ := hF
  have hna : ∀ k i, lv T k i → ad k i ≠ a := fun k i hl9 z => hS.2.1 (z ▸ HB.mem hl9)
  have hnb : ∀ k i, lv T k i → ad k i ≠ b := fun k i hl9 z => hS.2.2.1 (z ▸ HB.mem hl9)
  have H19 := (HB.mono hS.1).kept19 (d := 0) (n := n) (g := fun _ => nI 0) (fun _ _ => rfl)
  refine lv_i2l (v := (nI (T 1 (T 2 r))).toInt64) X.1 X.2.1 dL_make_8 rfl ?_
  refine wst X hW hO ho2 dL_make_9 (fun H locs hW hO => ?_)
  refine lv_goto (tgt := 21) X.1 X.2.1 dL_make_10 (by decide) ?_
  refine lv_iconst (v := nI 0) X.1 X.2.1 dL_make_21 (by decide) ?_
  exact hE9 _ _ _ _ _ _ _ (adS ad (fS T) a b) L2 K2 R2 I2 _ _ N2 _ rfl (show _ ≤ 2 by decide) (show _ ≤ 260 by decide) hW ho2 hO ⟨_, rfl, fun _ => if_pos rfl⟩ (H19.newS (h := fun k => cpF D 19 0 (fun _ => nI 0) n 19 k) hr hS.2.2.2.2.1 hna hnb hS.2.2.2.1 (fun j hj => by rw [hS.2.2.2.2.2 j, cpF_in (Nat.zero_le _) (by omega)]; rfl) (fun j hj => H19.md.2.2.2 j)) (adS_k (Or.inl ⟨by decide, by decide⟩)) dL_make_22

set_option maxHeartbeats 4000000 in
set_option maxRecDepth 100000 in
theorem ww_make_2a (l : Launch) (hst : l.stackTraces = false) {G : va_G} {kT : Nat → ClassId} {a0 o9 : Nat} {T : mT} {D : mD} {r : Nat} {len : Int32} (hr : r < 4) (h : len < 0) : wM l yL_make wsL_make ({ frames := 8, cells := 2, slots := 260, locals := 144 } : Room) G kT a0 o9 [.ref (a0), .int (nI (r)), .int (len), .ref (o9)] T D 2 (T) (D) (oL kT False 0) (oL kT (2 = 0) (((nI 0) : Int32).toInt64)) := by
  refine wstart (cc := cL_make) (maxL := 5) (hh := [(0, 10, 13, 13), (0, 10, 17, 15)]) (by decide) rfl (Nat.le_of_ble_eq_true rfl) (fun ad L K R I A Q N e0 HB h09 ho hP0 p e s m args below meth c Z hE9 X hT hE hW hO ls hl => ?_)
  subst h09
  obtain ⟨f0, rfl, -⟩ := hP0
  have X : CallFix p m c cL_make 5 s args wsL_make RL := X
  have hl : lv_has ls 5 [(0, .ref (ad 0 0)), (1, .int (nI (r))), (2, .int (len)), (3, .ref (o9))] := hl
  refine lv_aload_n X.1 X.2.1 dL_make_0 rfl (lv_at hl 3 rfl) ?_
  refine lv_iconst (v := nI 0) X.1 X.2.1 dL_make_1 (by decide) ?_
  refine lv_aload_n X.1 X.2.1 dL_make_2 rfl (lv_at hl 0 rfl) ?_
  refine lv_iload_n X.1 X.2.1 dL_make_3 rfl (lv_at hl 1 rfl) ?_
  refine lv_iload_n X.1 X.2.1 dL_make_4 rfl (lv_at hl 2 rfl) ?_
  refine cCV hE X hW (HB.mem lv_0) (pC_6 (HB.kn lv_0 rfl)) rfl (cb_make_b l hst HB hr (Or.inl h)) (cwV 2 X.2.2.2.2 gL_make_X6_make rfl rfl rfl (by decide +kernel) ⟨Nat.le_of_ble_eq_true rfl, Nat.le_of_ble_eq_true rfl⟩) rfl rfl hl.1 (Nat.le_of_ble_eq_true rfl) dL_make_5 ⟨Nat.le_of_ble_eq_true rfl, Nat.le_of_ble_eq_true rfl⟩ (fun H locs q8 ce hW hsz hk hce hcv hcl => ?_)
  have hO := oK hO ho hk
  refine vx_catch X.2.2.2.1 [⟨0, 10, 13, 13⟩] ⟨0, 10, 17, 15⟩ [] hT (List.forall_mem_cons.mpr ⟨Or.inr ⟨by decide, "java/lang/IndexOutOfBoundsException", X.2.2.2.2 (.classLink RL 13 "java/lang/IndexOutOfBoundsException") (List.mem_cons_of_mem _ (List.mem_append_left _ (List.mem_append_left _ (List.mem_append_left _ (List.mem_append_left _ (List.mem_append_left _ (List.mem_append_left _ (List.mem_of_getElem? (i := 0) rfl)))))))), hE.2.2.2.2 ("java/lang/IllegalArgumentException", "java/lang/IndexOutOfBoundsException") (by decide +kernel)⟩, (fun z hz => absurd hz List.not_mem_nil)⟩) (by decide) (by decide) (X.2.2.2.2 (.classLink RL 15 "java/lang/IllegalArgumentException") (List.mem_cons_of_mem _ (List.mem_append_left _ (List.mem_append_left _ (List.mem_append_left _ (List.mem_append_left _ (List.mem_append_left _ (List.mem_append_left _ (List.mem_of_getElem? (i := 1) rfl))))))))) (va_Nw.use rfl (hE.2.2.1 (.castable "java/lang/IllegalArgumentException" "java/lang/IllegalArgumentException") (by decide +kernel))) hce hcv hcl ?_
  refine lv_astore (lv' := [(4, .ref (q8)), (0, .ref (ad 0 0)), (1, .int (nI (r))), (2, .int (len)), (3, .ref (o9))]) X.1 X.2.1 dL_make_17 hl (by decide) rfl (fun ls hl => ?_)
  refine lv_iconst (v := nI 2) X.1 X.2.1 dL_make_19 (by decide) ?_
  exact hE9 _ _ _ _ _ _ _ ad L K R I A Q N _ rfl (show _ ≤ 2 by decide) (show _ ≤ 260 by decide) hW ho hO ⟨f0, rfl, fun z => absurd z (by decide)⟩ HB rfl dL_make_20

set_option maxHeartbeats 4000000 in
set_option maxRecDepth 100000 in
theorem ww_make_2b (l : Launch) (hst : l.stackTraces = false) {G : va_G} {kT : Nat → ClassId} {a0 o9 : Nat} {T : mT} {D : mD} {r n : Nat} (hr : r < 4) (hn : n < 2 ^ 31) (h : 257 ≤ n) : wM l yL_make wsL_make ({ frames := 8, cells := 2, slots := 260, locals := 144 } : Room) G kT a0 o9 [.ref (a0), .int (nI (r)), .int (nI (n)), .ref (o9)] T D 2 (T) (D) (oL kT False 0) (oL kT (2 = 0) (((nI 0) : Int32).toInt64)) := by
  refine wstart (cc := cL_make) (maxL := 5) (hh := [(0, 10, 13, 13), (0, 10, 17, 15)]) (by decide) rfl (Nat.le_of_ble_eq_true rfl) (fun ad L K R I A Q N e0 HB h09 ho hP0 p e s m args below meth c Z hE9 X hT hE hW hO ls hl => ?_)
  subst h09
  obtain ⟨f0, rfl, -⟩ := hP0
  have X : CallFix p m c cL_make 5 s args wsL_make RL := X
  have hl : lv_has ls 5 [(0, .ref (ad 0 0)), (1, .int (nI (r))), (2, .int (nI (n))), (3, .ref (o9))] := hl
  refine lv_aload_n X.1 X.2.1 dL_make_0 rfl (lv_at hl 3 rfl) ?_
  refine lv_iconst (v := nI 0) X.1 X.2.1 dL_make_1 (by decide) ?_
  refine lv_aload_n X.1 X.2.1 dL_make_2 rfl (lv_at hl 0 rfl) ?_
  refine lv_iload_n X.1 X.2.1 dL_make_3 rfl (lv_at hl 1 rfl) ?_
  refine lv_iload_n X.1 X.2.1 dL_make_4 rfl (lv_at hl 2 rfl) ?_
  refine cCV hE X hW (HB.mem lv_0) (pC_6 (HB.kn lv_0 rfl)) rfl (cb_make_b l hst HB hr (Or.inr (by rw [nI_clamp (by omega)]; exact h))) (cwV 2 X.2.2.2.2 gL_make_X6_make rfl rfl rfl (by decide +kernel) ⟨Nat.le_of_ble_eq_true rfl, Nat.le_of_ble_eq_true rfl⟩) rfl rfl hl.1 (Nat.le_of_ble_eq_true rfl) dL_make_5 ⟨Nat.le_of_ble_eq_true rfl, Nat.le_of_ble_eq_true rfl⟩ (fun H locs q8 ce hW hsz hk hce hcv hcl => ?_)
  have hO := oK hO ho hk
  refine vx_catch X.2.2.2.1 [⟨0, 10, 13, 13⟩] ⟨0, 10, 17, 15⟩ [] hT (List.forall_mem_cons.mpr ⟨Or.inr ⟨by decide, "java/lang/IndexOutOfBoundsException", X.2.2.2.2 (.classLink RL 13 "java/lang/IndexOutOfBoundsException") (List.mem_cons_of_mem _ (List.mem_append_left _ (List.mem_append_left _ (List.mem_append_left _ (List.mem_append_left _ (List.mem_append_left _ (List.mem_append_left _ (List.mem_of_getElem? (i := 0) rfl)))))))), hE.2.2.2.2 ("java/lang/IllegalArgumentException", "java/lang/IndexOutOfBoundsException") (by decide +kernel)⟩, (fun z hz => absurd hz List.not_mem_nil)⟩) (by decide) (by decide) (X.2.2.2.2 (.classLink RL 15 "java/lang/IllegalArgumentException") (List.mem_cons_of_mem _ (List.mem_append_left _ (List.mem_append_left _ (List.mem_append_left _ (List.mem_append_left _ (List.mem_append_left _ (List.mem_append_left _ (List.mem_of_getElem? (i := 1) rfl))))))))) (va_Nw.use rfl (hE.2.2.1 (.castable "java/lang/IllegalArgumentException" "java/lang/IllegalArgumentException") (by decide +kernel))) hce hcv hcl ?_
  refine lv_astore (lv' := [(4, .ref (q8)), (0, .ref (ad 0 0)), (1, .int (nI (r))), (2, .int (nI (n))), (3, .ref (o9))]) X.1 X.2.1 dL_make_17 hl (by decide) rfl (fun ls hl => ?_)
  refine lv_iconst (v := nI 2) X.1 X.2.1 dL_make_19 (by decide) ?_
  exact hE9 _ _ _ _ _ _ _ ad L K R I A Q N _ rfl (show _ ≤ 2 by decide) (show _ ≤ 260 by decide) hW ho hO ⟨f0, rfl, fun z => absurd z (by decide)⟩ HB rfl dL_make_20

theorem wo_make (l : Launch) (hst : l.stackTraces = false) {G : va_G} {kT : Nat → ClassId} {a0 o9 : Nat} {T : mT} {D : mD} (I : mI T) (J : mJD D) (row len : Int32) : wO l yL_make wsL_make ({ frames := 8, cells := 2, slots := 260, locals := 144 } : Room) G kT a0 o9 [.ref a0, .int row, .int len, .ref o9] T D (sp_make T D row len) := by
  by_cases h1 : oN row 4
  · rw [show sp_make T D row len = no T D 1 from if_pos h1]; exact ww_make_1 l hst h1
  · obtain ⟨r, hr, rfl⟩ := oN_in (by decide) h1
    by_cases h2 : oN len 257
    · rw [show sp_make T D (nI r) len = no T D 2 from (if_neg h1).trans (if_pos h2)]
      by_cases h3 : len < 0
      · exact ww_make_2a l hst hr h3
      · obtain ⟨n, g1, g2, rfl⟩ := oN_ge h2 h3
        exact ww_make_2b l hst hr g1 g2
    · obtain ⟨n, hn, rfl⟩ := oN_in (by decide) h2
      rw [show sp_make T D (nI r) (nI n) = sk_make T D r n from (if_neg h1).trans ((if_neg h2).trans (by rw [nI_clamp (by omega), nI_clamp (by omega)]))]
      exact ww_make l hst I hr hn


set_option maxHeartbeats 4000000 in
set_option maxRecDepth 100000 in
theorem ww_put_1 (l : Launch) (hst : l.stackTraces = false) {G : va_G} {kT : Nat → ClassId} {a0 o9 : Nat} {T : mT} {D : mD} {row f : Int32} {x : Int32} (h : oN row 4) : wM l yL_put wsL_put ({ frames := 8, cells := 2, slots := 260, locals := 146 } : Room) G kT a0 o9 [.ref (a0), .int (row), .int (f), .int (x), .ref (o9)] T D 1 (T) (D) (oL kT False 0) (oL kT (1 = 0) (((nI 0) : Int32).toInt64)) := by
  refine wstart (cc := cL_put) (maxL := 6) (hh := [(0, 12, 15, 13)]) (by decide) rfl (Nat.le_of_ble_eq_true rfl) (fun ad L K R I A Q N e0 HB h09 ho hP0 p e s m args below meth c Z hE9 X hT hE hW hO ls hl => ?_)
  subst h09
  obtain ⟨f0, rfl, -⟩ := hP0
  have X : CallFix p m c cL_put 6 s args wsL_put RL := X
  have hl : lv_has ls 6 [(0, .ref (ad 0 0)), (1, .int (row)), (2, .int (f)), (3, .int (x)), (4, .ref (o9))] := hl
  refine lv_aload X.1 X.2.1 dL_put_0 (lv_at hl 4 rfl) ?_
  refine lv_iconst (v := nI 0) X.1 X.2.1 dL_put_2 (by decide) ?_
  refine lv_aload_n X.1 X.2.1 dL_put_3 rfl (lv_at hl 0 rfl) ?_
  refine lv_iload_n X.1 X.2.1 dL_put_4 rfl (lv_at hl 1 rfl) ?_
  refine lv_iload_n X.1 X.2.1 dL_put_5 rfl (lv_at hl 2 rfl) ?_
  refine lv_iload_n X.1 X.2.1 dL_put_6 rfl (lv_at hl 3 rfl) ?_
  refine cCV hE X hW (HB.mem lv_0) (pC_6 (HB.kn lv_0 rfl)) rfl (cb_put_a l hst HB h) (cwV 3 X.2.2.2.2 gL_put_X6_put rfl rfl rfl (by decide +kernel) ⟨Nat.le_of_ble_eq_true rfl, Nat.le_of_ble_eq_true rfl⟩) rfl rfl hl.1 (Nat.le_of_ble_eq_true rfl) dL_put_7 ⟨Nat.le_of_ble_eq_true rfl, Nat.le_of_ble_eq_true rfl⟩ (fun H locs q8 ce hW hsz hk hce hcv hcl => ?_)
  have hO := oK hO ho hk
  refine vx_catch X.2.2.2.1 [] ⟨0, 12, 15, 13⟩ [] hT (fun z hz => absurd hz List.not_mem_nil) (by decide) (by decide) (X.2.2.2.2 (.classLink RL 13 "java/lang/IndexOutOfBoundsException") (List.mem_cons_of_mem _ (List.mem_append_left _ (List.mem_append_left _ (List.mem_append_left _ (List.mem_append_left _ (List.mem_of_getElem? (i := 0) rfl))))))) (va_Nw.use rfl (hE.2.2.1 (.castable "java/lang/IndexOutOfBoundsException" "java/lang/IndexOutOfBoundsException") (by decide +kernel))) hce hcv hcl ?_
  refine lv_astore (lv' := [(5, .ref (q8)), (0, .ref (ad 0 0)), (1, .int (row)), (2, .int (f)), (3, .int (x)), (4, .ref (o9))]) X.1 X.2.1 dL_put_15 hl (by decide) rfl (fun ls hl => ?_)
  refine lv_iconst (v := nI 1) X.1 X.2.1 dL_put_17 (by decide) ?_
  exact hE9 _ _ _ _ _ _ _ ad L K R I A Q N _ rfl (show _ ≤ 2 by decide) (show _ ≤ 260 by decide) hW ho hO ⟨f0, rfl, fun z => absurd z (by decide)⟩ HB rfl dL_put_18

set_option maxHeartbeats 4000000 in
set_option maxRecDepth 100000 in
theorem ww_put (l : Launch) (hst : l.stackTraces = false) {G : va_G} {kT : Nat → ClassId} {a0 o9 : Nat} {T : mT} {D : mD} (I : mI T) (J : mJD D) {r f : Nat} {x : Int32} (hr : r < 4) (h : f < T 1 (T 2 r)) : wM l yL_put wsL_put ({ frames := 8, cells := 2, slots := 260, locals := 146 } : Room) G kT a0 o9 [.ref (a0), .int (nI (r)), .int (nI (f)), .int (x), .ref (o9)] T D 0 (T) (u2 D 0 (256 * T 2 r + f) (x &&& nI 255)) (oL kT False 0) (oL kT (0 = 0) (((D 0 (256 * T 2 r + f)) : Int32).toInt64)) := by
  refine wstart (cc := cL_put) (maxL := 6) (hh := [(0, 12, 15, 13)]) (by decide) rfl (Nat.le_of_ble_eq_true rfl) (fun ad L K R I A Q N e0 HB h09 ho hP0 p e s m args below meth c Z hE9 X hT hE hW hO ls hl => ?_)
  subst h09
  obtain ⟨f0, rfl, -⟩ := hP0
  have X : CallFix p m c cL_put 6 s args wsL_put RL := X
  have hl : lv_has ls 6 [(0, .ref (ad 0 0)), (1, .int (nI (r))), (2, .int (nI (f))), (3, .int (x)), (4, .ref (o9))] := hl
  refine lv_aload X.1 X.2.1 dL_put_0 (lv_at hl 4 rfl) ?_
  refine lv_iconst (v := nI 0) X.1 X.2.1 dL_put_2 (by decide) ?_
  refine lv_aload_n X.1 X.2.1 dL_put_3 rfl (lv_at hl 0 rfl) ?_
  refine lv_iload_n X.1 X.2.1 dL_put_4 rfl (lv_at hl 1 rfl) ?_
  refine lv_iload_n X.1 X.2.1 dL_put_5 rfl (lv_at hl 2 rfl) ?_
  refine lv_iload_n X.1 X.2.1 dL_put_6 rfl (lv_at hl 3 rfl) ?_
  refine cFi X hW (HB.mem lv_0) (pC_6 (HB.kn lv_0 rfl)) rfl (co_put l HB hr h) (cwV 3 X.2.2.2.2 gL_put_X6_put rfl rfl rfl (by decide +kernel) ⟨Nat.le_of_ble_eq_true rfl, Nat.le_of_ble_eq_true rfl⟩) rfl rfl hl.1 (Nat.le_of_ble_eq_true rfl) dL_put_7 ⟨Nat.le_of_ble_eq_true rfl, Nat.le_of_ble_eq_true rfl⟩ (fun H locs hW hsz hk => ?_)
  have hO := oK hO ho hk
  refine lv_i2l (v := (D 0 (256 * T 2 r + f)).toInt64) X.1 X.2.1 dL_put_10 rfl ?_
  refine wst X hW hO ho dL_put_11 (fun H locs hW hO => ?_)
  refine lv_goto (tgt := 19) X.1 X.2.1 dL_put_12 (by decide) ?_
  refine lv_iconst (v := nI 0) X.1 X.2.1 dL_put_19 (by decide) ?_
  exact hE9 _ _ _ _ _ _ _ ad L K _ _ _ _ N _ rfl (show _ ≤ 2 by decide) (show _ ≤ 260 by decide) hW ho hO ⟨_, rfl, fun _ => if_pos rfl⟩ (by rw [u2_cp, u2_cp]; exact HB.putS (uS_row hr) (by omega) (fun _ _ => rfl) (fun _ _ => and_255 x)) rfl dL_put_20

set_option maxHeartbeats 4000000 in
set_option maxRecDepth 100000 in
theorem ww_put_1b (l : Launch) (hst : l.stackTraces = false) {G : va_G} {kT : Nat → ClassId} {a0 o9 : Nat} {T : mT} {D : mD} (I : mI T) {r : Nat} {f : Int32} {x : Int32} (hr : r < 4) (h : oN f (T 1 (T 2 r))) : wM l yL_put wsL_put ({ frames := 8, cells := 2, slots := 260, locals := 146 } : Room) G kT a0 o9 [.ref (a0), .int (nI (r)), .int (f), .int (x), .ref (o9)] T D 1 (T) (D) (oL kT False 0) (oL kT (1 = 0) (((nI 0) : Int32).toInt64)) := by
  refine wstart (cc := cL_put) (maxL := 6) (hh := [(0, 12, 15, 13)]) (by decide) rfl (Nat.le_of_ble_eq_true rfl) (fun ad L K R I A Q N e0 HB h09 ho hP0 p e s m args below meth c Z hE9 X hT hE hW hO ls hl => ?_)
  subst h09
  obtain ⟨f0, rfl, -⟩ := hP0
  have X : CallFix p m c cL_put 6 s args wsL_put RL := X
  have hl : lv_has ls 6 [(0, .ref (ad 0 0)), (1, .int (nI (r))), (2, .int (f)), (3, .int (x)), (4, .ref (o9))] := hl
  refine lv_aload X.1 X.2.1 dL_put_0 (lv_at hl 4 rfl) ?_
  refine lv_iconst (v := nI 0) X.1 X.2.1 dL_put_2 (by decide) ?_
  refine lv_aload_n X.1 X.2.1 dL_put_3 rfl (lv_at hl 0 rfl) ?_
  refine lv_iload_n X.1 X.2.1 dL_put_4 rfl (lv_at hl 1 rfl) ?_
  refine lv_iload_n X.1 X.2.1 dL_put_5 rfl (lv_at hl 2 rfl) ?_
  refine lv_iload_n X.1 X.2.1 dL_put_6 rfl (lv_at hl 3 rfl) ?_
  refine cCV hE X hW (HB.mem lv_0) (pC_6 (HB.kn lv_0 rfl)) rfl (cb_put_b l hst HB hr h) (cwV 3 X.2.2.2.2 gL_put_X6_put rfl rfl rfl (by decide +kernel) ⟨Nat.le_of_ble_eq_true rfl, Nat.le_of_ble_eq_true rfl⟩) rfl rfl hl.1 (Nat.le_of_ble_eq_true rfl) dL_put_7 ⟨Nat.le_of_ble_eq_true rfl, Nat.le_of_ble_eq_true rfl⟩ (fun H locs q8 ce hW hsz hk hce hcv hcl => ?_)
  have hO := oK hO ho hk
  refine vx_catch X.2.2.2.1 [] ⟨0, 12, 15, 13⟩ [] hT (fun z hz => absurd hz List.not_mem_nil) (by decide) (by decide) (X.2.2.2.2 (.classLink RL 13 "java/lang/IndexOutOfBoundsException") (List.mem_cons_of_mem _ (List.mem_append_left _ (List.mem_append_left _ (List.mem_append_left _ (List.mem_append_left _ (List.mem_of_getElem? (i := 0) rfl))))))) (va_Nw.use rfl (hE.2.2.1 (.castable "java/lang/IndexOutOfBoundsException" "java/lang/IndexOutOfBoundsException") (by decide +kernel))) hce hcv hcl ?_
  refine lv_astore (lv' := [(5, .ref (q8)), (0, .ref (ad 0 0)), (1, .int (nI (r))), (2, .int (f)), (3, .int (x)), (4, .ref (o9))]) X.1 X.2.1 dL_put_15 hl (by decide) rfl (fun ls hl => ?_)
  refine lv_iconst (v := nI 1) X.1 X.2.1 dL_put_17 (by decide) ?_
  exact hE9 _ _ _ _ _ _ _ ad L K R I A Q N _ rfl (show _ ≤ 2 by decide) (show _ ≤ 260 by decide) hW ho hO ⟨f0, rfl, fun z => absurd z (by decide)⟩ HB rfl dL_put_18

theorem wo_put (l : Launch) (hst : l.stackTraces = false) {G : va_G} {kT : Nat → ClassId} {a0 o9 : Nat} {T : mT} {D : mD} (I : mI T) (J : mJD D) (row f x : Int32) : wO l yL_put wsL_put ({ frames := 8, cells := 2, slots := 260, locals := 146 } : Room) G kT a0 o9 [.ref a0, .int row, .int f, .int x, .ref o9] T D (sp_put T D row f x) := by
  by_cases h1 : oN row 4
  · rw [show sp_put T D row f x = no T D 1 from if_pos (Or.inl h1)]; exact ww_put_1 l hst h1
  · obtain ⟨r, hr, rfl⟩ := oN_in (by decide) h1
    have hl : rI T (nI r) = T 1 (T 2 r) := by simp only [rI, nI_clamp (show r < 2 ^ 31 by omega)]
    by_cases h2 : oN f (T 1 (T 2 r))
    · rw [show sp_put T D (nI r) f x = no T D 1 from if_pos (Or.inr (by rw [hl]; exact h2))]
      exact ww_put_1b l hst I hr h2
    · have I1 := I.sr hr
      have I2 := I.sl I1
      obtain ⟨n, hn, rfl⟩ := oN_in (by omega) h2
      rw [show sp_put T D (nI r) (nI n) x = sk_put T D r n x from (if_neg (by rw [hl]; exact fun z => z.elim h1 h2)).trans (by rw [nI_clamp (by omega), nI_clamp (by omega)])]
      exact ww_put l hst I J hr hn


set_option maxHeartbeats 4000000 in
set_option maxRecDepth 100000 in
theorem ww_get (l : Launch) (hst : l.stackTraces = false) {G : va_G} {kT : Nat → ClassId} {a0 o9 : Nat} {T : mT} {D : mD} (I : mI T) (J : mJD D) {r f : Nat} (hr : r < 4) (h : f < T 1 (T 2 r)) : wM l yL_get wsL_get ({ frames := 8, cells := 2, slots := 260, locals := 144 } : Room) G kT a0 o9 [.ref (a0), .int (nI (r)), .int (nI (f)), .ref (o9)] T D 0 (T) (D) (oL kT False 0) (oL kT (0 = 0) (((D 0 (256 * T 2 r + f)) : Int32).toInt64)) := by
  refine wstart (cc := cL_get) (maxL := 5) (hh := [(0, 10, 13, 13)]) (by decide) rfl (Nat.le_of_ble_eq_true rfl) (fun ad L K R I A Q N e0 HB h09 ho hP0 p e s m args below meth c Z hE9 X hT hE hW hO ls hl => ?_)
  subst h09
  obtain ⟨f0, rfl, -⟩ := hP0
  have X : CallFix p m c cL_get 5 s args wsL_get RL := X
  have hl : lv_has ls 5 [(0, .ref (ad 0 0)), (1, .int (nI (r))), (2, .int (nI (f))), (3, .ref (o9))] := hl
  refine lv_aload_n X.1 X.2.1 dL_get_0 rfl (lv_at hl 3 rfl) ?_
  refine lv_iconst (v := nI 0) X.1 X.2.1 dL_get_1 (by decide) ?_
  refine lv_aload_n X.1 X.2.1 dL_get_2 rfl (lv_at hl 0 rfl) ?_
  refine lv_iload_n X.1 X.2.1 dL_get_3 rfl (lv_at hl 1 rfl) ?_
  refine lv_iload_n X.1 X.2.1 dL_get_4 rfl (lv_at hl 2 rfl) ?_
  refine cFi X hW (HB.mem lv_0) (pC_6 (HB.kn lv_0 rfl)) rfl (co_get l HB hr h) (cwV 2 X.2.2.2.2 gL_get_X6_get rfl rfl rfl (by decide +kernel) ⟨Nat.le_of_ble_eq_true rfl, Nat.le_of_ble_eq_true rfl⟩) rfl rfl hl.1 (Nat.le_of_ble_eq_true rfl) dL_get_5 ⟨Nat.le_of_ble_eq_true rfl, Nat.le_of_ble_eq_true rfl⟩ (fun H locs hW hsz hk => ?_)
  have hO := oK hO ho hk
  refine lv_i2l (v := (D 0 (256 * T 2 r + f)).toInt64) X.1 X.2.1 dL_get_8 rfl ?_
  refine wst X hW hO ho dL_get_9 (fun H locs hW hO => ?_)
  refine lv_goto (tgt := 17) X.1 X.2.1 dL_get_10 (by decide) ?_
  refine lv_iconst (v := nI 0) X.1 X.2.1 dL_get_17 (by decide) ?_
  exact hE9 _ _ _ _ _ _ _ ad L K _ _ _ _ N _ rfl (show _ ≤ 2 by decide) (show _ ≤ 260 by decide) hW ho hO ⟨_, rfl, fun _ => if_pos rfl⟩ (HB) rfl dL_get_18

set_option maxHeartbeats 4000000 in
set_option maxRecDepth 100000 in
theorem ww_get_1 (l : Launch) (hst : l.stackTraces = false) {G : va_G} {kT : Nat → ClassId} {a0 o9 : Nat} {T : mT} {D : mD} {row f : Int32} (h : oN row 4) : wM l yL_get wsL_get ({ frames := 8, cells := 2, slots := 260, locals := 144 } : Room) G kT a0 o9 [.ref (a0), .int (row), .int (f), .ref (o9)] T D 1 (T) (D) (oL kT False 0) (oL kT (1 = 0) (((nI 0) : Int32).toInt64)) := by
  refine wstart (cc := cL_get) (maxL := 5) (hh := [(0, 10, 13, 13)]) (by decide) rfl (Nat.le_of_ble_eq_true rfl) (fun ad L K R I A Q N e0 HB h09 ho hP0 p e s m args below meth c Z hE9 X hT hE hW hO ls hl => ?_)
  subst h09
  obtain ⟨f0, rfl, -⟩ := hP0
  have X : CallFix p m c cL_get 5 s args wsL_get RL := X
  have hl : lv_has ls 5 [(0, .ref (ad 0 0)), (1, .int (row)), (2, .int (f)), (3, .ref (o9))] := hl
  refine lv_aload_n X.1 X.2.1 dL_get_0 rfl (lv_at hl 3 rfl) ?_
  refine lv_iconst (v := nI 0) X.1 X.2.1 dL_get_1 (by decide) ?_
  refine lv_aload_n X.1 X.2.1 dL_get_2 rfl (lv_at hl 0 rfl) ?_
  refine lv_iload_n X.1 X.2.1 dL_get_3 rfl (lv_at hl 1 rfl) ?_
  refine lv_iload_n X.1 X.2.1 dL_get_4 rfl (lv_at hl 2 rfl) ?_
  refine cCV hE X hW (HB.mem lv_0) (pC_6 (HB.kn lv_0 rfl)) rfl (cb_get_a l hst HB h) (cwV 2 X.2.2.2.2 gL_get_X6_get rfl rfl rfl (by decide +kernel) ⟨Nat.le_of_ble_eq_true rfl, Nat.le_of_ble_eq_true rfl⟩) rfl rfl hl.1 (Nat.le_of_ble_eq_true rfl) dL_get_5 ⟨Nat.le_of_ble_eq_true rfl, Nat.le_of_ble_eq_true rfl⟩ (fun H locs q8 ce hW hsz hk hce hcv hcl => ?_)
  have hO := oK hO ho hk
  refine vx_catch X.2.2.2.1 [] ⟨0, 10, 13, 13⟩ [] hT (fun z hz => absurd hz List.not_mem_nil) (by decide) (by decide) (X.2.2.2.2 (.classLink RL 13 "java/lang/IndexOutOfBoundsException") (List.mem_cons_of_mem _ (List.mem_append_left _ (List.mem_append_left _ (List.mem_append_left _ (List.mem_append_left _ (List.mem_of_getElem? (i := 0) rfl))))))) (va_Nw.use rfl (hE.2.2.1 (.castable "java/lang/IndexOutOfBoundsException" "java/lang/IndexOutOfBoundsException") (by decide +kernel))) hce hcv hcl ?_
  refine lv_astore (lv' := [(4, .ref (q8)), (0, .ref (ad 0 0)), (1, .int (row)), (2, .int (f)), (3, .ref (o9))]) X.1 X.2.1 dL_get_13 hl (by decide) rfl (fun ls hl => ?_)
  refine lv_iconst (v := nI 1) X.1 X.2.1 dL_get_15 (by decide) ?_
  exact hE9 _ _ _ _ _ _ _ ad L K R I A Q N _ rfl (show _ ≤ 2 by decide) (show _ ≤ 260 by decide) hW ho hO ⟨f0, rfl, fun z => absurd z (by decide)⟩ HB rfl dL_get_16

set_option maxHeartbeats 4000000 in
set_option maxRecDepth 100000 in
theorem ww_get_1b (l : Launch) (hst : l.stackTraces = false) {G : va_G} {kT : Nat → ClassId} {a0 o9 : Nat} {T : mT} {D : mD} (I : mI T) {r : Nat} {f : Int32} (hr : r < 4) (h : oN f (T 1 (T 2 r))) : wM l yL_get wsL_get ({ frames := 8, cells := 2, slots := 260, locals := 144 } : Room) G kT a0 o9 [.ref (a0), .int (nI (r)), .int (f), .ref (o9)] T D 1 (T) (D) (oL kT False 0) (oL kT (1 = 0) (((nI 0) : Int32).toInt64)) := by
  refine wstart (cc := cL_get) (maxL := 5) (hh := [(0, 10, 13, 13)]) (by decide) rfl (Nat.le_of_ble_eq_true rfl) (fun ad L K R I A Q N e0 HB h09 ho hP0 p e s m args below meth c Z hE9 X hT hE hW hO ls hl => ?_)
  subst h09
  obtain ⟨f0, rfl, -⟩ := hP0
  have X : CallFix p m c cL_get 5 s args wsL_get RL := X
  have hl : lv_has ls 5 [(0, .ref (ad 0 0)), (1, .int (nI (r))), (2, .int (f)), (3, .ref (o9))] := hl
  refine lv_aload_n X.1 X.2.1 dL_get_0 rfl (lv_at hl 3 rfl) ?_
  refine lv_iconst (v := nI 0) X.1 X.2.1 dL_get_1 (by decide) ?_
  refine lv_aload_n X.1 X.2.1 dL_get_2 rfl (lv_at hl 0 rfl) ?_
  refine lv_iload_n X.1 X.2.1 dL_get_3 rfl (lv_at hl 1 rfl) ?_
  refine lv_iload_n X.1 X.2.1 dL_get_4 rfl (lv_at hl 2 rfl) ?_
  refine cCV hE X hW (HB.mem lv_0) (pC_6 (HB.kn lv_0 rfl)) rfl (cb_get_b l hst HB hr h) (cwV 2 X.2.2.2.2 gL_get_X6_get rfl rfl rfl (by decide +kernel) ⟨Nat.le_of_ble_eq_true rfl, Nat.le_of_ble_eq_true rfl⟩) rfl rfl hl.1 (Nat.le_of_ble_eq_true rfl) dL_get_5 ⟨Nat.le_of_ble_eq_true rfl, Nat.le_of_ble_eq_true rfl⟩ (fun H locs q8 ce hW hsz hk hce hcv hcl => ?_)
  have hO := oK hO ho hk
  refine vx_catch X.2.2.2.1 [] ⟨0, 10, 13, 13⟩ [] hT (fun z hz => absurd hz List.not_mem_nil) (by decide) (by decide) (X.2.2.2.2 (.classLink RL 13 "java/lang/IndexOutOfBoundsException") (List.mem_cons_of_mem _ (List.mem_append_left _ (List.mem_append_left _ (List.mem_append_left _ (List.mem_append_left _ (List.mem_of_getElem? (i := 0) rfl))))))) (va_Nw.use rfl (hE.2.2.1 (.castable "java/lang/IndexOutOfBoundsException" "java/lang/IndexOutOfBoundsException") (by decide +kernel))) hce hcv hcl ?_
  refine lv_astore (lv' := [(4, .ref (q8)), (0, .ref (ad 0 0)), (1, .int (nI (r))), (2, .int (f)), (3, .ref (o9))]) X.1 X.2.1 dL_get_13 hl (by decide) rfl (fun ls hl => ?_)
  refine lv_iconst (v := nI 1) X.1 X.2.1 dL_get_15 (by decide) ?_
  exact hE9 _ _ _ _ _ _ _ ad L K R I A Q N _ rfl (show _ ≤ 2 by decide) (show _ ≤ 260 by decide) hW ho hO ⟨f0, rfl, fun z => absurd z (by decide)⟩ HB rfl dL_get_16

theorem wo_get (l : Launch) (hst : l.stackTraces = false) {G : va_G} {kT : Nat → ClassId} {a0 o9 : Nat} {T : mT} {D : mD} (I : mI T) (J : mJD D) (row f : Int32) : wO l yL_get wsL_get ({ frames := 8, cells := 2, slots := 260, locals := 144 } : Room) G kT a0 o9 [.ref a0, .int row, .int f, .ref o9] T D (sp_get T D row f) := by
  by_cases h1 : oN row 4
  · rw [show sp_get T D row f = no T D 1 from if_pos (Or.inl h1)]; exact ww_get_1 l hst h1
  · obtain ⟨r, hr, rfl⟩ := oN_in (by decide) h1
    have hl : rI T (nI r) = T 1 (T 2 r) := by simp only [rI, nI_clamp (show r < 2 ^ 31 by omega)]
    by_cases h2 : oN f (T 1 (T 2 r))
    · rw [show sp_get T D (nI r) f = no T D 1 from if_pos (Or.inr (by rw [hl]; exact h2))]
      exact ww_get_1b l hst I hr h2
    · have I1 := I.sr hr
      have I2 := I.sl I1
      obtain ⟨n, hn, rfl⟩ := oN_in (by omega) h2
      rw [show sp_get T D (nI r) (nI n) = (0, D 0 (256 * T 2 r + n), T, D) from (if_neg (by rw [hl]; exact fun z => z.elim h1 h2)).trans (by rw [nI_clamp (by omega), nI_clamp (by omega)])]
      exact ww_get l hst I J hr hn


set_option maxHeartbeats 4000000 in
set_option maxRecDepth 100000 in
theorem ww_fill_1 (l : Launch) (hst : l.stackTraces = false) {G : va_G} {kT : Nat → ClassId} {a0 o9 : Nat} {T : mT} {D : mD} {row f n x step : Int32} (h : oN row 4) : wM l yL_fill wsL_fill ({ frames := 8, cells := 2, slots := 260, locals := 151 } : Room) G kT a0 o9 [.ref (a0), .int (row), .int (f), .int (n), .int (x), .int (step), .ref (o9)] T D 1 (T) (D) (oL kT False 0) (oL kT (1 = 0) (((nI 0) : Int32).toInt64)) := by
  refine wstart (cc := cL_fill) (maxL := 8) (hh := [(0, 16, 19, 13)]) (by decide) rfl (Nat.le_of_ble_eq_true rfl) (fun ad L K R I A Q N e0 HB h09 ho hP0 p e s m args below meth c Z hE9 X hT hE hW hO ls hl => ?_)
  subst h09
  obtain ⟨f0, rfl, -⟩ := hP0
  have X : CallFix p m c cL_fill 8 s args wsL_fill RL := X
  have hl : lv_has ls 8 [(0, .ref (ad 0 0)), (1, .int (row)), (2, .int (f)), (3, .int (n)), (4, .int (x)), (5, .int (step)), (6, .ref (o9))] := hl
  refine lv_aload X.1 X.2.1 dL_fill_0 (lv_at hl 6 rfl) ?_
  refine lv_iconst (v := nI 0) X.1 X.2.1 dL_fill_2 (by decide) ?_
  refine lv_aload_n X.1 X.2.1 dL_fill_3 rfl (lv_at hl 0 rfl) ?_
  refine lv_iload_n X.1 X.2.1 dL_fill_4 rfl (lv_at hl 1 rfl) ?_
  refine lv_iload_n X.1 X.2.1 dL_fill_5 rfl (lv_at hl 2 rfl) ?_
  refine lv_iload_n X.1 X.2.1 dL_fill_6 rfl (lv_at hl 3 rfl) ?_
  refine lv_iload X.1 X.2.1 dL_fill_7 (lv_at hl 4 rfl) ?_
  refine lv_iload X.1 X.2.1 dL_fill_9 (lv_at hl 5 rfl) ?_
  refine cCV hE X hW (HB.mem lv_0) (pC_6 (HB.kn lv_0 rfl)) rfl (cb_fill_a l hst HB h) (cwV 5 X.2.2.2.2 gL_fill_X6_fill rfl rfl rfl (by decide +kernel) ⟨Nat.le_of_ble_eq_true rfl, Nat.le_of_ble_eq_true rfl⟩) rfl rfl hl.1 (Nat.le_of_ble_eq_true rfl) dL_fill_11 ⟨Nat.le_of_ble_eq_true rfl, Nat.le_of_ble_eq_true rfl⟩ (fun H locs q8 ce hW hsz hk hce hcv hcl => ?_)
  have hO := oK hO ho hk
  refine vx_catch X.2.2.2.1 [] ⟨0, 16, 19, 13⟩ [] hT (fun z hz => absurd hz List.not_mem_nil) (by decide) (by decide) (X.2.2.2.2 (.classLink RL 13 "java/lang/IndexOutOfBoundsException") (List.mem_cons_of_mem _ (List.mem_append_left _ (List.mem_append_left _ (List.mem_append_left _ (List.mem_append_left _ (List.mem_of_getElem? (i := 0) rfl))))))) (va_Nw.use rfl (hE.2.2.1 (.castable "java/lang/IndexOutOfBoundsException" "java/lang/IndexOutOfBoundsException") (by decide +kernel))) hce hcv hcl ?_
  refine lv_astore (lv' := [(7, .ref (q8)), (0, .ref (ad 0 0)), (1, .int (row)), (2, .int (f)), (3, .int (n)), (4, .int (x)), (5, .int (step)), (6, .ref (o9))]) X.1 X.2.1 dL_fill_19 hl (by decide) rfl (fun ls hl => ?_)
  refine lv_iconst (v := nI 1) X.1 X.2.1 dL_fill_21 (by decide) ?_
  exact hE9 _ _ _ _ _ _ _ ad L K R I A Q N _ rfl (show _ ≤ 2 by decide) (show _ ≤ 260 by decide) hW ho hO ⟨f0, rfl, fun z => absurd z (by decide)⟩ HB rfl dL_fill_22

set_option maxHeartbeats 4000000 in
set_option maxRecDepth 100000 in
theorem ww_fill (l : Launch) (hst : l.stackTraces = false) {G : va_G} {kT : Nat → ClassId} {a0 o9 : Nat} {T : mT} {D : mD} (I : mI T) {r f n : Nat} {x step : Int32} (hr : r < 4) (h : f + n ≤ T 1 (T 2 r)) : wM l yL_fill wsL_fill ({ frames := 8, cells := 2, slots := 260, locals := 151 } : Room) G kT a0 o9 [.ref (a0), .int (nI (r)), .int (nI (f)), .int (nI (n)), .int (x), .int (step), .ref (o9)] T D 0 (T) (cpF D 0 (256 * T 2 r + f) (fun i => (x + nI i * step) &&& nI 255) n) (oL kT False 0) (oL kT (0 = 0) (((flS (fun i => D 0 (256 * T 2 r + f + i)) n) : Int32).toInt64)) := by
  refine wstart (cc := cL_fill) (maxL := 8) (hh := [(0, 16, 19, 13)]) (by decide) rfl (Nat.le_of_ble_eq_true rfl) (fun ad L K R I A Q N e0 HB h09 ho hP0 p e s m args below meth c Z hE9 X hT hE hW hO ls hl => ?_)
  subst h09
  obtain ⟨f0, rfl, -⟩ := hP0
  have X : CallFix p m c cL_fill 8 s args wsL_fill RL := X
  have hl : lv_has ls 8 [(0, .ref (ad 0 0)), (1, .int (nI (r))), (2, .int (nI (f))), (3, .int (nI (n))), (4, .int (x)), (5, .int (step)), (6, .ref (o9))] := hl
  refine lv_aload X.1 X.2.1 dL_fill_0 (lv_at hl 6 rfl) ?_
  refine lv_iconst (v := nI 0) X.1 X.2.1 dL_fill_2 (by decide) ?_
  refine lv_aload_n X.1 X.2.1 dL_fill_3 rfl (lv_at hl 0 rfl) ?_
  refine lv_iload_n X.1 X.2.1 dL_fill_4 rfl (lv_at hl 1 rfl) ?_
  refine lv_iload_n X.1 X.2.1 dL_fill_5 rfl (lv_at hl 2 rfl) ?_
  refine lv_iload_n X.1 X.2.1 dL_fill_6 rfl (lv_at hl 3 rfl) ?_
  refine lv_iload X.1 X.2.1 dL_fill_7 (lv_at hl 4 rfl) ?_
  refine lv_iload X.1 X.2.1 dL_fill_9 (lv_at hl 5 rfl) ?_
  refine cFi X hW (HB.mem lv_0) (pC_6 (HB.kn lv_0 rfl)) rfl (co_fill l HB hr h) (cwV 5 X.2.2.2.2 gL_fill_X6_fill rfl rfl rfl (by decide +kernel) ⟨Nat.le_of_ble_eq_true rfl, Nat.le_of_ble_eq_true rfl⟩) rfl rfl hl.1 (Nat.le_of_ble_eq_true rfl) dL_fill_11 ⟨Nat.le_of_ble_eq_true rfl, Nat.le_of_ble_eq_true rfl⟩ (fun H locs hW hsz hk => ?_)
  have hO := oK hO ho hk
  refine lv_i2l (v := (flS (fun i => D 0 (256 * T 2 r + f + i)) n).toInt64) X.1 X.2.1 dL_fill_14 rfl ?_
  refine wst X hW hO ho dL_fill_15 (fun H locs hW hO => ?_)
  refine lv_goto (tgt := 23) X.1 X.2.1 dL_fill_16 (by decide) ?_
  refine lv_iconst (v := nI 0) X.1 X.2.1 dL_fill_23 (by decide) ?_
  exact hE9 _ _ _ _ _ _ _ ad L K _ _ _ _ N _ rfl (show _ ≤ 2 by decide) (show _ ≤ 260 by decide) hW ho hO ⟨_, rfl, fun _ => if_pos rfl⟩ (HB.putS (uS_row hr) h (fun _ _ => rfl) (fun _ _ => and_255 _)) rfl dL_fill_24

set_option maxHeartbeats 4000000 in
set_option maxRecDepth 100000 in
theorem ww_fill_1b (l : Launch) (hst : l.stackTraces = false) {G : va_G} {kT : Nat → ClassId} {a0 o9 : Nat} {T : mT} {D : mD} (I : mI T) {r : Nat} {f n x step : Int32} (hr : r < 4) (h : oP (T 1 (T 2 r)) f n) : wM l yL_fill wsL_fill ({ frames := 8, cells := 2, slots := 260, locals := 151 } : Room) G kT a0 o9 [.ref (a0), .int (nI (r)), .int (f), .int (n), .int (x), .int (step), .ref (o9)] T D 1 (T) (D) (oL kT False 0) (oL kT (1 = 0) (((nI 0) : Int32).toInt64)) := by
  refine wstart (cc := cL_fill) (maxL := 8) (hh := [(0, 16, 19, 13)]) (by decide) rfl (Nat.le_of_ble_eq_true rfl) (fun ad L K R I A Q N e0 HB h09 ho hP0 p e s m args below meth c Z hE9 X hT hE hW hO ls hl => ?_)
  subst h09
  obtain ⟨f0, rfl, -⟩ := hP0
  have X : CallFix p m c cL_fill 8 s args wsL_fill RL := X
  have hl : lv_has ls 8 [(0, .ref (ad 0 0)), (1, .int (nI (r))), (2, .int (f)), (3, .int (n)), (4, .int (x)), (5, .int (step)), (6, .ref (o9))] := hl
  refine lv_aload X.1 X.2.1 dL_fill_0 (lv_at hl 6 rfl) ?_
  refine lv_iconst (v := nI 0) X.1 X.2.1 dL_fill_2 (by decide) ?_
  refine lv_aload_n X.1 X.2.1 dL_fill_3 rfl (lv_at hl 0 rfl) ?_
  refine lv_iload_n X.1 X.2.1 dL_fill_4 rfl (lv_at hl 1 rfl) ?_
  refine lv_iload_n X.1 X.2.1 dL_fill_5 rfl (lv_at hl 2 rfl) ?_
  refine lv_iload_n X.1 X.2.1 dL_fill_6 rfl (lv_at hl 3 rfl) ?_
  refine lv_iload X.1 X.2.1 dL_fill_7 (lv_at hl 4 rfl) ?_
  refine lv_iload X.1 X.2.1 dL_fill_9 (lv_at hl 5 rfl) ?_
  refine cCV hE X hW (HB.mem lv_0) (pC_6 (HB.kn lv_0 rfl)) rfl (cb_fill_b l hst HB hr h) (cwV 5 X.2.2.2.2 gL_fill_X6_fill rfl rfl rfl (by decide +kernel) ⟨Nat.le_of_ble_eq_true rfl, Nat.le_of_ble_eq_true rfl⟩) rfl rfl hl.1 (Nat.le_of_ble_eq_true rfl) dL_fill_11 ⟨Nat.le_of_ble_eq_true rfl, Nat.le_of_ble_eq_true rfl⟩ (fun H locs q8 ce hW hsz hk hce hcv hcl => ?_)
  have hO := oK hO ho hk
  refine vx_catch X.2.2.2.1 [] ⟨0, 16, 19, 13⟩ [] hT (fun z hz => absurd hz List.not_mem_nil) (by decide) (by decide) (X.2.2.2.2 (.classLink RL 13 "java/lang/IndexOutOfBoundsException") (List.mem_cons_of_mem _ (List.mem_append_left _ (List.mem_append_left _ (List.mem_append_left _ (List.mem_append_left _ (List.mem_of_getElem? (i := 0) rfl))))))) (va_Nw.use rfl (hE.2.2.1 (.castable "java/lang/IndexOutOfBoundsException" "java/lang/IndexOutOfBoundsException") (by decide +kernel))) hce hcv hcl ?_
  refine lv_astore (lv' := [(7, .ref (q8)), (0, .ref (ad 0 0)), (1, .int (nI (r))), (2, .int (f)), (3, .int (n)), (4, .int (x)), (5, .int (step)), (6, .ref (o9))]) X.1 X.2.1 dL_fill_19 hl (by decide) rfl (fun ls hl => ?_)
  refine lv_iconst (v := nI 1) X.1 X.2.1 dL_fill_21 (by decide) ?_
  exact hE9 _ _ _ _ _ _ _ ad L K R I A Q N _ rfl (show _ ≤ 2 by decide) (show _ ≤ 260 by decide) hW ho hO ⟨f0, rfl, fun z => absurd z (by decide)⟩ HB rfl dL_fill_22

theorem wo_fill (l : Launch) (hst : l.stackTraces = false) {G : va_G} {kT : Nat → ClassId} {a0 o9 : Nat} {T : mT} {D : mD} (I : mI T) (J : mJD D) (row f n x step : Int32) : wO l yL_fill wsL_fill ({ frames := 8, cells := 2, slots := 260, locals := 151 } : Room) G kT a0 o9 [.ref a0, .int row, .int f, .int n, .int x, .int step, .ref o9] T D (sp_fill T D row f n x step) := by
  by_cases h1 : oN row 4
  · rw [show sp_fill T D row f n x step = no T D 1 from if_pos (Or.inl h1)]; exact ww_fill_1 l hst h1
  · obtain ⟨r, hr, rfl⟩ := oN_in (by decide) h1
    have hl : rI T (nI r) = T 1 (T 2 r) := by simp only [rI, nI_clamp (show r < 2 ^ 31 by omega)]
    by_cases h2 : oP (T 1 (T 2 r)) f n
    · rw [show sp_fill T D (nI r) f n x step = no T D 1 from if_pos (Or.inr (by rw [hl]; exact h2))]
      exact ww_fill_1b l hst I hr h2
    · have I1 := I.sr hr
      have I2 := I.sl I1
      obtain ⟨f0, hf, rfl⟩ := nI_of (fun z => h2 (Or.inl z))
      obtain ⟨n0, hn, rfl⟩ := nI_of (fun z => h2 (Or.inr (Or.inl z)))
      have h3 : f0 + n0 ≤ T 1 (T 2 r) := Nat.not_lt.mp (fun z => h2 (Or.inr (Or.inr (by rw [nI_clamp hf, nI_clamp hn]; exact z))))
      rw [show sp_fill T D (nI r) (nI f0) (nI n0) x step = sk_fill T D r f0 n0 x step from (if_neg (by rw [hl]; exact fun z => z.elim h1 h2)).trans (by rw [nI_clamp (by omega), nI_clamp hf, nI_clamp hn])]
      exact ww_fill l hst I hr h3


set_option maxHeartbeats 4000000 in
set_option maxRecDepth 100000 in
theorem ww_length_1 (l : Launch) (hst : l.stackTraces = false) {G : va_G} {kT : Nat → ClassId} {a0 o9 : Nat} {T : mT} {D : mD} {row : Int32} (h : oN row 4) : wM l yL_length wsL_length ({ frames := 8, cells := 2, slots := 260, locals := 142 } : Room) G kT a0 o9 [.ref (a0), .int (row), .ref (o9)] T D 1 (T) (D) (oL kT False 0) (oL kT (1 = 0) (((nI 0) : Int32).toInt64)) := by
  refine wstart (cc := cL_length) (maxL := 4) (hh := [(0, 9, 12, 13)]) (by decide) rfl (Nat.le_of_ble_eq_true rfl) (fun ad L K R I A Q N e0 HB h09 ho hP0 p e s m args below meth c Z hE9 X hT hE hW hO ls hl => ?_)
  subst h09
  obtain ⟨f0, rfl, -⟩ := hP0
  have X : CallFix p m c cL_length 4 s args wsL_length RL := X
  have hl : lv_has ls 4 [(0, .ref (ad 0 0)), (1, .int (row)), (2, .ref (o9))] := hl
  refine lv_aload_n X.1 X.2.1 dL_length_0 rfl (lv_at hl 2 rfl) ?_
  refine lv_iconst (v := nI 0) X.1 X.2.1 dL_length_1 (by decide) ?_
  refine lv_aload_n X.1 X.2.1 dL_length_2 rfl (lv_at hl 0 rfl) ?_
  refine lv_iload_n X.1 X.2.1 dL_length_3 rfl (lv_at hl 1 rfl) ?_
  refine cCV hE X hW (HB.mem lv_0) (pC_6 (HB.kn lv_0 rfl)) rfl (cb_length_a l hst HB h) (cwV 1 X.2.2.2.2 gL_length_X6_length rfl rfl rfl (by decide +kernel) ⟨Nat.le_of_ble_eq_true rfl, Nat.le_of_ble_eq_true rfl⟩) rfl rfl hl.1 (Nat.le_of_ble_eq_true rfl) dL_length_4 ⟨Nat.le_of_ble_eq_true rfl, Nat.le_of_ble_eq_true rfl⟩ (fun H locs q8 ce hW hsz hk hce hcv hcl => ?_)
  have hO := oK hO ho hk
  refine vx_catch X.2.2.2.1 [] ⟨0, 9, 12, 13⟩ [] hT (fun z hz => absurd hz List.not_mem_nil) (by decide) (by decide) (X.2.2.2.2 (.classLink RL 13 "java/lang/IndexOutOfBoundsException") (List.mem_cons_of_mem _ (List.mem_append_left _ (List.mem_append_left _ (List.mem_append_left _ (List.mem_append_left _ (List.mem_of_getElem? (i := 0) rfl))))))) (va_Nw.use rfl (hE.2.2.1 (.castable "java/lang/IndexOutOfBoundsException" "java/lang/IndexOutOfBoundsException") (by decide +kernel))) hce hcv hcl ?_
  refine lv_astore_n (lv' := [(3, .ref (q8)), (0, .ref (ad 0 0)), (1, .int (row)), (2, .ref (o9))]) X.1 X.2.1 dL_length_12 rfl hl (by decide) rfl (fun ls hl => ?_)
  refine lv_iconst (v := nI 1) X.1 X.2.1 dL_length_13 (by decide) ?_
  exact hE9 _ _ _ _ _ _ _ ad L K R I A Q N _ rfl (show _ ≤ 2 by decide) (show _ ≤ 260 by decide) hW ho hO ⟨f0, rfl, fun z => absurd z (by decide)⟩ HB rfl dL_length_14

set_option maxHeartbeats 4000000 in
set_option maxRecDepth 100000 in
theorem ww_length (l : Launch) (hst : l.stackTraces = false) {G : va_G} {kT : Nat → ClassId} {a0 o9 : Nat} {T : mT} {D : mD} (I : mI T) {r : Nat} (hr : r < 4) : wM l yL_length wsL_length ({ frames := 8, cells := 2, slots := 260, locals := 142 } : Room) G kT a0 o9 [.ref (a0), .int (nI (r)), .ref (o9)] T D 0 (T) (D) (oL kT False 0) (oL kT (0 = 0) (((nI (T 1 (T 2 r))) : Int32).toInt64)) := by
  refine wstart (cc := cL_length) (maxL := 4) (hh := [(0, 9, 12, 13)]) (by decide) rfl (Nat.le_of_ble_eq_true rfl) (fun ad L K R I A Q N e0 HB h09 ho hP0 p e s m args below meth c Z hE9 X hT hE hW hO ls hl => ?_)
  subst h09
  obtain ⟨f0, rfl, -⟩ := hP0
  have X : CallFix p m c cL_length 4 s args wsL_length RL := X
  have hl : lv_has ls 4 [(0, .ref (ad 0 0)), (1, .int (nI (r))), (2, .ref (o9))] := hl
  refine lv_aload_n X.1 X.2.1 dL_length_0 rfl (lv_at hl 2 rfl) ?_
  refine lv_iconst (v := nI 0) X.1 X.2.1 dL_length_1 (by decide) ?_
  refine lv_aload_n X.1 X.2.1 dL_length_2 rfl (lv_at hl 0 rfl) ?_
  refine lv_iload_n X.1 X.2.1 dL_length_3 rfl (lv_at hl 1 rfl) ?_
  refine cFi X hW (HB.mem lv_0) (pC_6 (HB.kn lv_0 rfl)) rfl (co_length l HB hr) (cwV 1 X.2.2.2.2 gL_length_X6_length rfl rfl rfl (by decide +kernel) ⟨Nat.le_of_ble_eq_true rfl, Nat.le_of_ble_eq_true rfl⟩) rfl rfl hl.1 (Nat.le_of_ble_eq_true rfl) dL_length_4 ⟨Nat.le_of_ble_eq_true rfl, Nat.le_of_ble_eq_true rfl⟩ (fun H locs hW hsz hk => ?_)
  have hO := oK hO ho hk
  refine lv_i2l (v := (nI (T 1 (T 2 r))).toInt64) X.1 X.2.1 dL_length_7 rfl ?_
  refine wst X hW hO ho dL_length_8 (fun H locs hW hO => ?_)
  refine lv_goto (tgt := 15) X.1 X.2.1 dL_length_9 (by decide) ?_
  refine lv_iconst (v := nI 0) X.1 X.2.1 dL_length_15 (by decide) ?_
  exact hE9 _ _ _ _ _ _ _ ad L K _ _ _ _ N _ rfl (show _ ≤ 2 by decide) (show _ ≤ 260 by decide) hW ho hO ⟨_, rfl, fun _ => if_pos rfl⟩ (HB) rfl dL_length_16

theorem wo_length (l : Launch) (hst : l.stackTraces = false) {G : va_G} {kT : Nat → ClassId} {a0 o9 : Nat} {T : mT} {D : mD} (I : mI T) (J : mJD D) (row : Int32) : wO l yL_length wsL_length ({ frames := 8, cells := 2, slots := 260, locals := 142 } : Room) G kT a0 o9 [.ref a0, .int row, .ref o9] T D (sp_length T D row) := by
  by_cases h1 : oN row 4
  · rw [show sp_length T D row = no T D 1 from if_pos h1]; exact ww_length_1 l hst h1
  · obtain ⟨r, hr, rfl⟩ := oN_in (by decide) h1
    rw [show sp_length T D (nI r) = (0, nI (T 1 (T 2 r)), T, D) from (if_neg h1).trans (by simp only [rI, nI_clamp (show r < 2 ^ 31 by omega)])]
    exact ww_length l hst I hr


set_option maxHeartbeats 4000000 in
set_option maxRecDepth 100000 in
theorem ww_makeBytes_1 (l : Launch) (hst : l.stackTraces = false) {G : va_G} {kT : Nat → ClassId} {a0 o9 : Nat} {T : mT} {D : mD} {row n x step : Int32} (h : oN row 4) : wM l yL_makeBytes wsL_makeBytes ({ frames := 8, cells := 2, slots := 260, locals := 149 } : Room) G kT a0 o9 [.ref (a0), .int (row), .int (n), .int (x), .int (step), .ref (o9)] T D 1 (T) (D) (oL kT False 0) (oL kT (1 = 0) (((nI 0) : Int32).toInt64)) := by
  refine wstart (cc := cL_makeBytes) (maxL := 7) (hh := [(0, 14, 17, 13), (0, 14, 21, 15)]) (by decide) rfl (Nat.le_of_ble_eq_true rfl) (fun ad L K R I A Q N e0 HB h09 ho hP0 p e s m args below meth c Z hE9 X hT hE hW hO ls hl => ?_)
  subst h09
  obtain ⟨f0, rfl, -⟩ := hP0
  have X : CallFix p m c cL_makeBytes 7 s args wsL_makeBytes RL := X
  have hl : lv_has ls 7 [(0, .ref (ad 0 0)), (1, .int (row)), (2, .int (n)), (3, .int (x)), (4, .int (step)), (5, .ref (o9))] := hl
  refine lv_aload X.1 X.2.1 dL_makeBytes_0 (lv_at hl 5 rfl) ?_
  refine lv_iconst (v := nI 0) X.1 X.2.1 dL_makeBytes_2 (by decide) ?_
  refine lv_aload_n X.1 X.2.1 dL_makeBytes_3 rfl (lv_at hl 0 rfl) ?_
  refine lv_iload_n X.1 X.2.1 dL_makeBytes_4 rfl (lv_at hl 1 rfl) ?_
  refine lv_iload_n X.1 X.2.1 dL_makeBytes_5 rfl (lv_at hl 2 rfl) ?_
  refine lv_iload_n X.1 X.2.1 dL_makeBytes_6 rfl (lv_at hl 3 rfl) ?_
  refine lv_iload X.1 X.2.1 dL_makeBytes_7 (lv_at hl 4 rfl) ?_
  refine cCV hE X hW (HB.mem lv_0) (pC_6 (HB.kn lv_0 rfl)) rfl (cb_makeBytes_a l hst HB h) (cwV 4 X.2.2.2.2 gL_makeBytes_X6_makeBytes rfl rfl rfl (by decide +kernel) ⟨Nat.le_of_ble_eq_true rfl, Nat.le_of_ble_eq_true rfl⟩) rfl rfl hl.1 (Nat.le_of_ble_eq_true rfl) dL_makeBytes_9 ⟨Nat.le_of_ble_eq_true rfl, Nat.le_of_ble_eq_true rfl⟩ (fun H locs q8 ce hW hsz hk hce hcv hcl => ?_)
  have hO := oK hO ho hk
  refine vx_catch X.2.2.2.1 [] ⟨0, 14, 17, 13⟩ [⟨0, 14, 21, 15⟩] hT (fun z hz => absurd hz List.not_mem_nil) (by decide) (by decide) (X.2.2.2.2 (.classLink RL 13 "java/lang/IndexOutOfBoundsException") (List.mem_cons_of_mem _ (List.mem_append_left _ (List.mem_append_left _ (List.mem_append_left _ (List.mem_append_left _ (List.mem_append_left _ (List.mem_append_left _ (List.mem_of_getElem? (i := 0) rfl))))))))) (va_Nw.use rfl (hE.2.2.1 (.castable "java/lang/IndexOutOfBoundsException" "java/lang/IndexOutOfBoundsException") (by decide +kernel))) hce hcv hcl ?_
  refine lv_astore (lv' := [(6, .ref (q8)), (0, .ref (ad 0 0)), (1, .int (row)), (2, .int (n)), (3, .int (x)), (4, .int (step)), (5, .ref (o9))]) X.1 X.2.1 dL_makeBytes_17 hl (by decide) rfl (fun ls hl => ?_)
  refine lv_iconst (v := nI 1) X.1 X.2.1 dL_makeBytes_19 (by decide) ?_
  exact hE9 _ _ _ _ _ _ _ ad L K R I A Q N _ rfl (show _ ≤ 2 by decide) (show _ ≤ 260 by decide) hW ho hO ⟨f0, rfl, fun z => absurd z (by decide)⟩ HB rfl dL_makeBytes_20

set_option maxHeartbeats 4000000 in
set_option maxRecDepth 100000 in
theorem ww_makeBytes (l : Launch) (hst : l.stackTraces = false) {G : va_G} {kT : Nat → ClassId} {a0 o9 : Nat} {T : mT} {D : mD} (I : mI T) {r n : Nat} {x step : Int32} (hr : r < 4) (hn : n < 65) : wM l yL_makeBytes wsL_makeBytes ({ frames := 8, cells := 2, slots := 260, locals := 149 } : Room) G kT a0 o9 [.ref (a0), .int (nI (r)), .int (nI (n)), .int (x), .int (step), .ref (o9)] T D 0 (u2 (u2 T 4 (fB T) n) 5 r (fB T)) (cpF D 3 (64 * fB T) (fun i => (x + nI i * step).toInt8.toInt32) n) (oL kT False 0) (oL kT (0 = 0) (((nI (T 4 (T 5 r))) : Int32).toInt64)) := by
  refine wstart (cc := cL_makeBytes) (maxL := 7) (hh := [(0, 14, 17, 13), (0, 14, 21, 15)]) (by decide) rfl (Nat.le_of_ble_eq_true rfl) (fun ad L K R I A Q N e0 HB h09 ho hP0 p e s m args below meth c Z hE9 X hT hE hW hO ls hl => ?_)
  subst h09
  obtain ⟨f0, rfl, -⟩ := hP0
  have X : CallFix p m c cL_makeBytes 7 s args wsL_makeBytes RL := X
  have hl : lv_has ls 7 [(0, .ref (ad 0 0)), (1, .int (nI (r))), (2, .int (nI (n))), (3, .int (x)), (4, .int (step)), (5, .ref (o9))] := hl
  refine lv_aload X.1 X.2.1 dL_makeBytes_0 (lv_at hl 5 rfl) ?_
  refine lv_iconst (v := nI 0) X.1 X.2.1 dL_makeBytes_2 (by decide) ?_
  refine lv_aload_n X.1 X.2.1 dL_makeBytes_3 rfl (lv_at hl 0 rfl) ?_
  refine lv_iload_n X.1 X.2.1 dL_makeBytes_4 rfl (lv_at hl 1 rfl) ?_
  refine lv_iload_n X.1 X.2.1 dL_makeBytes_5 rfl (lv_at hl 2 rfl) ?_
  refine lv_iload_n X.1 X.2.1 dL_makeBytes_6 rfl (lv_at hl 3 rfl) ?_
  refine lv_iload X.1 X.2.1 dL_makeBytes_7 (lv_at hl 4 rfl) ?_
  refine cFN (cs := []) X hW (HB.mem lv_0) (pC_6 (HB.kn lv_0 rfl)) rfl (fun C h => absurd h List.not_mem_nil) (co_makeBytes l HB (n := n) hr (by omega)) (cwV 4 X.2.2.2.2 gL_makeBytes_X6_makeBytes rfl rfl rfl (by decide +kernel) ⟨Nat.le_of_ble_eq_true rfl, Nat.le_of_ble_eq_true rfl⟩) rfl rfl hl.1 (Nat.le_of_ble_eq_true rfl) dL_makeBytes_9 ⟨Nat.le_of_ble_eq_true rfl, Nat.le_of_ble_eq_true rfl⟩ (fun L2 K2 R2 I2 A2 Q2 N2 H locs hW hF hsz hk hL2 => ?_)
  have ho2 := oNew hO ho hL2
  have hO := oK hO ho hk
  obtain ⟨a, b, Q1, A1, hS, rfl, rfl⟩ := hF
  have hna : ∀ k i, lv T k i → ad k i ≠ a := fun k i hl9 z => hS.2.1 (z ▸ HB.mem hl9)
  have hnb : ∀ k i, lv T k i → ad k i ≠ b := fun k i hl9 z => hS.2.2.1 (z ▸ HB.mem hl9)
  have H19 := (HB.mono hS.1).keepA (A2 := cpF A1 b 0 (fun i => (x + nI i * step).toInt8.toInt32) n) (fun k i hl9 => cpF_ne (hnb k i hl9))
  refine lv_i2l (v := (nI (T 4 (T 5 r))).toInt64) X.1 X.2.1 dL_makeBytes_12 rfl ?_
  refine wst X hW hO ho2 dL_makeBytes_13 (fun H locs hW hO => ?_)
  refine lv_goto (tgt := 25) X.1 X.2.1 dL_makeBytes_14 (by decide) ?_
  refine lv_iconst (v := nI 0) X.1 X.2.1 dL_makeBytes_25 (by decide) ?_
  exact hE9 _ _ _ _ _ _ _ (adB ad (fB T) a b) L2 K2 R2 I2 _ _ N2 _ rfl (show _ ≤ 2 by decide) (show _ ≤ 260 by decide) hW ho2 hO ⟨_, rfl, fun _ => if_pos rfl⟩ (H19.newB (h := fun i => (x + nI i * step).toInt8.toInt32) hr hS.2.2.2.2.1 hna hnb hS.2.2.2.1 (fun j hj => by rw [cpF_in (Nat.zero_le _) (by omega)]; rfl) (fun j hj => nar_b _)) (adB_k (Or.inl ⟨by decide, by decide⟩)) dL_makeBytes_26

set_option maxHeartbeats 4000000 in
set_option maxRecDepth 100000 in
theorem ww_makeBytes_2a (l : Launch) (hst : l.stackTraces = false) {G : va_G} {kT : Nat → ClassId} {a0 o9 : Nat} {T : mT} {D : mD} {r : Nat} {n x step : Int32} (hr : r < 4) (h : n < 0) : wM l yL_makeBytes wsL_makeBytes ({ frames := 8, cells := 2, slots := 260, locals := 149 } : Room) G kT a0 o9 [.ref (a0), .int (nI (r)), .int (n), .int (x), .int (step), .ref (o9)] T D 2 (T) (D) (oL kT False 0) (oL kT (2 = 0) (((nI 0) : Int32).toInt64)) := by
  refine wstart (cc := cL_makeBytes) (maxL := 7) (hh := [(0, 14, 17, 13), (0, 14, 21, 15)]) (by decide) rfl (Nat.le_of_ble_eq_true rfl) (fun ad L K R I A Q N e0 HB h09 ho hP0 p e s m args below meth c Z hE9 X hT hE hW hO ls hl => ?_)
  subst h09
  obtain ⟨f0, rfl, -⟩ := hP0
  have X : CallFix p m c cL_makeBytes 7 s args wsL_makeBytes RL := X
  have hl : lv_has ls 7 [(0, .ref (ad 0 0)), (1, .int (nI (r))), (2, .int (n)), (3, .int (x)), (4, .int (step)), (5, .ref (o9))] := hl
  refine lv_aload X.1 X.2.1 dL_makeBytes_0 (lv_at hl 5 rfl) ?_
  refine lv_iconst (v := nI 0) X.1 X.2.1 dL_makeBytes_2 (by decide) ?_
  refine lv_aload_n X.1 X.2.1 dL_makeBytes_3 rfl (lv_at hl 0 rfl) ?_
  refine lv_iload_n X.1 X.2.1 dL_makeBytes_4 rfl (lv_at hl 1 rfl) ?_
  refine lv_iload_n X.1 X.2.1 dL_makeBytes_5 rfl (lv_at hl 2 rfl) ?_
  refine lv_iload_n X.1 X.2.1 dL_makeBytes_6 rfl (lv_at hl 3 rfl) ?_
  refine lv_iload X.1 X.2.1 dL_makeBytes_7 (lv_at hl 4 rfl) ?_
  refine cCV hE X hW (HB.mem lv_0) (pC_6 (HB.kn lv_0 rfl)) rfl (cb_makeBytes_b l hst HB hr (Or.inl h)) (cwV 4 X.2.2.2.2 gL_makeBytes_X6_makeBytes rfl rfl rfl (by decide +kernel) ⟨Nat.le_of_ble_eq_true rfl, Nat.le_of_ble_eq_true rfl⟩) rfl rfl hl.1 (Nat.le_of_ble_eq_true rfl) dL_makeBytes_9 ⟨Nat.le_of_ble_eq_true rfl, Nat.le_of_ble_eq_true rfl⟩ (fun H locs q8 ce hW hsz hk hce hcv hcl => ?_)
  have hO := oK hO ho hk
  refine vx_catch X.2.2.2.1 [⟨0, 14, 17, 13⟩] ⟨0, 14, 21, 15⟩ [] hT (List.forall_mem_cons.mpr ⟨Or.inr ⟨by decide, "java/lang/IndexOutOfBoundsException", X.2.2.2.2 (.classLink RL 13 "java/lang/IndexOutOfBoundsException") (List.mem_cons_of_mem _ (List.mem_append_left _ (List.mem_append_left _ (List.mem_append_left _ (List.mem_append_left _ (List.mem_append_left _ (List.mem_append_left _ (List.mem_of_getElem? (i := 0) rfl)))))))), hE.2.2.2.2 ("java/lang/IllegalArgumentException", "java/lang/IndexOutOfBoundsException") (by decide +kernel)⟩, (fun z hz => absurd hz List.not_mem_nil)⟩) (by decide) (by decide) (X.2.2.2.2 (.classLink RL 15 "java/lang/IllegalArgumentException") (List.mem_cons_of_mem _ (List.mem_append_left _ (List.mem_append_left _ (List.mem_append_left _ (List.mem_append_left _ (List.mem_append_left _ (List.mem_append_left _ (List.mem_of_getElem? (i := 1) rfl))))))))) (va_Nw.use rfl (hE.2.2.1 (.castable "java/lang/IllegalArgumentException" "java/lang/IllegalArgumentException") (by decide +kernel))) hce hcv hcl ?_
  refine lv_astore (lv' := [(6, .ref (q8)), (0, .ref (ad 0 0)), (1, .int (nI (r))), (2, .int (n)), (3, .int (x)), (4, .int (step)), (5, .ref (o9))]) X.1 X.2.1 dL_makeBytes_21 hl (by decide) rfl (fun ls hl => ?_)
  refine lv_iconst (v := nI 2) X.1 X.2.1 dL_makeBytes_23 (by decide) ?_
  exact hE9 _ _ _ _ _ _ _ ad L K R I A Q N _ rfl (show _ ≤ 2 by decide) (show _ ≤ 260 by decide) hW ho hO ⟨f0, rfl, fun z => absurd z (by decide)⟩ HB rfl dL_makeBytes_24

set_option maxHeartbeats 4000000 in
set_option maxRecDepth 100000 in
theorem ww_makeBytes_2b (l : Launch) (hst : l.stackTraces = false) {G : va_G} {kT : Nat → ClassId} {a0 o9 : Nat} {T : mT} {D : mD} {r n : Nat} {x step : Int32} (hr : r < 4) (hn : n < 2 ^ 31) (h : 65 ≤ n) : wM l yL_makeBytes wsL_makeBytes ({ frames := 8, cells := 2, slots := 260, locals := 149 } : Room) G kT a0 o9 [.ref (a0), .int (nI (r)), .int (nI (n)), .int (x), .int (step), .ref (o9)] T D 2 (T) (D) (oL kT False 0) (oL kT (2 = 0) (((nI 0) : Int32).toInt64)) := by
  refine wstart (cc := cL_makeBytes) (maxL := 7) (hh := [(0, 14, 17, 13), (0, 14, 21, 15)]) (by decide) rfl (Nat.le_of_ble_eq_true rfl) (fun ad L K R I A Q N e0 HB h09 ho hP0 p e s m args below meth c Z hE9 X hT hE hW hO ls hl => ?_)
  subst h09
  obtain ⟨f0, rfl, -⟩ := hP0
  have X : CallFix p m c cL_makeBytes 7 s args wsL_makeBytes RL := X
  have hl : lv_has ls 7 [(0, .ref (ad 0 0)), (1, .int (nI (r))), (2, .int (nI (n))), (3, .int (x)), (4, .int (step)), (5, .ref (o9))] := hl
  refine lv_aload X.1 X.2.1 dL_makeBytes_0 (lv_at hl 5 rfl) ?_
  refine lv_iconst (v := nI 0) X.1 X.2.1 dL_makeBytes_2 (by decide) ?_
  refine lv_aload_n X.1 X.2.1 dL_makeBytes_3 rfl (lv_at hl 0 rfl) ?_
  refine lv_iload_n X.1 X.2.1 dL_makeBytes_4 rfl (lv_at hl 1 rfl) ?_
  refine lv_iload_n X.1 X.2.1 dL_makeBytes_5 rfl (lv_at hl 2 rfl) ?_
  refine lv_iload_n X.1 X.2.1 dL_makeBytes_6 rfl (lv_at hl 3 rfl) ?_
  refine lv_iload X.1 X.2.1 dL_makeBytes_7 (lv_at hl 4 rfl) ?_
  refine cCV hE X hW (HB.mem lv_0) (pC_6 (HB.kn lv_0 rfl)) rfl (cb_makeBytes_b l hst HB hr (Or.inr (by rw [nI_clamp (by omega)]; exact h))) (cwV 4 X.2.2.2.2 gL_makeBytes_X6_makeBytes rfl rfl rfl (by decide +kernel) ⟨Nat.le_of_ble_eq_true rfl, Nat.le_of_ble_eq_true rfl⟩) rfl rfl hl.1 (Nat.le_of_ble_eq_true rfl) dL_makeBytes_9 ⟨Nat.le_of_ble_eq_true rfl, Nat.le_of_ble_eq_true rfl⟩ (fun H locs q8 ce hW hsz hk hce hcv hcl => ?_)
  have hO := oK hO ho hk
  refine vx_catch X.2.2.2.1 [⟨0, 14, 17, 13⟩] ⟨0, 14, 21, 15⟩ [] hT (List.forall_mem_cons.mpr ⟨Or.inr ⟨by decide, "java/lang/IndexOutOfBoundsException", X.2.2.2.2 (.classLink RL 13 "java/lang/IndexOutOfBoundsException") (List.mem_cons_of_mem _ (List.mem_append_left _ (List.mem_append_left _ (List.mem_append_left _ (List.mem_append_left _ (List.mem_append_left _ (List.mem_append_left _ (List.mem_of_getElem? (i := 0) rfl)))))))), hE.2.2.2.2 ("java/lang/IllegalArgumentException", "java/lang/IndexOutOfBoundsException") (by decide +kernel)⟩, (fun z hz => absurd hz List.not_mem_nil)⟩) (by decide) (by decide) (X.2.2.2.2 (.classLink RL 15 "java/lang/IllegalArgumentException") (List.mem_cons_of_mem _ (List.mem_append_left _ (List.mem_append_left _ (List.mem_append_left _ (List.mem_append_left _ (List.mem_append_left _ (List.mem_append_left _ (List.mem_of_getElem? (i := 1) rfl))))))))) (va_Nw.use rfl (hE.2.2.1 (.castable "java/lang/IllegalArgumentException" "java/lang/IllegalArgumentException") (by decide +kernel))) hce hcv hcl ?_
  refine lv_astore (lv' := [(6, .ref (q8)), (0, .ref (ad 0 0)), (1, .int (nI (r))), (2, .int (nI (n))), (3, .int (x)), (4, .int (step)), (5, .ref (o9))]) X.1 X.2.1 dL_makeBytes_21 hl (by decide) rfl (fun ls hl => ?_)
  refine lv_iconst (v := nI 2) X.1 X.2.1 dL_makeBytes_23 (by decide) ?_
  exact hE9 _ _ _ _ _ _ _ ad L K R I A Q N _ rfl (show _ ≤ 2 by decide) (show _ ≤ 260 by decide) hW ho hO ⟨f0, rfl, fun z => absurd z (by decide)⟩ HB rfl dL_makeBytes_24

theorem wo_makeBytes (l : Launch) (hst : l.stackTraces = false) {G : va_G} {kT : Nat → ClassId} {a0 o9 : Nat} {T : mT} {D : mD} (I : mI T) (J : mJD D) (row n x step : Int32) : wO l yL_makeBytes wsL_makeBytes ({ frames := 8, cells := 2, slots := 260, locals := 149 } : Room) G kT a0 o9 [.ref a0, .int row, .int n, .int x, .int step, .ref o9] T D (sp_makeBytes T D row n x step) := by
  by_cases h1 : oN row 4
  · rw [show sp_makeBytes T D row n x step = no T D 1 from if_pos h1]; exact ww_makeBytes_1 l hst h1
  · obtain ⟨r, hr, rfl⟩ := oN_in (by decide) h1
    by_cases h2 : oN n 65
    · rw [show sp_makeBytes T D (nI r) n x step = no T D 2 from (if_neg h1).trans (if_pos h2)]
      by_cases h3 : n < 0
      · exact ww_makeBytes_2a l hst hr h3
      · obtain ⟨n, g1, g2, rfl⟩ := oN_ge h2 h3
        exact ww_makeBytes_2b l hst hr g1 g2
    · obtain ⟨n, hn, rfl⟩ := oN_in (by decide) h2
      rw [show sp_makeBytes T D (nI r) (nI n) x step = sk_makeBytes T D r n x step from (if_neg h1).trans ((if_neg h2).trans (by rw [nI_clamp (by omega), nI_clamp (by omega)]))]
      exact ww_makeBytes l hst I hr hn

set_option maxHeartbeats 4000000 in
set_option maxRecDepth 100000 in
theorem ww_putByte (l : Launch) (hst : l.stackTraces = false) {G : va_G} {kT : Nat → ClassId} {a0 o9 : Nat} {T : mT} {D : mD} (I : mI T) (J : mJD D) {r f : Nat} {x : Int32} (hr : r < 4) (h : f < T 4 (T 5 r)) : wM l yL_putByte wsL_putByte ({ frames := 8, cells := 2, slots := 260, locals := 146 } : Room) G kT a0 o9 [.ref (a0), .int (nI (r)), .int (nI (f)), .int (x), .ref (o9)] T D 0 (T) (u2 D 3 (64 * T 5 r + f) (x.toInt8.toInt32)) (oL kT False 0) (oL kT (0 = 0) (((D 3 (64 * T 5 r + f)) : Int32).toInt64)) := by
  refine wstart (cc := cL_putByte) (maxL := 6) (hh := [(0, 12, 15, 13)]) (by decide) rfl (Nat.le_of_ble_eq_true rfl) (fun ad L K R I A Q N e0 HB h09 ho hP0 p e s m args below meth c Z hE9 X hT hE hW hO ls hl => ?_)
  subst h09
  obtain ⟨f0, rfl, -⟩ := hP0
  have X : CallFix p m c cL_putByte 6 s args wsL_putByte RL := X
  have hl : lv_has ls 6 [(0, .ref (ad 0 0)), (1, .int (nI (r))), (2, .int (nI (f))), (3, .int (x)), (4, .ref (o9))] := hl
  refine lv_aload X.1 X.2.1 dL_putByte_0 (lv_at hl 4 rfl) ?_
  refine lv_iconst (v := nI 0) X.1 X.2.1 dL_putByte_2 (by decide) ?_
  refine lv_aload_n X.1 X.2.1 dL_putByte_3 rfl (lv_at hl 0 rfl) ?_
  refine lv_iload_n X.1 X.2.1 dL_putByte_4 rfl (lv_at hl 1 rfl) ?_
  refine lv_iload_n X.1 X.2.1 dL_putByte_5 rfl (lv_at hl 2 rfl) ?_
  refine lv_iload_n X.1 X.2.1 dL_putByte_6 rfl (lv_at hl 3 rfl) ?_
  refine cFi X hW (HB.mem lv_0) (pC_6 (HB.kn lv_0 rfl)) rfl (co_putByte l HB hr h) (cwV 3 X.2.2.2.2 gL_putByte_X6_putByte rfl rfl rfl (by decide +kernel) ⟨Nat.le_of_ble_eq_true rfl, Nat.le_of_ble_eq_true rfl⟩) rfl rfl hl.1 (Nat.le_of_ble_eq_true rfl) dL_putByte_7 ⟨Nat.le_of_ble_eq_true rfl, Nat.le_of_ble_eq_true rfl⟩ (fun H locs hW hsz hk => ?_)
  have hO := oK hO ho hk
  refine lv_i2l (v := (D 3 (64 * T 5 r + f)).toInt64) X.1 X.2.1 dL_putByte_10 rfl ?_
  refine wst X hW hO ho dL_putByte_11 (fun H locs hW hO => ?_)
  refine lv_goto (tgt := 19) X.1 X.2.1 dL_putByte_12 (by decide) ?_
  refine lv_iconst (v := nI 0) X.1 X.2.1 dL_putByte_19 (by decide) ?_
  exact hE9 _ _ _ _ _ _ _ ad L K _ _ _ _ N _ rfl (show _ ≤ 2 by decide) (show _ ≤ 260 by decide) hW ho hO ⟨_, rfl, fun _ => if_pos rfl⟩ (by rw [u2_cp, u2_cp]; exact HB.putB (uB_row hr) (by omega) (fun _ _ => rfl) (fun _ _ => nar_b x)) rfl dL_putByte_20

set_option maxHeartbeats 4000000 in
set_option maxRecDepth 100000 in
theorem ww_putByte_1 (l : Launch) (hst : l.stackTraces = false) {G : va_G} {kT : Nat → ClassId} {a0 o9 : Nat} {T : mT} {D : mD} {row f : Int32} {x : Int32} (h : oN row 4) : wM l yL_putByte wsL_putByte ({ frames := 8, cells := 2, slots := 260, locals := 146 } : Room) G kT a0 o9 [.ref (a0), .int (row), .int (f), .int (x), .ref (o9)] T D 1 (T) (D) (oL kT False 0) (oL kT (1 = 0) (((nI 0) : Int32).toInt64)) := by
  refine wstart (cc := cL_putByte) (maxL := 6) (hh := [(0, 12, 15, 13)]) (by decide) rfl (Nat.le_of_ble_eq_true rfl) (fun ad L K R I A Q N e0 HB h09 ho hP0 p e s m args below meth c Z hE9 X hT hE hW hO ls hl => ?_)
  subst h09
  obtain ⟨f0, rfl, -⟩ := hP0
  have X : CallFix p m c cL_putByte 6 s args wsL_putByte RL := X
  have hl : lv_has ls 6 [(0, .ref (ad 0 0)), (1, .int (row)), (2, .int (f)), (3, .int (x)), (4, .ref (o9))] := hl
  refine lv_aload X.1 X.2.1 dL_putByte_0 (lv_at hl 4 rfl) ?_
  refine lv_iconst (v := nI 0) X.1 X.2.1 dL_putByte_2 (by decide) ?_
  refine lv_aload_n X.1 X.2.1 dL_putByte_3 rfl (lv_at hl 0 rfl) ?_
  refine lv_iload_n X.1 X.2.1 dL_putByte_4 rfl (lv_at hl 1 rfl) ?_
  refine lv_iload_n X.1 X.2.1 dL_putByte_5 rfl (lv_at hl 2 rfl) ?_
  refine lv_iload_n X.1 X.2.1 dL_putByte_6 rfl (lv_at hl 3 rfl) ?_
  refine cCV hE X hW (HB.mem lv_0) (pC_6 (HB.kn lv_0 rfl)) rfl (cb_putByte_a l hst HB h) (cwV 3 X.2.2.2.2 gL_putByte_X6_putByte rfl rfl rfl (by decide +kernel) ⟨Nat.le_of_ble_eq_true rfl, Nat.le_of_ble_eq_true rfl⟩) rfl rfl hl.1 (Nat.le_of_ble_eq_true rfl) dL_putByte_7 ⟨Nat.le_of_ble_eq_true rfl, Nat.le_of_ble_eq_true rfl⟩ (fun H locs q8 ce hW hsz hk hce hcv hcl => ?_)
  have hO := oK hO ho hk
  refine vx_catch X.2.2.2.1 [] ⟨0, 12, 15, 13⟩ [] hT (fun z hz => absurd hz List.not_mem_nil) (by decide) (by decide) (X.2.2.2.2 (.classLink RL 13 "java/lang/IndexOutOfBoundsException") (List.mem_cons_of_mem _ (List.mem_append_left _ (List.mem_append_left _ (List.mem_append_left _ (List.mem_append_left _ (List.mem_of_getElem? (i := 0) rfl))))))) (va_Nw.use rfl (hE.2.2.1 (.castable "java/lang/IndexOutOfBoundsException" "java/lang/IndexOutOfBoundsException") (by decide +kernel))) hce hcv hcl ?_
  refine lv_astore (lv' := [(5, .ref (q8)), (0, .ref (ad 0 0)), (1, .int (row)), (2, .int (f)), (3, .int (x)), (4, .ref (o9))]) X.1 X.2.1 dL_putByte_15 hl (by decide) rfl (fun ls hl => ?_)
  refine lv_iconst (v := nI 1) X.1 X.2.1 dL_putByte_17 (by decide) ?_
  exact hE9 _ _ _ _ _ _ _ ad L K R I A Q N _ rfl (show _ ≤ 2 by decide) (show _ ≤ 260 by decide) hW ho hO ⟨f0, rfl, fun z => absurd z (by decide)⟩ HB rfl dL_putByte_18

set_option maxHeartbeats 4000000 in
set_option maxRecDepth 100000 in
theorem ww_putByte_1b (l : Launch) (hst : l.stackTraces = false) {G : va_G} {kT : Nat → ClassId} {a0 o9 : Nat} {T : mT} {D : mD} (I : mI T) {r : Nat} {f : Int32} {x : Int32} (hr : r < 4) (h : oN f (T 4 (T 5 r))) : wM l yL_putByte wsL_putByte ({ frames := 8, cells := 2, slots := 260, locals := 146 } : Room) G kT a0 o9 [.ref (a0), .int (nI (r)), .int (f), .int (x), .ref (o9)] T D 1 (T) (D) (oL kT False 0) (oL kT (1 = 0) (((nI 0) : Int32).toInt64)) := by
  refine wstart (cc := cL_putByte) (maxL := 6) (hh := [(0, 12, 15, 13)]) (by decide) rfl (Nat.le_of_ble_eq_true rfl) (fun ad L K R I A Q N e0 HB h09 ho hP0 p e s m args below meth c Z hE9 X hT hE hW hO ls hl => ?_)
  subst h09
  obtain ⟨f0, rfl, -⟩ := hP0
  have X : CallFix p m c cL_putByte 6 s args wsL_putByte RL := X
  have hl : lv_has ls 6 [(0, .ref (ad 0 0)), (1, .int (nI (r))), (2, .int (f)), (3, .int (x)), (4, .ref (o9))] := hl
  refine lv_aload X.1 X.2.1 dL_putByte_0 (lv_at hl 4 rfl) ?_
  refine lv_iconst (v := nI 0) X.1 X.2.1 dL_putByte_2 (by decide) ?_
  refine lv_aload_n X.1 X.2.1 dL_putByte_3 rfl (lv_at hl 0 rfl) ?_
  refine lv_iload_n X.1 X.2.1 dL_putByte_4 rfl (lv_at hl 1 rfl) ?_
  refine lv_iload_n X.1 X.2.1 dL_putByte_5 rfl (lv_at hl 2 rfl) ?_
  refine lv_iload_n X.1 X.2.1 dL_putByte_6 rfl (lv_at hl 3 rfl) ?_
  refine cCV hE X hW (HB.mem lv_0) (pC_6 (HB.kn lv_0 rfl)) rfl (cb_putByte_b l hst HB hr h) (cwV 3 X.2.2.2.2 gL_putByte_X6_putByte rfl rfl rfl (by decide +kernel) ⟨Nat.le_of_ble_eq_true rfl, Nat.le_of_ble_eq_true rfl⟩) rfl rfl hl.1 (Nat.le_of_ble_eq_true rfl) dL_putByte_7 ⟨Nat.le_of_ble_eq_true rfl, Nat.le_of_ble_eq_true rfl⟩ (fun H locs q8 ce hW hsz hk hce hcv hcl => ?_)
  have hO := oK hO ho hk
  refine vx_catch X.2.2.2.1 [] ⟨0, 12, 15, 13⟩ [] hT (fun z hz => absurd hz List.not_mem_nil) (by decide) (by decide) (X.2.2.2.2 (.classLink RL 13 "java/lang/IndexOutOfBoundsException") (List.mem_cons_of_mem _ (List.mem_append_left _ (List.mem_append_left _ (List.mem_append_left _ (List.mem_append_left _ (List.mem_of_getElem? (i := 0) rfl))))))) (va_Nw.use rfl (hE.2.2.1 (.castable "java/lang/IndexOutOfBoundsException" "java/lang/IndexOutOfBoundsException") (by decide +kernel))) hce hcv hcl ?_
  refine lv_astore (lv' := [(5, .ref (q8)), (0, .ref (ad 0 0)), (1, .int (nI (r))), (2, .int (f)), (3, .int (x)), (4, .ref (o9))]) X.1 X.2.1 dL_putByte_15 hl (by decide) rfl (fun ls hl => ?_)
  refine lv_iconst (v := nI 1) X.1 X.2.1 dL_putByte_17 (by decide) ?_
  exact hE9 _ _ _ _ _ _ _ ad L K R I A Q N _ rfl (show _ ≤ 2 by decide) (show _ ≤ 260 by decide) hW ho hO ⟨f0, rfl, fun z => absurd z (by decide)⟩ HB rfl dL_putByte_18

theorem wo_putByte (l : Launch) (hst : l.stackTraces = false) {G : va_G} {kT : Nat → ClassId} {a0 o9 : Nat} {T : mT} {D : mD} (I : mI T) (J : mJD D) (row f x : Int32) : wO l yL_putByte wsL_putByte ({ frames := 8, cells := 2, slots := 260, locals := 146 } : Room) G kT a0 o9 [.ref a0, .int row, .int f, .int x, .ref o9] T D (sp_putByte T D row f x) := by
  by_cases h1 : oN row 4
  · rw [show sp_putByte T D row f x = no T D 1 from if_pos (Or.inl h1)]; exact ww_putByte_1 l hst h1
  · obtain ⟨r, hr, rfl⟩ := oN_in (by decide) h1
    have hl : bI T (nI r) = T 4 (T 5 r) := by simp only [bI, nI_clamp (show r < 2 ^ 31 by omega)]
    by_cases h2 : oN f (T 4 (T 5 r))
    · rw [show sp_putByte T D (nI r) f x = no T D 1 from if_pos (Or.inr (by rw [hl]; exact h2))]
      exact ww_putByte_1b l hst I hr h2
    · have I1 := I.br hr
      have I2 := I.bl I1
      obtain ⟨n, hn, rfl⟩ := oN_in (by omega) h2
      rw [show sp_putByte T D (nI r) (nI n) x = sk_putByte T D r n x from (if_neg (by rw [hl]; exact fun z => z.elim h1 h2)).trans (by rw [nI_clamp (by omega), nI_clamp (by omega)])]
      exact ww_putByte l hst I J hr hn


set_option maxHeartbeats 4000000 in
set_option maxRecDepth 100000 in
theorem ww_getByte (l : Launch) (hst : l.stackTraces = false) {G : va_G} {kT : Nat → ClassId} {a0 o9 : Nat} {T : mT} {D : mD} (I : mI T) (J : mJD D) {r f : Nat} (hr : r < 4) (h : f < T 4 (T 5 r)) : wM l yL_getByte wsL_getByte ({ frames := 8, cells := 2, slots := 260, locals := 144 } : Room) G kT a0 o9 [.ref (a0), .int (nI (r)), .int (nI (f)), .ref (o9)] T D 0 (T) (D) (oL kT False 0) (oL kT (0 = 0) (((D 3 (64 * T 5 r + f)) : Int32).toInt64)) := by
  refine wstart (cc := cL_getByte) (maxL := 5) (hh := [(0, 10, 13, 13)]) (by decide) rfl (Nat.le_of_ble_eq_true rfl) (fun ad L K R I A Q N e0 HB h09 ho hP0 p e s m args below meth c Z hE9 X hT hE hW hO ls hl => ?_)
  subst h09
  obtain ⟨f0, rfl, -⟩ := hP0
  have X : CallFix p m c cL_getByte 5 s args wsL_getByte RL := X
  have hl : lv_has ls 5 [(0, .ref (ad 0 0)), (1, .int (nI (r))), (2, .int (nI (f))), (3, .ref (o9))] := hl
  refine lv_aload_n X.1 X.2.1 dL_getByte_0 rfl (lv_at hl 3 rfl) ?_
  refine lv_iconst (v := nI 0) X.1 X.2.1 dL_getByte_1 (by decide) ?_
  refine lv_aload_n X.1 X.2.1 dL_getByte_2 rfl (lv_at hl 0 rfl) ?_
  refine lv_iload_n X.1 X.2.1 dL_getByte_3 rfl (lv_at hl 1 rfl) ?_
  refine lv_iload_n X.1 X.2.1 dL_getByte_4 rfl (lv_at hl 2 rfl) ?_
  refine cFi X hW (HB.mem lv_0) (pC_6 (HB.kn lv_0 rfl)) rfl (co_getByte l HB hr h) (cwV 2 X.2.2.2.2 gL_getByte_X6_getByte rfl rfl rfl (by decide +kernel) ⟨Nat.le_of_ble_eq_true rfl, Nat.le_of_ble_eq_true rfl⟩) rfl rfl hl.1 (Nat.le_of_ble_eq_true rfl) dL_getByte_5 ⟨Nat.le_of_ble_eq_true rfl, Nat.le_of_ble_eq_true rfl⟩ (fun H locs hW hsz hk => ?_)
  have hO := oK hO ho hk
  refine lv_i2l (v := (D 3 (64 * T 5 r + f)).toInt64) X.1 X.2.1 dL_getByte_8 rfl ?_
  refine wst X hW hO ho dL_getByte_9 (fun H locs hW hO => ?_)
  refine lv_goto (tgt := 17) X.1 X.2.1 dL_getByte_10 (by decide) ?_
  refine lv_iconst (v := nI 0) X.1 X.2.1 dL_getByte_17 (by decide) ?_
  exact hE9 _ _ _ _ _ _ _ ad L K _ _ _ _ N _ rfl (show _ ≤ 2 by decide) (show _ ≤ 260 by decide) hW ho hO ⟨_, rfl, fun _ => if_pos rfl⟩ (HB) rfl dL_getByte_18

set_option maxHeartbeats 4000000 in
set_option maxRecDepth 100000 in
theorem ww_getByte_1 (l : Launch) (hst : l.stackTraces = false) {G : va_G} {kT : Nat → ClassId} {a0 o9 : Nat} {T : mT} {D : mD} {row f : Int32} (h : oN row 4) : wM l yL_getByte wsL_getByte ({ frames := 8, cells := 2, slots := 260, locals := 144 } : Room) G kT a0 o9 [.ref (a0), .int (row), .int (f), .ref (o9)] T D 1 (T) (D) (oL kT False 0) (oL kT (1 = 0) (((nI 0) : Int32).toInt64)) := by
  refine wstart (cc := cL_getByte) (maxL := 5) (hh := [(0, 10, 13, 13)]) (by decide) rfl (Nat.le_of_ble_eq_true rfl) (fun ad L K R I A Q N e0 HB h09 ho hP0 p e s m args below meth c Z hE9 X hT hE hW hO ls hl => ?_)
  subst h09
  obtain ⟨f0, rfl, -⟩ := hP0
  have X : CallFix p m c cL_getByte 5 s args wsL_getByte RL := X
  have hl : lv_has ls 5 [(0, .ref (ad 0 0)), (1, .int (row)), (2, .int (f)), (3, .ref (o9))] := hl
  refine lv_aload_n X.1 X.2.1 dL_getByte_0 rfl (lv_at hl 3 rfl) ?_
  refine lv_iconst (v := nI 0) X.1 X.2.1 dL_getByte_1 (by decide) ?_
  refine lv_aload_n X.1 X.2.1 dL_getByte_2 rfl (lv_at hl 0 rfl) ?_
  refine lv_iload_n X.1 X.2.1 dL_getByte_3 rfl (lv_at hl 1 rfl) ?_
  refine lv_iload_n X.1 X.2.1 dL_getByte_4 rfl (lv_at hl 2 rfl) ?_
  refine cCV hE X hW (HB.mem lv_0) (pC_6 (HB.kn lv_0 rfl)) rfl (cb_getByte_a l hst HB h) (cwV 2 X.2.2.2.2 gL_getByte_X6_getByte rfl rfl rfl (by decide +kernel) ⟨Nat.le_of_ble_eq_true rfl, Nat.le_of_ble_eq_true rfl⟩) rfl rfl hl.1 (Nat.le_of_ble_eq_true rfl) dL_getByte_5 ⟨Nat.le_of_ble_eq_true rfl, Nat.le_of_ble_eq_true rfl⟩ (fun H locs q8 ce hW hsz hk hce hcv hcl => ?_)
  have hO := oK hO ho hk
  refine vx_catch X.2.2.2.1 [] ⟨0, 10, 13, 13⟩ [] hT (fun z hz => absurd hz List.not_mem_nil) (by decide) (by decide) (X.2.2.2.2 (.classLink RL 13 "java/lang/IndexOutOfBoundsException") (List.mem_cons_of_mem _ (List.mem_append_left _ (List.mem_append_left _ (List.mem_append_left _ (List.mem_append_left _ (List.mem_of_getElem? (i := 0) rfl))))))) (va_Nw.use rfl (hE.2.2.1 (.castable "java/lang/IndexOutOfBoundsException" "java/lang/IndexOutOfBoundsException") (by decide +kernel))) hce hcv hcl ?_
  refine lv_astore (lv' := [(4, .ref (q8)), (0, .ref (ad 0 0)), (1, .int (row)), (2, .int (f)), (3, .ref (o9))]) X.1 X.2.1 dL_getByte_13 hl (by decide) rfl (fun ls hl => ?_)
  refine lv_iconst (v := nI 1) X.1 X.2.1 dL_getByte_15 (by decide) ?_
  exact hE9 _ _ _ _ _ _ _ ad L K R I A Q N _ rfl (show _ ≤ 2 by decide) (show _ ≤ 260 by decide) hW ho hO ⟨f0, rfl, fun z => absurd z (by decide)⟩ HB rfl dL_getByte_16

set_option maxHeartbeats 4000000 in
set_option maxRecDepth 100000 in
theorem ww_getByte_1b (l : Launch) (hst : l.stackTraces = false) {G : va_G} {kT : Nat → ClassId} {a0 o9 : Nat} {T : mT} {D : mD} (I : mI T) {r : Nat} {f : Int32} (hr : r < 4) (h : oN f (T 4 (T 5 r))) : wM l yL_getByte wsL_getByte ({ frames := 8, cells := 2, slots := 260, locals := 144 } : Room) G kT a0 o9 [.ref (a0), .int (nI (r)), .int (f), .ref (o9)] T D 1 (T) (D) (oL kT False 0) (oL kT (1 = 0) (((nI 0) : Int32).toInt64)) := by
  refine wstart (cc := cL_getByte) (maxL := 5) (hh := [(0, 10, 13, 13)]) (by decide) rfl (Nat.le_of_ble_eq_true rfl) (fun ad L K R I A Q N e0 HB h09 ho hP0 p e s m args below meth c Z hE9 X hT hE hW hO ls hl => ?_)
  subst h09
  obtain ⟨f0, rfl, -⟩ := hP0
  have X : CallFix p m c cL_getByte 5 s args wsL_getByte RL := X
  have hl : lv_has ls 5 [(0, .ref (ad 0 0)), (1, .int (nI (r))), (2, .int (f)), (3, .ref (o9))] := hl
  refine lv_aload_n X.1 X.2.1 dL_getByte_0 rfl (lv_at hl 3 rfl) ?_
  refine lv_iconst (v := nI 0) X.1 X.2.1 dL_getByte_1 (by decide) ?_
  refine lv_aload_n X.1 X.2.1 dL_getByte_2 rfl (lv_at hl 0 rfl) ?_
  refine lv_iload_n X.1 X.2.1 dL_getByte_3 rfl (lv_at hl 1 rfl) ?_
  refine lv_iload_n X.1 X.2.1 dL_getByte_4 rfl (lv_at hl 2 rfl) ?_
  refine cCV hE X hW (HB.mem lv_0) (pC_6 (HB.kn lv_0 rfl)) rfl (cb_getByte_b l hst HB hr h) (cwV 2 X.2.2.2.2 gL_getByte_X6_getByte rfl rfl rfl (by decide +kernel) ⟨Nat.le_of_ble_eq_true rfl, Nat.le_of_ble_eq_true rfl⟩) rfl rfl hl.1 (Nat.le_of_ble_eq_true rfl) dL_getByte_5 ⟨Nat.le_of_ble_eq_true rfl, Nat.le_of_ble_eq_true rfl⟩ (fun H locs q8 ce hW hsz hk hce hcv hcl => ?_)
  have hO := oK hO ho hk
  refine vx_catch X.2.2.2.1 [] ⟨0, 10, 13, 13⟩ [] hT (fun z hz => absurd hz List.not_mem_nil) (by decide) (by decide) (X.2.2.2.2 (.classLink RL 13 "java/lang/IndexOutOfBoundsException") (List.mem_cons_of_mem _ (List.mem_append_left _ (List.mem_append_left _ (List.mem_append_left _ (List.mem_append_left _ (List.mem_of_getElem? (i := 0) rfl))))))) (va_Nw.use rfl (hE.2.2.1 (.castable "java/lang/IndexOutOfBoundsException" "java/lang/IndexOutOfBoundsException") (by decide +kernel))) hce hcv hcl ?_
  refine lv_astore (lv' := [(4, .ref (q8)), (0, .ref (ad 0 0)), (1, .int (nI (r))), (2, .int (f)), (3, .ref (o9))]) X.1 X.2.1 dL_getByte_13 hl (by decide) rfl (fun ls hl => ?_)
  refine lv_iconst (v := nI 1) X.1 X.2.1 dL_getByte_15 (by decide) ?_
  exact hE9 _ _ _ _ _ _ _ ad L K R I A Q N _ rfl (show _ ≤ 2 by decide) (show _ ≤ 260 by decide) hW ho hO ⟨f0, rfl, fun z => absurd z (by decide)⟩ HB rfl dL_getByte_16

theorem wo_getByte (l : Launch) (hst : l.stackTraces = false) {G : va_G} {kT : Nat → ClassId} {a0 o9 : Nat} {T : mT} {D : mD} (I : mI T) (J : mJD D) (row f : Int32) : wO l yL_getByte wsL_getByte ({ frames := 8, cells := 2, slots := 260, locals := 144 } : Room) G kT a0 o9 [.ref a0, .int row, .int f, .ref o9] T D (sp_getByte T D row f) := by
  by_cases h1 : oN row 4
  · rw [show sp_getByte T D row f = no T D 1 from if_pos (Or.inl h1)]; exact ww_getByte_1 l hst h1
  · obtain ⟨r, hr, rfl⟩ := oN_in (by decide) h1
    have hl : bI T (nI r) = T 4 (T 5 r) := by simp only [bI, nI_clamp (show r < 2 ^ 31 by omega)]
    by_cases h2 : oN f (T 4 (T 5 r))
    · rw [show sp_getByte T D (nI r) f = no T D 1 from if_pos (Or.inr (by rw [hl]; exact h2))]
      exact ww_getByte_1b l hst I hr h2
    · have I1 := I.br hr
      have I2 := I.bl I1
      obtain ⟨n, hn, rfl⟩ := oN_in (by omega) h2
      rw [show sp_getByte T D (nI r) (nI n) = (0, D 3 (64 * T 5 r + n), T, D) from (if_neg (by rw [hl]; exact fun z => z.elim h1 h2)).trans (by rw [nI_clamp (by omega), nI_clamp (by omega)])]
      exact ww_getByte l hst I J hr hn

