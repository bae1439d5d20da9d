set_option maxHeartbeats 4000000 in
set_option maxRecDepth 100000 in
theorem lx_c9 {p : Program} {l : Launch} {e : Env} {s : State} {m : MethodId} {args : Array Value} {below : List Frame} {meth : Method} {c : Code} {H : Heap} {locs : List Loc} {cells slots : Nat} {Z : State → Prop} {ls : Array Slot} {G : va_G} {kT : Nat → ClassId} {q : Nat → Nat} {a0 o1 o2 b n : Nat} {xs : Nat → Int32} {T : mT} {D : mD} {th : Int32} {e1 e2 : va_E} (C : lx_C l p s m args c G kT q o1 o2 b n xs) (hW : lx_W G kT q a0 o1 o2 T D T D th e1 e2 s H locs) (hP1 : oL kT False 0 e1) (hP2 : oD kT False 0 e2) {i : Nat} (hi : i + 6 ≤ n) (hn : n ≤ 3072) (hcs : cells + 2 ≤ room_1.cells ∧ slots + 260 ≤ room_1.slots) (hl : lv_has ls 10 (lx_l b a0 (q 0) o1 o2 i)) (hk : lx_K p l e s m args below meth c Z G kT q a0 o1 o2 b cells slots i) : W p l e room_1 s m args below meth c H locs cells slots Z (F0 m 908 ls []) := by
  have hl : lv_has ls 10 [(0, .ref b), (1, .ref a0), (2, .ref (q 0)), (3, .ref o1), (4, .ref o2), (5, .int (nI i))] := hl
  refine lv_aload_n C.1.1 C.1.2.1 dL_law_908 rfl (lv_at hl 1 rfl) ?_
  refine lv_aload_n C.1.1 C.1.2.1 dL_law_909 rfl (lv_at hl 0 rfl) ?_
  refine lv_iload C.1.1 C.1.2.1 dL_law_910 (lv_at hl 5 rfl) ?_
  refine lv_iconst (v := nI 1) C.1.1 C.1.2.1 dL_law_912 (by decide) ?_
  refine n_iadd C.1.1 C.1.2.1 dL_law_913 ?_
  refine lx_sld C hW.S (j := i + 1) (by omega) (by omega) dL_law_914 ?_
  refine lv_aload_n C.1.1 C.1.2.1 dL_law_915 rfl (lv_at hl 0 rfl) ?_
  refine lv_iload C.1.1 C.1.2.1 dL_law_916 (lv_at hl 5 rfl) ?_
  refine lv_iconst (v := nI 2) C.1.1 C.1.2.1 dL_law_918 (by decide) ?_
  refine n_iadd C.1.1 C.1.2.1 dL_law_919 ?_
  refine lx_sld C hW.S (j := i + 2) (by omega) (by omega) dL_law_920 ?_
  refine lv_aload_n C.1.1 C.1.2.1 dL_law_921 rfl (lv_at hl 3 rfl) ?_
  have hIJ := hW.IJ
  refine lx_callw C hW hP1 (wo_write l C.2.2.2.2.2.2.2.2.2.2 hIJ.1 hIJ.2 (xs (i + 1)) (xs (i + 2))) (vx_cwSW 4 C.1.2.2.2.2 gL_law_L_write rfl rfl rfl (by decide +kernel) ⟨Nat.le_of_ble_eq_true rfl, Nat.le_of_ble_eq_true rfl⟩) rfl rfl hl.1 (Nat.le_of_ble_eq_true rfl) dL_law_922 hcs (fun H locs e9 hW hP => ?_)
  refine lv_istore (lv' := [(6, .int (nI (sp_one T D 0 1 (xs (i + 1)) (xs (i + 2))).1)), (0, .ref b), (1, .ref a0), (2, .ref (q 0)), (3, .ref o1), (4, .ref o2), (5, .int (nI i))]) C.1.1 C.1.2.1 dL_law_925 hl (by decide) rfl (fun ls hl => ?_)
  refine lv_aload_n C.1.1 C.1.2.1 dL_law_927 rfl (lv_at hl 3 rfl) ?_
  refine lv_aload_n C.1.1 C.1.2.1 dL_law_928 rfl (lv_at hl 1 rfl) ?_
  refine lv_iload C.1.1 C.1.2.1 dL_law_929 (lv_at hl 6 rfl) ?_
  refine lv_iconst (v := nI 1) C.1.1 C.1.2.1 dL_law_931 (by decide) ?_
  refine n_iadd C.1.1 C.1.2.1 dL_law_932 ?_
  refine lx_sld C hW.S (j := i + 1) (by omega) (by omega) dL_law_933 ?_
  refine lv_aload_n C.1.1 C.1.2.1 dL_law_934 rfl (lv_at hl 1 rfl) ?_
  refine lv_iload C.1.1 C.1.2.1 dL_law_935 (lv_at hl 6 rfl) ?_
  refine lv_iconst (v := nI 2) C.1.1 C.1.2.1 dL_law_937 (by decide) ?_
  refine n_iadd C.1.1 C.1.2.1 dL_law_938 ?_
  refine lx_sld C hW.S (j := i + 2) (by omega) (by omega) dL_law_939 ?_
  refine lx_callmi C hW (mo_write l C.2.2.2.2.2.1 _ _ _ hIJ.1 hIJ.2 (xs (i + 1)) (xs (i + 2))) (cwV 2 C.1.2.2.2.2 gL_law_X7_write rfl rfl rfl (by decide +kernel) ⟨Nat.le_of_ble_eq_true rfl, Nat.le_of_ble_eq_true rfl⟩) rfl rfl hl.1 (Nat.le_of_ble_eq_true rfl) dL_law_940 hcs (fun H locs hW => ?_)
  refine lv_istore (lv' := [(7, .int ((sp_one T D 0 1 (xs (i + 1)) (xs (i + 2))).2.1)), (6, .int (nI (sp_one T D 0 1 (xs (i + 1)) (xs (i + 2))).1)), (0, .ref b), (1, .ref a0), (2, .ref (q 0)), (3, .ref o1), (4, .ref o2), (5, .int (nI i))]) C.1.1 C.1.2.1 dL_law_943 hl (by decide) rfl (fun ls hl => ?_)
  refine lv_aload_n C.1.1 C.1.2.1 dL_law_945 rfl (lv_at hl 4 rfl) ?_
  refine lx_callmi C hW (mt_thrown l C.2.2.2.2.2.1 _ _ _) (cwV 0 C.1.2.2.2.2 gL_law_X7_thrown rfl rfl rfl (by decide +kernel) ⟨Nat.le_of_ble_eq_true rfl, Nat.le_of_ble_eq_true rfl⟩) rfl rfl hl.1 (Nat.le_of_ble_eq_true rfl) dL_law_946 hcs (fun H locs hW => ?_)
  refine lv_iload C.1.1 C.1.2.1 dL_law_949 (lv_at hl 1 rfl) ?_
  refine x_icmp_eq_t (tgt := 956) C.1.1 C.1.2.1 dL_law_951 (by decide) rfl ?_
  refine lv_iload C.1.1 C.1.2.1 dL_law_956 (lv_at hl 1 rfl) ?_
  have h4 : (sp_one T D 0 1 (xs (i + 1)) (xs (i + 2))).1 ≤ 4 := sp_one_c T D (xs (i + 1)) (xs (i + 2)) 0 0 0 0 0 1
  rcases Decidable.em ((sp_one T D 0 1 (xs (i + 1)) (xs (i + 2))).1 = 0) with h0 | h0
  · refine x_if_ne_f (tgt := 973) C.1.1 C.1.2.1 dL_law_958 (by decide) (by rw [h0]; rfl) ?_
    obtain ⟨f9, rfl, hf9⟩ := hP
    have hf9 := hf9 h0
    refine lv_aload_n C.1.1 C.1.2.1 dL_law_961 rfl (lv_at hl 5 rfl) ?_
    refine lv_iconst (v := nI 0) C.1.1 C.1.2.1 dL_law_962 (by decide) ?_
    refine lx_lld C hW dL_law_963 ?_
    refine lv_iload C.1.1 C.1.2.1 dL_law_964 (lv_at hl 0 rfl) ?_
    refine lv_i2l (v := ((sp_one T D 0 1 (xs (i + 1)) (xs (i + 2))).2.1).toInt64) C.1.1 C.1.2.1 dL_law_966 rfl ?_
    refine W.lcmp C.1.1 C.1.2.1 dL_law_967 ?_
    refine x_if_eq_t (tgt := 973) C.1.1 C.1.2.1 dL_law_968 (by decide) (by rw [hf9]; exact lx_cmp0 _) ?_
    refine lv_goto (tgt := 3303) C.1.1 C.1.2.1 dL_law_973 (by decide) ?_
    exact hk H locs _ _ _ _ _ _ _ hW ⟨f9, rfl, fun z => z.elim⟩ hP2 (by omega) (by omega) ls (lv_sub hl [2, 3, 4, 5, 6, 7] rfl)
  · refine x_if_ne_t (tgt := 973) C.1.1 C.1.2.1 dL_law_958 (by decide) (fun z => h0 (nI_inj (by omega) (by decide) z)) ?_
    refine lv_goto (tgt := 3303) C.1.1 C.1.2.1 dL_law_973 (by decide) ?_
    exact hk H locs _ _ _ _ _ _ _ hW (oL_w hP) hP2 (by omega) (by omega) ls (lv_sub hl [2, 3, 4, 5, 6, 7] rfl)

set_option maxHeartbeats 4000000 in
set_option maxRecDepth 100000 in
theorem lx_c10 {p : Program} {l : Launch} {e : Env} {s : State} {m : MethodId} {args : Array Value} {below : List Frame} {meth : Method} {c : Code} {H : Heap} {locs : List Loc} {cells slots : Nat} {Z : State → Prop} {ls : Array Slot} {G : va_G} {kT : Nat → ClassId} {q : Nat → Nat} {a0 o1 o2 b n : Nat} {xs : Nat → Int32} {T : mT} {D : mD} {th : Int32} {e1 e2 : va_E} (C : lx_C l p s m args c G kT q o1 o2 b n xs) (hW : lx_W G kT q a0 o1 o2 T D T D th e1 e2 s H locs) (hP1 : oL kT False 0 e1) (hP2 : oD kT False 0 e2) {i : Nat} (hi : i + 6 ≤ n) (hn : n ≤ 3072) (hcs : cells + 2 ≤ room_1.cells ∧ slots + 260 ≤ room_1.slots) (hl : lv_has ls 10 (lx_l b a0 (q 0) o1 o2 i)) (hk : lx_K p l e s m args below meth c Z G kT q a0 o1 o2 b cells slots i) : W p l e room_1 s m args below meth c H locs cells slots Z (F0 m 976 ls []) := by
  have hl : lv_has ls 10 [(0, .ref b), (1, .ref a0), (2, .ref (q 0)), (3, .ref o1), (4, .ref o2), (5, .int (nI i))] := hl
  refine lv_aload_n C.1.1 C.1.2.1 dL_law_976 rfl (lv_at hl 1 rfl) ?_
  refine lv_aload_n C.1.1 C.1.2.1 dL_law_977 rfl (lv_at hl 0 rfl) ?_
  refine lv_iload C.1.1 C.1.2.1 dL_law_978 (lv_at hl 5 rfl) ?_
  refine lv_iconst (v := nI 1) C.1.1 C.1.2.1 dL_law_980 (by decide) ?_
  refine n_iadd C.1.1 C.1.2.1 dL_law_981 ?_
  refine lx_sld C hW.S (j := i + 1) (by omega) (by omega) dL_law_982 ?_
  refine lv_aload_n C.1.1 C.1.2.1 dL_law_983 rfl (lv_at hl 0 rfl) ?_
  refine lv_iload C.1.1 C.1.2.1 dL_law_984 (lv_at hl 5 rfl) ?_
  refine lv_iconst (v := nI 2) C.1.1 C.1.2.1 dL_law_986 (by decide) ?_
  refine n_iadd C.1.1 C.1.2.1 dL_law_987 ?_
  refine lx_sld C hW.S (j := i + 2) (by omega) (by omega) dL_law_988 ?_
  refine lv_aload_n C.1.1 C.1.2.1 dL_law_989 rfl (lv_at hl 0 rfl) ?_
  refine lv_iload C.1.1 C.1.2.1 dL_law_990 (lv_at hl 5 rfl) ?_
  refine lv_iconst (v := nI 3) C.1.1 C.1.2.1 dL_law_992 (by decide) ?_
  refine n_iadd C.1.1 C.1.2.1 dL_law_993 ?_
  refine lx_sld C hW.S (j := i + 3) (by omega) (by omega) dL_law_994 ?_
  refine lv_aload_n C.1.1 C.1.2.1 dL_law_995 rfl (lv_at hl 0 rfl) ?_
  refine lv_iload C.1.1 C.1.2.1 dL_law_996 (lv_at hl 5 rfl) ?_
  refine lv_iconst (v := nI 4) C.1.1 C.1.2.1 dL_law_998 (by decide) ?_
  refine n_iadd C.1.1 C.1.2.1 dL_law_999 ?_
  refine lx_sld C hW.S (j := i + 4) (by omega) (by omega) dL_law_1000 ?_
  refine lv_aload_n C.1.1 C.1.2.1 dL_law_1001 rfl (lv_at hl 3 rfl) ?_
  have hIJ := hW.IJ
  refine lx_callw C hW hP1 (wo_writeText l C.2.2.2.2.2.2.2.2.2.2 hIJ.1 hIJ.2 (xs (i + 1)) (xs (i + 2)) (xs (i + 3)) (xs (i + 4))) (vx_cwSW 6 C.1.2.2.2.2 gL_law_L_writeText rfl rfl rfl (by decide +kernel) ⟨Nat.le_of_ble_eq_true rfl, Nat.le_of_ble_eq_true rfl⟩) rfl rfl hl.1 (Nat.le_of_ble_eq_true rfl) dL_law_1002 hcs (fun H locs e9 hW hP => ?_)
  refine lv_istore (lv' := [(6, .int (nI (sp_part T D 0 (xs (i + 1)) (xs (i + 2)) (xs (i + 3)) (xs (i + 4))).1)), (0, .ref b), (1, .ref a0), (2, .ref (q 0)), (3, .ref o1), (4, .ref o2), (5, .int (nI i))]) C.1.1 C.1.2.1 dL_law_1005 hl (by decide) rfl (fun ls hl => ?_)
  refine lv_aload_n C.1.1 C.1.2.1 dL_law_1007 rfl (lv_at hl 3 rfl) ?_
  refine lv_aload_n C.1.1 C.1.2.1 dL_law_1008 rfl (lv_at hl 1 rfl) ?_
  refine lv_iload C.1.1 C.1.2.1 dL_law_1009 (lv_at hl 6 rfl) ?_
  refine lv_iconst (v := nI 1) C.1.1 C.1.2.1 dL_law_1011 (by decide) ?_
  refine n_iadd C.1.1 C.1.2.1 dL_law_1012 ?_
  refine lx_sld C hW.S (j := i + 1) (by omega) (by omega) dL_law_1013 ?_
  refine lv_aload_n C.1.1 C.1.2.1 dL_law_1014 rfl (lv_at hl 1 rfl) ?_
  refine lv_iload C.1.1 C.1.2.1 dL_law_1015 (lv_at hl 6 rfl) ?_
  refine lv_iconst (v := nI 2) C.1.1 C.1.2.1 dL_law_1017 (by decide) ?_
  refine n_iadd C.1.1 C.1.2.1 dL_law_1018 ?_
  refine lx_sld C hW.S (j := i + 2) (by omega) (by omega) dL_law_1019 ?_
  refine lv_aload_n C.1.1 C.1.2.1 dL_law_1020 rfl (lv_at hl 1 rfl) ?_
  refine lv_iload C.1.1 C.1.2.1 dL_law_1021 (lv_at hl 6 rfl) ?_
  refine lv_iconst (v := nI 3) C.1.1 C.1.2.1 dL_law_1023 (by decide) ?_
  refine n_iadd C.1.1 C.1.2.1 dL_law_1024 ?_
  refine lx_sld C hW.S (j := i + 3) (by omega) (by omega) dL_law_1025 ?_
  refine lv_aload_n C.1.1 C.1.2.1 dL_law_1026 rfl (lv_at hl 1 rfl) ?_
  refine lv_iload C.1.1 C.1.2.1 dL_law_1027 (lv_at hl 6 rfl) ?_
  refine lv_iconst (v := nI 4) C.1.1 C.1.2.1 dL_law_1029 (by decide) ?_
  refine n_iadd C.1.1 C.1.2.1 dL_law_1030 ?_
  refine lx_sld C hW.S (j := i + 4) (by omega) (by omega) dL_law_1031 ?_
  refine lx_callmi C hW (mo_writeText l C.2.2.2.2.2.1 _ _ _ hIJ.1 hIJ.2 (xs (i + 1)) (xs (i + 2)) (xs (i + 3)) (xs (i + 4))) (cwV 4 C.1.2.2.2.2 gL_law_X7_writeText rfl rfl rfl (by decide +kernel) ⟨Nat.le_of_ble_eq_true rfl, Nat.le_of_ble_eq_true rfl⟩) rfl rfl hl.1 (Nat.le_of_ble_eq_true rfl) dL_law_1032 hcs (fun H locs hW => ?_)
  refine lv_istore (lv' := [(7, .int ((sp_part T D 0 (xs (i + 1)) (xs (i + 2)) (xs (i + 3)) (xs (i + 4))).2.1)), (6, .int (nI (sp_part T D 0 (xs (i + 1)) (xs (i + 2)) (xs (i + 3)) (xs (i + 4))).1)), (0, .ref b), (1, .ref a0), (2, .ref (q 0)), (3, .ref o1), (4, .ref o2), (5, .int (nI i))]) C.1.1 C.1.2.1 dL_law_1035 hl (by decide) rfl (fun ls hl => ?_)
  refine lv_aload_n C.1.1 C.1.2.1 dL_law_1037 rfl (lv_at hl 4 rfl) ?_
  refine lx_callmi C hW (mt_thrown l C.2.2.2.2.2.1 _ _ _) (cwV 0 C.1.2.2.2.2 gL_law_X7_thrown rfl rfl rfl (by decide +kernel) ⟨Nat.le_of_ble_eq_true rfl, Nat.le_of_ble_eq_true rfl⟩) rfl rfl hl.1 (Nat.le_of_ble_eq_true rfl) dL_law_1038 hcs (fun H locs hW => ?_)
  refine lv_iload C.1.1 C.1.2.1 dL_law_1041 (lv_at hl 1 rfl) ?_
  refine x_icmp_eq_t (tgt := 1048) C.1.1 C.1.2.1 dL_law_1043 (by decide) rfl ?_
  refine lv_iload C.1.1 C.1.2.1 dL_law_1048 (lv_at hl 1 rfl) ?_
  have h4 : (sp_part T D 0 (xs (i + 1)) (xs (i + 2)) (xs (i + 3)) (xs (i + 4))).1 ≤ 4 := sp_part_c T D (xs (i + 1)) (xs (i + 2)) (xs (i + 3)) (xs (i + 4)) 0 0 0 0
  rcases Decidable.em ((sp_part T D 0 (xs (i + 1)) (xs (i + 2)) (xs (i + 3)) (xs (i + 4))).1 = 0) with h0 | h0
  · refine x_if_ne_f (tgt := 1065) C.1.1 C.1.2.1 dL_law_1050 (by decide) (by rw [h0]; rfl) ?_
    obtain ⟨f9, rfl, hf9⟩ := hP
    have hf9 := hf9 h0
    refine lv_aload_n C.1.1 C.1.2.1 dL_law_1053 rfl (lv_at hl 5 rfl) ?_
    refine lv_iconst (v := nI 0) C.1.1 C.1.2.1 dL_law_1054 (by decide) ?_
    refine lx_lld C hW dL_law_1055 ?_
    refine lv_iload C.1.1 C.1.2.1 dL_law_1056 (lv_at hl 0 rfl) ?_
    refine lv_i2l (v := ((sp_part T D 0 (xs (i + 1)) (xs (i + 2)) (xs (i + 3)) (xs (i + 4))).2.1).toInt64) C.1.1 C.1.2.1 dL_law_1058 rfl ?_
    refine W.lcmp C.1.1 C.1.2.1 dL_law_1059 ?_
    refine x_if_eq_t (tgt := 1065) C.1.1 C.1.2.1 dL_law_1060 (by decide) (by rw [hf9]; exact lx_cmp0 _) ?_
    refine lv_goto (tgt := 3303) C.1.1 C.1.2.1 dL_law_1065 (by decide) ?_
    exact hk H locs _ _ _ _ _ _ _ hW ⟨f9, rfl, fun z => z.elim⟩ hP2 (by omega) (by omega) ls (lv_sub hl [2, 3, 4, 5, 6, 7] rfl)
  · refine x_if_ne_t (tgt := 1065) C.1.1 C.1.2.1 dL_law_1050 (by decide) (fun z => h0 (nI_inj (by omega) (by decide) z)) ?_
    refine lv_goto (tgt := 3303) C.1.1 C.1.2.1 dL_law_1065 (by decide) ?_
    exact hk H locs _ _ _ _ _ _ _ hW (oL_w hP) hP2 (by omega) (by omega) ls (lv_sub hl [2, 3, 4, 5, 6, 7] rfl)

set_option maxHeartbeats 4000000 in
set_option maxRecDepth 100000 in
theorem lx_c11 {p : Program} {l : Launch} {e : Env} {s : State} {m : MethodId} {args : Array Value} {below : List Frame} {meth : Method} {c : Code} {H : Heap} {locs : List Loc} {cells slots : Nat} {Z : State → Prop} {ls : Array Slot} {G : va_G} {kT : Nat → ClassId} {q : Nat → Nat} {a0 o1 o2 b n : Nat} {xs : Nat → Int32} {T : mT} {D : mD} {th : Int32} {e1 e2 : va_E} (C : lx_C l p s m args c G kT q o1 o2 b n xs) (hW : lx_W G kT q a0 o1 o2 T D T D th e1 e2 s H locs) (hP1 : oL kT False 0 e1) (hP2 : oD kT False 0 e2) {i : Nat} (hi : i + 6 ≤ n) (hn : n ≤ 3072) (hcs : cells + 2 ≤ room_1.cells ∧ slots + 260 ≤ room_1.slots) (hl : lv_has ls 10 (lx_l b a0 (q 0) o1 o2 i)) (hk : lx_K p l e s m args below meth c Z G kT q a0 o1 o2 b cells slots i) : W p l e room_1 s m args below meth c H locs cells slots Z (F0 m 1068 ls []) := by
  have hl : lv_has ls 10 [(0, .ref b), (1, .ref a0), (2, .ref (q 0)), (3, .ref o1), (4, .ref o2), (5, .int (nI i))] := hl
  refine lv_aload_n C.1.1 C.1.2.1 dL_law_1068 rfl (lv_at hl 1 rfl) ?_
  refine lv_aload_n C.1.1 C.1.2.1 dL_law_1069 rfl (lv_at hl 0 rfl) ?_
  refine lv_iload C.1.1 C.1.2.1 dL_law_1070 (lv_at hl 5 rfl) ?_
  refine lv_iconst (v := nI 1) C.1.1 C.1.2.1 dL_law_1072 (by decide) ?_
  refine n_iadd C.1.1 C.1.2.1 dL_law_1073 ?_
  refine lx_sld C hW.S (j := i + 1) (by omega) (by omega) dL_law_1074 ?_
  refine lv_aload_n C.1.1 C.1.2.1 dL_law_1075 rfl (lv_at hl 0 rfl) ?_
  refine lv_iload C.1.1 C.1.2.1 dL_law_1076 (lv_at hl 5 rfl) ?_
  refine lv_iconst (v := nI 2) C.1.1 C.1.2.1 dL_law_1078 (by decide) ?_
  refine n_iadd C.1.1 C.1.2.1 dL_law_1079 ?_
  refine lx_sld C hW.S (j := i + 2) (by omega) (by omega) dL_law_1080 ?_
  refine lv_aload_n C.1.1 C.1.2.1 dL_law_1081 rfl (lv_at hl 0 rfl) ?_
  refine lv_iload C.1.1 C.1.2.1 dL_law_1082 (lv_at hl 5 rfl) ?_
  refine lv_iconst (v := nI 3) C.1.1 C.1.2.1 dL_law_1084 (by decide) ?_
  refine n_iadd C.1.1 C.1.2.1 dL_law_1085 ?_
  refine lx_sld C hW.S (j := i + 3) (by omega) (by omega) dL_law_1086 ?_
  refine lv_aload_n C.1.1 C.1.2.1 dL_law_1087 rfl (lv_at hl 0 rfl) ?_
  refine lv_iload C.1.1 C.1.2.1 dL_law_1088 (lv_at hl 5 rfl) ?_
  refine lv_iconst (v := nI 4) C.1.1 C.1.2.1 dL_law_1090 (by decide) ?_
  refine n_iadd C.1.1 C.1.2.1 dL_law_1091 ?_
  refine lx_sld C hW.S (j := i + 4) (by omega) (by omega) dL_law_1092 ?_
  refine lv_aload_n C.1.1 C.1.2.1 dL_law_1093 rfl (lv_at hl 3 rfl) ?_
  have hIJ := hW.IJ
  refine lx_callw C hW hP1 (wo_writeSigns l C.2.2.2.2.2.2.2.2.2.2 hIJ.1 hIJ.2 (xs (i + 1)) (xs (i + 2)) (xs (i + 3)) (xs (i + 4))) (vx_cwSW 6 C.1.2.2.2.2 gL_law_L_writeSigns rfl rfl rfl (by decide +kernel) ⟨Nat.le_of_ble_eq_true rfl, Nat.le_of_ble_eq_true rfl⟩) rfl rfl hl.1 (Nat.le_of_ble_eq_true rfl) dL_law_1094 hcs (fun H locs e9 hW hP => ?_)
  refine lv_istore (lv' := [(6, .int (nI (sp_part T D 0 (xs (i + 1)) (xs (i + 2)) (xs (i + 3)) (xs (i + 4))).1)), (0, .ref b), (1, .ref a0), (2, .ref (q 0)), (3, .ref o1), (4, .ref o2), (5, .int (nI i))]) C.1.1 C.1.2.1 dL_law_1097 hl (by decide) rfl (fun ls hl => ?_)
  refine lv_aload_n C.1.1 C.1.2.1 dL_law_1099 rfl (lv_at hl 3 rfl) ?_
  refine lv_aload_n C.1.1 C.1.2.1 dL_law_1100 rfl (lv_at hl 1 rfl) ?_
  refine lv_iload C.1.1 C.1.2.1 dL_law_1101 (lv_at hl 6 rfl) ?_
  refine lv_iconst (v := nI 1) C.1.1 C.1.2.1 dL_law_1103 (by decide) ?_
  refine n_iadd C.1.1 C.1.2.1 dL_law_1104 ?_
  refine lx_sld C hW.S (j := i + 1) (by omega) (by omega) dL_law_1105 ?_
  refine lv_aload_n C.1.1 C.1.2.1 dL_law_1106 rfl (lv_at hl 1 rfl) ?_
  refine lv_iload C.1.1 C.1.2.1 dL_law_1107 (lv_at hl 6 rfl) ?_
  refine lv_iconst (v := nI 2) C.1.1 C.1.2.1 dL_law_1109 (by decide) ?_
  refine n_iadd C.1.1 C.1.2.1 dL_law_1110 ?_
  refine lx_sld C hW.S (j := i + 2) (by omega) (by omega) dL_law_1111 ?_
  refine lv_aload_n C.1.1 C.1.2.1 dL_law_1112 rfl (lv_at hl 1 rfl) ?_
  refine lv_iload C.1.1 C.1.2.1 dL_law_1113 (lv_at hl 6 rfl) ?_
  refine lv_iconst (v := nI 3) C.1.1 C.1.2.1 dL_law_1115 (by decide) ?_
  refine n_iadd C.1.1 C.1.2.1 dL_law_1116 ?_
  refine lx_sld C hW.S (j := i + 3) (by omega) (by omega) dL_law_1117 ?_
  refine lv_aload_n C.1.1 C.1.2.1 dL_law_1118 rfl (lv_at hl 1 rfl) ?_
  refine lv_iload C.1.1 C.1.2.1 dL_law_1119 (lv_at hl 6 rfl) ?_
  refine lv_iconst (v := nI 4) C.1.1 C.1.2.1 dL_law_1121 (by decide) ?_
  refine n_iadd C.1.1 C.1.2.1 dL_law_1122 ?_
  refine lx_sld C hW.S (j := i + 4) (by omega) (by omega) dL_law_1123 ?_
  refine lx_callmi C hW (mo_writeSigns l C.2.2.2.2.2.1 _ _ _ hIJ.1 hIJ.2 (xs (i + 1)) (xs (i + 2)) (xs (i + 3)) (xs (i + 4))) (cwV 4 C.1.2.2.2.2 gL_law_X7_writeSigns rfl rfl rfl (by decide +kernel) ⟨Nat.le_of_ble_eq_true rfl, Nat.le_of_ble_eq_true rfl⟩) rfl rfl hl.1 (Nat.le_of_ble_eq_true rfl) dL_law_1124 hcs (fun H locs hW => ?_)
  refine lv_istore (lv' := [(7, .int ((sp_part T D 0 (xs (i + 1)) (xs (i + 2)) (xs (i + 3)) (xs (i + 4))).2.1)), (6, .int (nI (sp_part T D 0 (xs (i + 1)) (xs (i + 2)) (xs (i + 3)) (xs (i + 4))).1)), (0, .ref b), (1, .ref a0), (2, .ref (q 0)), (3, .ref o1), (4, .ref o2), (5, .int (nI i))]) C.1.1 C.1.2.1 dL_law_1127 hl (by decide) rfl (fun ls hl => ?_)
  refine lv_aload_n C.1.1 C.1.2.1 dL_law_1129 rfl (lv_at hl 4 rfl) ?_
  refine lx_callmi C hW (mt_thrown l C.2.2.2.2.2.1 _ _ _) (cwV 0 C.1.2.2.2.2 gL_law_X7_thrown rfl rfl rfl (by decide +kernel) ⟨Nat.le_of_ble_eq_true rfl, Nat.le_of_ble_eq_true rfl⟩) rfl rfl hl.1 (Nat.le_of_ble_eq_true rfl) dL_law_1130 hcs (fun H locs hW => ?_)
  refine lv_iload C.1.1 C.1.2.1 dL_law_1133 (lv_at hl 1 rfl) ?_
  refine x_icmp_eq_t (tgt := 1140) C.1.1 C.1.2.1 dL_law_1135 (by decide) rfl ?_
  refine lv_iload C.1.1 C.1.2.1 dL_law_1140 (lv_at hl 1 rfl) ?_
  have h4 : (sp_part T D 0 (xs (i + 1)) (xs (i + 2)) (xs (i + 3)) (xs (i + 4))).1 ≤ 4 := sp_part_c T D (xs (i + 1)) (xs (i + 2)) (xs (i + 3)) (xs (i + 4)) 0 0 0 0
  rcases Decidable.em ((sp_part T D 0 (xs (i + 1)) (xs (i + 2)) (xs (i + 3)) (xs (i + 4))).1 = 0) with h0 | h0
  · refine x_if_ne_f (tgt := 1157) C.1.1 C.1.2.1 dL_law_1142 (by decide) (by rw [h0]; rfl) ?_
    obtain ⟨f9, rfl, hf9⟩ := hP
    have hf9 := hf9 h0
    refine lv_aload_n C.1.1 C.1.2.1 dL_law_1145 rfl (lv_at hl 5 rfl) ?_
    refine lv_iconst (v := nI 0) C.1.1 C.1.2.1 dL_law_1146 (by decide) ?_
    refine lx_lld C hW dL_law_1147 ?_
    refine lv_iload C.1.1 C.1.2.1 dL_law_1148 (lv_at hl 0 rfl) ?_
    refine lv_i2l (v := ((sp_part T D 0 (xs (i + 1)) (xs (i + 2)) (xs (i + 3)) (xs (i + 4))).2.1).toInt64) C.1.1 C.1.2.1 dL_law_1150 rfl ?_
    refine W.lcmp C.1.1 C.1.2.1 dL_law_1151 ?_
    refine x_if_eq_t (tgt := 1157) C.1.1 C.1.2.1 dL_law_1152 (by decide) (by rw [hf9]; exact lx_cmp0 _) ?_
    refine lv_goto (tgt := 3303) C.1.1 C.1.2.1 dL_law_1157 (by decide) ?_
    exact hk H locs _ _ _ _ _ _ _ hW ⟨f9, rfl, fun z => z.elim⟩ hP2 (by omega) (by omega) ls (lv_sub hl [2, 3, 4, 5, 6, 7] rfl)
  · refine x_if_ne_t (tgt := 1157) C.1.1 C.1.2.1 dL_law_1142 (by decide) (fun z => h0 (nI_inj (by omega) (by decide) z)) ?_
    refine lv_goto (tgt := 3303) C.1.1 C.1.2.1 dL_law_1157 (by decide) ?_
    exact hk H locs _ _ _ _ _ _ _ hW (oL_w hP) hP2 (by omega) (by omega) ls (lv_sub hl [2, 3, 4, 5, 6, 7] rfl)

set_option maxHeartbeats 4000000 in
set_option maxRecDepth 100000 in
theorem lx_c12 {p : Program} {l : Launch} {e : Env} {s : State} {m : MethodId} {args : Array Value} {below : List Frame} {meth : Method} {c : Code} {H : Heap} {locs : List Loc} {cells slots : Nat} {Z : State → Prop} {ls : Array Slot} {G : va_G} {kT : Nat → ClassId} {q : Nat → Nat} {a0 o1 o2 b n : Nat} {xs : Nat → Int32} {T : mT} {D : mD} {th : Int32} {e1 e2 : va_E} (C : lx_C l p s m args c G kT q o1 o2 b n xs) (hW : lx_W G kT q a0 o1 o2 T D T D th e1 e2 s H locs) (hP1 : oL kT False 0 e1) (hP2 : oD kT False 0 e2) {i : Nat} (hi : i + 6 ≤ n) (hn : n ≤ 3072) (hcs : cells + 2 ≤ room_1.cells ∧ slots + 260 ≤ room_1.slots) (hl : lv_has ls 10 (lx_l b a0 (q 0) o1 o2 i)) (hk : lx_K p l e s m args below meth c Z G kT q a0 o1 o2 b cells slots i) : W p l e room_1 s m args below meth c H locs cells slots Z (F0 m 1160 ls []) := by
  have hl : lv_has ls 10 [(0, .ref b), (1, .ref a0), (2, .ref (q 0)), (3, .ref o1), (4, .ref o2), (5, .int (nI i))] := hl
  refine lv_aload_n C.1.1 C.1.2.1 dL_law_1160 rfl (lv_at hl 1 rfl) ?_
  refine lv_aload_n C.1.1 C.1.2.1 dL_law_1161 rfl (lv_at hl 0 rfl) ?_
  refine lv_iload C.1.1 C.1.2.1 dL_law_1162 (lv_at hl 5 rfl) ?_
  refine lv_iconst (v := nI 1) C.1.1 C.1.2.1 dL_law_1164 (by decide) ?_
  refine n_iadd C.1.1 C.1.2.1 dL_law_1165 ?_
  refine lx_sld C hW.S (j := i + 1) (by omega) (by omega) dL_law_1166 ?_
  refine lv_aload_n C.1.1 C.1.2.1 dL_law_1167 rfl (lv_at hl 0 rfl) ?_
  refine lv_iload C.1.1 C.1.2.1 dL_law_1168 (lv_at hl 5 rfl) ?_
  refine lv_iconst (v := nI 2) C.1.1 C.1.2.1 dL_law_1170 (by decide) ?_
  refine n_iadd C.1.1 C.1.2.1 dL_law_1171 ?_
  refine lx_sld C hW.S (j := i + 2) (by omega) (by omega) dL_law_1172 ?_
  refine lv_i2c (v := ((xs (i + 2)).toUInt32 % 65536).toInt32) C.1.1 C.1.2.1 dL_law_1173 rfl ?_
  refine lv_aload_n C.1.1 C.1.2.1 dL_law_1174 rfl (lv_at hl 3 rfl) ?_
  have hIJ := hW.IJ
  refine lx_callw C hW hP1 (wo_append l C.2.2.2.2.2.2.2.2.2.2 hIJ.1 hIJ.2 (xs (i + 1)) (((xs (i + 2)).toUInt32 % 65536).toInt32)) (vx_cwSW 4 C.1.2.2.2.2 gL_law_L_append rfl rfl rfl (by decide +kernel) ⟨Nat.le_of_ble_eq_true rfl, Nat.le_of_ble_eq_true rfl⟩) rfl rfl hl.1 (Nat.le_of_ble_eq_true rfl) dL_law_1175 hcs (fun H locs e9 hW hP => ?_)
  refine lv_istore (lv' := [(6, .int (nI (sp_one T D 0 2 (xs (i + 1)) (((xs (i + 2)).toUInt32 % 65536).toInt32)).1)), (0, .ref b), (1, .ref a0), (2, .ref (q 0)), (3, .ref o1), (4, .ref o2), (5, .int (nI i))]) C.1.1 C.1.2.1 dL_law_1178 hl (by decide) rfl (fun ls hl => ?_)
  refine lv_aload_n C.1.1 C.1.2.1 dL_law_1180 rfl (lv_at hl 3 rfl) ?_
  refine lv_aload_n C.1.1 C.1.2.1 dL_law_1181 rfl (lv_at hl 1 rfl) ?_
  refine lv_iload C.1.1 C.1.2.1 dL_law_1182 (lv_at hl 6 rfl) ?_
  refine lv_iconst (v := nI 1) C.1.1 C.1.2.1 dL_law_1184 (by decide) ?_
  refine n_iadd C.1.1 C.1.2.1 dL_law_1185 ?_
  refine lx_sld C hW.S (j := i + 1) (by omega) (by omega) dL_law_1186 ?_
  refine lv_aload_n C.1.1 C.1.2.1 dL_law_1187 rfl (lv_at hl 1 rfl) ?_
  refine lv_iload C.1.1 C.1.2.1 dL_law_1188 (lv_at hl 6 rfl) ?_
  refine lv_iconst (v := nI 2) C.1.1 C.1.2.1 dL_law_1190 (by decide) ?_
  refine n_iadd C.1.1 C.1.2.1 dL_law_1191 ?_
  refine lx_sld C hW.S (j := i + 2) (by omega) (by omega) dL_law_1192 ?_
  refine lv_i2c (v := ((xs (i + 2)).toUInt32 % 65536).toInt32) C.1.1 C.1.2.1 dL_law_1193 rfl ?_
  refine lx_callmi C hW (mo_append l C.2.2.2.2.2.1 _ _ _ hIJ.1 hIJ.2 (xs (i + 1)) (((xs (i + 2)).toUInt32 % 65536).toInt32)) (cwV 2 C.1.2.2.2.2 gL_law_X7_append rfl rfl rfl (by decide +kernel) ⟨Nat.le_of_ble_eq_true rfl, Nat.le_of_ble_eq_true rfl⟩) rfl rfl hl.1 (Nat.le_of_ble_eq_true rfl) dL_law_1194 hcs (fun H locs hW => ?_)
  refine lv_istore (lv' := [(7, .int ((sp_one T D 0 2 (xs (i + 1)) (((xs (i + 2)).toUInt32 % 65536).toInt32)).2.1)), (6, .int (nI (sp_one T D 0 2 (xs (i + 1)) (((xs (i + 2)).toUInt32 % 65536).toInt32)).1)), (0, .ref b), (1, .ref a0), (2, .ref (q 0)), (3, .ref o1), (4, .ref o2), (5, .int (nI i))]) C.1.1 C.1.2.1 dL_law_1197 hl (by decide) rfl (fun ls hl => ?_)
  refine lv_aload_n C.1.1 C.1.2.1 dL_law_1199 rfl (lv_at hl 4 rfl) ?_
  refine lx_callmi C hW (mt_thrown l C.2.2.2.2.2.1 _ _ _) (cwV 0 C.1.2.2.2.2 gL_law_X7_thrown rfl rfl rfl (by decide +kernel) ⟨Nat.le_of_ble_eq_true rfl, Nat.le_of_ble_eq_true rfl⟩) rfl rfl hl.1 (Nat.le_of_ble_eq_true rfl) dL_law_1200 hcs (fun H locs hW => ?_)
  refine lv_iload C.1.1 C.1.2.1 dL_law_1203 (lv_at hl 1 rfl) ?_
  refine x_icmp_eq_t (tgt := 1210) C.1.1 C.1.2.1 dL_law_1205 (by decide) rfl ?_
  refine lv_iload C.1.1 C.1.2.1 dL_law_1210 (lv_at hl 1 rfl) ?_
  have h4 : (sp_one T D 0 2 (xs (i + 1)) (((xs (i + 2)).toUInt32 % 65536).toInt32)).1 ≤ 4 := sp_one_c T D (xs (i + 1)) (((xs (i + 2)).toUInt32 % 65536).toInt32) 0 0 0 0 0 2
  rcases Decidable.em ((sp_one T D 0 2 (xs (i + 1)) (((xs (i + 2)).toUInt32 % 65536).toInt32)).1 = 0) with h0 | h0
  · refine x_if_ne_f (tgt := 1227) C.1.1 C.1.2.1 dL_law_1212 (by decide) (by rw [h0]; rfl) ?_
    obtain ⟨f9, rfl, hf9⟩ := hP
    have hf9 := hf9 h0
    refine lv_aload_n C.1.1 C.1.2.1 dL_law_1215 rfl (lv_at hl 5 rfl) ?_
    refine lv_iconst (v := nI 0) C.1.1 C.1.2.1 dL_law_1216 (by decide) ?_
    refine lx_lld C hW dL_law_1217 ?_
    refine lv_iload C.1.1 C.1.2.1 dL_law_1218 (lv_at hl 0 rfl) ?_
    refine lv_i2l (v := ((sp_one T D 0 2 (xs (i + 1)) (((xs (i + 2)).toUInt32 % 65536).toInt32)).2.1).toInt64) C.1.1 C.1.2.1 dL_law_1220 rfl ?_
    refine W.lcmp C.1.1 C.1.2.1 dL_law_1221 ?_
    refine x_if_eq_t (tgt := 1227) C.1.1 C.1.2.1 dL_law_1222 (by decide) (by rw [hf9]; exact lx_cmp0 _) ?_
    refine lv_goto (tgt := 3303) C.1.1 C.1.2.1 dL_law_1227 (by decide) ?_
    exact hk H locs _ _ _ _ _ _ _ hW ⟨f9, rfl, fun z => z.elim⟩ hP2 (by omega) (by omega) ls (lv_sub hl [2, 3, 4, 5, 6, 7] rfl)
  · refine x_if_ne_t (tgt := 1227) C.1.1 C.1.2.1 dL_law_1212 (by decide) (fun z => h0 (nI_inj (by omega) (by decide) z)) ?_
    refine lv_goto (tgt := 3303) C.1.1 C.1.2.1 dL_law_1227 (by decide) ?_
    exact hk H locs _ _ _ _ _ _ _ hW (oL_w hP) hP2 (by omega) (by omega) ls (lv_sub hl [2, 3, 4, 5, 6, 7] rfl)

set_option maxHeartbeats 4000000 in
set_option maxRecDepth 100000 in
theorem lx_c13 {p : Program} {l : Launch} {e : Env} {s : State} {m : MethodId} {args : Array Value} {below : List Frame} {meth : Method} {c : Code} {H : Heap} {locs : List Loc} {cells slots : Nat} {Z : State → Prop} {ls : Array Slot} {G : va_G} {kT : Nat → ClassId} {q : Nat → Nat} {a0 o1 o2 b n : Nat} {xs : Nat → Int32} {T : mT} {D : mD} {th : Int32} {e1 e2 : va_E} (C : lx_C l p s m args c G kT q o1 o2 b n xs) (hW : lx_W G kT q a0 o1 o2 T D T D th e1 e2 s H locs) (hP1 : oL kT False 0 e1) (hP2 : oD kT False 0 e2) {i : Nat} (hi : i + 6 ≤ n) (hn : n ≤ 3072) (hcs : cells + 2 ≤ room_1.cells ∧ slots + 260 ≤ room_1.slots) (hl : lv_has ls 10 (lx_l b a0 (q 0) o1 o2 i)) (hk : lx_K p l e s m args below meth c Z G kT q a0 o1 o2 b cells slots i) : W p l e room_1 s m args below meth c H locs cells slots Z (F0 m 1230 ls []) := by
  have hl : lv_has ls 10 [(0, .ref b), (1, .ref a0), (2, .ref (q 0)), (3, .ref o1), (4, .ref o2), (5, .int (nI i))] := hl
  refine lv_aload_n C.1.1 C.1.2.1 dL_law_1230 rfl (lv_at hl 1 rfl) ?_
  refine lv_aload_n C.1.1 C.1.2.1 dL_law_1231 rfl (lv_at hl 0 rfl) ?_
  refine lv_iload C.1.1 C.1.2.1 dL_law_1232 (lv_at hl 5 rfl) ?_
  refine lv_iconst (v := nI 1) C.1.1 C.1.2.1 dL_law_1234 (by decide) ?_
  refine n_iadd C.1.1 C.1.2.1 dL_law_1235 ?_
  refine lx_sld C hW.S (j := i + 1) (by omega) (by omega) dL_law_1236 ?_
  refine lv_aload_n C.1.1 C.1.2.1 dL_law_1237 rfl (lv_at hl 3 rfl) ?_
  have hIJ := hW.IJ
  refine lx_callw C hW hP1 (wo_size l C.2.2.2.2.2.2.2.2.2.2 hIJ.1 hIJ.2 (xs (i + 1))) (vx_cwSW 3 C.1.2.2.2.2 gL_law_L_size rfl rfl rfl (by decide +kernel) ⟨Nat.le_of_ble_eq_true rfl, Nat.le_of_ble_eq_true rfl⟩) rfl rfl hl.1 (Nat.le_of_ble_eq_true rfl) dL_law_1238 hcs (fun H locs e9 hW hP => ?_)
  refine lv_istore (lv' := [(6, .int (nI (sp_size T D 0 (xs (i + 1))).1)), (0, .ref b), (1, .ref a0), (2, .ref (q 0)), (3, .ref o1), (4, .ref o2), (5, .int (nI i))]) C.1.1 C.1.2.1 dL_law_1241 hl (by decide) rfl (fun ls hl => ?_)
  refine lv_aload_n C.1.1 C.1.2.1 dL_law_1243 rfl (lv_at hl 3 rfl) ?_
  refine lv_aload_n C.1.1 C.1.2.1 dL_law_1244 rfl (lv_at hl 1 rfl) ?_
  refine lv_iload C.1.1 C.1.2.1 dL_law_1245 (lv_at hl 6 rfl) ?_
  refine lv_iconst (v := nI 1) C.1.1 C.1.2.1 dL_law_1247 (by decide) ?_
  refine n_iadd C.1.1 C.1.2.1 dL_law_1248 ?_
  refine lx_sld C hW.S (j := i + 1) (by omega) (by omega) dL_law_1249 ?_
  refine lx_callmi C hW (mo_size l C.2.2.2.2.2.1 _ _ _ hIJ.1 hIJ.2 (xs (i + 1))) (cwV 1 C.1.2.2.2.2 gL_law_X7_size rfl rfl rfl (by decide +kernel) ⟨Nat.le_of_ble_eq_true rfl, Nat.le_of_ble_eq_true rfl⟩) rfl rfl hl.1 (Nat.le_of_ble_eq_true rfl) dL_law_1250 hcs (fun H locs hW => ?_)
  refine lv_istore (lv' := [(7, .int ((sp_size T D 0 (xs (i + 1))).2.1)), (6, .int (nI (sp_size T D 0 (xs (i + 1))).1)), (0, .ref b), (1, .ref a0), (2, .ref (q 0)), (3, .ref o1), (4, .ref o2), (5, .int (nI i))]) C.1.1 C.1.2.1 dL_law_1253 hl (by decide) rfl (fun ls hl => ?_)
  refine lv_aload_n C.1.1 C.1.2.1 dL_law_1255 rfl (lv_at hl 4 rfl) ?_
  refine lx_callmi C hW (mt_thrown l C.2.2.2.2.2.1 _ _ _) (cwV 0 C.1.2.2.2.2 gL_law_X7_thrown rfl rfl rfl (by decide +kernel) ⟨Nat.le_of_ble_eq_true rfl, Nat.le_of_ble_eq_true rfl⟩) rfl rfl hl.1 (Nat.le_of_ble_eq_true rfl) dL_law_1256 hcs (fun H locs hW => ?_)
  refine lv_iload C.1.1 C.1.2.1 dL_law_1259 (lv_at hl 1 rfl) ?_
  refine x_icmp_eq_t (tgt := 1266) C.1.1 C.1.2.1 dL_law_1261 (by decide) rfl ?_
  refine lv_iload C.1.1 C.1.2.1 dL_law_1266 (lv_at hl 1 rfl) ?_
  have h4 : (sp_size T D 0 (xs (i + 1))).1 ≤ 4 := sp_size_c T D (xs (i + 1)) 0 0 0 0 0 0 0
  rcases Decidable.em ((sp_size T D 0 (xs (i + 1))).1 = 0) with h0 | h0
  · refine x_if_ne_f (tgt := 1283) C.1.1 C.1.2.1 dL_law_1268 (by decide) (by rw [h0]; rfl) ?_
    obtain ⟨f9, rfl, hf9⟩ := hP
    have hf9 := hf9 h0
    refine lv_aload_n C.1.1 C.1.2.1 dL_law_1271 rfl (lv_at hl 5 rfl) ?_
    refine lv_iconst (v := nI 0) C.1.1 C.1.2.1 dL_law_1272 (by decide) ?_
    refine lx_lld C hW dL_law_1273 ?_
    refine lv_iload C.1.1 C.1.2.1 dL_law_1274 (lv_at hl 0 rfl) ?_
    refine lv_i2l (v := ((sp_size T D 0 (xs (i + 1))).2.1).toInt64) C.1.1 C.1.2.1 dL_law_1276 rfl ?_
    refine W.lcmp C.1.1 C.1.2.1 dL_law_1277 ?_
    refine x_if_eq_t (tgt := 1283) C.1.1 C.1.2.1 dL_law_1278 (by decide) (by rw [hf9]; exact lx_cmp0 _) ?_
    refine lv_goto (tgt := 3303) C.1.1 C.1.2.1 dL_law_1283 (by decide) ?_
    exact hk H locs _ _ _ _ _ _ _ hW ⟨f9, rfl, fun z => z.elim⟩ hP2 (by omega) (by omega) ls (lv_sub hl [2, 3, 4, 5, 6, 7] rfl)
  · refine x_if_ne_t (tgt := 1283) C.1.1 C.1.2.1 dL_law_1268 (by decide) (fun z => h0 (nI_inj (by omega) (by decide) z)) ?_
    refine lv_goto (tgt := 3303) C.1.1 C.1.2.1 dL_law_1283 (by decide) ?_
    exact hk H locs _ _ _ _ _ _ _ hW (oL_w hP) hP2 (by omega) (by omega) ls (lv_sub hl [2, 3, 4, 5, 6, 7] rfl)

set_option maxHeartbeats 4000000 in
set_option maxRecDepth 100000 in
theorem lx_c14 {p : Program} {l : Launch} {e : Env} {s : State} {m : MethodId} {args : Array Value} {below : List Frame} {meth : Method} {c : Code} {H : Heap} {locs : List Loc} {cells slots : Nat} {Z : State → Prop} {ls : Array Slot} {G : va_G} {kT : Nat → ClassId} {q : Nat → Nat} {a0 o1 o2 b n : Nat} {xs : Nat → Int32} {T : mT} {D : mD} {th : Int32} {e1 e2 : va_E} (C : lx_C l p s m args c G kT q o1 o2 b n xs) (hW : lx_W G kT q a0 o1 o2 T D T D th e1 e2 s H locs) (hP1 : oL kT False 0 e1) (hP2 : oD kT False 0 e2) {i : Nat} (hi : i + 6 ≤ n) (hn : n ≤ 3072) (hcs : cells + 2 ≤ room_1.cells ∧ slots + 260 ≤ room_1.slots) (hl : lv_has ls 10 (lx_l b a0 (q 0) o1 o2 i)) (hk : lx_K p l e s m args below meth c Z G kT q a0 o1 o2 b cells slots i) : W p l e room_1 s m args below meth c H locs cells slots Z (F0 m 1286 ls []) := by
  have hl : lv_has ls 10 [(0, .ref b), (1, .ref a0), (2, .ref (q 0)), (3, .ref o1), (4, .ref o2), (5, .int (nI i))] := hl
  refine lv_aload_n C.1.1 C.1.2.1 dL_law_1286 rfl (lv_at hl 1 rfl) ?_
  refine lv_aload_n C.1.1 C.1.2.1 dL_law_1287 rfl (lv_at hl 0 rfl) ?_
  refine lv_iload C.1.1 C.1.2.1 dL_law_1288 (lv_at hl 5 rfl) ?_
  refine lv_iconst (v := nI 1) C.1.1 C.1.2.1 dL_law_1290 (by decide) ?_
  refine n_iadd C.1.1 C.1.2.1 dL_law_1291 ?_
  refine lx_sld C hW.S (j := i + 1) (by omega) (by omega) dL_law_1292 ?_
  refine lv_aload_n C.1.1 C.1.2.1 dL_law_1293 rfl (lv_at hl 0 rfl) ?_
  refine lv_iload C.1.1 C.1.2.1 dL_law_1294 (lv_at hl 5 rfl) ?_
  refine lv_iconst (v := nI 2) C.1.1 C.1.2.1 dL_law_1296 (by decide) ?_
  refine n_iadd C.1.1 C.1.2.1 dL_law_1297 ?_
  refine lx_sld C hW.S (j := i + 2) (by omega) (by omega) dL_law_1298 ?_
  refine lv_aload_n C.1.1 C.1.2.1 dL_law_1299 rfl (lv_at hl 3 rfl) ?_
  have hIJ := hW.IJ
  refine lx_callw C hW hP1 (wo_take l C.2.2.2.2.2.2.2.2.2.2 hIJ.1 hIJ.2 (xs (i + 1)) (xs (i + 2))) (vx_cwSW 4 C.1.2.2.2.2 gL_law_L_take rfl rfl rfl (by decide +kernel) ⟨Nat.le_of_ble_eq_true rfl, Nat.le_of_ble_eq_true rfl⟩) rfl rfl hl.1 (Nat.le_of_ble_eq_true rfl) dL_law_1300 hcs (fun H locs e9 hW hP => ?_)
  refine lv_istore (lv' := [(6, .int (nI (sp_taken T D 0 (xs (i + 1)) (xs (i + 2))).1)), (0, .ref b), (1, .ref a0), (2, .ref (q 0)), (3, .ref o1), (4, .ref o2), (5, .int (nI i))]) C.1.1 C.1.2.1 dL_law_1303 hl (by decide) rfl (fun ls hl => ?_)
  refine lv_aload_n C.1.1 C.1.2.1 dL_law_1305 rfl (lv_at hl 3 rfl) ?_
  refine lv_aload_n C.1.1 C.1.2.1 dL_law_1306 rfl (lv_at hl 1 rfl) ?_
  refine lv_iload C.1.1 C.1.2.1 dL_law_1307 (lv_at hl 6 rfl) ?_
  refine lv_iconst (v := nI 1) C.1.1 C.1.2.1 dL_law_1309 (by decide) ?_
  refine n_iadd C.1.1 C.1.2.1 dL_law_1310 ?_
  refine lx_sld C hW.S (j := i + 1) (by omega) (by omega) dL_law_1311 ?_
  refine lv_aload_n C.1.1 C.1.2.1 dL_law_1312 rfl (lv_at hl 1 rfl) ?_
  refine lv_iload C.1.1 C.1.2.1 dL_law_1313 (lv_at hl 6 rfl) ?_
  refine lv_iconst (v := nI 2) C.1.1 C.1.2.1 dL_law_1315 (by decide) ?_
  refine n_iadd C.1.1 C.1.2.1 dL_law_1316 ?_
  refine lx_sld C hW.S (j := i + 2) (by omega) (by omega) dL_law_1317 ?_
  refine lx_callmi C hW (mo_take l C.2.2.2.2.2.1 _ _ _ hIJ.1 hIJ.2 (xs (i + 1)) (xs (i + 2))) (cwV 2 C.1.2.2.2.2 gL_law_X7_take rfl rfl rfl (by decide +kernel) ⟨Nat.le_of_ble_eq_true rfl, Nat.le_of_ble_eq_true rfl⟩) rfl rfl hl.1 (Nat.le_of_ble_eq_true rfl) dL_law_1318 hcs (fun H locs hW => ?_)
  refine lv_istore (lv' := [(7, .int ((sp_taken T D 0 (xs (i + 1)) (xs (i + 2))).2.1)), (6, .int (nI (sp_taken T D 0 (xs (i + 1)) (xs (i + 2))).1)), (0, .ref b), (1, .ref a0), (2, .ref (q 0)), (3, .ref o1), (4, .ref o2), (5, .int (nI i))]) C.1.1 C.1.2.1 dL_law_1321 hl (by decide) rfl (fun ls hl => ?_)
  refine lv_aload_n C.1.1 C.1.2.1 dL_law_1323 rfl (lv_at hl 4 rfl) ?_
  refine lx_callmi C hW (mt_thrown l C.2.2.2.2.2.1 _ _ _) (cwV 0 C.1.2.2.2.2 gL_law_X7_thrown rfl rfl rfl (by decide +kernel) ⟨Nat.le_of_ble_eq_true rfl, Nat.le_of_ble_eq_true rfl⟩) rfl rfl hl.1 (Nat.le_of_ble_eq_true rfl) dL_law_1324 hcs (fun H locs hW => ?_)
  refine lv_iload C.1.1 C.1.2.1 dL_law_1327 (lv_at hl 1 rfl) ?_
  refine x_icmp_eq_t (tgt := 1334) C.1.1 C.1.2.1 dL_law_1329 (by decide) rfl ?_
  refine lv_iload C.1.1 C.1.2.1 dL_law_1334 (lv_at hl 1 rfl) ?_
  have h4 : (sp_taken T D 0 (xs (i + 1)) (xs (i + 2))).1 ≤ 4 := sp_taken_c T D (xs (i + 1)) (xs (i + 2)) 0 0 0 0 0 0
  rcases Decidable.em ((sp_taken T D 0 (xs (i + 1)) (xs (i + 2))).1 = 0) with h0 | h0
  · refine x_if_ne_f (tgt := 1351) C.1.1 C.1.2.1 dL_law_1336 (by decide) (by rw [h0]; rfl) ?_
    obtain ⟨f9, rfl, hf9⟩ := hP
    have hf9 := hf9 h0
    refine lv_aload_n C.1.1 C.1.2.1 dL_law_1339 rfl (lv_at hl 5 rfl) ?_
    refine lv_iconst (v := nI 0) C.1.1 C.1.2.1 dL_law_1340 (by decide) ?_
    refine lx_lld C hW dL_law_1341 ?_
    refine lv_iload C.1.1 C.1.2.1 dL_law_1342 (lv_at hl 0 rfl) ?_
    refine lv_i2l (v := ((sp_taken T D 0 (xs (i + 1)) (xs (i + 2))).2.1).toInt64) C.1.1 C.1.2.1 dL_law_1344 rfl ?_
    refine W.lcmp C.1.1 C.1.2.1 dL_law_1345 ?_
    refine x_if_eq_t (tgt := 1351) C.1.1 C.1.2.1 dL_law_1346 (by decide) (by rw [hf9]; exact lx_cmp0 _) ?_
    refine lv_goto (tgt := 3303) C.1.1 C.1.2.1 dL_law_1351 (by decide) ?_
    exact hk H locs _ _ _ _ _ _ _ hW ⟨f9, rfl, fun z => z.elim⟩ hP2 (by omega) (by omega) ls (lv_sub hl [2, 3, 4, 5, 6, 7] rfl)
  · refine x_if_ne_t (tgt := 1351) C.1.1 C.1.2.1 dL_law_1336 (by decide) (fun z => h0 (nI_inj (by omega) (by decide) z)) ?_
    refine lv_goto (tgt := 3303) C.1.1 C.1.2.1 dL_law_1351 (by decide) ?_
    exact hk H locs _ _ _ _ _ _ _ hW (oL_w hP) hP2 (by omega) (by omega) ls (lv_sub hl [2, 3, 4, 5, 6, 7] rfl)

set_option maxHeartbeats 4000000 in
set_option maxRecDepth 100000 in
theorem lx_c15 {p : Program} {l : Launch} {e : Env} {s : State} {m : MethodId} {args : Array Value} {below : List Frame} {meth : Method} {c : Code} {H : Heap} {locs : List Loc} {cells slots : Nat} {Z : State → Prop} {ls : Array Slot} {G : va_G} {kT : Nat → ClassId} {q : Nat → Nat} {a0 o1 o2 b n : Nat} {xs : Nat → Int32} {T : mT} {D : mD} {th : Int32} {e1 e2 : va_E} (C : lx_C l p s m args c G kT q o1 o2 b n xs) (hW : lx_W G kT q a0 o1 o2 T D T D th e1 e2 s H locs) (hP1 : oL kT False 0 e1) (hP2 : oD kT False 0 e2) {i : Nat} (hi : i + 6 ≤ n) (hn : n ≤ 3072) (hcs : cells + 2 ≤ room_1.cells ∧ slots + 260 ≤ room_1.slots) (hl : lv_has ls 10 (lx_l b a0 (q 0) o1 o2 i)) (hk : lx_K p l e s m args below meth c Z G kT q a0 o1 o2 b cells slots i) : W p l e room_1 s m args below meth c H locs cells slots Z (F0 m 1354 ls []) := by
  have hl : lv_has ls 10 [(0, .ref b), (1, .ref a0), (2, .ref (q 0)), (3, .ref o1), (4, .ref o2), (5, .int (nI i))] := hl
  refine lv_aload_n C.1.1 C.1.2.1 dL_law_1354 rfl (lv_at hl 1 rfl) ?_
  refine lv_aload_n C.1.1 C.1.2.1 dL_law_1355 rfl (lv_at hl 0 rfl) ?_
  refine lv_iload C.1.1 C.1.2.1 dL_law_1356 (lv_at hl 5 rfl) ?_
  refine lv_iconst (v := nI 1) C.1.1 C.1.2.1 dL_law_1358 (by decide) ?_
  refine n_iadd C.1.1 C.1.2.1 dL_law_1359 ?_
  refine lx_sld C hW.S (j := i + 1) (by omega) (by omega) dL_law_1360 ?_
  refine lv_aload_n C.1.1 C.1.2.1 dL_law_1361 rfl (lv_at hl 3 rfl) ?_
  have hIJ := hW.IJ
  refine lx_callw C hW hP1 (wo_empty l C.2.2.2.2.2.2.2.2.2.2 hIJ.1 hIJ.2 (xs (i + 1))) (vx_cwSW 3 C.1.2.2.2.2 gL_law_L_empty rfl rfl rfl (by decide +kernel) ⟨Nat.le_of_ble_eq_true rfl, Nat.le_of_ble_eq_true rfl⟩) rfl rfl hl.1 (Nat.le_of_ble_eq_true rfl) dL_law_1362 hcs (fun H locs e9 hW hP => ?_)
  refine lv_istore (lv' := [(6, .int (nI (sp_begin T D 3 (xs (i + 1))).1)), (0, .ref b), (1, .ref a0), (2, .ref (q 0)), (3, .ref o1), (4, .ref o2), (5, .int (nI i))]) C.1.1 C.1.2.1 dL_law_1365 hl (by decide) rfl (fun ls hl => ?_)
  refine lv_aload_n C.1.1 C.1.2.1 dL_law_1367 rfl (lv_at hl 3 rfl) ?_
  refine lv_aload_n C.1.1 C.1.2.1 dL_law_1368 rfl (lv_at hl 1 rfl) ?_
  refine lv_iload C.1.1 C.1.2.1 dL_law_1369 (lv_at hl 6 rfl) ?_
  refine lv_iconst (v := nI 1) C.1.1 C.1.2.1 dL_law_1371 (by decide) ?_
  refine n_iadd C.1.1 C.1.2.1 dL_law_1372 ?_
  refine lx_sld C hW.S (j := i + 1) (by omega) (by omega) dL_law_1373 ?_
  refine lx_callmi C hW (mo_empty l C.2.2.2.2.2.1 _ _ _ hIJ.1 hIJ.2 (xs (i + 1))) (cwV 1 C.1.2.2.2.2 gL_law_X7_empty rfl rfl rfl (by decide +kernel) ⟨Nat.le_of_ble_eq_true rfl, Nat.le_of_ble_eq_true rfl⟩) rfl rfl hl.1 (Nat.le_of_ble_eq_true rfl) dL_law_1374 hcs (fun H locs hW => ?_)
  refine lv_istore (lv' := [(7, .int ((sp_begin T D 3 (xs (i + 1))).2.1)), (6, .int (nI (sp_begin T D 3 (xs (i + 1))).1)), (0, .ref b), (1, .ref a0), (2, .ref (q 0)), (3, .ref o1), (4, .ref o2), (5, .int (nI i))]) C.1.1 C.1.2.1 dL_law_1377 hl (by decide) rfl (fun ls hl => ?_)
  refine lv_aload_n C.1.1 C.1.2.1 dL_law_1379 rfl (lv_at hl 4 rfl) ?_
  refine lx_callmi C hW (mt_thrown l C.2.2.2.2.2.1 _ _ _) (cwV 0 C.1.2.2.2.2 gL_law_X7_thrown rfl rfl rfl (by decide +kernel) ⟨Nat.le_of_ble_eq_true rfl, Nat.le_of_ble_eq_true rfl⟩) rfl rfl hl.1 (Nat.le_of_ble_eq_true rfl) dL_law_1380 hcs (fun H locs hW => ?_)
  refine lv_iload C.1.1 C.1.2.1 dL_law_1383 (lv_at hl 1 rfl) ?_
  refine x_icmp_eq_t (tgt := 1390) C.1.1 C.1.2.1 dL_law_1385 (by decide) rfl ?_
  refine lv_iload C.1.1 C.1.2.1 dL_law_1390 (lv_at hl 1 rfl) ?_
  have h4 : (sp_begin T D 3 (xs (i + 1))).1 ≤ 4 := sp_begin_c T D (xs (i + 1)) 0 0 0 0 0 3 0
  rcases Decidable.em ((sp_begin T D 3 (xs (i + 1))).1 = 0) with h0 | h0
  · refine x_if_ne_f (tgt := 1407) C.1.1 C.1.2.1 dL_law_1392 (by decide) (by rw [h0]; rfl) ?_
    obtain ⟨f9, rfl, hf9⟩ := hP
    have hf9 := hf9 h0
    refine lv_aload_n C.1.1 C.1.2.1 dL_law_1395 rfl (lv_at hl 5 rfl) ?_
    refine lv_iconst (v := nI 0) C.1.1 C.1.2.1 dL_law_1396 (by decide) ?_
    refine lx_lld C hW dL_law_1397 ?_
    refine lv_iload C.1.1 C.1.2.1 dL_law_1398 (lv_at hl 0 rfl) ?_
    refine lv_i2l (v := ((sp_begin T D 3 (xs (i + 1))).2.1).toInt64) C.1.1 C.1.2.1 dL_law_1400 rfl ?_
    refine W.lcmp C.1.1 C.1.2.1 dL_law_1401 ?_
    refine x_if_eq_t (tgt := 1407) C.1.1 C.1.2.1 dL_law_1402 (by decide) (by rw [hf9]; exact lx_cmp0 _) ?_
    refine lv_goto (tgt := 3303) C.1.1 C.1.2.1 dL_law_1407 (by decide) ?_
    exact hk H locs _ _ _ _ _ _ _ hW ⟨f9, rfl, fun z => z.elim⟩ hP2 (by omega) (by omega) ls (lv_sub hl [2, 3, 4, 5, 6, 7] rfl)
  · refine x_if_ne_t (tgt := 1407) C.1.1 C.1.2.1 dL_law_1392 (by decide) (fun z => h0 (nI_inj (by omega) (by decide) z)) ?_
    refine lv_goto (tgt := 3303) C.1.1 C.1.2.1 dL_law_1407 (by decide) ?_
    exact hk H locs _ _ _ _ _ _ _ hW (oL_w hP) hP2 (by omega) (by omega) ls (lv_sub hl [2, 3, 4, 5, 6, 7] rfl)

set_option maxHeartbeats 4000000 in
set_option maxRecDepth 100000 in
theorem lx_c16 {p : Program} {l : Launch} {e : Env} {s : State} {m : MethodId} {args : Array Value} {below : List Frame} {meth : Method} {c : Code} {H : Heap} {locs : List Loc} {cells slots : Nat} {Z : State → Prop} {ls : Array Slot} {G : va_G} {kT : Nat → ClassId} {q : Nat → Nat} {a0 o1 o2 b n : Nat} {xs : Nat → Int32} {T : mT} {D : mD} {th : Int32} {e1 e2 : va_E} (C : lx_C l p s m args c G kT q o1 o2 b n xs) (hW : lx_W G kT q a0 o1 o2 T D T D th e1 e2 s H locs) (hP1 : oL kT False 0 e1) (hP2 : oD kT False 0 e2) {i : Nat} (hi : i + 6 ≤ n) (hn : n ≤ 3072) (hcs : cells + 2 ≤ room_1.cells ∧ slots + 260 ≤ room_1.slots) (hl : lv_has ls 10 (lx_l b a0 (q 0) o1 o2 i)) (hk : lx_K p l e s m args below meth c Z G kT q a0 o1 o2 b cells slots i) : W p l e room_1 s m args below meth c H locs cells slots Z (F0 m 1410 ls []) := by
  have hl : lv_has ls 10 [(0, .ref b), (1, .ref a0), (2, .ref (q 0)), (3, .ref o1), (4, .ref o2), (5, .int (nI i))] := hl
  refine lv_aload_n C.1.1 C.1.2.1 dL_law_1410 rfl (lv_at hl 1 rfl) ?_
  refine lv_aload_n C.1.1 C.1.2.1 dL_law_1411 rfl (lv_at hl 0 rfl) ?_
  refine lv_iload C.1.1 C.1.2.1 dL_law_1412 (lv_at hl 5 rfl) ?_
  refine lv_iconst (v := nI 1) C.1.1 C.1.2.1 dL_law_1414 (by decide) ?_
  refine n_iadd C.1.1 C.1.2.1 dL_law_1415 ?_
  refine lx_sld C hW.S (j := i + 1) (by omega) (by omega) dL_law_1416 ?_
  refine lv_aload_n C.1.1 C.1.2.1 dL_law_1417 rfl (lv_at hl 0 rfl) ?_
  refine lv_iload C.1.1 C.1.2.1 dL_law_1418 (lv_at hl 5 rfl) ?_
  refine lv_iconst (v := nI 2) C.1.1 C.1.2.1 dL_law_1420 (by decide) ?_
  refine n_iadd C.1.1 C.1.2.1 dL_law_1421 ?_
  refine lx_sld C hW.S (j := i + 2) (by omega) (by omega) dL_law_1422 ?_
  refine lv_aload_n C.1.1 C.1.2.1 dL_law_1423 rfl (lv_at hl 3 rfl) ?_
  have hIJ := hW.IJ
  refine lx_callw C hW hP1 (wo_arrayWrite l C.2.2.2.2.2.2.2.2.2.2 hIJ.1 hIJ.2 (xs (i + 1)) (xs (i + 2))) (vx_cwSW 4 C.1.2.2.2.2 gL_law_L_arrayWrite rfl rfl rfl (by decide +kernel) ⟨Nat.le_of_ble_eq_true rfl, Nat.le_of_ble_eq_true rfl⟩) rfl rfl hl.1 (Nat.le_of_ble_eq_true rfl) dL_law_1424 hcs (fun H locs e9 hW hP => ?_)
  refine lv_istore (lv' := [(6, .int (nI (sp_one T D 3 1 (xs (i + 1)) (xs (i + 2))).1)), (0, .ref b), (1, .ref a0), (2, .ref (q 0)), (3, .ref o1), (4, .ref o2), (5, .int (nI i))]) C.1.1 C.1.2.1 dL_law_1427 hl (by decide) rfl (fun ls hl => ?_)
  refine lv_aload_n C.1.1 C.1.2.1 dL_law_1429 rfl (lv_at hl 3 rfl) ?_
  refine lv_aload_n C.1.1 C.1.2.1 dL_law_1430 rfl (lv_at hl 1 rfl) ?_
  refine lv_iload C.1.1 C.1.2.1 dL_law_1431 (lv_at hl 6 rfl) ?_
  refine lv_iconst (v := nI 1) C.1.1 C.1.2.1 dL_law_1433 (by decide) ?_
  refine n_iadd C.1.1 C.1.2.1 dL_law_1434 ?_
  refine lx_sld C hW.S (j := i + 1) (by omega) (by omega) dL_law_1435 ?_
  refine lv_aload_n C.1.1 C.1.2.1 dL_law_1436 rfl (lv_at hl 1 rfl) ?_
  refine lv_iload C.1.1 C.1.2.1 dL_law_1437 (lv_at hl 6 rfl) ?_
  refine lv_iconst (v := nI 2) C.1.1 C.1.2.1 dL_law_1439 (by decide) ?_
  refine n_iadd C.1.1 C.1.2.1 dL_law_1440 ?_
  refine lx_sld C hW.S (j := i + 2) (by omega) (by omega) dL_law_1441 ?_
  refine lx_callmi C hW (mo_arrayWrite l C.2.2.2.2.2.1 _ _ _ hIJ.1 hIJ.2 (xs (i + 1)) (xs (i + 2))) (cwV 2 C.1.2.2.2.2 gL_law_X7_arrayWrite rfl rfl rfl (by decide +kernel) ⟨Nat.le_of_ble_eq_true rfl, Nat.le_of_ble_eq_true rfl⟩) rfl rfl hl.1 (Nat.le_of_ble_eq_true rfl) dL_law_1442 hcs (fun H locs hW => ?_)
  refine lv_istore (lv' := [(7, .int ((sp_one T D 3 1 (xs (i + 1)) (xs (i + 2))).2.1)), (6, .int (nI (sp_one T D 3 1 (xs (i + 1)) (xs (i + 2))).1)), (0, .ref b), (1, .ref a0), (2, .ref (q 0)), (3, .ref o1), (4, .ref o2), (5, .int (nI i))]) C.1.1 C.1.2.1 dL_law_1445 hl (by decide) rfl (fun ls hl => ?_)
  refine lv_aload_n C.1.1 C.1.2.1 dL_law_1447 rfl (lv_at hl 4 rfl) ?_
  refine lx_callmi C hW (mt_thrown l C.2.2.2.2.2.1 _ _ _) (cwV 0 C.1.2.2.2.2 gL_law_X7_thrown rfl rfl rfl (by decide +kernel) ⟨Nat.le_of_ble_eq_true rfl, Nat.le_of_ble_eq_true rfl⟩) rfl rfl hl.1 (Nat.le_of_ble_eq_true rfl) dL_law_1448 hcs (fun H locs hW => ?_)
  refine lv_iload C.1.1 C.1.2.1 dL_law_1451 (lv_at hl 1 rfl) ?_
  refine x_icmp_eq_t (tgt := 1458) C.1.1 C.1.2.1 dL_law_1453 (by decide) rfl ?_
  refine lv_iload C.1.1 C.1.2.1 dL_law_1458 (lv_at hl 1 rfl) ?_
  have h4 : (sp_one T D 3 1 (xs (i + 1)) (xs (i + 2))).1 ≤ 4 := sp_one_c T D (xs (i + 1)) (xs (i + 2)) 0 0 0 0 3 1
  rcases Decidable.em ((sp_one T D 3 1 (xs (i + 1)) (xs (i + 2))).1 = 0) with h0 | h0
  · refine x_if_ne_f (tgt := 1475) C.1.1 C.1.2.1 dL_law_1460 (by decide) (by rw [h0]; rfl) ?_
    obtain ⟨f9, rfl, hf9⟩ := hP
    have hf9 := hf9 h0
    refine lv_aload_n C.1.1 C.1.2.1 dL_law_1463 rfl (lv_at hl 5 rfl) ?_
    refine lv_iconst (v := nI 0) C.1.1 C.1.2.1 dL_law_1464 (by decide) ?_
    refine lx_lld C hW dL_law_1465 ?_
    refine lv_iload C.1.1 C.1.2.1 dL_law_1466 (lv_at hl 0 rfl) ?_
    refine lv_i2l (v := ((sp_one T D 3 1 (xs (i + 1)) (xs (i + 2))).2.1).toInt64) C.1.1 C.1.2.1 dL_law_1468 rfl ?_
    refine W.lcmp C.1.1 C.1.2.1 dL_law_1469 ?_
    refine x_if_eq_t (tgt := 1475) C.1.1 C.1.2.1 dL_law_1470 (by decide) (by rw [hf9]; exact lx_cmp0 _) ?_
    refine lv_goto (tgt := 3303) C.1.1 C.1.2.1 dL_law_1475 (by decide) ?_
    exact hk H locs _ _ _ _ _ _ _ hW ⟨f9, rfl, fun z => z.elim⟩ hP2 (by omega) (by omega) ls (lv_sub hl [2, 3, 4, 5, 6, 7] rfl)
  · refine x_if_ne_t (tgt := 1475) C.1.1 C.1.2.1 dL_law_1460 (by decide) (fun z => h0 (nI_inj (by omega) (by decide) z)) ?_
    refine lv_goto (tgt := 3303) C.1.1 C.1.2.1 dL_law_1475 (by decide) ?_
    exact hk H locs _ _ _ _ _ _ _ hW (oL_w hP) hP2 (by omega) (by omega) ls (lv_sub hl [2, 3, 4, 5, 6, 7] rfl)

set_option maxHeartbeats 4000000 in
set_option maxRecDepth 100000 in
theorem lx_c17 {p : Program} {l : Launch} {e : Env} {s : State} {m : MethodId} {args : Array Value} {below : List Frame} {meth : Method} {c : Code} {H : Heap} {locs : List Loc} {cells slots : Nat} {Z : State → Prop} {ls : Array Slot} {G : va_G} {kT : Nat → ClassId} {q : Nat → Nat} {a0 o1 o2 b n : Nat} {xs : Nat → Int32} {T : mT} {D : mD} {th : Int32} {e1 e2 : va_E} (C : lx_C l p s m args c G kT q o1 o2 b n xs) (hW : lx_W G kT q a0 o1 o2 T D T D th e1 e2 s H locs) (hP1 : oL kT False 0 e1) (hP2 : oD kT False 0 e2) {i : Nat} (hi : i + 6 ≤ n) (hn : n ≤ 3072) (hcs : cells + 2 ≤ room_1.cells ∧ slots + 260 ≤ room_1.slots) (hl : lv_has ls 10 (lx_l b a0 (q 0) o1 o2 i)) (hk : lx_K p l e s m args below meth c Z G kT q a0 o1 o2 b cells slots i) : W p l e room_1 s m args below meth c H locs cells slots Z (F0 m 1478 ls []) := by
  have hl : lv_has ls 10 [(0, .ref b), (1, .ref a0), (2, .ref (q 0)), (3, .ref o1), (4, .ref o2), (5, .int (nI i))] := hl
  refine lv_aload_n C.1.1 C.1.2.1 dL_law_1478 rfl (lv_at hl 1 rfl) ?_
  refine lv_aload_n C.1.1 C.1.2.1 dL_law_1479 rfl (lv_at hl 0 rfl) ?_
  refine lv_iload C.1.1 C.1.2.1 dL_law_1480 (lv_at hl 5 rfl) ?_
  refine lv_iconst (v := nI 1) C.1.1 C.1.2.1 dL_law_1482 (by decide) ?_
  refine n_iadd C.1.1 C.1.2.1 dL_law_1483 ?_
  refine lx_sld C hW.S (j := i + 1) (by omega) (by omega) dL_law_1484 ?_
  refine lv_aload_n C.1.1 C.1.2.1 dL_law_1485 rfl (lv_at hl 0 rfl) ?_
  refine lv_iload C.1.1 C.1.2.1 dL_law_1486 (lv_at hl 5 rfl) ?_
  refine lv_iconst (v := nI 2) C.1.1 C.1.2.1 dL_law_1488 (by decide) ?_
  refine n_iadd C.1.1 C.1.2.1 dL_law_1489 ?_
  refine lx_sld C hW.S (j := i + 2) (by omega) (by omega) dL_law_1490 ?_
  refine lv_aload_n C.1.1 C.1.2.1 dL_law_1491 rfl (lv_at hl 0 rfl) ?_
  refine lv_iload C.1.1 C.1.2.1 dL_law_1492 (lv_at hl 5 rfl) ?_
  refine lv_iconst (v := nI 3) C.1.1 C.1.2.1 dL_law_1494 (by decide) ?_
  refine n_iadd C.1.1 C.1.2.1 dL_law_1495 ?_
  refine lx_sld C hW.S (j := i + 3) (by omega) (by omega) dL_law_1496 ?_
  refine lv_aload_n C.1.1 C.1.2.1 dL_law_1497 rfl (lv_at hl 0 rfl) ?_
  refine lv_iload C.1.1 C.1.2.1 dL_law_1498 (lv_at hl 5 rfl) ?_
  refine lv_iconst (v := nI 4) C.1.1 C.1.2.1 dL_law_1500 (by decide) ?_
  refine n_iadd C.1.1 C.1.2.1 dL_law_1501 ?_
  refine lx_sld C hW.S (j := i + 4) (by omega) (by omega) dL_law_1502 ?_
  refine lv_aload_n C.1.1 C.1.2.1 dL_law_1503 rfl (lv_at hl 3 rfl) ?_
  have hIJ := hW.IJ
  refine lx_callw C hW hP1 (wo_arrayText l C.2.2.2.2.2.2.2.2.2.2 hIJ.1 hIJ.2 (xs (i + 1)) (xs (i + 2)) (xs (i + 3)) (xs (i + 4))) (vx_cwSW 6 C.1.2.2.2.2 gL_law_L_arrayText rfl rfl rfl (by decide +kernel) ⟨Nat.le_of_ble_eq_true rfl, Nat.le_of_ble_eq_true rfl⟩) rfl rfl hl.1 (Nat.le_of_ble_eq_true rfl) dL_law_1504 hcs (fun H locs e9 hW hP => ?_)
  refine lv_istore (lv' := [(6, .int (nI (sp_part T D 3 (xs (i + 1)) (xs (i + 2)) (xs (i + 3)) (xs (i + 4))).1)), (0, .ref b), (1, .ref a0), (2, .ref (q 0)), (3, .ref o1), (4, .ref o2), (5, .int (nI i))]) C.1.1 C.1.2.1 dL_law_1507 hl (by decide) rfl (fun ls hl => ?_)
  refine lv_aload_n C.1.1 C.1.2.1 dL_law_1509 rfl (lv_at hl 3 rfl) ?_
  refine lv_aload_n C.1.1 C.1.2.1 dL_law_1510 rfl (lv_at hl 1 rfl) ?_
  refine lv_iload C.1.1 C.1.2.1 dL_law_1511 (lv_at hl 6 rfl) ?_
  refine lv_iconst (v := nI 1) C.1.1 C.1.2.1 dL_law_1513 (by decide) ?_
  refine n_iadd C.1.1 C.1.2.1 dL_law_1514 ?_
  refine lx_sld C hW.S (j := i + 1) (by omega) (by omega) dL_law_1515 ?_
  refine lv_aload_n C.1.1 C.1.2.1 dL_law_1516 rfl (lv_at hl 1 rfl) ?_
  refine lv_iload C.1.1 C.1.2.1 dL_law_1517 (lv_at hl 6 rfl) ?_
  refine lv_iconst (v := nI 2) C.1.1 C.1.2.1 dL_law_1519 (by decide) ?_
  refine n_iadd C.1.1 C.1.2.1 dL_law_1520 ?_
  refine lx_sld C hW.S (j := i + 2) (by omega) (by omega) dL_law_1521 ?_
  refine lv_aload_n C.1.1 C.1.2.1 dL_law_1522 rfl (lv_at hl 1 rfl) ?_
  refine lv_iload C.1.1 C.1.2.1 dL_law_1523 (lv_at hl 6 rfl) ?_
  refine lv_iconst (v := nI 3) C.1.1 C.1.2.1 dL_law_1525 (by decide) ?_
  refine n_iadd C.1.1 C.1.2.1 dL_law_1526 ?_
  refine lx_sld C hW.S (j := i + 3) (by omega) (by omega) dL_law_1527 ?_
  refine lv_aload_n C.1.1 C.1.2.1 dL_law_1528 rfl (lv_at hl 1 rfl) ?_
  refine lv_iload C.1.1 C.1.2.1 dL_law_1529 (lv_at hl 6 rfl) ?_
  refine lv_iconst (v := nI 4) C.1.1 C.1.2.1 dL_law_1531 (by decide) ?_
  refine n_iadd C.1.1 C.1.2.1 dL_law_1532 ?_
  refine lx_sld C hW.S (j := i + 4) (by omega) (by omega) dL_law_1533 ?_
  refine lx_callmi C hW (mo_arrayText l C.2.2.2.2.2.1 _ _ _ hIJ.1 hIJ.2 (xs (i + 1)) (xs (i + 2)) (xs (i + 3)) (xs (i + 4))) (cwV 4 C.1.2.2.2.2 gL_law_X7_arrayText rfl rfl rfl (by decide +kernel) ⟨Nat.le_of_ble_eq_true rfl, Nat.le_of_ble_eq_true rfl⟩) rfl rfl hl.1 (Nat.le_of_ble_eq_true rfl) dL_law_1534 hcs (fun H locs hW => ?_)
  refine lv_istore (lv' := [(7, .int ((sp_part T D 3 (xs (i + 1)) (xs (i + 2)) (xs (i + 3)) (xs (i + 4))).2.1)), (6, .int (nI (sp_part T D 3 (xs (i + 1)) (xs (i + 2)) (xs (i + 3)) (xs (i + 4))).1)), (0, .ref b), (1, .ref a0), (2, .ref (q 0)), (3, .ref o1), (4, .ref o2), (5, .int (nI i))]) C.1.1 C.1.2.1 dL_law_1537 hl (by decide) rfl (fun ls hl => ?_)
  refine lv_aload_n C.1.1 C.1.2.1 dL_law_1539 rfl (lv_at hl 4 rfl) ?_
  refine lx_callmi C hW (mt_thrown l C.2.2.2.2.2.1 _ _ _) (cwV 0 C.1.2.2.2.2 gL_law_X7_thrown rfl rfl rfl (by decide +kernel) ⟨Nat.le_of_ble_eq_true rfl, Nat.le_of_ble_eq_true rfl⟩) rfl rfl hl.1 (Nat.le_of_ble_eq_true rfl) dL_law_1540 hcs (fun H locs hW => ?_)
  refine lv_iload C.1.1 C.1.2.1 dL_law_1543 (lv_at hl 1 rfl) ?_
  refine x_icmp_eq_t (tgt := 1550) C.1.1 C.1.2.1 dL_law_1545 (by decide) rfl ?_
  refine lv_iload C.1.1 C.1.2.1 dL_law_1550 (lv_at hl 1 rfl) ?_
  have h4 : (sp_part T D 3 (xs (i + 1)) (xs (i + 2)) (xs (i + 3)) (xs (i + 4))).1 ≤ 4 := sp_part_c T D (xs (i + 1)) (xs (i + 2)) (xs (i + 3)) (xs (i + 4)) 0 0 3 0
  rcases Decidable.em ((sp_part T D 3 (xs (i + 1)) (xs (i + 2)) (xs (i + 3)) (xs (i + 4))).1 = 0) with h0 | h0
  · refine x_if_ne_f (tgt := 1567) C.1.1 C.1.2.1 dL_law_1552 (by decide) (by rw [h0]; rfl) ?_
    obtain ⟨f9, rfl, hf9⟩ := hP
    have hf9 := hf9 h0
    refine lv_aload_n C.1.1 C.1.2.1 dL_law_1555 rfl (lv_at hl 5 rfl) ?_
    refine lv_iconst (v := nI 0) C.1.1 C.1.2.1 dL_law_1556 (by decide) ?_
    refine lx_lld C hW dL_law_1557 ?_
    refine lv_iload C.1.1 C.1.2.1 dL_law_1558 (lv_at hl 0 rfl) ?_
    refine lv_i2l (v := ((sp_part T D 3 (xs (i + 1)) (xs (i + 2)) (xs (i + 3)) (xs (i + 4))).2.1).toInt64) C.1.1 C.1.2.1 dL_law_1560 rfl ?_
    refine W.lcmp C.1.1 C.1.2.1 dL_law_1561 ?_
    refine x_if_eq_t (tgt := 1567) C.1.1 C.1.2.1 dL_law_1562 (by decide) (by rw [hf9]; exact lx_cmp0 _) ?_
    refine lv_goto (tgt := 3303) C.1.1 C.1.2.1 dL_law_1567 (by decide) ?_
    exact hk H locs _ _ _ _ _ _ _ hW ⟨f9, rfl, fun z => z.elim⟩ hP2 (by omega) (by omega) ls (lv_sub hl [2, 3, 4, 5, 6, 7] rfl)
  · refine x_if_ne_t (tgt := 1567) C.1.1 C.1.2.1 dL_law_1552 (by decide) (fun z => h0 (nI_inj (by omega) (by decide) z)) ?_
    refine lv_goto (tgt := 3303) C.1.1 C.1.2.1 dL_law_1567 (by decide) ?_
    exact hk H locs _ _ _ _ _ _ _ hW (oL_w hP) hP2 (by omega) (by omega) ls (lv_sub hl [2, 3, 4, 5, 6, 7] rfl)
