set_option maxHeartbeats 4000000 in
set_option maxRecDepth 100000 in
theorem lx_c35 {p : Program} {l : Launch} {e : Env} {s : State} {m : MethodId} {args : Array Value} {below : List Frame} {meth : Method} {c : Code} {H : Heap} {locs : List Loc} {cells slots : Nat} {Z : State → Prop} {ls : Array Slot} {G : va_G} {kT : Nat → ClassId} {q : Nat → Nat} {a0 o1 o2 b n : Nat} {xs : Nat → Int32} {T : mT} {D : mD} {th : Int32} {e1 e2 : va_E} (C : lx_C l p s m args c G kT q o1 o2 b n xs) (hW : lx_W G kT q a0 o1 o2 T D T D th e1 e2 s H locs) (hP1 : oL kT False 0 e1) (hP2 : oD kT False 0 e2) {i : Nat} (hi : i + 6 ≤ n) (hn : n ≤ 3072) (hcs : cells + 2 ≤ room_1.cells ∧ slots + 260 ≤ room_1.slots) (hl : lv_has ls 10 (lx_l b a0 (q 0) o1 o2 i)) (hk : lx_K p l e s m args below meth c Z G kT q a0 o1 o2 b cells slots i) : W p l e room_1 s m args below meth c H locs cells slots Z (F0 m 2854 ls []) := by
  have hl : lv_has ls 10 [(0, .ref b), (1, .ref a0), (2, .ref (q 0)), (3, .ref o1), (4, .ref o2), (5, .int (nI i))] := hl
  refine lv_aload_n C.1.1 C.1.2.1 dL_law_2854 rfl (lv_at hl 1 rfl) ?_
  refine lv_aload_n C.1.1 C.1.2.1 dL_law_2855 rfl (lv_at hl 0 rfl) ?_
  refine lv_iload C.1.1 C.1.2.1 dL_law_2856 (lv_at hl 5 rfl) ?_
  refine lv_iconst (v := nI 1) C.1.1 C.1.2.1 dL_law_2858 (by decide) ?_
  refine n_iadd C.1.1 C.1.2.1 dL_law_2859 ?_
  refine lx_sld C hW.S (j := i + 1) (by omega) (by omega) dL_law_2860 ?_
  refine lv_aload_n C.1.1 C.1.2.1 dL_law_2861 rfl (lv_at hl 3 rfl) ?_
  have hIJ := hW.IJ
  refine lx_callw C hW hP1 (wo_next l C.2.2.2.2.2.2.2.2.2.2 hIJ.1 hIJ.2 (xs (i + 1))) (vx_cwSW 3 C.1.2.2.2.2 gL_law_L_next rfl rfl rfl (by decide +kernel) ⟨Nat.le_of_ble_eq_true rfl, Nat.le_of_ble_eq_true rfl⟩) rfl rfl hl.1 (Nat.le_of_ble_eq_true rfl) dL_law_2862 hcs (fun H locs e9 hW hP => ?_)
  refine lv_istore (lv' := [(6, .int (nI (sp_next T D (xs (i + 1))).1)), (0, .ref b), (1, .ref a0), (2, .ref (q 0)), (3, .ref o1), (4, .ref o2), (5, .int (nI i))]) C.1.1 C.1.2.1 dL_law_2865 hl (by decide) rfl (fun ls hl => ?_)
  refine lv_aload_n C.1.1 C.1.2.1 dL_law_2867 rfl (lv_at hl 3 rfl) ?_
  refine lv_aload_n C.1.1 C.1.2.1 dL_law_2868 rfl (lv_at hl 1 rfl) ?_
  refine lv_iload C.1.1 C.1.2.1 dL_law_2869 (lv_at hl 6 rfl) ?_
  refine lv_iconst (v := nI 1) C.1.1 C.1.2.1 dL_law_2871 (by decide) ?_
  refine n_iadd C.1.1 C.1.2.1 dL_law_2872 ?_
  refine lx_sld C hW.S (j := i + 1) (by omega) (by omega) dL_law_2873 ?_
  refine lx_callmi C hW (mo_next l C.2.2.2.2.2.1 _ _ _ hIJ.1 hIJ.2 (xs (i + 1))) (cwV 1 C.1.2.2.2.2 gL_law_X7_next rfl rfl rfl (by decide +kernel) ⟨Nat.le_of_ble_eq_true rfl, Nat.le_of_ble_eq_true rfl⟩) rfl rfl hl.1 (Nat.le_of_ble_eq_true rfl) dL_law_2874 hcs (fun H locs hW => ?_)
  refine lv_istore (lv' := [(7, .int ((sp_next T D (xs (i + 1))).2.1)), (6, .int (nI (sp_next T D (xs (i + 1))).1)), (0, .ref b), (1, .ref a0), (2, .ref (q 0)), (3, .ref o1), (4, .ref o2), (5, .int (nI i))]) C.1.1 C.1.2.1 dL_law_2877 hl (by decide) rfl (fun ls hl => ?_)
  refine lv_aload_n C.1.1 C.1.2.1 dL_law_2879 rfl (lv_at hl 4 rfl) ?_
  refine lx_callmi C hW (mt_thrown l C.2.2.2.2.2.1 _ _ _) (cwV 0 C.1.2.2.2.2 gL_law_X7_thrown rfl rfl rfl (by decide +kernel) ⟨Nat.le_of_ble_eq_true rfl, Nat.le_of_ble_eq_true rfl⟩) rfl rfl hl.1 (Nat.le_of_ble_eq_true rfl) dL_law_2880 hcs (fun H locs hW => ?_)
  refine lv_iload C.1.1 C.1.2.1 dL_law_2883 (lv_at hl 1 rfl) ?_
  refine x_icmp_eq_t (tgt := 2890) C.1.1 C.1.2.1 dL_law_2885 (by decide) rfl ?_
  refine lv_iload C.1.1 C.1.2.1 dL_law_2890 (lv_at hl 1 rfl) ?_
  have h4 : (sp_next T D (xs (i + 1))).1 ≤ 4 := sp_next_c T D (xs (i + 1)) 0 0 0 0 0 0 0
  rcases Decidable.em ((sp_next T D (xs (i + 1))).1 = 0) with h0 | h0
  · refine x_if_ne_f (tgt := 2907) C.1.1 C.1.2.1 dL_law_2892 (by decide) (by rw [h0]; rfl) ?_
    obtain ⟨f9, rfl, hf9⟩ := hP
    have hf9 := hf9 h0
    refine lv_aload_n C.1.1 C.1.2.1 dL_law_2895 rfl (lv_at hl 5 rfl) ?_
    refine lv_iconst (v := nI 0) C.1.1 C.1.2.1 dL_law_2896 (by decide) ?_
    refine lx_lld C hW dL_law_2897 ?_
    refine lv_iload C.1.1 C.1.2.1 dL_law_2898 (lv_at hl 0 rfl) ?_
    refine lv_i2l (v := ((sp_next T D (xs (i + 1))).2.1).toInt64) C.1.1 C.1.2.1 dL_law_2900 rfl ?_
    refine W.lcmp C.1.1 C.1.2.1 dL_law_2901 ?_
    refine x_if_eq_t (tgt := 2907) C.1.1 C.1.2.1 dL_law_2902 (by decide) (by rw [hf9]; exact lx_cmp0 _) ?_
    refine lv_goto (tgt := 3303) C.1.1 C.1.2.1 dL_law_2907 (by decide) ?_
    exact hk H locs _ _ _ _ _ _ _ hW ⟨f9, rfl, fun z => z.elim⟩ hP2 (by omega) (by omega) ls (lv_sub hl [2, 3, 4, 5, 6, 7] rfl)
  · refine x_if_ne_t (tgt := 2907) C.1.1 C.1.2.1 dL_law_2892 (by decide) (fun z => h0 (nI_inj (by omega) (by decide) z)) ?_
    refine lv_goto (tgt := 3303) C.1.1 C.1.2.1 dL_law_2907 (by decide) ?_
    exact hk H locs _ _ _ _ _ _ _ hW (oL_w hP) hP2 (by omega) (by omega) ls (lv_sub hl [2, 3, 4, 5, 6, 7] rfl)

set_option maxHeartbeats 4000000 in
set_option maxRecDepth 100000 in
theorem lx_c36 {p : Program} {l : Launch} {e : Env} {s : State} {m : MethodId} {args : Array Value} {below : List Frame} {meth : Method} {c : Code} {H : Heap} {locs : List Loc} {cells slots : Nat} {Z : State → Prop} {ls : Array Slot} {G : va_G} {kT : Nat → ClassId} {q : Nat → Nat} {a0 o1 o2 b n : Nat} {xs : Nat → Int32} {T : mT} {D : mD} {th : Int32} {e1 e2 : va_E} (C : lx_C l p s m args c G kT q o1 o2 b n xs) (hW : lx_W G kT q a0 o1 o2 T D T D th e1 e2 s H locs) (hP1 : oL kT False 0 e1) (hP2 : oD kT False 0 e2) {i : Nat} (hi : i + 6 ≤ n) (hn : n ≤ 3072) (hcs : cells + 2 ≤ room_1.cells ∧ slots + 260 ≤ room_1.slots) (hl : lv_has ls 10 (lx_l b a0 (q 0) o1 o2 i)) (hk : lx_K p l e s m args below meth c Z G kT q a0 o1 o2 b cells slots i) : W p l e room_1 s m args below meth c H locs cells slots Z (F0 m 2910 ls []) := by
  have hl : lv_has ls 10 [(0, .ref b), (1, .ref a0), (2, .ref (q 0)), (3, .ref o1), (4, .ref o2), (5, .int (nI i))] := hl
  refine lv_aload_n C.1.1 C.1.2.1 dL_law_2910 rfl (lv_at hl 1 rfl) ?_
  refine lv_aload_n C.1.1 C.1.2.1 dL_law_2911 rfl (lv_at hl 0 rfl) ?_
  refine lv_iload C.1.1 C.1.2.1 dL_law_2912 (lv_at hl 5 rfl) ?_
  refine lv_iconst (v := nI 1) C.1.1 C.1.2.1 dL_law_2914 (by decide) ?_
  refine n_iadd C.1.1 C.1.2.1 dL_law_2915 ?_
  refine lx_sld C hW.S (j := i + 1) (by omega) (by omega) dL_law_2916 ?_
  refine lv_aload_n C.1.1 C.1.2.1 dL_law_2917 rfl (lv_at hl 0 rfl) ?_
  refine lv_iload C.1.1 C.1.2.1 dL_law_2918 (lv_at hl 5 rfl) ?_
  refine lv_iconst (v := nI 2) C.1.1 C.1.2.1 dL_law_2920 (by decide) ?_
  refine n_iadd C.1.1 C.1.2.1 dL_law_2921 ?_
  refine lx_sld C hW.S (j := i + 2) (by omega) (by omega) dL_law_2922 ?_
  refine lv_aload_n C.1.1 C.1.2.1 dL_law_2923 rfl (lv_at hl 0 rfl) ?_
  refine lv_iload C.1.1 C.1.2.1 dL_law_2924 (lv_at hl 5 rfl) ?_
  refine lv_iconst (v := nI 3) C.1.1 C.1.2.1 dL_law_2926 (by decide) ?_
  refine n_iadd C.1.1 C.1.2.1 dL_law_2927 ?_
  refine lx_sld C hW.S (j := i + 3) (by omega) (by omega) dL_law_2928 ?_
  refine lv_aload_n C.1.1 C.1.2.1 dL_law_2929 rfl (lv_at hl 0 rfl) ?_
  refine lv_iload C.1.1 C.1.2.1 dL_law_2930 (lv_at hl 5 rfl) ?_
  refine lv_iconst (v := nI 4) C.1.1 C.1.2.1 dL_law_2932 (by decide) ?_
  refine n_iadd C.1.1 C.1.2.1 dL_law_2933 ?_
  refine lx_sld C hW.S (j := i + 4) (by omega) (by omega) dL_law_2934 ?_
  refine lv_aload_n C.1.1 C.1.2.1 dL_law_2935 rfl (lv_at hl 3 rfl) ?_
  have hIJ := hW.IJ
  refine lx_callw C hW hP1 (wo_nextPart l C.2.2.2.2.2.2.2.2.2.2 hIJ.1 hIJ.2 (xs (i + 1)) (xs (i + 2)) (xs (i + 3)) (xs (i + 4))) (vx_cwSW 6 C.1.2.2.2.2 gL_law_L_nextPart rfl rfl rfl (by decide +kernel) ⟨Nat.le_of_ble_eq_true rfl, Nat.le_of_ble_eq_true rfl⟩) rfl rfl hl.1 (Nat.le_of_ble_eq_true rfl) dL_law_2936 hcs (fun H locs e9 hW hP => ?_)
  refine lv_istore (lv' := [(6, .int (nI (sp_nextPart T D (xs (i + 1)) (xs (i + 2)) (xs (i + 3)) (xs (i + 4))).1)), (0, .ref b), (1, .ref a0), (2, .ref (q 0)), (3, .ref o1), (4, .ref o2), (5, .int (nI i))]) C.1.1 C.1.2.1 dL_law_2939 hl (by decide) rfl (fun ls hl => ?_)
  refine lv_aload_n C.1.1 C.1.2.1 dL_law_2941 rfl (lv_at hl 3 rfl) ?_
  refine lv_aload_n C.1.1 C.1.2.1 dL_law_2942 rfl (lv_at hl 1 rfl) ?_
  refine lv_iload C.1.1 C.1.2.1 dL_law_2943 (lv_at hl 6 rfl) ?_
  refine lv_iconst (v := nI 1) C.1.1 C.1.2.1 dL_law_2945 (by decide) ?_
  refine n_iadd C.1.1 C.1.2.1 dL_law_2946 ?_
  refine lx_sld C hW.S (j := i + 1) (by omega) (by omega) dL_law_2947 ?_
  refine lv_aload_n C.1.1 C.1.2.1 dL_law_2948 rfl (lv_at hl 1 rfl) ?_
  refine lv_iload C.1.1 C.1.2.1 dL_law_2949 (lv_at hl 6 rfl) ?_
  refine lv_iconst (v := nI 2) C.1.1 C.1.2.1 dL_law_2951 (by decide) ?_
  refine n_iadd C.1.1 C.1.2.1 dL_law_2952 ?_
  refine lx_sld C hW.S (j := i + 2) (by omega) (by omega) dL_law_2953 ?_
  refine lv_aload_n C.1.1 C.1.2.1 dL_law_2954 rfl (lv_at hl 1 rfl) ?_
  refine lv_iload C.1.1 C.1.2.1 dL_law_2955 (lv_at hl 6 rfl) ?_
  refine lv_iconst (v := nI 3) C.1.1 C.1.2.1 dL_law_2957 (by decide) ?_
  refine n_iadd C.1.1 C.1.2.1 dL_law_2958 ?_
  refine lx_sld C hW.S (j := i + 3) (by omega) (by omega) dL_law_2959 ?_
  refine lv_aload_n C.1.1 C.1.2.1 dL_law_2960 rfl (lv_at hl 1 rfl) ?_
  refine lv_iload C.1.1 C.1.2.1 dL_law_2961 (lv_at hl 6 rfl) ?_
  refine lv_iconst (v := nI 4) C.1.1 C.1.2.1 dL_law_2963 (by decide) ?_
  refine n_iadd C.1.1 C.1.2.1 dL_law_2964 ?_
  refine lx_sld C hW.S (j := i + 4) (by omega) (by omega) dL_law_2965 ?_
  refine lx_callmi C hW (mo_nextPart l C.2.2.2.2.2.1 _ _ _ hIJ.1 hIJ.2 (xs (i + 1)) (xs (i + 2)) (xs (i + 3)) (xs (i + 4))) (cwV 4 C.1.2.2.2.2 gL_law_X7_nextPart rfl rfl rfl (by decide +kernel) ⟨Nat.le_of_ble_eq_true rfl, Nat.le_of_ble_eq_true rfl⟩) rfl rfl hl.1 (Nat.le_of_ble_eq_true rfl) dL_law_2966 hcs (fun H locs hW => ?_)
  refine lv_istore (lv' := [(7, .int ((sp_nextPart T D (xs (i + 1)) (xs (i + 2)) (xs (i + 3)) (xs (i + 4))).2.1)), (6, .int (nI (sp_nextPart T D (xs (i + 1)) (xs (i + 2)) (xs (i + 3)) (xs (i + 4))).1)), (0, .ref b), (1, .ref a0), (2, .ref (q 0)), (3, .ref o1), (4, .ref o2), (5, .int (nI i))]) C.1.1 C.1.2.1 dL_law_2969 hl (by decide) rfl (fun ls hl => ?_)
  refine lv_aload_n C.1.1 C.1.2.1 dL_law_2971 rfl (lv_at hl 4 rfl) ?_
  refine lx_callmi C hW (mt_thrown l C.2.2.2.2.2.1 _ _ _) (cwV 0 C.1.2.2.2.2 gL_law_X7_thrown rfl rfl rfl (by decide +kernel) ⟨Nat.le_of_ble_eq_true rfl, Nat.le_of_ble_eq_true rfl⟩) rfl rfl hl.1 (Nat.le_of_ble_eq_true rfl) dL_law_2972 hcs (fun H locs hW => ?_)
  refine lv_iload C.1.1 C.1.2.1 dL_law_2975 (lv_at hl 1 rfl) ?_
  refine x_icmp_eq_t (tgt := 2982) C.1.1 C.1.2.1 dL_law_2977 (by decide) rfl ?_
  refine lv_iload C.1.1 C.1.2.1 dL_law_2982 (lv_at hl 1 rfl) ?_
  have h4 : (sp_nextPart T D (xs (i + 1)) (xs (i + 2)) (xs (i + 3)) (xs (i + 4))).1 ≤ 4 := sp_nextPart_c T D (xs (i + 1)) (xs (i + 2)) (xs (i + 3)) (xs (i + 4)) 0 0 0 0
  rcases Decidable.em ((sp_nextPart T D (xs (i + 1)) (xs (i + 2)) (xs (i + 3)) (xs (i + 4))).1 = 0) with h0 | h0
  · refine x_if_ne_f (tgt := 2999) C.1.1 C.1.2.1 dL_law_2984 (by decide) (by rw [h0]; rfl) ?_
    obtain ⟨f9, rfl, hf9⟩ := hP
    have hf9 := hf9 h0
    refine lv_aload_n C.1.1 C.1.2.1 dL_law_2987 rfl (lv_at hl 5 rfl) ?_
    refine lv_iconst (v := nI 0) C.1.1 C.1.2.1 dL_law_2988 (by decide) ?_
    refine lx_lld C hW dL_law_2989 ?_
    refine lv_iload C.1.1 C.1.2.1 dL_law_2990 (lv_at hl 0 rfl) ?_
    refine lv_i2l (v := ((sp_nextPart T D (xs (i + 1)) (xs (i + 2)) (xs (i + 3)) (xs (i + 4))).2.1).toInt64) C.1.1 C.1.2.1 dL_law_2992 rfl ?_
    refine W.lcmp C.1.1 C.1.2.1 dL_law_2993 ?_
    refine x_if_eq_t (tgt := 2999) C.1.1 C.1.2.1 dL_law_2994 (by decide) (by rw [hf9]; exact lx_cmp0 _) ?_
    refine lv_goto (tgt := 3303) C.1.1 C.1.2.1 dL_law_2999 (by decide) ?_
    exact hk H locs _ _ _ _ _ _ _ hW ⟨f9, rfl, fun z => z.elim⟩ hP2 (by omega) (by omega) ls (lv_sub hl [2, 3, 4, 5, 6, 7] rfl)
  · refine x_if_ne_t (tgt := 2999) C.1.1 C.1.2.1 dL_law_2984 (by decide) (fun z => h0 (nI_inj (by omega) (by decide) z)) ?_
    refine lv_goto (tgt := 3303) C.1.1 C.1.2.1 dL_law_2999 (by decide) ?_
    exact hk H locs _ _ _ _ _ _ _ hW (oL_w hP) hP2 (by omega) (by omega) ls (lv_sub hl [2, 3, 4, 5, 6, 7] rfl)

set_option maxHeartbeats 4000000 in
set_option maxRecDepth 100000 in
theorem lx_c37 {p : Program} {l : Launch} {e : Env} {s : State} {m : MethodId} {args : Array Value} {below : List Frame} {meth : Method} {c : Code} {H : Heap} {locs : List Loc} {cells slots : Nat} {Z : State → Prop} {ls : Array Slot} {G : va_G} {kT : Nat → ClassId} {q : Nat → Nat} {a0 o1 o2 b n : Nat} {xs : Nat → Int32} {T : mT} {D : mD} {th : Int32} {e1 e2 : va_E} (C : lx_C l p s m args c G kT q o1 o2 b n xs) (hW : lx_W G kT q a0 o1 o2 T D T D th e1 e2 s H locs) (hP1 : oL kT False 0 e1) (hP2 : oD kT False 0 e2) {i : Nat} (hi : i + 6 ≤ n) (hn : n ≤ 3072) (hcs : cells + 2 ≤ room_1.cells ∧ slots + 260 ≤ room_1.slots) (hl : lv_has ls 10 (lx_l b a0 (q 0) o1 o2 i)) (hk : lx_K p l e s m args below meth c Z G kT q a0 o1 o2 b cells slots i) : W p l e room_1 s m args below meth c H locs cells slots Z (F0 m 3002 ls []) := by
  have hl : lv_has ls 10 [(0, .ref b), (1, .ref a0), (2, .ref (q 0)), (3, .ref o1), (4, .ref o2), (5, .int (nI i))] := hl
  have hc258 : Cond.constantLong RL 258 4294967295 ∈ wsL_law := wsL_law_258
  refine lv_aload_n C.1.1 C.1.2.1 dL_law_3002 rfl (lv_at hl 1 rfl) ?_
  refine lv_aload_n C.1.1 C.1.2.1 dL_law_3003 rfl (lv_at hl 0 rfl) ?_
  refine lv_iload C.1.1 C.1.2.1 dL_law_3004 (lv_at hl 5 rfl) ?_
  refine lv_iconst (v := nI 1) C.1.1 C.1.2.1 dL_law_3006 (by decide) ?_
  refine n_iadd C.1.1 C.1.2.1 dL_law_3007 ?_
  refine lx_sld C hW.S (j := i + 1) (by omega) (by omega) dL_law_3008 ?_
  refine lv_aload_n C.1.1 C.1.2.1 dL_law_3009 rfl (lv_at hl 0 rfl) ?_
  refine lv_iload C.1.1 C.1.2.1 dL_law_3010 (lv_at hl 5 rfl) ?_
  refine lv_iconst (v := nI 2) C.1.1 C.1.2.1 dL_law_3012 (by decide) ?_
  refine n_iadd C.1.1 C.1.2.1 dL_law_3013 ?_
  refine lx_sld C hW.S (j := i + 2) (by omega) (by omega) dL_law_3014 ?_
  refine lv_i2l (v := (xs (i + 2)).toInt64) C.1.1 C.1.2.1 dL_law_3015 rfl ?_
  refine lv_bipush (v := nI 32) C.1.1 C.1.2.1 dL_law_3016 (by decide) ?_
  refine lv_lshl (v := ((xs (i + 2)).toInt64) <<< ((nI 32).toInt64 &&& 63)) C.1.1 C.1.2.1 dL_law_3018 rfl ?_
  refine lv_aload_n C.1.1 C.1.2.1 dL_law_3019 rfl (lv_at hl 0 rfl) ?_
  refine lv_iload C.1.1 C.1.2.1 dL_law_3020 (lv_at hl 5 rfl) ?_
  refine lv_iconst (v := nI 3) C.1.1 C.1.2.1 dL_law_3022 (by decide) ?_
  refine n_iadd C.1.1 C.1.2.1 dL_law_3023 ?_
  refine lx_sld C hW.S (j := i + 3) (by omega) (by omega) dL_law_3024 ?_
  refine lv_i2l (v := (xs (i + 3)).toInt64) C.1.1 C.1.2.1 dL_law_3025 rfl ?_
  refine lv_ldc2 C.1.1 C.1.2.1 C.1.2.2.2.1 (C.1.2.2.2.2 (.constantLong RL 258 4294967295) hc258) dL_law_3026 ?_
  refine lv_land C.1.1 C.1.2.1 dL_law_3029 ?_
  refine lv_lor C.1.1 C.1.2.1 dL_law_3030 ?_
  refine lv_aload_n C.1.1 C.1.2.1 dL_law_3031 rfl (lv_at hl 3 rfl) ?_
  have hIJ := hW.IJ
  refine lx_callw C hW hP1 (wo_pass l C.2.2.2.2.2.2.2.2.2.2 hIJ.1 hIJ.2 (xs (i + 1)) ((((xs (i + 2)).toInt64) <<< ((nI 32).toInt64 &&& 63)) ||| (((xs (i + 3)).toInt64) &&& (4294967295)))) (vx_cwSW 4 C.1.2.2.2.2 gL_law_L_pass rfl rfl rfl (by decide +kernel) ⟨Nat.le_of_ble_eq_true rfl, Nat.le_of_ble_eq_true rfl⟩) rfl rfl hl.1 (Nat.le_of_ble_eq_true rfl) dL_law_3032 hcs (fun H locs e9 hW hP => ?_)
  refine lv_istore (lv' := [(6, .int (nI (sp_pass T D (xs (i + 1)) ((((xs (i + 2)).toInt64) <<< ((nI 32).toInt64 &&& 63)) ||| (((xs (i + 3)).toInt64) &&& (4294967295)))).1)), (0, .ref b), (1, .ref a0), (2, .ref (q 0)), (3, .ref o1), (4, .ref o2), (5, .int (nI i))]) C.1.1 C.1.2.1 dL_law_3035 hl (by decide) rfl (fun ls hl => ?_)
  refine lv_aload_n C.1.1 C.1.2.1 dL_law_3037 rfl (lv_at hl 3 rfl) ?_
  refine lv_aload_n C.1.1 C.1.2.1 dL_law_3038 rfl (lv_at hl 1 rfl) ?_
  refine lv_iload C.1.1 C.1.2.1 dL_law_3039 (lv_at hl 6 rfl) ?_
  refine lv_iconst (v := nI 1) C.1.1 C.1.2.1 dL_law_3041 (by decide) ?_
  refine n_iadd C.1.1 C.1.2.1 dL_law_3042 ?_
  refine lx_sld C hW.S (j := i + 1) (by omega) (by omega) dL_law_3043 ?_
  refine lv_aload_n C.1.1 C.1.2.1 dL_law_3044 rfl (lv_at hl 1 rfl) ?_
  refine lv_iload C.1.1 C.1.2.1 dL_law_3045 (lv_at hl 6 rfl) ?_
  refine lv_iconst (v := nI 2) C.1.1 C.1.2.1 dL_law_3047 (by decide) ?_
  refine n_iadd C.1.1 C.1.2.1 dL_law_3048 ?_
  refine lx_sld C hW.S (j := i + 2) (by omega) (by omega) dL_law_3049 ?_
  refine lv_i2l (v := (xs (i + 2)).toInt64) C.1.1 C.1.2.1 dL_law_3050 rfl ?_
  refine lv_bipush (v := nI 32) C.1.1 C.1.2.1 dL_law_3051 (by decide) ?_
  refine lv_lshl (v := ((xs (i + 2)).toInt64) <<< ((nI 32).toInt64 &&& 63)) C.1.1 C.1.2.1 dL_law_3053 rfl ?_
  refine lv_aload_n C.1.1 C.1.2.1 dL_law_3054 rfl (lv_at hl 1 rfl) ?_
  refine lv_iload C.1.1 C.1.2.1 dL_law_3055 (lv_at hl 6 rfl) ?_
  refine lv_iconst (v := nI 3) C.1.1 C.1.2.1 dL_law_3057 (by decide) ?_
  refine n_iadd C.1.1 C.1.2.1 dL_law_3058 ?_
  refine lx_sld C hW.S (j := i + 3) (by omega) (by omega) dL_law_3059 ?_
  refine lv_i2l (v := (xs (i + 3)).toInt64) C.1.1 C.1.2.1 dL_law_3060 rfl ?_
  refine lv_ldc2 C.1.1 C.1.2.1 C.1.2.2.2.1 (C.1.2.2.2.2 (.constantLong RL 258 4294967295) hc258) dL_law_3061 ?_
  refine lv_land C.1.1 C.1.2.1 dL_law_3064 ?_
  refine lv_lor C.1.1 C.1.2.1 dL_law_3065 ?_
  refine lx_callml C hW (mo_pass l C.2.2.2.2.2.1 _ _ _ hIJ.1 hIJ.2 (xs (i + 1)) ((((xs (i + 2)).toInt64) <<< ((nI 32).toInt64 &&& 63)) ||| (((xs (i + 3)).toInt64) &&& (4294967295)))) (cwV 2 C.1.2.2.2.2 gL_law_X7_pass rfl rfl rfl (by decide +kernel) ⟨Nat.le_of_ble_eq_true rfl, Nat.le_of_ble_eq_true rfl⟩) rfl rfl hl.1 (Nat.le_of_ble_eq_true rfl) dL_law_3066 hcs (fun H locs hW => ?_)
  refine lv_lstore (lv' := [(7, .long (lN (sp_pass T D (xs (i + 1)) ((((xs (i + 2)).toInt64) <<< ((nI 32).toInt64 &&& 63)) ||| (((xs (i + 3)).toInt64) &&& (4294967295)))).2.1)), (6, .int (nI (sp_pass T D (xs (i + 1)) ((((xs (i + 2)).toInt64) <<< ((nI 32).toInt64 &&& 63)) ||| (((xs (i + 3)).toInt64) &&& (4294967295)))).1)), (0, .ref b), (1, .ref a0), (2, .ref (q 0)), (3, .ref o1), (4, .ref o2), (5, .int (nI i))]) C.1.1 C.1.2.1 dL_law_3069 hl (by decide) rfl (fun ls hl => ?_)
  refine lv_aload_n C.1.1 C.1.2.1 dL_law_3071 rfl (lv_at hl 4 rfl) ?_
  refine lx_callmi C hW (mt_thrown l C.2.2.2.2.2.1 _ _ _) (cwV 0 C.1.2.2.2.2 gL_law_X7_thrown rfl rfl rfl (by decide +kernel) ⟨Nat.le_of_ble_eq_true rfl, Nat.le_of_ble_eq_true rfl⟩) rfl rfl hl.1 (Nat.le_of_ble_eq_true rfl) dL_law_3072 hcs (fun H locs hW => ?_)
  refine lv_iload C.1.1 C.1.2.1 dL_law_3075 (lv_at hl 1 rfl) ?_
  refine x_icmp_eq_t (tgt := 3082) C.1.1 C.1.2.1 dL_law_3077 (by decide) rfl ?_
  refine lv_iload C.1.1 C.1.2.1 dL_law_3082 (lv_at hl 1 rfl) ?_
  have h4 : (sp_pass T D (xs (i + 1)) ((((xs (i + 2)).toInt64) <<< ((nI 32).toInt64 &&& 63)) ||| (((xs (i + 3)).toInt64) &&& (4294967295)))).1 ≤ 4 := sp_pass_c T D (xs (i + 1)) 0 0 0 0 ((((xs (i + 2)).toInt64) <<< ((nI 32).toInt64 &&& 63)) ||| (((xs (i + 3)).toInt64) &&& (4294967295))) 0 0
  rcases Decidable.em ((sp_pass T D (xs (i + 1)) ((((xs (i + 2)).toInt64) <<< ((nI 32).toInt64 &&& 63)) ||| (((xs (i + 3)).toInt64) &&& (4294967295)))).1 = 0) with h0 | h0
  · refine x_if_ne_f (tgt := 3098) C.1.1 C.1.2.1 dL_law_3084 (by decide) (by rw [h0]; rfl) ?_
    obtain ⟨f9, rfl, hf9⟩ := hP
    have hf9 := hf9 h0
    refine lv_aload_n C.1.1 C.1.2.1 dL_law_3087 rfl (lv_at hl 5 rfl) ?_
    refine lv_iconst (v := nI 0) C.1.1 C.1.2.1 dL_law_3088 (by decide) ?_
    refine lx_lld C hW dL_law_3089 ?_
    refine lv_lload C.1.1 C.1.2.1 dL_law_3090 (lv_at hl 0 rfl) ?_
    refine W.lcmp C.1.1 C.1.2.1 dL_law_3092 ?_
    refine x_if_eq_t (tgt := 3098) C.1.1 C.1.2.1 dL_law_3093 (by decide) (by rw [hf9]; exact lx_cmp0 _) ?_
    refine lv_goto (tgt := 3303) C.1.1 C.1.2.1 dL_law_3098 (by decide) ?_
    exact hk H locs _ _ _ _ _ _ _ hW ⟨f9, rfl, fun z => z.elim⟩ hP2 (by omega) (by omega) ls (lv_sub hl [2, 3, 4, 5, 6, 7] rfl)
  · refine x_if_ne_t (tgt := 3098) C.1.1 C.1.2.1 dL_law_3084 (by decide) (fun z => h0 (nI_inj (by omega) (by decide) z)) ?_
    refine lv_goto (tgt := 3303) C.1.1 C.1.2.1 dL_law_3098 (by decide) ?_
    exact hk H locs _ _ _ _ _ _ _ hW (oL_w hP) hP2 (by omega) (by omega) ls (lv_sub hl [2, 3, 4, 5, 6, 7] rfl)

set_option maxHeartbeats 4000000 in
set_option maxRecDepth 100000 in
theorem lx_c38 {p : Program} {l : Launch} {e : Env} {s : State} {m : MethodId} {args : Array Value} {below : List Frame} {meth : Method} {c : Code} {H : Heap} {locs : List Loc} {cells slots : Nat} {Z : State → Prop} {ls : Array Slot} {G : va_G} {kT : Nat → ClassId} {q : Nat → Nat} {a0 o1 o2 b n : Nat} {xs : Nat → Int32} {T : mT} {D : mD} {th : Int32} {e1 e2 : va_E} (C : lx_C l p s m args c G kT q o1 o2 b n xs) (hW : lx_W G kT q a0 o1 o2 T D T D th e1 e2 s H locs) (hP1 : oL kT False 0 e1) (hP2 : oD kT False 0 e2) {i : Nat} (hi : i + 6 ≤ n) (hn : n ≤ 3072) (hcs : cells + 2 ≤ room_1.cells ∧ slots + 260 ≤ room_1.slots) (hl : lv_has ls 10 (lx_l b a0 (q 0) o1 o2 i)) (hk : lx_K p l e s m args below meth c Z G kT q a0 o1 o2 b cells slots i) : W p l e room_1 s m args below meth c H locs cells slots Z (F0 m 3101 ls []) := by
  have hl : lv_has ls 10 [(0, .ref b), (1, .ref a0), (2, .ref (q 0)), (3, .ref o1), (4, .ref o2), (5, .int (nI i))] := hl
  refine lv_aload_n C.1.1 C.1.2.1 dL_law_3101 rfl (lv_at hl 1 rfl) ?_
  refine lv_aload_n C.1.1 C.1.2.1 dL_law_3102 rfl (lv_at hl 0 rfl) ?_
  refine lv_iload C.1.1 C.1.2.1 dL_law_3103 (lv_at hl 5 rfl) ?_
  refine lv_iconst (v := nI 1) C.1.1 C.1.2.1 dL_law_3105 (by decide) ?_
  refine n_iadd C.1.1 C.1.2.1 dL_law_3106 ?_
  refine lx_sld C hW.S (j := i + 1) (by omega) (by omega) dL_law_3107 ?_
  refine lv_aload_n C.1.1 C.1.2.1 dL_law_3108 rfl (lv_at hl 3 rfl) ?_
  have hIJ := hW.IJ
  refine lx_callw C hW hP1 (wo_left l C.2.2.2.2.2.2.2.2.2.2 hIJ.1 hIJ.2 (xs (i + 1))) (vx_cwSW 3 C.1.2.2.2.2 gL_law_L_left rfl rfl rfl (by decide +kernel) ⟨Nat.le_of_ble_eq_true rfl, Nat.le_of_ble_eq_true rfl⟩) rfl rfl hl.1 (Nat.le_of_ble_eq_true rfl) dL_law_3109 hcs (fun H locs e9 hW hP => ?_)
  refine lv_istore (lv' := [(6, .int (nI (sp_left T D (xs (i + 1))).1)), (0, .ref b), (1, .ref a0), (2, .ref (q 0)), (3, .ref o1), (4, .ref o2), (5, .int (nI i))]) C.1.1 C.1.2.1 dL_law_3112 hl (by decide) rfl (fun ls hl => ?_)
  refine lv_aload_n C.1.1 C.1.2.1 dL_law_3114 rfl (lv_at hl 3 rfl) ?_
  refine lv_aload_n C.1.1 C.1.2.1 dL_law_3115 rfl (lv_at hl 1 rfl) ?_
  refine lv_iload C.1.1 C.1.2.1 dL_law_3116 (lv_at hl 6 rfl) ?_
  refine lv_iconst (v := nI 1) C.1.1 C.1.2.1 dL_law_3118 (by decide) ?_
  refine n_iadd C.1.1 C.1.2.1 dL_law_3119 ?_
  refine lx_sld C hW.S (j := i + 1) (by omega) (by omega) dL_law_3120 ?_
  refine lx_callmi C hW (mo_left l C.2.2.2.2.2.1 _ _ _ hIJ.1 hIJ.2 (xs (i + 1))) (cwV 1 C.1.2.2.2.2 gL_law_X7_left rfl rfl rfl (by decide +kernel) ⟨Nat.le_of_ble_eq_true rfl, Nat.le_of_ble_eq_true rfl⟩) rfl rfl hl.1 (Nat.le_of_ble_eq_true rfl) dL_law_3121 hcs (fun H locs hW => ?_)
  refine lv_istore (lv' := [(7, .int ((sp_left T D (xs (i + 1))).2.1)), (6, .int (nI (sp_left T D (xs (i + 1))).1)), (0, .ref b), (1, .ref a0), (2, .ref (q 0)), (3, .ref o1), (4, .ref o2), (5, .int (nI i))]) C.1.1 C.1.2.1 dL_law_3124 hl (by decide) rfl (fun ls hl => ?_)
  refine lv_aload_n C.1.1 C.1.2.1 dL_law_3126 rfl (lv_at hl 4 rfl) ?_
  refine lx_callmi C hW (mt_thrown l C.2.2.2.2.2.1 _ _ _) (cwV 0 C.1.2.2.2.2 gL_law_X7_thrown rfl rfl rfl (by decide +kernel) ⟨Nat.le_of_ble_eq_true rfl, Nat.le_of_ble_eq_true rfl⟩) rfl rfl hl.1 (Nat.le_of_ble_eq_true rfl) dL_law_3127 hcs (fun H locs hW => ?_)
  refine lv_iload C.1.1 C.1.2.1 dL_law_3130 (lv_at hl 1 rfl) ?_
  refine x_icmp_eq_t (tgt := 3137) C.1.1 C.1.2.1 dL_law_3132 (by decide) rfl ?_
  refine lv_iload C.1.1 C.1.2.1 dL_law_3137 (lv_at hl 1 rfl) ?_
  have h4 : (sp_left T D (xs (i + 1))).1 ≤ 4 := sp_left_c T D (xs (i + 1)) 0 0 0 0 0 0 0
  rcases Decidable.em ((sp_left T D (xs (i + 1))).1 = 0) with h0 | h0
  · refine x_if_ne_f (tgt := 3154) C.1.1 C.1.2.1 dL_law_3139 (by decide) (by rw [h0]; rfl) ?_
    obtain ⟨f9, rfl, hf9⟩ := hP
    have hf9 := hf9 h0
    refine lv_aload_n C.1.1 C.1.2.1 dL_law_3142 rfl (lv_at hl 5 rfl) ?_
    refine lv_iconst (v := nI 0) C.1.1 C.1.2.1 dL_law_3143 (by decide) ?_
    refine lx_lld C hW dL_law_3144 ?_
    refine lv_iload C.1.1 C.1.2.1 dL_law_3145 (lv_at hl 0 rfl) ?_
    refine lv_i2l (v := ((sp_left T D (xs (i + 1))).2.1).toInt64) C.1.1 C.1.2.1 dL_law_3147 rfl ?_
    refine W.lcmp C.1.1 C.1.2.1 dL_law_3148 ?_
    refine x_if_eq_t (tgt := 3154) C.1.1 C.1.2.1 dL_law_3149 (by decide) (by rw [hf9]; exact lx_cmp0 _) ?_
    refine lv_goto (tgt := 3303) C.1.1 C.1.2.1 dL_law_3154 (by decide) ?_
    exact hk H locs _ _ _ _ _ _ _ hW ⟨f9, rfl, fun z => z.elim⟩ hP2 (by omega) (by omega) ls (lv_sub hl [2, 3, 4, 5, 6, 7] rfl)
  · refine x_if_ne_t (tgt := 3154) C.1.1 C.1.2.1 dL_law_3139 (by decide) (fun z => h0 (nI_inj (by omega) (by decide) z)) ?_
    refine lv_goto (tgt := 3303) C.1.1 C.1.2.1 dL_law_3154 (by decide) ?_
    exact hk H locs _ _ _ _ _ _ _ hW (oL_w hP) hP2 (by omega) (by omega) ls (lv_sub hl [2, 3, 4, 5, 6, 7] rfl)

set_option maxHeartbeats 4000000 in
set_option maxRecDepth 100000 in
theorem lx_c39 {p : Program} {l : Launch} {e : Env} {s : State} {m : MethodId} {args : Array Value} {below : List Frame} {meth : Method} {c : Code} {H : Heap} {locs : List Loc} {cells slots : Nat} {Z : State → Prop} {ls : Array Slot} {G : va_G} {kT : Nat → ClassId} {q : Nat → Nat} {a0 o1 o2 b n : Nat} {xs : Nat → Int32} {T : mT} {D : mD} {th : Int32} {e1 e2 : va_E} (C : lx_C l p s m args c G kT q o1 o2 b n xs) (hW : lx_W G kT q a0 o1 o2 T D T D th e1 e2 s H locs) (hP1 : oL kT False 0 e1) (hP2 : oD kT False 0 e2) {i : Nat} (hi : i + 6 ≤ n) (hn : n ≤ 3072) (hcs : cells + 2 ≤ room_1.cells ∧ slots + 260 ≤ room_1.slots) (hl : lv_has ls 10 (lx_l b a0 (q 0) o1 o2 i)) (hk : lx_K p l e s m args below meth c Z G kT q a0 o1 o2 b cells slots i) : W p l e room_1 s m args below meth c H locs cells slots Z (F0 m 3157 ls []) := by
  have hl : lv_has ls 10 [(0, .ref b), (1, .ref a0), (2, .ref (q 0)), (3, .ref o1), (4, .ref o2), (5, .int (nI i))] := hl
  refine lv_aload_n C.1.1 C.1.2.1 dL_law_3157 rfl (lv_at hl 1 rfl) ?_
  refine lv_aload_n C.1.1 C.1.2.1 dL_law_3158 rfl (lv_at hl 0 rfl) ?_
  refine lv_iload C.1.1 C.1.2.1 dL_law_3159 (lv_at hl 5 rfl) ?_
  refine lv_iconst (v := nI 1) C.1.1 C.1.2.1 dL_law_3161 (by decide) ?_
  refine n_iadd C.1.1 C.1.2.1 dL_law_3162 ?_
  refine lx_sld C hW.S (j := i + 1) (by omega) (by omega) dL_law_3163 ?_
  refine lv_aload C.1.1 C.1.2.1 dL_law_3164 (lv_at hl 4 rfl) ?_
  have hIJ := hW.IJ
  refine lx_callw C.swap hW.swap hP2 (wo_passedShare l C.2.2.2.2.2.2.2.2.2.2 hIJ.1 hIJ.2 (xs (i + 1))) (vx_cwSW 3 C.1.2.2.2.2 gL_law_L_passedShare rfl rfl rfl (by decide +kernel) ⟨Nat.le_of_ble_eq_true rfl, Nat.le_of_ble_eq_true rfl⟩) rfl rfl hl.1 (Nat.le_of_ble_eq_true rfl) dL_law_3166 hcs (fun H locs e9 hW hP => ?_)
  have hW := hW.swap
  refine lv_istore (lv' := [(6, .int (nI (sp_share T D (xs (i + 1))).1)), (0, .ref b), (1, .ref a0), (2, .ref (q 0)), (3, .ref o1), (4, .ref o2), (5, .int (nI i))]) C.1.1 C.1.2.1 dL_law_3169 hl (by decide) rfl (fun ls hl => ?_)
  refine lv_aload_n C.1.1 C.1.2.1 dL_law_3171 rfl (lv_at hl 3 rfl) ?_
  refine lv_aload_n C.1.1 C.1.2.1 dL_law_3172 rfl (lv_at hl 1 rfl) ?_
  refine lv_iload C.1.1 C.1.2.1 dL_law_3173 (lv_at hl 6 rfl) ?_
  refine lv_iconst (v := nI 1) C.1.1 C.1.2.1 dL_law_3175 (by decide) ?_
  refine n_iadd C.1.1 C.1.2.1 dL_law_3176 ?_
  refine lx_sld C hW.S (j := i + 1) (by omega) (by omega) dL_law_3177 ?_
  refine lx_callmf C hW (mo_passedShare l C.2.2.2.2.2.1 _ _ _ hIJ.1 hIJ.2 (xs (i + 1))) (cwV 1 C.1.2.2.2.2 gL_law_X7_passedShare rfl rfl rfl (by decide +kernel) ⟨Nat.le_of_ble_eq_true rfl, Nat.le_of_ble_eq_true rfl⟩) rfl rfl hl.1 (Nat.le_of_ble_eq_true rfl) dL_law_3178 hcs (fun H locs hW => ?_)
  refine lv_fstore (lv' := [(7, .float ((sp_share T D (xs (i + 1))).2.1)), (6, .int (nI (sp_share T D (xs (i + 1))).1)), (0, .ref b), (1, .ref a0), (2, .ref (q 0)), (3, .ref o1), (4, .ref o2), (5, .int (nI i))]) C.1.1 C.1.2.1 dL_law_3181 hl (by decide) rfl (fun ls hl => ?_)
  refine lv_aload_n C.1.1 C.1.2.1 dL_law_3183 rfl (lv_at hl 4 rfl) ?_
  refine lx_callmi C hW (mt_thrown l C.2.2.2.2.2.1 _ _ _) (cwV 0 C.1.2.2.2.2 gL_law_X7_thrown rfl rfl rfl (by decide +kernel) ⟨Nat.le_of_ble_eq_true rfl, Nat.le_of_ble_eq_true rfl⟩) rfl rfl hl.1 (Nat.le_of_ble_eq_true rfl) dL_law_3184 hcs (fun H locs hW => ?_)
  refine lv_iload C.1.1 C.1.2.1 dL_law_3187 (lv_at hl 1 rfl) ?_
  refine x_icmp_eq_t (tgt := 3194) C.1.1 C.1.2.1 dL_law_3189 (by decide) rfl ?_
  refine lv_iload C.1.1 C.1.2.1 dL_law_3194 (lv_at hl 1 rfl) ?_
  have h4 : (sp_share T D (xs (i + 1))).1 ≤ 4 := sp_share_c T D (xs (i + 1)) 0 0 0 0 0 0 0
  rcases Decidable.em ((sp_share T D (xs (i + 1))).1 = 0) with h0 | h0
  · refine x_if_ne_f (tgt := 3232) C.1.1 C.1.2.1 dL_law_3196 (by decide) (by rw [h0]; rfl) ?_
    obtain ⟨f9, rfl, hf9⟩ := hP
    have hf9 := hf9 h0
    have hv := sp_share_n T D (xs (i + 1)) hIJ.1 h0
    refine lv_aload C.1.1 C.1.2.1 dL_law_3199 (lv_at hl 6 rfl) ?_
    refine lv_iconst (v := nI 0) C.1.1 C.1.2.1 dL_law_3201 (by decide) ?_
    refine lx_dld C hW dL_law_3202 ?_
    refine lv_fload C.1.1 C.1.2.1 dL_law_3203 (lv_at hl 0 rfl) ?_
    refine lv_f2d C.1.1 C.1.2.1 dL_law_3205 (n64_of (f2d_n hv)) ?_
    refine lv_dcmp C.1.1 C.1.2.1 dL_law_3206 ?_
    refine x_if_eq_t (tgt := 3232) C.1.1 C.1.2.1 dL_law_3207 (by decide) (by rw [hf9]; exact lx_dcmp0 (f2d_n hv)) ?_
    refine lv_goto (tgt := 3303) C.1.1 C.1.2.1 dL_law_3232 (by decide) ?_
    exact hk H locs _ _ _ _ _ _ _ hW hP1 ⟨f9, rfl, fun z => z.elim⟩ (by omega) (by omega) ls (lv_sub hl [2, 3, 4, 5, 6, 7] rfl)
  · refine x_if_ne_t (tgt := 3232) C.1.1 C.1.2.1 dL_law_3196 (by decide) (fun z => h0 (nI_inj (by omega) (by decide) z)) ?_
    refine lv_goto (tgt := 3303) C.1.1 C.1.2.1 dL_law_3232 (by decide) ?_
    exact hk H locs _ _ _ _ _ _ _ hW hP1 (oD_w hP) (by omega) (by omega) ls (lv_sub hl [2, 3, 4, 5, 6, 7] rfl)

set_option maxHeartbeats 4000000 in
set_option maxRecDepth 100000 in
theorem lx_c40 {p : Program} {l : Launch} {e : Env} {s : State} {m : MethodId} {args : Array Value} {below : List Frame} {meth : Method} {c : Code} {H : Heap} {locs : List Loc} {cells slots : Nat} {Z : State → Prop} {ls : Array Slot} {G : va_G} {kT : Nat → ClassId} {q : Nat → Nat} {a0 o1 o2 b n : Nat} {xs : Nat → Int32} {T : mT} {D : mD} {th : Int32} {e1 e2 : va_E} (C : lx_C l p s m args c G kT q o1 o2 b n xs) (hW : lx_W G kT q a0 o1 o2 T D T D th e1 e2 s H locs) (hP1 : oL kT False 0 e1) (hP2 : oD kT False 0 e2) {i : Nat} (hi : i + 6 ≤ n) (hn : n ≤ 3072) (hcs : cells + 2 ≤ room_1.cells ∧ slots + 260 ≤ room_1.slots) (hl : lv_has ls 10 (lx_l b a0 (q 0) o1 o2 i)) (hk : lx_K p l e s m args below meth c Z G kT q a0 o1 o2 b cells slots i) : W p l e room_1 s m args below meth c H locs cells slots Z (F0 m 3235 ls []) := by
  have hl : lv_has ls 10 [(0, .ref b), (1, .ref a0), (2, .ref (q 0)), (3, .ref o1), (4, .ref o2), (5, .int (nI i))] := hl
  refine lv_aload_n C.1.1 C.1.2.1 dL_law_3235 rfl (lv_at hl 1 rfl) ?_
  have hIJ := hW.IJ
  refine lx_callcd C hW (fun ad L K R I A Q N HB => co_meanSize l HB) (cwV 0 C.1.2.2.2.2 gL_law_X6_meanSize rfl rfl rfl (by decide +kernel) ⟨Nat.le_of_ble_eq_true rfl, Nat.le_of_ble_eq_true rfl⟩) hl.1 (Nat.le_of_ble_eq_true rfl) dL_law_3236 ⟨Nat.le_trans (Nat.le_add_right _ _) hcs.1, Nat.le_trans (Nat.le_add_right _ _) hcs.2⟩ (fun H locs hW => ?_)
  refine lv_dstore (lv' := [(6, .double (meV T)), (0, .ref b), (1, .ref a0), (2, .ref (q 0)), (3, .ref o1), (4, .ref o2), (5, .int (nI i))]) C.1.1 C.1.2.1 dL_law_3239 hl (by decide) rfl (fun ls hl => ?_)
  refine lv_aload_n C.1.1 C.1.2.1 dL_law_3241 rfl (lv_at hl 3 rfl) ?_
  refine lx_callmd (as := []) C hW (mt_meanSize l C.2.2.2.2.2.1 _ _ _ hIJ.1) (cwV 0 C.1.2.2.2.2 gL_law_X7_meanSize rfl rfl rfl (by decide +kernel) ⟨Nat.le_of_ble_eq_true rfl, Nat.le_of_ble_eq_true rfl⟩) rfl rfl hl.1 (Nat.le_of_ble_eq_true rfl) dL_law_3242 ⟨Nat.le_trans (Nat.le_add_right _ _) hcs.1, Nat.le_trans (Nat.le_add_right _ _) hcs.2⟩ (fun H locs hW => ?_)
  refine lv_dstore (lv' := [(8, .double (meV T)), (6, .double (meV T)), (0, .ref b), (1, .ref a0), (2, .ref (q 0)), (3, .ref o1), (4, .ref o2), (5, .int (nI i))]) C.1.1 C.1.2.1 dL_law_3245 hl (by decide) rfl (fun ls hl => ?_)
  refine lv_dload C.1.1 C.1.2.1 dL_law_3247 (lv_at hl 1 rfl) ?_
  refine lv_dload C.1.1 C.1.2.1 dL_law_3249 (lv_at hl 0 rfl) ?_
  refine lv_dcmp C.1.1 C.1.2.1 dL_law_3251 ?_
  rcases Decidable.em (Op.cmpValue (FP.dcmp (meV T) (meV T)) CmpOp.l = 0) with hv | hv
  · refine x_if_eq_t (tgt := 3273) C.1.1 C.1.2.1 dL_law_3252 (by decide) hv ?_
    refine lv_goto (tgt := 3303) C.1.1 C.1.2.1 dL_law_3273 (by decide) ?_
    exact hk H locs _ _ _ _ _ _ _ hW hP1 hP2 (by omega) (by omega) ls (lv_sub hl [2, 3, 4, 5, 6, 7] rfl)
  · refine x_if_eq_f (tgt := 3273) C.1.1 C.1.2.1 dL_law_3252 (by decide) hv ?_
    refine lv_dload C.1.1 C.1.2.1 dL_law_3255 (lv_at hl 1 rfl) ?_
    refine lv_dload C.1.1 C.1.2.1 dL_law_3257 (lv_at hl 1 rfl) ?_
    refine lv_dcmp C.1.1 C.1.2.1 dL_law_3259 ?_
    refine x_if_eq_f (tgt := 3271) C.1.1 C.1.2.1 dL_law_3260 (by decide) hv ?_
    refine lv_dload C.1.1 C.1.2.1 dL_law_3263 (lv_at hl 0 rfl) ?_
    refine lv_dload C.1.1 C.1.2.1 dL_law_3265 (lv_at hl 0 rfl) ?_
    refine lv_dcmp C.1.1 C.1.2.1 dL_law_3267 ?_
    refine x_if_ne_t (tgt := 3273) C.1.1 C.1.2.1 dL_law_3268 (by decide) hv ?_
    refine lv_goto (tgt := 3303) C.1.1 C.1.2.1 dL_law_3273 (by decide) ?_
    exact hk H locs _ _ _ _ _ _ _ hW hP1 hP2 (by omega) (by omega) ls (lv_sub hl [2, 3, 4, 5, 6, 7] rfl)

set_option maxHeartbeats 4000000 in
set_option maxRecDepth 100000 in
theorem lx_c41 {p : Program} {l : Launch} {e : Env} {s : State} {m : MethodId} {args : Array Value} {below : List Frame} {meth : Method} {c : Code} {H : Heap} {locs : List Loc} {cells slots : Nat} {Z : State → Prop} {ls : Array Slot} {G : va_G} {kT : Nat → ClassId} {q : Nat → Nat} {a0 o1 o2 b n : Nat} {xs : Nat → Int32} {T : mT} {D : mD} {th : Int32} {e1 e2 : va_E} (C : lx_C l p s m args c G kT q o1 o2 b n xs) (hW : lx_W G kT q a0 o1 o2 T D T D th e1 e2 s H locs) (hP1 : oL kT False 0 e1) (hP2 : oD kT False 0 e2) {i : Nat} (hi : i + 6 ≤ n) (hn : n ≤ 3072) (hcs : cells + 2 ≤ room_1.cells ∧ slots + 260 ≤ room_1.slots) (hl : lv_has ls 10 (lx_l b a0 (q 0) o1 o2 i)) (hk : lx_K p l e s m args below meth c Z G kT q a0 o1 o2 b cells slots i) : W p l e room_1 s m args below meth c H locs cells slots Z (F0 m 3276 ls []) := by
  have hl : lv_has ls 10 [(0, .ref b), (1, .ref a0), (2, .ref (q 0)), (3, .ref o1), (4, .ref o2), (5, .int (nI i))] := hl
  refine lv_aload_n C.1.1 C.1.2.1 dL_law_3276 rfl (lv_at hl 1 rfl) ?_
  have hIJ := hW.IJ
  refine lx_callcl C hW (fun ad L K R I A Q N HB => co_checksum l HB) (cwV 0 C.1.2.2.2.2 gL_law_X6_checksum rfl rfl rfl (by decide +kernel) ⟨Nat.le_of_ble_eq_true rfl, Nat.le_of_ble_eq_true rfl⟩) hl.1 (Nat.le_of_ble_eq_true rfl) dL_law_3277 ⟨Nat.le_trans (Nat.le_add_right _ _) hcs.1, Nat.le_trans (Nat.le_add_right _ _) hcs.2⟩ (fun H locs hW => ?_)
  refine lv_aload_n C.1.1 C.1.2.1 dL_law_3280 rfl (lv_at hl 2 rfl) ?_
  refine lx_callml (as := []) C hW (mt_checksum l C.2.2.2.2.2.1 _ _ _ hIJ.1) (cwV 0 C.1.2.2.2.2 gL_law_X7_checksum rfl rfl rfl (by decide +kernel) ⟨Nat.le_of_ble_eq_true rfl, Nat.le_of_ble_eq_true rfl⟩) rfl rfl hl.1 (Nat.le_of_ble_eq_true rfl) dL_law_3281 ⟨Nat.le_trans (Nat.le_add_right _ _) hcs.1, Nat.le_trans (Nat.le_add_right _ _) hcs.2⟩ (fun H locs hW => ?_)
  refine W.lcmp C.1.1 C.1.2.1 dL_law_3284 ?_
  refine x_if_eq_t (tgt := 3303) C.1.1 C.1.2.1 dL_law_3285 (by decide) (lx_cmp0 _) ?_
  exact hk H locs _ _ _ _ _ _ _ hW hP1 hP2 (by omega) (by omega) ls (lv_sub hl [0, 1, 2, 3, 4, 5] rfl)

set_option maxHeartbeats 4000000 in
set_option maxRecDepth 100000 in
theorem lx_c42 {p : Program} {l : Launch} {e : Env} {s : State} {m : MethodId} {args : Array Value} {below : List Frame} {meth : Method} {c : Code} {H : Heap} {locs : List Loc} {cells slots : Nat} {Z : State → Prop} {ls : Array Slot} {G : va_G} {kT : Nat → ClassId} {q : Nat → Nat} {a0 o1 o2 b n : Nat} {xs : Nat → Int32} {T : mT} {D : mD} {th : Int32} {e1 e2 : va_E} (C : lx_C l p s m args c G kT q o1 o2 b n xs) (hW : lx_W G kT q a0 o1 o2 T D T D th e1 e2 s H locs) (hP1 : oL kT False 0 e1) (hP2 : oD kT False 0 e2) {i : Nat} (hi : i + 6 ≤ n) (hn : n ≤ 3072) (hcs : cells + 2 ≤ room_1.cells ∧ slots + 260 ≤ room_1.slots) (hl : lv_has ls 10 (lx_l b a0 (q 0) o1 o2 i)) (hk : lx_K p l e s m args below meth c Z G kT q a0 o1 o2 b cells slots i) : W p l e room_1 s m args below meth c H locs cells slots Z (F0 m 3290 ls []) := by
  have hl : lv_has ls 10 [(0, .ref b), (1, .ref a0), (2, .ref (q 0)), (3, .ref o1), (4, .ref o2), (5, .int (nI i))] := hl
  refine lv_aload_n C.1.1 C.1.2.1 dL_law_3290 rfl (lv_at hl 1 rfl) ?_
  have hIJ := hW.IJ
  refine lx_callt C hW (cwV 0 C.1.2.2.2.2 gL_law_X6_isTrue rfl rfl rfl (by decide +kernel) ⟨Nat.le_of_ble_eq_true rfl, Nat.le_of_ble_eq_true rfl⟩) (fun ad L K R I A Q N HB => co_isTrue l HB) hl.1 (Nat.le_of_ble_eq_true rfl) dL_law_3291 ⟨Nat.le_trans (Nat.le_add_right _ _) hcs.1, Nat.le_trans (Nat.le_add_right _ _) hcs.2⟩ (fun H locs hW => ?_)
  refine lv_aload_n C.1.1 C.1.2.1 dL_law_3294 rfl (lv_at hl 2 rfl) ?_
  refine lx_callmi (as := []) C hW (mt_isTrue l C.2.2.2.2.2.1 _ _ _ hIJ.1) (cwV 0 C.1.2.2.2.2 gL_law_X7_isTrue rfl rfl rfl (by decide +kernel) ⟨Nat.le_of_ble_eq_true rfl, Nat.le_of_ble_eq_true rfl⟩) rfl rfl hl.1 (Nat.le_of_ble_eq_true rfl) dL_law_3295 ⟨Nat.le_trans (Nat.le_add_right _ _) hcs.1, Nat.le_trans (Nat.le_add_right _ _) hcs.2⟩ (fun H locs hW => ?_)
  refine x_icmp_eq_t (tgt := 3303) C.1.1 C.1.2.1 dL_law_3298 (by decide) rfl ?_
  exact hk H locs _ _ _ _ _ _ _ hW hP1 hP2 (by omega) (by omega) ls (lv_sub hl [0, 1, 2, 3, 4, 5] rfl)
