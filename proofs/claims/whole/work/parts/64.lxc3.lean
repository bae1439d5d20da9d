set_option maxHeartbeats 4000000 in
set_option maxRecDepth 100000 in
theorem lx_c27 {p : Program} {l : Launch} {e : Env} {s : State} {m : MethodId} {args : Array Value} {below : List Frame} {meth : Method} {c : Code} {H : Heap} {locs : List Loc} {cells slots : Nat} {Z : State → Prop} {ls : Array Slot} {G : va_G} {kT : Nat → ClassId} {q : Nat → Nat} {a0 o1 o2 b n : Nat} {xs : Nat → Int32} {T : mT} {D : mD} {th : Int32} {e1 e2 : va_E} (C : lx_C l p s m args c G kT q o1 o2 b n xs) (hW : lx_W G kT q a0 o1 o2 T D T D th e1 e2 s H locs) (hP1 : oL kT False 0 e1) (hP2 : oD kT False 0 e2) {i : Nat} (hi : i + 6 ≤ n) (hn : n ≤ 3072) (hcs : cells + 2 ≤ room_1.cells ∧ slots + 260 ≤ room_1.slots) (hl : lv_has ls 10 (lx_l b a0 (q 0) o1 o2 i)) (hk : lx_K p l e s m args below meth c Z G kT q a0 o1 o2 b cells slots i) : W p l e room_1 s m args below meth c H locs cells slots Z (F0 m 2227 ls []) := by
  have hl : lv_has ls 10 [(0, .ref b), (1, .ref a0), (2, .ref (q 0)), (3, .ref o1), (4, .ref o2), (5, .int (nI i))] := hl
  refine lv_aload_n C.1.1 C.1.2.1 dL_law_2227 rfl (lv_at hl 1 rfl) ?_
  refine lv_aload_n C.1.1 C.1.2.1 dL_law_2228 rfl (lv_at hl 0 rfl) ?_
  refine lv_iload C.1.1 C.1.2.1 dL_law_2229 (lv_at hl 5 rfl) ?_
  refine lv_iconst (v := nI 1) C.1.1 C.1.2.1 dL_law_2231 (by decide) ?_
  refine n_iadd C.1.1 C.1.2.1 dL_law_2232 ?_
  refine lx_sld C hW.S (j := i + 1) (by omega) (by omega) dL_law_2233 ?_
  refine lv_aload_n C.1.1 C.1.2.1 dL_law_2234 rfl (lv_at hl 3 rfl) ?_
  have hIJ := hW.IJ
  refine lx_callw C hW hP1 (wo_shut l C.2.2.2.2.2.2.2.2.2.2 hIJ.1 hIJ.2 (xs (i + 1))) (vx_cwSW 3 C.1.2.2.2.2 gL_law_L_shut rfl rfl rfl (by decide +kernel) ⟨Nat.le_of_ble_eq_true rfl, Nat.le_of_ble_eq_true rfl⟩) rfl rfl hl.1 (Nat.le_of_ble_eq_true rfl) dL_law_2235 hcs (fun H locs e9 hW hP => ?_)
  refine lv_istore (lv' := [(6, .int (nI (sp_shut T D (xs (i + 1))).1)), (0, .ref b), (1, .ref a0), (2, .ref (q 0)), (3, .ref o1), (4, .ref o2), (5, .int (nI i))]) C.1.1 C.1.2.1 dL_law_2238 hl (by decide) rfl (fun ls hl => ?_)
  refine lv_aload_n C.1.1 C.1.2.1 dL_law_2240 rfl (lv_at hl 3 rfl) ?_
  refine lv_aload_n C.1.1 C.1.2.1 dL_law_2241 rfl (lv_at hl 1 rfl) ?_
  refine lv_iload C.1.1 C.1.2.1 dL_law_2242 (lv_at hl 6 rfl) ?_
  refine lv_iconst (v := nI 1) C.1.1 C.1.2.1 dL_law_2244 (by decide) ?_
  refine n_iadd C.1.1 C.1.2.1 dL_law_2245 ?_
  refine lx_sld C hW.S (j := i + 1) (by omega) (by omega) dL_law_2246 ?_
  refine lx_callmi C hW (mo_shut l C.2.2.2.2.2.1 _ _ _ hIJ.1 hIJ.2 (xs (i + 1))) (cwV 1 C.1.2.2.2.2 gL_law_X7_shut rfl rfl rfl (by decide +kernel) ⟨Nat.le_of_ble_eq_true rfl, Nat.le_of_ble_eq_true rfl⟩) rfl rfl hl.1 (Nat.le_of_ble_eq_true rfl) dL_law_2247 hcs (fun H locs hW => ?_)
  refine lv_istore (lv' := [(7, .int ((sp_shut T D (xs (i + 1))).2.1)), (6, .int (nI (sp_shut T D (xs (i + 1))).1)), (0, .ref b), (1, .ref a0), (2, .ref (q 0)), (3, .ref o1), (4, .ref o2), (5, .int (nI i))]) C.1.1 C.1.2.1 dL_law_2250 hl (by decide) rfl (fun ls hl => ?_)
  refine lv_aload_n C.1.1 C.1.2.1 dL_law_2252 rfl (lv_at hl 4 rfl) ?_
  refine lx_callmi C hW (mt_thrown l C.2.2.2.2.2.1 _ _ _) (cwV 0 C.1.2.2.2.2 gL_law_X7_thrown rfl rfl rfl (by decide +kernel) ⟨Nat.le_of_ble_eq_true rfl, Nat.le_of_ble_eq_true rfl⟩) rfl rfl hl.1 (Nat.le_of_ble_eq_true rfl) dL_law_2253 hcs (fun H locs hW => ?_)
  refine lv_iload C.1.1 C.1.2.1 dL_law_2256 (lv_at hl 1 rfl) ?_
  refine x_icmp_eq_t (tgt := 2263) C.1.1 C.1.2.1 dL_law_2258 (by decide) rfl ?_
  refine lv_iload C.1.1 C.1.2.1 dL_law_2263 (lv_at hl 1 rfl) ?_
  have h4 : (sp_shut T D (xs (i + 1))).1 ≤ 4 := sp_shut_c T D (xs (i + 1)) 0 0 0 0 0 0 0
  rcases Decidable.em ((sp_shut T D (xs (i + 1))).1 = 0) with h0 | h0
  · refine x_if_ne_f (tgt := 2280) C.1.1 C.1.2.1 dL_law_2265 (by decide) (by rw [h0]; rfl) ?_
    obtain ⟨f9, rfl, hf9⟩ := hP
    have hf9 := hf9 h0
    refine lv_aload_n C.1.1 C.1.2.1 dL_law_2268 rfl (lv_at hl 5 rfl) ?_
    refine lv_iconst (v := nI 0) C.1.1 C.1.2.1 dL_law_2269 (by decide) ?_
    refine lx_lld C hW dL_law_2270 ?_
    refine lv_iload C.1.1 C.1.2.1 dL_law_2271 (lv_at hl 0 rfl) ?_
    refine lv_i2l (v := ((sp_shut T D (xs (i + 1))).2.1).toInt64) C.1.1 C.1.2.1 dL_law_2273 rfl ?_
    refine W.lcmp C.1.1 C.1.2.1 dL_law_2274 ?_
    refine x_if_eq_t (tgt := 2280) C.1.1 C.1.2.1 dL_law_2275 (by decide) (by rw [hf9]; exact lx_cmp0 _) ?_
    refine lv_goto (tgt := 3303) C.1.1 C.1.2.1 dL_law_2280 (by decide) ?_
    exact hk H locs _ _ _ _ _ _ _ hW ⟨f9, rfl, fun z => z.elim⟩ hP2 (by omega) (by omega) ls (lv_sub hl [2, 3, 4, 5, 6, 7] rfl)
  · refine x_if_ne_t (tgt := 2280) C.1.1 C.1.2.1 dL_law_2265 (by decide) (fun z => h0 (nI_inj (by omega) (by decide) z)) ?_
    refine lv_goto (tgt := 3303) C.1.1 C.1.2.1 dL_law_2280 (by decide) ?_
    exact hk H locs _ _ _ _ _ _ _ hW (oL_w hP) hP2 (by omega) (by omega) ls (lv_sub hl [2, 3, 4, 5, 6, 7] rfl)

set_option maxHeartbeats 4000000 in
set_option maxRecDepth 100000 in
theorem lx_c28 {p : Program} {l : Launch} {e : Env} {s : State} {m : MethodId} {args : Array Value} {below : List Frame} {meth : Method} {c : Code} {H : Heap} {locs : List Loc} {cells slots : Nat} {Z : State → Prop} {ls : Array Slot} {G : va_G} {kT : Nat → ClassId} {q : Nat → Nat} {a0 o1 o2 b n : Nat} {xs : Nat → Int32} {T : mT} {D : mD} {th : Int32} {e1 e2 : va_E} (C : lx_C l p s m args c G kT q o1 o2 b n xs) (hW : lx_W G kT q a0 o1 o2 T D T D th e1 e2 s H locs) (hP1 : oL kT False 0 e1) (hP2 : oD kT False 0 e2) {i : Nat} (hi : i + 6 ≤ n) (hn : n ≤ 3072) (hcs : cells + 2 ≤ room_1.cells ∧ slots + 260 ≤ room_1.slots) (hl : lv_has ls 10 (lx_l b a0 (q 0) o1 o2 i)) (hk : lx_K p l e s m args below meth c Z G kT q a0 o1 o2 b cells slots i) : W p l e room_1 s m args below meth c H locs cells slots Z (F0 m 2283 ls []) := by
  have hl : lv_has ls 10 [(0, .ref b), (1, .ref a0), (2, .ref (q 0)), (3, .ref o1), (4, .ref o2), (5, .int (nI i))] := hl
  refine lv_aload_n C.1.1 C.1.2.1 dL_law_2283 rfl (lv_at hl 1 rfl) ?_
  refine lv_aload_n C.1.1 C.1.2.1 dL_law_2284 rfl (lv_at hl 0 rfl) ?_
  refine lv_iload C.1.1 C.1.2.1 dL_law_2285 (lv_at hl 5 rfl) ?_
  refine lv_iconst (v := nI 1) C.1.1 C.1.2.1 dL_law_2287 (by decide) ?_
  refine n_iadd C.1.1 C.1.2.1 dL_law_2288 ?_
  refine lx_sld C hW.S (j := i + 1) (by omega) (by omega) dL_law_2289 ?_
  refine lv_aload_n C.1.1 C.1.2.1 dL_law_2290 rfl (lv_at hl 3 rfl) ?_
  have hIJ := hW.IJ
  refine lx_callw C hW hP1 (wo_read l C.2.2.2.2.2.2.2.2.2.2 hIJ.1 hIJ.2 (xs (i + 1))) (vx_cwSW 3 C.1.2.2.2.2 gL_law_L_read rfl rfl rfl (by decide +kernel) ⟨Nat.le_of_ble_eq_true rfl, Nat.le_of_ble_eq_true rfl⟩) rfl rfl hl.1 (Nat.le_of_ble_eq_true rfl) dL_law_2291 hcs (fun H locs e9 hW hP => ?_)
  refine lv_istore (lv' := [(6, .int (nI (sp_read T D (xs (i + 1))).1)), (0, .ref b), (1, .ref a0), (2, .ref (q 0)), (3, .ref o1), (4, .ref o2), (5, .int (nI i))]) C.1.1 C.1.2.1 dL_law_2294 hl (by decide) rfl (fun ls hl => ?_)
  refine lv_aload_n C.1.1 C.1.2.1 dL_law_2296 rfl (lv_at hl 3 rfl) ?_
  refine lv_aload_n C.1.1 C.1.2.1 dL_law_2297 rfl (lv_at hl 1 rfl) ?_
  refine lv_iload C.1.1 C.1.2.1 dL_law_2298 (lv_at hl 6 rfl) ?_
  refine lv_iconst (v := nI 1) C.1.1 C.1.2.1 dL_law_2300 (by decide) ?_
  refine n_iadd C.1.1 C.1.2.1 dL_law_2301 ?_
  refine lx_sld C hW.S (j := i + 1) (by omega) (by omega) dL_law_2302 ?_
  refine lx_callmi C hW (mo_read l C.2.2.2.2.2.1 _ _ _ hIJ.1 hIJ.2 (xs (i + 1))) (cwV 1 C.1.2.2.2.2 gL_law_X7_read rfl rfl rfl (by decide +kernel) ⟨Nat.le_of_ble_eq_true rfl, Nat.le_of_ble_eq_true rfl⟩) rfl rfl hl.1 (Nat.le_of_ble_eq_true rfl) dL_law_2303 hcs (fun H locs hW => ?_)
  refine lv_istore (lv' := [(7, .int ((sp_read T D (xs (i + 1))).2.1)), (6, .int (nI (sp_read T D (xs (i + 1))).1)), (0, .ref b), (1, .ref a0), (2, .ref (q 0)), (3, .ref o1), (4, .ref o2), (5, .int (nI i))]) C.1.1 C.1.2.1 dL_law_2306 hl (by decide) rfl (fun ls hl => ?_)
  refine lv_aload_n C.1.1 C.1.2.1 dL_law_2308 rfl (lv_at hl 4 rfl) ?_
  refine lx_callmi C hW (mt_thrown l C.2.2.2.2.2.1 _ _ _) (cwV 0 C.1.2.2.2.2 gL_law_X7_thrown rfl rfl rfl (by decide +kernel) ⟨Nat.le_of_ble_eq_true rfl, Nat.le_of_ble_eq_true rfl⟩) rfl rfl hl.1 (Nat.le_of_ble_eq_true rfl) dL_law_2309 hcs (fun H locs hW => ?_)
  refine lv_iload C.1.1 C.1.2.1 dL_law_2312 (lv_at hl 1 rfl) ?_
  refine x_icmp_eq_t (tgt := 2319) C.1.1 C.1.2.1 dL_law_2314 (by decide) rfl ?_
  refine lv_iload C.1.1 C.1.2.1 dL_law_2319 (lv_at hl 1 rfl) ?_
  have h4 : (sp_read T D (xs (i + 1))).1 ≤ 4 := sp_read_c T D (xs (i + 1)) 0 0 0 0 0 0 0
  rcases Decidable.em ((sp_read T D (xs (i + 1))).1 = 0) with h0 | h0
  · refine x_if_ne_f (tgt := 2336) C.1.1 C.1.2.1 dL_law_2321 (by decide) (by rw [h0]; rfl) ?_
    obtain ⟨f9, rfl, hf9⟩ := hP
    have hf9 := hf9 h0
    refine lv_aload_n C.1.1 C.1.2.1 dL_law_2324 rfl (lv_at hl 5 rfl) ?_
    refine lv_iconst (v := nI 0) C.1.1 C.1.2.1 dL_law_2325 (by decide) ?_
    refine lx_lld C hW dL_law_2326 ?_
    refine lv_iload C.1.1 C.1.2.1 dL_law_2327 (lv_at hl 0 rfl) ?_
    refine lv_i2l (v := ((sp_read T D (xs (i + 1))).2.1).toInt64) C.1.1 C.1.2.1 dL_law_2329 rfl ?_
    refine W.lcmp C.1.1 C.1.2.1 dL_law_2330 ?_
    refine x_if_eq_t (tgt := 2336) C.1.1 C.1.2.1 dL_law_2331 (by decide) (by rw [hf9]; exact lx_cmp0 _) ?_
    refine lv_goto (tgt := 3303) C.1.1 C.1.2.1 dL_law_2336 (by decide) ?_
    exact hk H locs _ _ _ _ _ _ _ hW ⟨f9, rfl, fun z => z.elim⟩ hP2 (by omega) (by omega) ls (lv_sub hl [2, 3, 4, 5, 6, 7] rfl)
  · refine x_if_ne_t (tgt := 2336) C.1.1 C.1.2.1 dL_law_2321 (by decide) (fun z => h0 (nI_inj (by omega) (by decide) z)) ?_
    refine lv_goto (tgt := 3303) C.1.1 C.1.2.1 dL_law_2336 (by decide) ?_
    exact hk H locs _ _ _ _ _ _ _ hW (oL_w hP) hP2 (by omega) (by omega) ls (lv_sub hl [2, 3, 4, 5, 6, 7] rfl)

set_option maxHeartbeats 4000000 in
set_option maxRecDepth 100000 in
theorem lx_c29 {p : Program} {l : Launch} {e : Env} {s : State} {m : MethodId} {args : Array Value} {below : List Frame} {meth : Method} {c : Code} {H : Heap} {locs : List Loc} {cells slots : Nat} {Z : State → Prop} {ls : Array Slot} {G : va_G} {kT : Nat → ClassId} {q : Nat → Nat} {a0 o1 o2 b n : Nat} {xs : Nat → Int32} {T : mT} {D : mD} {th : Int32} {e1 e2 : va_E} (C : lx_C l p s m args c G kT q o1 o2 b n xs) (hW : lx_W G kT q a0 o1 o2 T D T D th e1 e2 s H locs) (hP1 : oL kT False 0 e1) (hP2 : oD kT False 0 e2) {i : Nat} (hi : i + 6 ≤ n) (hn : n ≤ 3072) (hcs : cells + 2 ≤ room_1.cells ∧ slots + 260 ≤ room_1.slots) (hl : lv_has ls 10 (lx_l b a0 (q 0) o1 o2 i)) (hk : lx_K p l e s m args below meth c Z G kT q a0 o1 o2 b cells slots i) : W p l e room_1 s m args below meth c H locs cells slots Z (F0 m 2339 ls []) := by
  have hl : lv_has ls 10 [(0, .ref b), (1, .ref a0), (2, .ref (q 0)), (3, .ref o1), (4, .ref o2), (5, .int (nI i))] := hl
  refine lv_aload_n C.1.1 C.1.2.1 dL_law_2339 rfl (lv_at hl 1 rfl) ?_
  refine lv_aload_n C.1.1 C.1.2.1 dL_law_2340 rfl (lv_at hl 0 rfl) ?_
  refine lv_iload C.1.1 C.1.2.1 dL_law_2341 (lv_at hl 5 rfl) ?_
  refine lv_iconst (v := nI 1) C.1.1 C.1.2.1 dL_law_2343 (by decide) ?_
  refine n_iadd C.1.1 C.1.2.1 dL_law_2344 ?_
  refine lx_sld C hW.S (j := i + 1) (by omega) (by omega) dL_law_2345 ?_
  refine lv_aload_n C.1.1 C.1.2.1 dL_law_2346 rfl (lv_at hl 0 rfl) ?_
  refine lv_iload C.1.1 C.1.2.1 dL_law_2347 (lv_at hl 5 rfl) ?_
  refine lv_iconst (v := nI 2) C.1.1 C.1.2.1 dL_law_2349 (by decide) ?_
  refine n_iadd C.1.1 C.1.2.1 dL_law_2350 ?_
  refine lx_sld C hW.S (j := i + 2) (by omega) (by omega) dL_law_2351 ?_
  refine lv_aload_n C.1.1 C.1.2.1 dL_law_2352 rfl (lv_at hl 0 rfl) ?_
  refine lv_iload C.1.1 C.1.2.1 dL_law_2353 (lv_at hl 5 rfl) ?_
  refine lv_iconst (v := nI 3) C.1.1 C.1.2.1 dL_law_2355 (by decide) ?_
  refine n_iadd C.1.1 C.1.2.1 dL_law_2356 ?_
  refine lx_sld C hW.S (j := i + 3) (by omega) (by omega) dL_law_2357 ?_
  refine lv_aload_n C.1.1 C.1.2.1 dL_law_2358 rfl (lv_at hl 0 rfl) ?_
  refine lv_iload C.1.1 C.1.2.1 dL_law_2359 (lv_at hl 5 rfl) ?_
  refine lv_iconst (v := nI 4) C.1.1 C.1.2.1 dL_law_2361 (by decide) ?_
  refine n_iadd C.1.1 C.1.2.1 dL_law_2362 ?_
  refine lx_sld C hW.S (j := i + 4) (by omega) (by omega) dL_law_2363 ?_
  refine lv_aload_n C.1.1 C.1.2.1 dL_law_2364 rfl (lv_at hl 3 rfl) ?_
  have hIJ := hW.IJ
  refine lx_callw C hW hP1 (wo_readPart l C.2.2.2.2.2.2.2.2.2.2 hIJ.1 hIJ.2 (xs (i + 1)) (xs (i + 2)) (xs (i + 3)) (xs (i + 4))) (vx_cwSW 6 C.1.2.2.2.2 gL_law_L_readPart rfl rfl rfl (by decide +kernel) ⟨Nat.le_of_ble_eq_true rfl, Nat.le_of_ble_eq_true rfl⟩) rfl rfl hl.1 (Nat.le_of_ble_eq_true rfl) dL_law_2365 hcs (fun H locs e9 hW hP => ?_)
  refine lv_istore (lv' := [(6, .int (nI (sp_readPart T D (xs (i + 1)) (xs (i + 2)) (xs (i + 3)) (xs (i + 4))).1)), (0, .ref b), (1, .ref a0), (2, .ref (q 0)), (3, .ref o1), (4, .ref o2), (5, .int (nI i))]) C.1.1 C.1.2.1 dL_law_2368 hl (by decide) rfl (fun ls hl => ?_)
  refine lv_aload_n C.1.1 C.1.2.1 dL_law_2370 rfl (lv_at hl 3 rfl) ?_
  refine lv_aload_n C.1.1 C.1.2.1 dL_law_2371 rfl (lv_at hl 1 rfl) ?_
  refine lv_iload C.1.1 C.1.2.1 dL_law_2372 (lv_at hl 6 rfl) ?_
  refine lv_iconst (v := nI 1) C.1.1 C.1.2.1 dL_law_2374 (by decide) ?_
  refine n_iadd C.1.1 C.1.2.1 dL_law_2375 ?_
  refine lx_sld C hW.S (j := i + 1) (by omega) (by omega) dL_law_2376 ?_
  refine lv_aload_n C.1.1 C.1.2.1 dL_law_2377 rfl (lv_at hl 1 rfl) ?_
  refine lv_iload C.1.1 C.1.2.1 dL_law_2378 (lv_at hl 6 rfl) ?_
  refine lv_iconst (v := nI 2) C.1.1 C.1.2.1 dL_law_2380 (by decide) ?_
  refine n_iadd C.1.1 C.1.2.1 dL_law_2381 ?_
  refine lx_sld C hW.S (j := i + 2) (by omega) (by omega) dL_law_2382 ?_
  refine lv_aload_n C.1.1 C.1.2.1 dL_law_2383 rfl (lv_at hl 1 rfl) ?_
  refine lv_iload C.1.1 C.1.2.1 dL_law_2384 (lv_at hl 6 rfl) ?_
  refine lv_iconst (v := nI 3) C.1.1 C.1.2.1 dL_law_2386 (by decide) ?_
  refine n_iadd C.1.1 C.1.2.1 dL_law_2387 ?_
  refine lx_sld C hW.S (j := i + 3) (by omega) (by omega) dL_law_2388 ?_
  refine lv_aload_n C.1.1 C.1.2.1 dL_law_2389 rfl (lv_at hl 1 rfl) ?_
  refine lv_iload C.1.1 C.1.2.1 dL_law_2390 (lv_at hl 6 rfl) ?_
  refine lv_iconst (v := nI 4) C.1.1 C.1.2.1 dL_law_2392 (by decide) ?_
  refine n_iadd C.1.1 C.1.2.1 dL_law_2393 ?_
  refine lx_sld C hW.S (j := i + 4) (by omega) (by omega) dL_law_2394 ?_
  refine lx_callmi C hW (mo_readPart l C.2.2.2.2.2.1 _ _ _ hIJ.1 hIJ.2 (xs (i + 1)) (xs (i + 2)) (xs (i + 3)) (xs (i + 4))) (cwV 4 C.1.2.2.2.2 gL_law_X7_readPart rfl rfl rfl (by decide +kernel) ⟨Nat.le_of_ble_eq_true rfl, Nat.le_of_ble_eq_true rfl⟩) rfl rfl hl.1 (Nat.le_of_ble_eq_true rfl) dL_law_2395 hcs (fun H locs hW => ?_)
  refine lv_istore (lv' := [(7, .int ((sp_readPart T D (xs (i + 1)) (xs (i + 2)) (xs (i + 3)) (xs (i + 4))).2.1)), (6, .int (nI (sp_readPart T D (xs (i + 1)) (xs (i + 2)) (xs (i + 3)) (xs (i + 4))).1)), (0, .ref b), (1, .ref a0), (2, .ref (q 0)), (3, .ref o1), (4, .ref o2), (5, .int (nI i))]) C.1.1 C.1.2.1 dL_law_2398 hl (by decide) rfl (fun ls hl => ?_)
  refine lv_aload_n C.1.1 C.1.2.1 dL_law_2400 rfl (lv_at hl 4 rfl) ?_
  refine lx_callmi C hW (mt_thrown l C.2.2.2.2.2.1 _ _ _) (cwV 0 C.1.2.2.2.2 gL_law_X7_thrown rfl rfl rfl (by decide +kernel) ⟨Nat.le_of_ble_eq_true rfl, Nat.le_of_ble_eq_true rfl⟩) rfl rfl hl.1 (Nat.le_of_ble_eq_true rfl) dL_law_2401 hcs (fun H locs hW => ?_)
  refine lv_iload C.1.1 C.1.2.1 dL_law_2404 (lv_at hl 1 rfl) ?_
  refine x_icmp_eq_t (tgt := 2411) C.1.1 C.1.2.1 dL_law_2406 (by decide) rfl ?_
  refine lv_iload C.1.1 C.1.2.1 dL_law_2411 (lv_at hl 1 rfl) ?_
  have h4 : (sp_readPart T D (xs (i + 1)) (xs (i + 2)) (xs (i + 3)) (xs (i + 4))).1 ≤ 4 := sp_readPart_c T D (xs (i + 1)) (xs (i + 2)) (xs (i + 3)) (xs (i + 4)) 0 0 0 0
  rcases Decidable.em ((sp_readPart T D (xs (i + 1)) (xs (i + 2)) (xs (i + 3)) (xs (i + 4))).1 = 0) with h0 | h0
  · refine x_if_ne_f (tgt := 2428) C.1.1 C.1.2.1 dL_law_2413 (by decide) (by rw [h0]; rfl) ?_
    obtain ⟨f9, rfl, hf9⟩ := hP
    have hf9 := hf9 h0
    refine lv_aload_n C.1.1 C.1.2.1 dL_law_2416 rfl (lv_at hl 5 rfl) ?_
    refine lv_iconst (v := nI 0) C.1.1 C.1.2.1 dL_law_2417 (by decide) ?_
    refine lx_lld C hW dL_law_2418 ?_
    refine lv_iload C.1.1 C.1.2.1 dL_law_2419 (lv_at hl 0 rfl) ?_
    refine lv_i2l (v := ((sp_readPart T D (xs (i + 1)) (xs (i + 2)) (xs (i + 3)) (xs (i + 4))).2.1).toInt64) C.1.1 C.1.2.1 dL_law_2421 rfl ?_
    refine W.lcmp C.1.1 C.1.2.1 dL_law_2422 ?_
    refine x_if_eq_t (tgt := 2428) C.1.1 C.1.2.1 dL_law_2423 (by decide) (by rw [hf9]; exact lx_cmp0 _) ?_
    refine lv_goto (tgt := 3303) C.1.1 C.1.2.1 dL_law_2428 (by decide) ?_
    exact hk H locs _ _ _ _ _ _ _ hW ⟨f9, rfl, fun z => z.elim⟩ hP2 (by omega) (by omega) ls (lv_sub hl [2, 3, 4, 5, 6, 7] rfl)
  · refine x_if_ne_t (tgt := 2428) C.1.1 C.1.2.1 dL_law_2413 (by decide) (fun z => h0 (nI_inj (by omega) (by decide) z)) ?_
    refine lv_goto (tgt := 3303) C.1.1 C.1.2.1 dL_law_2428 (by decide) ?_
    exact hk H locs _ _ _ _ _ _ _ hW (oL_w hP) hP2 (by omega) (by omega) ls (lv_sub hl [2, 3, 4, 5, 6, 7] rfl)

set_option maxHeartbeats 4000000 in
set_option maxRecDepth 100000 in
theorem lx_c30 {p : Program} {l : Launch} {e : Env} {s : State} {m : MethodId} {args : Array Value} {below : List Frame} {meth : Method} {c : Code} {H : Heap} {locs : List Loc} {cells slots : Nat} {Z : State → Prop} {ls : Array Slot} {G : va_G} {kT : Nat → ClassId} {q : Nat → Nat} {a0 o1 o2 b n : Nat} {xs : Nat → Int32} {T : mT} {D : mD} {th : Int32} {e1 e2 : va_E} (C : lx_C l p s m args c G kT q o1 o2 b n xs) (hW : lx_W G kT q a0 o1 o2 T D T D th e1 e2 s H locs) (hP1 : oL kT False 0 e1) (hP2 : oD kT False 0 e2) {i : Nat} (hi : i + 6 ≤ n) (hn : n ≤ 3072) (hcs : cells + 2 ≤ room_1.cells ∧ slots + 260 ≤ room_1.slots) (hl : lv_has ls 10 (lx_l b a0 (q 0) o1 o2 i)) (hk : lx_K p l e s m args below meth c Z G kT q a0 o1 o2 b cells slots i) : W p l e room_1 s m args below meth c H locs cells slots Z (F0 m 2431 ls []) := by
  have hl : lv_has ls 10 [(0, .ref b), (1, .ref a0), (2, .ref (q 0)), (3, .ref o1), (4, .ref o2), (5, .int (nI i))] := hl
  have hc258 : Cond.constantLong RL 258 4294967295 ∈ wsL_law := wsL_law_258
  refine lv_aload_n C.1.1 C.1.2.1 dL_law_2431 rfl (lv_at hl 1 rfl) ?_
  refine lv_aload_n C.1.1 C.1.2.1 dL_law_2432 rfl (lv_at hl 0 rfl) ?_
  refine lv_iload C.1.1 C.1.2.1 dL_law_2433 (lv_at hl 5 rfl) ?_
  refine lv_iconst (v := nI 1) C.1.1 C.1.2.1 dL_law_2435 (by decide) ?_
  refine n_iadd C.1.1 C.1.2.1 dL_law_2436 ?_
  refine lx_sld C hW.S (j := i + 1) (by omega) (by omega) dL_law_2437 ?_
  refine lv_aload_n C.1.1 C.1.2.1 dL_law_2438 rfl (lv_at hl 0 rfl) ?_
  refine lv_iload C.1.1 C.1.2.1 dL_law_2439 (lv_at hl 5 rfl) ?_
  refine lv_iconst (v := nI 2) C.1.1 C.1.2.1 dL_law_2441 (by decide) ?_
  refine n_iadd C.1.1 C.1.2.1 dL_law_2442 ?_
  refine lx_sld C hW.S (j := i + 2) (by omega) (by omega) dL_law_2443 ?_
  refine lv_i2l (v := (xs (i + 2)).toInt64) C.1.1 C.1.2.1 dL_law_2444 rfl ?_
  refine lv_bipush (v := nI 32) C.1.1 C.1.2.1 dL_law_2445 (by decide) ?_
  refine lv_lshl (v := ((xs (i + 2)).toInt64) <<< ((nI 32).toInt64 &&& 63)) C.1.1 C.1.2.1 dL_law_2447 rfl ?_
  refine lv_aload_n C.1.1 C.1.2.1 dL_law_2448 rfl (lv_at hl 0 rfl) ?_
  refine lv_iload C.1.1 C.1.2.1 dL_law_2449 (lv_at hl 5 rfl) ?_
  refine lv_iconst (v := nI 3) C.1.1 C.1.2.1 dL_law_2451 (by decide) ?_
  refine n_iadd C.1.1 C.1.2.1 dL_law_2452 ?_
  refine lx_sld C hW.S (j := i + 3) (by omega) (by omega) dL_law_2453 ?_
  refine lv_i2l (v := (xs (i + 3)).toInt64) C.1.1 C.1.2.1 dL_law_2454 rfl ?_
  refine lv_ldc2 C.1.1 C.1.2.1 C.1.2.2.2.1 (C.1.2.2.2.2 (.constantLong RL 258 4294967295) hc258) dL_law_2455 ?_
  refine lv_land C.1.1 C.1.2.1 dL_law_2458 ?_
  refine lv_lor C.1.1 C.1.2.1 dL_law_2459 ?_
  refine lv_aload_n C.1.1 C.1.2.1 dL_law_2460 rfl (lv_at hl 3 rfl) ?_
  have hIJ := hW.IJ
  refine lx_callw C hW hP1 (wo_skip l C.2.2.2.2.2.2.2.2.2.2 hIJ.1 hIJ.2 (xs (i + 1)) ((((xs (i + 2)).toInt64) <<< ((nI 32).toInt64 &&& 63)) ||| (((xs (i + 3)).toInt64) &&& (4294967295)))) (vx_cwSW 4 C.1.2.2.2.2 gL_law_L_skip rfl rfl rfl (by decide +kernel) ⟨Nat.le_of_ble_eq_true rfl, Nat.le_of_ble_eq_true rfl⟩) rfl rfl hl.1 (Nat.le_of_ble_eq_true rfl) dL_law_2461 hcs (fun H locs e9 hW hP => ?_)
  refine lv_istore (lv' := [(6, .int (nI (sp_skip T D (xs (i + 1)) ((((xs (i + 2)).toInt64) <<< ((nI 32).toInt64 &&& 63)) ||| (((xs (i + 3)).toInt64) &&& (4294967295)))).1)), (0, .ref b), (1, .ref a0), (2, .ref (q 0)), (3, .ref o1), (4, .ref o2), (5, .int (nI i))]) C.1.1 C.1.2.1 dL_law_2464 hl (by decide) rfl (fun ls hl => ?_)
  refine lv_aload_n C.1.1 C.1.2.1 dL_law_2466 rfl (lv_at hl 3 rfl) ?_
  refine lv_aload_n C.1.1 C.1.2.1 dL_law_2467 rfl (lv_at hl 1 rfl) ?_
  refine lv_iload C.1.1 C.1.2.1 dL_law_2468 (lv_at hl 6 rfl) ?_
  refine lv_iconst (v := nI 1) C.1.1 C.1.2.1 dL_law_2470 (by decide) ?_
  refine n_iadd C.1.1 C.1.2.1 dL_law_2471 ?_
  refine lx_sld C hW.S (j := i + 1) (by omega) (by omega) dL_law_2472 ?_
  refine lv_aload_n C.1.1 C.1.2.1 dL_law_2473 rfl (lv_at hl 1 rfl) ?_
  refine lv_iload C.1.1 C.1.2.1 dL_law_2474 (lv_at hl 6 rfl) ?_
  refine lv_iconst (v := nI 2) C.1.1 C.1.2.1 dL_law_2476 (by decide) ?_
  refine n_iadd C.1.1 C.1.2.1 dL_law_2477 ?_
  refine lx_sld C hW.S (j := i + 2) (by omega) (by omega) dL_law_2478 ?_
  refine lv_i2l (v := (xs (i + 2)).toInt64) C.1.1 C.1.2.1 dL_law_2479 rfl ?_
  refine lv_bipush (v := nI 32) C.1.1 C.1.2.1 dL_law_2480 (by decide) ?_
  refine lv_lshl (v := ((xs (i + 2)).toInt64) <<< ((nI 32).toInt64 &&& 63)) C.1.1 C.1.2.1 dL_law_2482 rfl ?_
  refine lv_aload_n C.1.1 C.1.2.1 dL_law_2483 rfl (lv_at hl 1 rfl) ?_
  refine lv_iload C.1.1 C.1.2.1 dL_law_2484 (lv_at hl 6 rfl) ?_
  refine lv_iconst (v := nI 3) C.1.1 C.1.2.1 dL_law_2486 (by decide) ?_
  refine n_iadd C.1.1 C.1.2.1 dL_law_2487 ?_
  refine lx_sld C hW.S (j := i + 3) (by omega) (by omega) dL_law_2488 ?_
  refine lv_i2l (v := (xs (i + 3)).toInt64) C.1.1 C.1.2.1 dL_law_2489 rfl ?_
  refine lv_ldc2 C.1.1 C.1.2.1 C.1.2.2.2.1 (C.1.2.2.2.2 (.constantLong RL 258 4294967295) hc258) dL_law_2490 ?_
  refine lv_land C.1.1 C.1.2.1 dL_law_2493 ?_
  refine lv_lor C.1.1 C.1.2.1 dL_law_2494 ?_
  refine lx_callml C hW (mo_skip l C.2.2.2.2.2.1 _ _ _ hIJ.1 hIJ.2 (xs (i + 1)) ((((xs (i + 2)).toInt64) <<< ((nI 32).toInt64 &&& 63)) ||| (((xs (i + 3)).toInt64) &&& (4294967295)))) (cwV 2 C.1.2.2.2.2 gL_law_X7_skip rfl rfl rfl (by decide +kernel) ⟨Nat.le_of_ble_eq_true rfl, Nat.le_of_ble_eq_true rfl⟩) rfl rfl hl.1 (Nat.le_of_ble_eq_true rfl) dL_law_2495 hcs (fun H locs hW => ?_)
  refine lv_lstore (lv' := [(7, .long (lN (sp_skip T D (xs (i + 1)) ((((xs (i + 2)).toInt64) <<< ((nI 32).toInt64 &&& 63)) ||| (((xs (i + 3)).toInt64) &&& (4294967295)))).2.1)), (6, .int (nI (sp_skip T D (xs (i + 1)) ((((xs (i + 2)).toInt64) <<< ((nI 32).toInt64 &&& 63)) ||| (((xs (i + 3)).toInt64) &&& (4294967295)))).1)), (0, .ref b), (1, .ref a0), (2, .ref (q 0)), (3, .ref o1), (4, .ref o2), (5, .int (nI i))]) C.1.1 C.1.2.1 dL_law_2498 hl (by decide) rfl (fun ls hl => ?_)
  refine lv_aload_n C.1.1 C.1.2.1 dL_law_2500 rfl (lv_at hl 4 rfl) ?_
  refine lx_callmi C hW (mt_thrown l C.2.2.2.2.2.1 _ _ _) (cwV 0 C.1.2.2.2.2 gL_law_X7_thrown rfl rfl rfl (by decide +kernel) ⟨Nat.le_of_ble_eq_true rfl, Nat.le_of_ble_eq_true rfl⟩) rfl rfl hl.1 (Nat.le_of_ble_eq_true rfl) dL_law_2501 hcs (fun H locs hW => ?_)
  refine lv_iload C.1.1 C.1.2.1 dL_law_2504 (lv_at hl 1 rfl) ?_
  refine x_icmp_eq_t (tgt := 2511) C.1.1 C.1.2.1 dL_law_2506 (by decide) rfl ?_
  refine lv_iload C.1.1 C.1.2.1 dL_law_2511 (lv_at hl 1 rfl) ?_
  have h4 : (sp_skip T D (xs (i + 1)) ((((xs (i + 2)).toInt64) <<< ((nI 32).toInt64 &&& 63)) ||| (((xs (i + 3)).toInt64) &&& (4294967295)))).1 ≤ 4 := sp_skip_c T D (xs (i + 1)) 0 0 0 0 ((((xs (i + 2)).toInt64) <<< ((nI 32).toInt64 &&& 63)) ||| (((xs (i + 3)).toInt64) &&& (4294967295))) 0 0
  rcases Decidable.em ((sp_skip T D (xs (i + 1)) ((((xs (i + 2)).toInt64) <<< ((nI 32).toInt64 &&& 63)) ||| (((xs (i + 3)).toInt64) &&& (4294967295)))).1 = 0) with h0 | h0
  · refine x_if_ne_f (tgt := 2527) C.1.1 C.1.2.1 dL_law_2513 (by decide) (by rw [h0]; rfl) ?_
    obtain ⟨f9, rfl, hf9⟩ := hP
    have hf9 := hf9 h0
    refine lv_aload_n C.1.1 C.1.2.1 dL_law_2516 rfl (lv_at hl 5 rfl) ?_
    refine lv_iconst (v := nI 0) C.1.1 C.1.2.1 dL_law_2517 (by decide) ?_
    refine lx_lld C hW dL_law_2518 ?_
    refine lv_lload C.1.1 C.1.2.1 dL_law_2519 (lv_at hl 0 rfl) ?_
    refine W.lcmp C.1.1 C.1.2.1 dL_law_2521 ?_
    refine x_if_eq_t (tgt := 2527) C.1.1 C.1.2.1 dL_law_2522 (by decide) (by rw [hf9]; exact lx_cmp0 _) ?_
    refine lv_goto (tgt := 3303) C.1.1 C.1.2.1 dL_law_2527 (by decide) ?_
    exact hk H locs _ _ _ _ _ _ _ hW ⟨f9, rfl, fun z => z.elim⟩ hP2 (by omega) (by omega) ls (lv_sub hl [2, 3, 4, 5, 6, 7] rfl)
  · refine x_if_ne_t (tgt := 2527) C.1.1 C.1.2.1 dL_law_2513 (by decide) (fun z => h0 (nI_inj (by omega) (by decide) z)) ?_
    refine lv_goto (tgt := 3303) C.1.1 C.1.2.1 dL_law_2527 (by decide) ?_
    exact hk H locs _ _ _ _ _ _ _ hW (oL_w hP) hP2 (by omega) (by omega) ls (lv_sub hl [2, 3, 4, 5, 6, 7] rfl)

set_option maxHeartbeats 4000000 in
set_option maxRecDepth 100000 in
theorem lx_c31 {p : Program} {l : Launch} {e : Env} {s : State} {m : MethodId} {args : Array Value} {below : List Frame} {meth : Method} {c : Code} {H : Heap} {locs : List Loc} {cells slots : Nat} {Z : State → Prop} {ls : Array Slot} {G : va_G} {kT : Nat → ClassId} {q : Nat → Nat} {a0 o1 o2 b n : Nat} {xs : Nat → Int32} {T : mT} {D : mD} {th : Int32} {e1 e2 : va_E} (C : lx_C l p s m args c G kT q o1 o2 b n xs) (hW : lx_W G kT q a0 o1 o2 T D T D th e1 e2 s H locs) (hP1 : oL kT False 0 e1) (hP2 : oD kT False 0 e2) {i : Nat} (hi : i + 6 ≤ n) (hn : n ≤ 3072) (hcs : cells + 2 ≤ room_1.cells ∧ slots + 260 ≤ room_1.slots) (hl : lv_has ls 10 (lx_l b a0 (q 0) o1 o2 i)) (hk : lx_K p l e s m args below meth c Z G kT q a0 o1 o2 b cells slots i) : W p l e room_1 s m args below meth c H locs cells slots Z (F0 m 2530 ls []) := by
  have hl : lv_has ls 10 [(0, .ref b), (1, .ref a0), (2, .ref (q 0)), (3, .ref o1), (4, .ref o2), (5, .int (nI i))] := hl
  refine lv_aload_n C.1.1 C.1.2.1 dL_law_2530 rfl (lv_at hl 1 rfl) ?_
  refine lv_aload_n C.1.1 C.1.2.1 dL_law_2531 rfl (lv_at hl 0 rfl) ?_
  refine lv_iload C.1.1 C.1.2.1 dL_law_2532 (lv_at hl 5 rfl) ?_
  refine lv_iconst (v := nI 1) C.1.1 C.1.2.1 dL_law_2534 (by decide) ?_
  refine n_iadd C.1.1 C.1.2.1 dL_law_2535 ?_
  refine lx_sld C hW.S (j := i + 1) (by omega) (by omega) dL_law_2536 ?_
  refine lv_aload_n C.1.1 C.1.2.1 dL_law_2537 rfl (lv_at hl 0 rfl) ?_
  refine lv_iload C.1.1 C.1.2.1 dL_law_2538 (lv_at hl 5 rfl) ?_
  refine lv_iconst (v := nI 2) C.1.1 C.1.2.1 dL_law_2540 (by decide) ?_
  refine n_iadd C.1.1 C.1.2.1 dL_law_2541 ?_
  refine lx_sld C hW.S (j := i + 2) (by omega) (by omega) dL_law_2542 ?_
  refine lv_aload_n C.1.1 C.1.2.1 dL_law_2543 rfl (lv_at hl 3 rfl) ?_
  have hIJ := hW.IJ
  refine lx_callw C hW hP1 (wo_mark l C.2.2.2.2.2.2.2.2.2.2 hIJ.1 hIJ.2 (xs (i + 1)) (xs (i + 2))) (vx_cwSW 4 C.1.2.2.2.2 gL_law_L_mark rfl rfl rfl (by decide +kernel) ⟨Nat.le_of_ble_eq_true rfl, Nat.le_of_ble_eq_true rfl⟩) rfl rfl hl.1 (Nat.le_of_ble_eq_true rfl) dL_law_2544 hcs (fun H locs e9 hW hP => ?_)
  refine lv_istore (lv' := [(6, .int (nI (sp_mark T D (xs (i + 1)) (xs (i + 2))).1)), (0, .ref b), (1, .ref a0), (2, .ref (q 0)), (3, .ref o1), (4, .ref o2), (5, .int (nI i))]) C.1.1 C.1.2.1 dL_law_2547 hl (by decide) rfl (fun ls hl => ?_)
  refine lv_aload_n C.1.1 C.1.2.1 dL_law_2549 rfl (lv_at hl 3 rfl) ?_
  refine lv_aload_n C.1.1 C.1.2.1 dL_law_2550 rfl (lv_at hl 1 rfl) ?_
  refine lv_iload C.1.1 C.1.2.1 dL_law_2551 (lv_at hl 6 rfl) ?_
  refine lv_iconst (v := nI 1) C.1.1 C.1.2.1 dL_law_2553 (by decide) ?_
  refine n_iadd C.1.1 C.1.2.1 dL_law_2554 ?_
  refine lx_sld C hW.S (j := i + 1) (by omega) (by omega) dL_law_2555 ?_
  refine lv_aload_n C.1.1 C.1.2.1 dL_law_2556 rfl (lv_at hl 1 rfl) ?_
  refine lv_iload C.1.1 C.1.2.1 dL_law_2557 (lv_at hl 6 rfl) ?_
  refine lv_iconst (v := nI 2) C.1.1 C.1.2.1 dL_law_2559 (by decide) ?_
  refine n_iadd C.1.1 C.1.2.1 dL_law_2560 ?_
  refine lx_sld C hW.S (j := i + 2) (by omega) (by omega) dL_law_2561 ?_
  refine lx_callmi C hW (mo_mark l C.2.2.2.2.2.1 _ _ _ hIJ.1 hIJ.2 (xs (i + 1)) (xs (i + 2))) (cwV 2 C.1.2.2.2.2 gL_law_X7_mark rfl rfl rfl (by decide +kernel) ⟨Nat.le_of_ble_eq_true rfl, Nat.le_of_ble_eq_true rfl⟩) rfl rfl hl.1 (Nat.le_of_ble_eq_true rfl) dL_law_2562 hcs (fun H locs hW => ?_)
  refine lv_istore (lv' := [(7, .int ((sp_mark T D (xs (i + 1)) (xs (i + 2))).2.1)), (6, .int (nI (sp_mark T D (xs (i + 1)) (xs (i + 2))).1)), (0, .ref b), (1, .ref a0), (2, .ref (q 0)), (3, .ref o1), (4, .ref o2), (5, .int (nI i))]) C.1.1 C.1.2.1 dL_law_2565 hl (by decide) rfl (fun ls hl => ?_)
  refine lv_aload_n C.1.1 C.1.2.1 dL_law_2567 rfl (lv_at hl 4 rfl) ?_
  refine lx_callmi C hW (mt_thrown l C.2.2.2.2.2.1 _ _ _) (cwV 0 C.1.2.2.2.2 gL_law_X7_thrown rfl rfl rfl (by decide +kernel) ⟨Nat.le_of_ble_eq_true rfl, Nat.le_of_ble_eq_true rfl⟩) rfl rfl hl.1 (Nat.le_of_ble_eq_true rfl) dL_law_2568 hcs (fun H locs hW => ?_)
  refine lv_iload C.1.1 C.1.2.1 dL_law_2571 (lv_at hl 1 rfl) ?_
  refine x_icmp_eq_t (tgt := 2578) C.1.1 C.1.2.1 dL_law_2573 (by decide) rfl ?_
  refine lv_iload C.1.1 C.1.2.1 dL_law_2578 (lv_at hl 1 rfl) ?_
  have h4 : (sp_mark T D (xs (i + 1)) (xs (i + 2))).1 ≤ 4 := sp_mark_c T D (xs (i + 1)) (xs (i + 2)) 0 0 0 0 0 0
  rcases Decidable.em ((sp_mark T D (xs (i + 1)) (xs (i + 2))).1 = 0) with h0 | h0
  · refine x_if_ne_f (tgt := 2595) C.1.1 C.1.2.1 dL_law_2580 (by decide) (by rw [h0]; rfl) ?_
    obtain ⟨f9, rfl, hf9⟩ := hP
    have hf9 := hf9 h0
    refine lv_aload_n C.1.1 C.1.2.1 dL_law_2583 rfl (lv_at hl 5 rfl) ?_
    refine lv_iconst (v := nI 0) C.1.1 C.1.2.1 dL_law_2584 (by decide) ?_
    refine lx_lld C hW dL_law_2585 ?_
    refine lv_iload C.1.1 C.1.2.1 dL_law_2586 (lv_at hl 0 rfl) ?_
    refine lv_i2l (v := ((sp_mark T D (xs (i + 1)) (xs (i + 2))).2.1).toInt64) C.1.1 C.1.2.1 dL_law_2588 rfl ?_
    refine W.lcmp C.1.1 C.1.2.1 dL_law_2589 ?_
    refine x_if_eq_t (tgt := 2595) C.1.1 C.1.2.1 dL_law_2590 (by decide) (by rw [hf9]; exact lx_cmp0 _) ?_
    refine lv_goto (tgt := 3303) C.1.1 C.1.2.1 dL_law_2595 (by decide) ?_
    exact hk H locs _ _ _ _ _ _ _ hW ⟨f9, rfl, fun z => z.elim⟩ hP2 (by omega) (by omega) ls (lv_sub hl [2, 3, 4, 5, 6, 7] rfl)
  · refine x_if_ne_t (tgt := 2595) C.1.1 C.1.2.1 dL_law_2580 (by decide) (fun z => h0 (nI_inj (by omega) (by decide) z)) ?_
    refine lv_goto (tgt := 3303) C.1.1 C.1.2.1 dL_law_2595 (by decide) ?_
    exact hk H locs _ _ _ _ _ _ _ hW (oL_w hP) hP2 (by omega) (by omega) ls (lv_sub hl [2, 3, 4, 5, 6, 7] rfl)

set_option maxHeartbeats 4000000 in
set_option maxRecDepth 100000 in
theorem lx_c32 {p : Program} {l : Launch} {e : Env} {s : State} {m : MethodId} {args : Array Value} {below : List Frame} {meth : Method} {c : Code} {H : Heap} {locs : List Loc} {cells slots : Nat} {Z : State → Prop} {ls : Array Slot} {G : va_G} {kT : Nat → ClassId} {q : Nat → Nat} {a0 o1 o2 b n : Nat} {xs : Nat → Int32} {T : mT} {D : mD} {th : Int32} {e1 e2 : va_E} (C : lx_C l p s m args c G kT q o1 o2 b n xs) (hW : lx_W G kT q a0 o1 o2 T D T D th e1 e2 s H locs) (hP1 : oL kT False 0 e1) (hP2 : oD kT False 0 e2) {i : Nat} (hi : i + 6 ≤ n) (hn : n ≤ 3072) (hcs : cells + 2 ≤ room_1.cells ∧ slots + 260 ≤ room_1.slots) (hl : lv_has ls 10 (lx_l b a0 (q 0) o1 o2 i)) (hk : lx_K p l e s m args below meth c Z G kT q a0 o1 o2 b cells slots i) : W p l e room_1 s m args below meth c H locs cells slots Z (F0 m 2598 ls []) := by
  have hl : lv_has ls 10 [(0, .ref b), (1, .ref a0), (2, .ref (q 0)), (3, .ref o1), (4, .ref o2), (5, .int (nI i))] := hl
  refine lv_aload_n C.1.1 C.1.2.1 dL_law_2598 rfl (lv_at hl 1 rfl) ?_
  refine lv_aload_n C.1.1 C.1.2.1 dL_law_2599 rfl (lv_at hl 0 rfl) ?_
  refine lv_iload C.1.1 C.1.2.1 dL_law_2600 (lv_at hl 5 rfl) ?_
  refine lv_iconst (v := nI 1) C.1.1 C.1.2.1 dL_law_2602 (by decide) ?_
  refine n_iadd C.1.1 C.1.2.1 dL_law_2603 ?_
  refine lx_sld C hW.S (j := i + 1) (by omega) (by omega) dL_law_2604 ?_
  refine lv_aload_n C.1.1 C.1.2.1 dL_law_2605 rfl (lv_at hl 3 rfl) ?_
  have hIJ := hW.IJ
  refine lx_callw C hW hP1 (wo_back l C.2.2.2.2.2.2.2.2.2.2 hIJ.1 hIJ.2 (xs (i + 1))) (vx_cwSW 3 C.1.2.2.2.2 gL_law_L_back rfl rfl rfl (by decide +kernel) ⟨Nat.le_of_ble_eq_true rfl, Nat.le_of_ble_eq_true rfl⟩) rfl rfl hl.1 (Nat.le_of_ble_eq_true rfl) dL_law_2606 hcs (fun H locs e9 hW hP => ?_)
  refine lv_istore (lv' := [(6, .int (nI (sp_back T D (xs (i + 1))).1)), (0, .ref b), (1, .ref a0), (2, .ref (q 0)), (3, .ref o1), (4, .ref o2), (5, .int (nI i))]) C.1.1 C.1.2.1 dL_law_2609 hl (by decide) rfl (fun ls hl => ?_)
  refine lv_aload_n C.1.1 C.1.2.1 dL_law_2611 rfl (lv_at hl 3 rfl) ?_
  refine lv_aload_n C.1.1 C.1.2.1 dL_law_2612 rfl (lv_at hl 1 rfl) ?_
  refine lv_iload C.1.1 C.1.2.1 dL_law_2613 (lv_at hl 6 rfl) ?_
  refine lv_iconst (v := nI 1) C.1.1 C.1.2.1 dL_law_2615 (by decide) ?_
  refine n_iadd C.1.1 C.1.2.1 dL_law_2616 ?_
  refine lx_sld C hW.S (j := i + 1) (by omega) (by omega) dL_law_2617 ?_
  refine lx_callmi C hW (mo_back l C.2.2.2.2.2.1 _ _ _ hIJ.1 hIJ.2 (xs (i + 1))) (cwV 1 C.1.2.2.2.2 gL_law_X7_back rfl rfl rfl (by decide +kernel) ⟨Nat.le_of_ble_eq_true rfl, Nat.le_of_ble_eq_true rfl⟩) rfl rfl hl.1 (Nat.le_of_ble_eq_true rfl) dL_law_2618 hcs (fun H locs hW => ?_)
  refine lv_istore (lv' := [(7, .int ((sp_back T D (xs (i + 1))).2.1)), (6, .int (nI (sp_back T D (xs (i + 1))).1)), (0, .ref b), (1, .ref a0), (2, .ref (q 0)), (3, .ref o1), (4, .ref o2), (5, .int (nI i))]) C.1.1 C.1.2.1 dL_law_2621 hl (by decide) rfl (fun ls hl => ?_)
  refine lv_aload_n C.1.1 C.1.2.1 dL_law_2623 rfl (lv_at hl 4 rfl) ?_
  refine lx_callmi C hW (mt_thrown l C.2.2.2.2.2.1 _ _ _) (cwV 0 C.1.2.2.2.2 gL_law_X7_thrown rfl rfl rfl (by decide +kernel) ⟨Nat.le_of_ble_eq_true rfl, Nat.le_of_ble_eq_true rfl⟩) rfl rfl hl.1 (Nat.le_of_ble_eq_true rfl) dL_law_2624 hcs (fun H locs hW => ?_)
  refine lv_iload C.1.1 C.1.2.1 dL_law_2627 (lv_at hl 1 rfl) ?_
  refine x_icmp_eq_t (tgt := 2634) C.1.1 C.1.2.1 dL_law_2629 (by decide) rfl ?_
  refine lv_iload C.1.1 C.1.2.1 dL_law_2634 (lv_at hl 1 rfl) ?_
  have h4 : (sp_back T D (xs (i + 1))).1 ≤ 4 := sp_back_c T D (xs (i + 1)) 0 0 0 0 0 0 0
  rcases Decidable.em ((sp_back T D (xs (i + 1))).1 = 0) with h0 | h0
  · refine x_if_ne_f (tgt := 2651) C.1.1 C.1.2.1 dL_law_2636 (by decide) (by rw [h0]; rfl) ?_
    obtain ⟨f9, rfl, hf9⟩ := hP
    have hf9 := hf9 h0
    refine lv_aload_n C.1.1 C.1.2.1 dL_law_2639 rfl (lv_at hl 5 rfl) ?_
    refine lv_iconst (v := nI 0) C.1.1 C.1.2.1 dL_law_2640 (by decide) ?_
    refine lx_lld C hW dL_law_2641 ?_
    refine lv_iload C.1.1 C.1.2.1 dL_law_2642 (lv_at hl 0 rfl) ?_
    refine lv_i2l (v := ((sp_back T D (xs (i + 1))).2.1).toInt64) C.1.1 C.1.2.1 dL_law_2644 rfl ?_
    refine W.lcmp C.1.1 C.1.2.1 dL_law_2645 ?_
    refine x_if_eq_t (tgt := 2651) C.1.1 C.1.2.1 dL_law_2646 (by decide) (by rw [hf9]; exact lx_cmp0 _) ?_
    refine lv_goto (tgt := 3303) C.1.1 C.1.2.1 dL_law_2651 (by decide) ?_
    exact hk H locs _ _ _ _ _ _ _ hW ⟨f9, rfl, fun z => z.elim⟩ hP2 (by omega) (by omega) ls (lv_sub hl [2, 3, 4, 5, 6, 7] rfl)
  · refine x_if_ne_t (tgt := 2651) C.1.1 C.1.2.1 dL_law_2636 (by decide) (fun z => h0 (nI_inj (by omega) (by decide) z)) ?_
    refine lv_goto (tgt := 3303) C.1.1 C.1.2.1 dL_law_2651 (by decide) ?_
    exact hk H locs _ _ _ _ _ _ _ hW (oL_w hP) hP2 (by omega) (by omega) ls (lv_sub hl [2, 3, 4, 5, 6, 7] rfl)

set_option maxHeartbeats 4000000 in
set_option maxRecDepth 100000 in
theorem lx_c33 {p : Program} {l : Launch} {e : Env} {s : State} {m : MethodId} {args : Array Value} {below : List Frame} {meth : Method} {c : Code} {H : Heap} {locs : List Loc} {cells slots : Nat} {Z : State → Prop} {ls : Array Slot} {G : va_G} {kT : Nat → ClassId} {q : Nat → Nat} {a0 o1 o2 b n : Nat} {xs : Nat → Int32} {T : mT} {D : mD} {th : Int32} {e1 e2 : va_E} (C : lx_C l p s m args c G kT q o1 o2 b n xs) (hW : lx_W G kT q a0 o1 o2 T D T D th e1 e2 s H locs) (hP1 : oL kT False 0 e1) (hP2 : oD kT False 0 e2) {i : Nat} (hi : i + 6 ≤ n) (hn : n ≤ 3072) (hcs : cells + 2 ≤ room_1.cells ∧ slots + 260 ≤ room_1.slots) (hl : lv_has ls 10 (lx_l b a0 (q 0) o1 o2 i)) (hk : lx_K p l e s m args below meth c Z G kT q a0 o1 o2 b cells slots i) : W p l e room_1 s m args below meth c H locs cells slots Z (F0 m 2654 ls []) := by
  have hl : lv_has ls 10 [(0, .ref b), (1, .ref a0), (2, .ref (q 0)), (3, .ref o1), (4, .ref o2), (5, .int (nI i))] := hl
  refine lv_aload_n C.1.1 C.1.2.1 dL_law_2654 rfl (lv_at hl 1 rfl) ?_
  refine lv_aload_n C.1.1 C.1.2.1 dL_law_2655 rfl (lv_at hl 0 rfl) ?_
  refine lv_iload C.1.1 C.1.2.1 dL_law_2656 (lv_at hl 5 rfl) ?_
  refine lv_iconst (v := nI 1) C.1.1 C.1.2.1 dL_law_2658 (by decide) ?_
  refine n_iadd C.1.1 C.1.2.1 dL_law_2659 ?_
  refine lx_sld C hW.S (j := i + 1) (by omega) (by omega) dL_law_2660 ?_
  refine lv_aload_n C.1.1 C.1.2.1 dL_law_2661 rfl (lv_at hl 0 rfl) ?_
  refine lv_iload C.1.1 C.1.2.1 dL_law_2662 (lv_at hl 5 rfl) ?_
  refine lv_iconst (v := nI 2) C.1.1 C.1.2.1 dL_law_2664 (by decide) ?_
  refine n_iadd C.1.1 C.1.2.1 dL_law_2665 ?_
  refine lx_sld C hW.S (j := i + 2) (by omega) (by omega) dL_law_2666 ?_
  refine lv_aload_n C.1.1 C.1.2.1 dL_law_2667 rfl (lv_at hl 0 rfl) ?_
  refine lv_iload C.1.1 C.1.2.1 dL_law_2668 (lv_at hl 5 rfl) ?_
  refine lv_iconst (v := nI 3) C.1.1 C.1.2.1 dL_law_2670 (by decide) ?_
  refine n_iadd C.1.1 C.1.2.1 dL_law_2671 ?_
  refine lx_sld C hW.S (j := i + 3) (by omega) (by omega) dL_law_2672 ?_
  refine lv_aload_n C.1.1 C.1.2.1 dL_law_2673 rfl (lv_at hl 3 rfl) ?_
  have hIJ := hW.IJ
  refine lx_callw C hW hP1 (wo_join l C.2.2.2.2.2.2.2.2.2.2 hIJ.1 hIJ.2 (xs (i + 1)) (xs (i + 2)) (xs (i + 3))) (vx_cwSW 5 C.1.2.2.2.2 gL_law_L_join rfl rfl rfl (by decide +kernel) ⟨Nat.le_of_ble_eq_true rfl, Nat.le_of_ble_eq_true rfl⟩) rfl rfl hl.1 (Nat.le_of_ble_eq_true rfl) dL_law_2674 hcs (fun H locs e9 hW hP => ?_)
  refine lv_istore (lv' := [(6, .int (nI (sp_join T D (xs (i + 1)) (xs (i + 2)) (xs (i + 3))).1)), (0, .ref b), (1, .ref a0), (2, .ref (q 0)), (3, .ref o1), (4, .ref o2), (5, .int (nI i))]) C.1.1 C.1.2.1 dL_law_2677 hl (by decide) rfl (fun ls hl => ?_)
  refine lv_aload_n C.1.1 C.1.2.1 dL_law_2679 rfl (lv_at hl 3 rfl) ?_
  refine lv_aload_n C.1.1 C.1.2.1 dL_law_2680 rfl (lv_at hl 1 rfl) ?_
  refine lv_iload C.1.1 C.1.2.1 dL_law_2681 (lv_at hl 6 rfl) ?_
  refine lv_iconst (v := nI 1) C.1.1 C.1.2.1 dL_law_2683 (by decide) ?_
  refine n_iadd C.1.1 C.1.2.1 dL_law_2684 ?_
  refine lx_sld C hW.S (j := i + 1) (by omega) (by omega) dL_law_2685 ?_
  refine lv_aload_n C.1.1 C.1.2.1 dL_law_2686 rfl (lv_at hl 1 rfl) ?_
  refine lv_iload C.1.1 C.1.2.1 dL_law_2687 (lv_at hl 6 rfl) ?_
  refine lv_iconst (v := nI 2) C.1.1 C.1.2.1 dL_law_2689 (by decide) ?_
  refine n_iadd C.1.1 C.1.2.1 dL_law_2690 ?_
  refine lx_sld C hW.S (j := i + 2) (by omega) (by omega) dL_law_2691 ?_
  refine lv_aload_n C.1.1 C.1.2.1 dL_law_2692 rfl (lv_at hl 1 rfl) ?_
  refine lv_iload C.1.1 C.1.2.1 dL_law_2693 (lv_at hl 6 rfl) ?_
  refine lv_iconst (v := nI 3) C.1.1 C.1.2.1 dL_law_2695 (by decide) ?_
  refine n_iadd C.1.1 C.1.2.1 dL_law_2696 ?_
  refine lx_sld C hW.S (j := i + 3) (by omega) (by omega) dL_law_2697 ?_
  refine lx_callmi C hW (mo_join l C.2.2.2.2.2.1 _ _ _ hIJ.1 hIJ.2 (xs (i + 1)) (xs (i + 2)) (xs (i + 3))) (cwV 3 C.1.2.2.2.2 gL_law_X7_join rfl rfl rfl (by decide +kernel) ⟨Nat.le_of_ble_eq_true rfl, Nat.le_of_ble_eq_true rfl⟩) rfl rfl hl.1 (Nat.le_of_ble_eq_true rfl) dL_law_2698 hcs (fun H locs hW => ?_)
  refine lv_istore (lv' := [(7, .int ((sp_join T D (xs (i + 1)) (xs (i + 2)) (xs (i + 3))).2.1)), (6, .int (nI (sp_join T D (xs (i + 1)) (xs (i + 2)) (xs (i + 3))).1)), (0, .ref b), (1, .ref a0), (2, .ref (q 0)), (3, .ref o1), (4, .ref o2), (5, .int (nI i))]) C.1.1 C.1.2.1 dL_law_2701 hl (by decide) rfl (fun ls hl => ?_)
  refine lv_aload_n C.1.1 C.1.2.1 dL_law_2703 rfl (lv_at hl 4 rfl) ?_
  refine lx_callmi C hW (mt_thrown l C.2.2.2.2.2.1 _ _ _) (cwV 0 C.1.2.2.2.2 gL_law_X7_thrown rfl rfl rfl (by decide +kernel) ⟨Nat.le_of_ble_eq_true rfl, Nat.le_of_ble_eq_true rfl⟩) rfl rfl hl.1 (Nat.le_of_ble_eq_true rfl) dL_law_2704 hcs (fun H locs hW => ?_)
  refine lv_iload C.1.1 C.1.2.1 dL_law_2707 (lv_at hl 1 rfl) ?_
  refine x_icmp_eq_t (tgt := 2714) C.1.1 C.1.2.1 dL_law_2709 (by decide) rfl ?_
  refine lv_iload C.1.1 C.1.2.1 dL_law_2714 (lv_at hl 1 rfl) ?_
  have h4 : (sp_join T D (xs (i + 1)) (xs (i + 2)) (xs (i + 3))).1 ≤ 4 := sp_join_c T D (xs (i + 1)) (xs (i + 2)) (xs (i + 3)) 0 0 0 0 0
  rcases Decidable.em ((sp_join T D (xs (i + 1)) (xs (i + 2)) (xs (i + 3))).1 = 0) with h0 | h0
  · refine x_if_ne_f (tgt := 2731) C.1.1 C.1.2.1 dL_law_2716 (by decide) (by rw [h0]; rfl) ?_
    obtain ⟨f9, rfl, hf9⟩ := hP
    have hf9 := hf9 h0
    refine lv_aload_n C.1.1 C.1.2.1 dL_law_2719 rfl (lv_at hl 5 rfl) ?_
    refine lv_iconst (v := nI 0) C.1.1 C.1.2.1 dL_law_2720 (by decide) ?_
    refine lx_lld C hW dL_law_2721 ?_
    refine lv_iload C.1.1 C.1.2.1 dL_law_2722 (lv_at hl 0 rfl) ?_
    refine lv_i2l (v := ((sp_join T D (xs (i + 1)) (xs (i + 2)) (xs (i + 3))).2.1).toInt64) C.1.1 C.1.2.1 dL_law_2724 rfl ?_
    refine W.lcmp C.1.1 C.1.2.1 dL_law_2725 ?_
    refine x_if_eq_t (tgt := 2731) C.1.1 C.1.2.1 dL_law_2726 (by decide) (by rw [hf9]; exact lx_cmp0 _) ?_
    refine lv_goto (tgt := 3303) C.1.1 C.1.2.1 dL_law_2731 (by decide) ?_
    exact hk H locs _ _ _ _ _ _ _ hW ⟨f9, rfl, fun z => z.elim⟩ hP2 (by omega) (by omega) ls (lv_sub hl [2, 3, 4, 5, 6, 7] rfl)
  · refine x_if_ne_t (tgt := 2731) C.1.1 C.1.2.1 dL_law_2716 (by decide) (fun z => h0 (nI_inj (by omega) (by decide) z)) ?_
    refine lv_goto (tgt := 3303) C.1.1 C.1.2.1 dL_law_2731 (by decide) ?_
    exact hk H locs _ _ _ _ _ _ _ hW (oL_w hP) hP2 (by omega) (by omega) ls (lv_sub hl [2, 3, 4, 5, 6, 7] rfl)

set_option maxHeartbeats 4000000 in
set_option maxRecDepth 100000 in
theorem lx_c34 {p : Program} {l : Launch} {e : Env} {s : State} {m : MethodId} {args : Array Value} {below : List Frame} {meth : Method} {c : Code} {H : Heap} {locs : List Loc} {cells slots : Nat} {Z : State → Prop} {ls : Array Slot} {G : va_G} {kT : Nat → ClassId} {q : Nat → Nat} {a0 o1 o2 b n : Nat} {xs : Nat → Int32} {T : mT} {D : mD} {th : Int32} {e1 e2 : va_E} (C : lx_C l p s m args c G kT q o1 o2 b n xs) (hW : lx_W G kT q a0 o1 o2 T D T D th e1 e2 s H locs) (hP1 : oL kT False 0 e1) (hP2 : oD kT False 0 e2) {i : Nat} (hi : i + 6 ≤ n) (hn : n ≤ 3072) (hcs : cells + 2 ≤ room_1.cells ∧ slots + 260 ≤ room_1.slots) (hl : lv_has ls 10 (lx_l b a0 (q 0) o1 o2 i)) (hk : lx_K p l e s m args below meth c Z G kT q a0 o1 o2 b cells slots i) : W p l e room_1 s m args below meth c H locs cells slots Z (F0 m 2734 ls []) := by
  have hl : lv_has ls 10 [(0, .ref b), (1, .ref a0), (2, .ref (q 0)), (3, .ref o1), (4, .ref o2), (5, .int (nI i))] := hl
  refine lv_aload_n C.1.1 C.1.2.1 dL_law_2734 rfl (lv_at hl 1 rfl) ?_
  refine lv_aload_n C.1.1 C.1.2.1 dL_law_2735 rfl (lv_at hl 0 rfl) ?_
  refine lv_iload C.1.1 C.1.2.1 dL_law_2736 (lv_at hl 5 rfl) ?_
  refine lv_iconst (v := nI 1) C.1.1 C.1.2.1 dL_law_2738 (by decide) ?_
  refine n_iadd C.1.1 C.1.2.1 dL_law_2739 ?_
  refine lx_sld C hW.S (j := i + 1) (by omega) (by omega) dL_law_2740 ?_
  refine lv_aload_n C.1.1 C.1.2.1 dL_law_2741 rfl (lv_at hl 0 rfl) ?_
  refine lv_iload C.1.1 C.1.2.1 dL_law_2742 (lv_at hl 5 rfl) ?_
  refine lv_iconst (v := nI 2) C.1.1 C.1.2.1 dL_law_2744 (by decide) ?_
  refine n_iadd C.1.1 C.1.2.1 dL_law_2745 ?_
  refine lx_sld C hW.S (j := i + 2) (by omega) (by omega) dL_law_2746 ?_
  refine lv_aload_n C.1.1 C.1.2.1 dL_law_2747 rfl (lv_at hl 0 rfl) ?_
  refine lv_iload C.1.1 C.1.2.1 dL_law_2748 (lv_at hl 5 rfl) ?_
  refine lv_iconst (v := nI 3) C.1.1 C.1.2.1 dL_law_2750 (by decide) ?_
  refine n_iadd C.1.1 C.1.2.1 dL_law_2751 ?_
  refine lx_sld C hW.S (j := i + 3) (by omega) (by omega) dL_law_2752 ?_
  refine lv_aload_n C.1.1 C.1.2.1 dL_law_2753 rfl (lv_at hl 0 rfl) ?_
  refine lv_iload C.1.1 C.1.2.1 dL_law_2754 (lv_at hl 5 rfl) ?_
  refine lv_iconst (v := nI 4) C.1.1 C.1.2.1 dL_law_2756 (by decide) ?_
  refine n_iadd C.1.1 C.1.2.1 dL_law_2757 ?_
  refine lx_sld C hW.S (j := i + 4) (by omega) (by omega) dL_law_2758 ?_
  refine lv_aload_n C.1.1 C.1.2.1 dL_law_2759 rfl (lv_at hl 0 rfl) ?_
  refine lv_iload C.1.1 C.1.2.1 dL_law_2760 (lv_at hl 5 rfl) ?_
  refine lv_iconst (v := nI 5) C.1.1 C.1.2.1 dL_law_2762 (by decide) ?_
  refine n_iadd C.1.1 C.1.2.1 dL_law_2763 ?_
  refine lx_sld C hW.S (j := i + 5) (by omega) (by omega) dL_law_2764 ?_
  suffices hZ : ∀ lf : Int32, lf = (if xs (i + 5) = 0 then nI 0 else nI 1) → W p l e room_1 s m args below meth c H locs cells slots Z (F0 m 2773 ls (.int lf :: .int (xs (i + 4)) :: .int (xs (i + 3)) :: .int (xs (i + 2)) :: .int (xs (i + 1)) :: .ref a0 :: [])) by
    rcases Decidable.em (xs (i + 5) = 0) with z5 | z5
    · refine x_if_eq_t (tgt := 2772) C.1.1 C.1.2.1 dL_law_2765 (by decide) z5 ?_
      refine lv_iconst (v := nI 0) C.1.1 C.1.2.1 dL_law_2772 (by decide) ?_
      exact hZ _ (if_pos z5).symm
    · refine x_if_eq_f (tgt := 2772) C.1.1 C.1.2.1 dL_law_2765 (by decide) z5 ?_
      refine lv_iconst (v := nI 1) C.1.1 C.1.2.1 dL_law_2768 (by decide) ?_
      refine lv_goto (tgt := 2773) C.1.1 C.1.2.1 dL_law_2769 (by decide) ?_
      exact hZ _ (if_neg z5).symm
  intro lf hlf
  refine lv_aload_n C.1.1 C.1.2.1 dL_law_2773 rfl (lv_at hl 3 rfl) ?_
  have hIJ := hW.IJ
  refine lx_callw C hW hP1 (wo_joinThree l C.2.2.2.2.2.2.2.2.2.2 hIJ.1 hIJ.2 (xs (i + 1)) (xs (i + 2)) (xs (i + 3)) (xs (i + 4)) (lf)) (vx_cwSW 7 C.1.2.2.2.2 gL_law_L_joinThree rfl rfl rfl (by decide +kernel) ⟨Nat.le_of_ble_eq_true rfl, Nat.le_of_ble_eq_true rfl⟩) rfl rfl hl.1 (Nat.le_of_ble_eq_true rfl) dL_law_2774 hcs (fun H locs e9 hW hP => ?_)
  refine lv_istore (lv' := [(6, .int (nI (sp_joinThree T D (xs (i + 1)) (xs (i + 2)) (xs (i + 3)) (xs (i + 4))).1)), (0, .ref b), (1, .ref a0), (2, .ref (q 0)), (3, .ref o1), (4, .ref o2), (5, .int (nI i))]) C.1.1 C.1.2.1 dL_law_2777 hl (by decide) rfl (fun ls hl => ?_)
  refine lv_aload_n C.1.1 C.1.2.1 dL_law_2779 rfl (lv_at hl 3 rfl) ?_
  refine lv_aload_n C.1.1 C.1.2.1 dL_law_2780 rfl (lv_at hl 1 rfl) ?_
  refine lv_iload C.1.1 C.1.2.1 dL_law_2781 (lv_at hl 6 rfl) ?_
  refine lv_iconst (v := nI 1) C.1.1 C.1.2.1 dL_law_2783 (by decide) ?_
  refine n_iadd C.1.1 C.1.2.1 dL_law_2784 ?_
  refine lx_sld C hW.S (j := i + 1) (by omega) (by omega) dL_law_2785 ?_
  refine lv_aload_n C.1.1 C.1.2.1 dL_law_2786 rfl (lv_at hl 1 rfl) ?_
  refine lv_iload C.1.1 C.1.2.1 dL_law_2787 (lv_at hl 6 rfl) ?_
  refine lv_iconst (v := nI 2) C.1.1 C.1.2.1 dL_law_2789 (by decide) ?_
  refine n_iadd C.1.1 C.1.2.1 dL_law_2790 ?_
  refine lx_sld C hW.S (j := i + 2) (by omega) (by omega) dL_law_2791 ?_
  refine lv_aload_n C.1.1 C.1.2.1 dL_law_2792 rfl (lv_at hl 1 rfl) ?_
  refine lv_iload C.1.1 C.1.2.1 dL_law_2793 (lv_at hl 6 rfl) ?_
  refine lv_iconst (v := nI 3) C.1.1 C.1.2.1 dL_law_2795 (by decide) ?_
  refine n_iadd C.1.1 C.1.2.1 dL_law_2796 ?_
  refine lx_sld C hW.S (j := i + 3) (by omega) (by omega) dL_law_2797 ?_
  refine lv_aload_n C.1.1 C.1.2.1 dL_law_2798 rfl (lv_at hl 1 rfl) ?_
  refine lv_iload C.1.1 C.1.2.1 dL_law_2799 (lv_at hl 6 rfl) ?_
  refine lv_iconst (v := nI 4) C.1.1 C.1.2.1 dL_law_2801 (by decide) ?_
  refine n_iadd C.1.1 C.1.2.1 dL_law_2802 ?_
  refine lx_sld C hW.S (j := i + 4) (by omega) (by omega) dL_law_2803 ?_
  refine lv_aload_n C.1.1 C.1.2.1 dL_law_2804 rfl (lv_at hl 1 rfl) ?_
  refine lv_iload C.1.1 C.1.2.1 dL_law_2805 (lv_at hl 6 rfl) ?_
  refine lv_iconst (v := nI 5) C.1.1 C.1.2.1 dL_law_2807 (by decide) ?_
  refine n_iadd C.1.1 C.1.2.1 dL_law_2808 ?_
  refine lx_sld C hW.S (j := i + 5) (by omega) (by omega) dL_law_2809 ?_
  suffices hZ : W p l e room_1 s m args below meth c H locs (cells + 2) (slots + 260) Z (F0 m 2818 ls (.int lf :: .int (xs (i + 4)) :: .int (xs (i + 3)) :: .int (xs (i + 2)) :: .int (xs (i + 1)) :: .ref (q 0) :: [])) by
    rcases Decidable.em (xs (i + 5) = 0) with z5 | z5
    · refine x_if_eq_t (tgt := 2817) C.1.1 C.1.2.1 dL_law_2810 (by decide) z5 ?_
      refine lv_iconst (v := nI 0) C.1.1 C.1.2.1 dL_law_2817 (by decide) ?_
      rw [hlf, if_pos z5] at hZ; exact hZ
    · refine x_if_eq_f (tgt := 2817) C.1.1 C.1.2.1 dL_law_2810 (by decide) z5 ?_
      refine lv_iconst (v := nI 1) C.1.1 C.1.2.1 dL_law_2813 (by decide) ?_
      refine lv_goto (tgt := 2818) C.1.1 C.1.2.1 dL_law_2814 (by decide) ?_
      rw [hlf, if_neg z5] at hZ; exact hZ
  refine lx_callmi C hW (mo_joinThree l C.2.2.2.2.2.1 _ _ _ hIJ.1 hIJ.2 (xs (i + 1)) (xs (i + 2)) (xs (i + 3)) (xs (i + 4)) (lf)) (cwV 5 C.1.2.2.2.2 gL_law_X7_joinThree rfl rfl rfl (by decide +kernel) ⟨Nat.le_of_ble_eq_true rfl, Nat.le_of_ble_eq_true rfl⟩) rfl rfl hl.1 (Nat.le_of_ble_eq_true rfl) dL_law_2818 hcs (fun H locs hW => ?_)
  refine lv_istore (lv' := [(7, .int ((sp_joinThree T D (xs (i + 1)) (xs (i + 2)) (xs (i + 3)) (xs (i + 4))).2.1)), (6, .int (nI (sp_joinThree T D (xs (i + 1)) (xs (i + 2)) (xs (i + 3)) (xs (i + 4))).1)), (0, .ref b), (1, .ref a0), (2, .ref (q 0)), (3, .ref o1), (4, .ref o2), (5, .int (nI i))]) C.1.1 C.1.2.1 dL_law_2821 hl (by decide) rfl (fun ls hl => ?_)
  refine lv_aload_n C.1.1 C.1.2.1 dL_law_2823 rfl (lv_at hl 4 rfl) ?_
  refine lx_callmi C hW (mt_thrown l C.2.2.2.2.2.1 _ _ _) (cwV 0 C.1.2.2.2.2 gL_law_X7_thrown rfl rfl rfl (by decide +kernel) ⟨Nat.le_of_ble_eq_true rfl, Nat.le_of_ble_eq_true rfl⟩) rfl rfl hl.1 (Nat.le_of_ble_eq_true rfl) dL_law_2824 hcs (fun H locs hW => ?_)
  refine lv_iload C.1.1 C.1.2.1 dL_law_2827 (lv_at hl 1 rfl) ?_
  refine x_icmp_eq_t (tgt := 2834) C.1.1 C.1.2.1 dL_law_2829 (by decide) rfl ?_
  refine lv_iload C.1.1 C.1.2.1 dL_law_2834 (lv_at hl 1 rfl) ?_
  have h4 : (sp_joinThree T D (xs (i + 1)) (xs (i + 2)) (xs (i + 3)) (xs (i + 4))).1 ≤ 4 := sp_joinThree_c T D (xs (i + 1)) (xs (i + 2)) (xs (i + 3)) (xs (i + 4)) 0 0 0 0
  rcases Decidable.em ((sp_joinThree T D (xs (i + 1)) (xs (i + 2)) (xs (i + 3)) (xs (i + 4))).1 = 0) with h0 | h0
  · refine x_if_ne_f (tgt := 2851) C.1.1 C.1.2.1 dL_law_2836 (by decide) (by rw [h0]; rfl) ?_
    obtain ⟨f9, rfl, hf9⟩ := hP
    have hf9 := hf9 h0
    refine lv_aload_n C.1.1 C.1.2.1 dL_law_2839 rfl (lv_at hl 5 rfl) ?_
    refine lv_iconst (v := nI 0) C.1.1 C.1.2.1 dL_law_2840 (by decide) ?_
    refine lx_lld C hW dL_law_2841 ?_
    refine lv_iload C.1.1 C.1.2.1 dL_law_2842 (lv_at hl 0 rfl) ?_
    refine lv_i2l (v := ((sp_joinThree T D (xs (i + 1)) (xs (i + 2)) (xs (i + 3)) (xs (i + 4))).2.1).toInt64) C.1.1 C.1.2.1 dL_law_2844 rfl ?_
    refine W.lcmp C.1.1 C.1.2.1 dL_law_2845 ?_
    refine x_if_eq_t (tgt := 2851) C.1.1 C.1.2.1 dL_law_2846 (by decide) (by rw [hf9]; exact lx_cmp0 _) ?_
    refine lv_goto (tgt := 3303) C.1.1 C.1.2.1 dL_law_2851 (by decide) ?_
    exact hk H locs _ _ _ _ _ _ _ hW ⟨f9, rfl, fun z => z.elim⟩ hP2 (by omega) (by omega) ls (lv_sub hl [2, 3, 4, 5, 6, 7] rfl)
  · refine x_if_ne_t (tgt := 2851) C.1.1 C.1.2.1 dL_law_2836 (by decide) (fun z => h0 (nI_inj (by omega) (by decide) z)) ?_
    refine lv_goto (tgt := 3303) C.1.1 C.1.2.1 dL_law_2851 (by decide) ?_
    exact hk H locs _ _ _ _ _ _ _ hW (oL_w hP) hP2 (by omega) (by omega) ls (lv_sub hl [2, 3, 4, 5, 6, 7] rfl)
