theorem wsL_law_258 : Cond.constantLong RL 258 4294967295 ∈ wsL_law := List.mem_of_getElem? (i := 8) (by decide +kernel)
/-! the law: its cases -/
theorem lx_dcmp0 {x : UInt64} (h : Jvm.FP.Core.dIsNaN x = false) : Op.cmpValue (FP.dcmp x x) CmpOp.l = 0 := by
  rw [show FP.dcmp x x = some .eq from Jvm.FP.Core.dcmp_refl h]; rfl
theorem sp_areLike_v (T : mT) (D : mD) (x1 x2 : Int32) (h : (sp_areLike T D x1 x2).1 = 0) : (sp_areLike T D x1 x2).2.1 = nI 0 ∨ (sp_areLike T D x1 x2).2.1 = nI 1 := by
  unfold sp_areLike
  split
  · exact Or.inl rfl
  · show nI (sk_like T D _ _) = nI 0 ∨ nI (sk_like T D _ _) = nI 1
    have h9 : sk_like T D x1.toNatClampNeg (3 + x2.toNatClampNeg) ≤ 1 := by
      unfold sk_like
      split
      · exact lkF_le _
      · exact Nat.zero_le _
    rcases Nat.lt_or_ge (sk_like T D x1.toNatClampNeg (3 + x2.toNatClampNeg)) 1 with g | g
    · exact Or.inl (by rw [show sk_like T D x1.toNatClampNeg (3 + x2.toNatClampNeg) = 0 by omega])
    · exact Or.inr (by rw [show sk_like T D x1.toNatClampNeg (3 + x2.toNatClampNeg) = 1 by omega])
theorem sp_share_n (T : mT) (D : mD) (x1 : Int32) (I : mI T) (h : (sp_share T D x1).1 = 0) : Jvm.FP.Core.fIsNaN (sp_share T D x1).2.1 = false := by
  unfold sp_share at h ⊢
  rcases Decidable.em (oN x1 2) with h1 | h1
  · rw [if_pos h1] at h; exact absurd h (show ¬ (1 : Nat) = 0 by decide)
  · rw [if_neg h1] at h ⊢
    rcases Decidable.em (T 13 x1.toNatClampNeg = 0) with h2 | h2
    · rw [if_pos h2] at h; exact absurd h (show ¬ (2 : Nat) = 0 by decide)
    · rw [if_neg h2] at h ⊢
      rcases Decidable.em (T 17 x1.toNatClampNeg = 0) with h3 | h3
      · rw [if_pos h3] at h; exact absurd h (show ¬ (3 : Nat) = 0 by decide)
      · rw [if_neg h3]
        have h9 : x1.toNatClampNeg < 2 := Nat.not_le.mp (fun z => h1 (Or.inr z))
        have h17 := (I.st h9).2.2.1
        exact fdiv_n32 _ _ (by rw [nI_toInt (by omega)]; omega)
set_option maxHeartbeats 4000000 in
set_option maxRecDepth 100000 in
theorem lx_c0 {p : Program} {l : Launch} {e : Env} {s : State} {m : MethodId} {args : Array Value} {below : List Frame} {meth : Method} {c : Code} {H : Heap} {locs : List Loc} {cells slots : Nat} {Z : State → Prop} {ls : Array Slot} {G : va_G} {kT : Nat → ClassId} {q : Nat → Nat} {a0 o1 o2 b n : Nat} {xs : Nat → Int32} {T : mT} {D : mD} {th : Int32} {e1 e2 : va_E} (C : lx_C l p s m args c G kT q o1 o2 b n xs) (hW : lx_W G kT q a0 o1 o2 T D T D th e1 e2 s H locs) (hP1 : oL kT False 0 e1) (hP2 : oD kT False 0 e2) {i : Nat} (hi : i + 6 ≤ n) (hn : n ≤ 3072) (hcs : cells + 2 ≤ room_1.cells ∧ slots + 260 ≤ room_1.slots) (hl : lv_has ls 10 (lx_l b a0 (q 0) o1 o2 i)) (hk : lx_K p l e s m args below meth c Z G kT q a0 o1 o2 b cells slots i) : W p l e room_1 s m args below meth c H locs cells slots Z (F0 m 232 ls []) := by
  have hl : lv_has ls 10 [(0, .ref b), (1, .ref a0), (2, .ref (q 0)), (3, .ref o1), (4, .ref o2), (5, .int (nI i))] := hl
  refine lv_aload_n C.1.1 C.1.2.1 dL_law_232 rfl (lv_at hl 1 rfl) ?_
  refine lv_aload_n C.1.1 C.1.2.1 dL_law_233 rfl (lv_at hl 0 rfl) ?_
  refine lv_iload C.1.1 C.1.2.1 dL_law_234 (lv_at hl 5 rfl) ?_
  refine lv_iconst (v := nI 1) C.1.1 C.1.2.1 dL_law_236 (by decide) ?_
  refine n_iadd C.1.1 C.1.2.1 dL_law_237 ?_
  refine lx_sld C hW.S (j := i + 1) (by omega) (by omega) dL_law_238 ?_
  refine lv_aload_n C.1.1 C.1.2.1 dL_law_239 rfl (lv_at hl 0 rfl) ?_
  refine lv_iload C.1.1 C.1.2.1 dL_law_240 (lv_at hl 5 rfl) ?_
  refine lv_iconst (v := nI 2) C.1.1 C.1.2.1 dL_law_242 (by decide) ?_
  refine n_iadd C.1.1 C.1.2.1 dL_law_243 ?_
  refine lx_sld C hW.S (j := i + 2) (by omega) (by omega) dL_law_244 ?_
  refine lv_aload_n C.1.1 C.1.2.1 dL_law_245 rfl (lv_at hl 3 rfl) ?_
  have hIJ := hW.IJ
  refine lx_callw C hW hP1 (wo_make l C.2.2.2.2.2.2.2.2.2.2 hIJ.1 hIJ.2 (xs (i + 1)) (xs (i + 2))) (vx_cwSW 4 C.1.2.2.2.2 gL_law_L_make rfl rfl rfl (by decide +kernel) ⟨Nat.le_of_ble_eq_true rfl, Nat.le_of_ble_eq_true rfl⟩) rfl rfl hl.1 (Nat.le_of_ble_eq_true rfl) dL_law_246 hcs (fun H locs e9 hW hP => ?_)
  refine lv_istore (lv' := [(6, .int (nI (sp_make T D (xs (i + 1)) (xs (i + 2))).1)), (0, .ref b), (1, .ref a0), (2, .ref (q 0)), (3, .ref o1), (4, .ref o2), (5, .int (nI i))]) C.1.1 C.1.2.1 dL_law_249 hl (by decide) rfl (fun ls hl => ?_)
  refine lv_aload_n C.1.1 C.1.2.1 dL_law_251 rfl (lv_at hl 3 rfl) ?_
  refine lv_aload_n C.1.1 C.1.2.1 dL_law_252 rfl (lv_at hl 1 rfl) ?_
  refine lv_iload C.1.1 C.1.2.1 dL_law_253 (lv_at hl 6 rfl) ?_
  refine lv_iconst (v := nI 1) C.1.1 C.1.2.1 dL_law_255 (by decide) ?_
  refine n_iadd C.1.1 C.1.2.1 dL_law_256 ?_
  refine lx_sld C hW.S (j := i + 1) (by omega) (by omega) dL_law_257 ?_
  refine lv_aload_n C.1.1 C.1.2.1 dL_law_258 rfl (lv_at hl 1 rfl) ?_
  refine lv_iload C.1.1 C.1.2.1 dL_law_259 (lv_at hl 6 rfl) ?_
  refine lv_iconst (v := nI 2) C.1.1 C.1.2.1 dL_law_261 (by decide) ?_
  refine n_iadd C.1.1 C.1.2.1 dL_law_262 ?_
  refine lx_sld C hW.S (j := i + 2) (by omega) (by omega) dL_law_263 ?_
  refine lx_callmi C hW (mo_make l C.2.2.2.2.2.1 _ _ _ hIJ.1 hIJ.2 (xs (i + 1)) (xs (i + 2))) (cwV 2 C.1.2.2.2.2 gL_law_X7_make rfl rfl rfl (by decide +kernel) ⟨Nat.le_of_ble_eq_true rfl, Nat.le_of_ble_eq_true rfl⟩) rfl rfl hl.1 (Nat.le_of_ble_eq_true rfl) dL_law_264 hcs (fun H locs hW => ?_)
  refine lv_istore (lv' := [(7, .int ((sp_make T D (xs (i + 1)) (xs (i + 2))).2.1)), (6, .int (nI (sp_make T D (xs (i + 1)) (xs (i + 2))).1)), (0, .ref b), (1, .ref a0), (2, .ref (q 0)), (3, .ref o1), (4, .ref o2), (5, .int (nI i))]) C.1.1 C.1.2.1 dL_law_267 hl (by decide) rfl (fun ls hl => ?_)
  refine lv_aload_n C.1.1 C.1.2.1 dL_law_269 rfl (lv_at hl 4 rfl) ?_
  refine lx_callmi C hW (mt_thrown l C.2.2.2.2.2.1 _ _ _) (cwV 0 C.1.2.2.2.2 gL_law_X7_thrown rfl rfl rfl (by decide +kernel) ⟨Nat.le_of_ble_eq_true rfl, Nat.le_of_ble_eq_true rfl⟩) rfl rfl hl.1 (Nat.le_of_ble_eq_true rfl) dL_law_270 hcs (fun H locs hW => ?_)
  refine lv_iload C.1.1 C.1.2.1 dL_law_273 (lv_at hl 1 rfl) ?_
  refine x_icmp_eq_t (tgt := 280) C.1.1 C.1.2.1 dL_law_275 (by decide) rfl ?_
  refine lv_iload C.1.1 C.1.2.1 dL_law_280 (lv_at hl 1 rfl) ?_
  have h4 : (sp_make T D (xs (i + 1)) (xs (i + 2))).1 ≤ 4 := sp_make_c T D (xs (i + 1)) (xs (i + 2)) 0 0 0 0 0 0
  rcases Decidable.em ((sp_make T D (xs (i + 1)) (xs (i + 2))).1 = 0) with h0 | h0
  · refine x_if_ne_f (tgt := 297) C.1.1 C.1.2.1 dL_law_282 (by decide) (by rw [h0]; rfl) ?_
    obtain ⟨f9, rfl, hf9⟩ := hP
    have hf9 := hf9 h0
    refine lv_aload_n C.1.1 C.1.2.1 dL_law_285 rfl (lv_at hl 5 rfl) ?_
    refine lv_iconst (v := nI 0) C.1.1 C.1.2.1 dL_law_286 (by decide) ?_
    refine lx_lld C hW dL_law_287 ?_
    refine lv_iload C.1.1 C.1.2.1 dL_law_288 (lv_at hl 0 rfl) ?_
    refine lv_i2l (v := ((sp_make T D (xs (i + 1)) (xs (i + 2))).2.1).toInt64) C.1.1 C.1.2.1 dL_law_290 rfl ?_
    refine W.lcmp C.1.1 C.1.2.1 dL_law_291 ?_
    refine x_if_eq_t (tgt := 297) C.1.1 C.1.2.1 dL_law_292 (by decide) (by rw [hf9]; exact lx_cmp0 _) ?_
    refine lv_goto (tgt := 3303) C.1.1 C.1.2.1 dL_law_297 (by decide) ?_
    exact hk H locs _ _ _ _ _ _ _ hW ⟨f9, rfl, fun z => z.elim⟩ hP2 (by omega) (by omega) ls (lv_sub hl [2, 3, 4, 5, 6, 7] rfl)
  · refine x_if_ne_t (tgt := 297) C.1.1 C.1.2.1 dL_law_282 (by decide) (fun z => h0 (nI_inj (by omega) (by decide) z)) ?_
    refine lv_goto (tgt := 3303) C.1.1 C.1.2.1 dL_law_297 (by decide) ?_
    exact hk H locs _ _ _ _ _ _ _ hW (oL_w hP) hP2 (by omega) (by omega) ls (lv_sub hl [2, 3, 4, 5, 6, 7] rfl)

set_option maxHeartbeats 4000000 in
set_option maxRecDepth 100000 in
theorem lx_c1 {p : Program} {l : Launch} {e : Env} {s : State} {m : MethodId} {args : Array Value} {below : List Frame} {meth : Method} {c : Code} {H : Heap} {locs : List Loc} {cells slots : Nat} {Z : State → Prop} {ls : Array Slot} {G : va_G} {kT : Nat → ClassId} {q : Nat → Nat} {a0 o1 o2 b n : Nat} {xs : Nat → Int32} {T : mT} {D : mD} {th : Int32} {e1 e2 : va_E} (C : lx_C l p s m args c G kT q o1 o2 b n xs) (hW : lx_W G kT q a0 o1 o2 T D T D th e1 e2 s H locs) (hP1 : oL kT False 0 e1) (hP2 : oD kT False 0 e2) {i : Nat} (hi : i + 6 ≤ n) (hn : n ≤ 3072) (hcs : cells + 2 ≤ room_1.cells ∧ slots + 260 ≤ room_1.slots) (hl : lv_has ls 10 (lx_l b a0 (q 0) o1 o2 i)) (hk : lx_K p l e s m args below meth c Z G kT q a0 o1 o2 b cells slots i) : W p l e room_1 s m args below meth c H locs cells slots Z (F0 m 300 ls []) := by
  have hl : lv_has ls 10 [(0, .ref b), (1, .ref a0), (2, .ref (q 0)), (3, .ref o1), (4, .ref o2), (5, .int (nI i))] := hl
  refine lv_aload_n C.1.1 C.1.2.1 dL_law_300 rfl (lv_at hl 1 rfl) ?_
  refine lv_aload_n C.1.1 C.1.2.1 dL_law_301 rfl (lv_at hl 0 rfl) ?_
  refine lv_iload C.1.1 C.1.2.1 dL_law_302 (lv_at hl 5 rfl) ?_
  refine lv_iconst (v := nI 1) C.1.1 C.1.2.1 dL_law_304 (by decide) ?_
  refine n_iadd C.1.1 C.1.2.1 dL_law_305 ?_
  refine lx_sld C hW.S (j := i + 1) (by omega) (by omega) dL_law_306 ?_
  refine lv_aload_n C.1.1 C.1.2.1 dL_law_307 rfl (lv_at hl 0 rfl) ?_
  refine lv_iload C.1.1 C.1.2.1 dL_law_308 (lv_at hl 5 rfl) ?_
  refine lv_iconst (v := nI 2) C.1.1 C.1.2.1 dL_law_310 (by decide) ?_
  refine n_iadd C.1.1 C.1.2.1 dL_law_311 ?_
  refine lx_sld C hW.S (j := i + 2) (by omega) (by omega) dL_law_312 ?_
  refine lv_aload_n C.1.1 C.1.2.1 dL_law_313 rfl (lv_at hl 0 rfl) ?_
  refine lv_iload C.1.1 C.1.2.1 dL_law_314 (lv_at hl 5 rfl) ?_
  refine lv_iconst (v := nI 3) C.1.1 C.1.2.1 dL_law_316 (by decide) ?_
  refine n_iadd C.1.1 C.1.2.1 dL_law_317 ?_
  refine lx_sld C hW.S (j := i + 3) (by omega) (by omega) dL_law_318 ?_
  refine lv_i2c (v := ((xs (i + 3)).toUInt32 % 65536).toInt32) C.1.1 C.1.2.1 dL_law_319 rfl ?_
  refine lv_aload_n C.1.1 C.1.2.1 dL_law_320 rfl (lv_at hl 3 rfl) ?_
  have hIJ := hW.IJ
  refine lx_callw C hW hP1 (wo_put l C.2.2.2.2.2.2.2.2.2.2 hIJ.1 hIJ.2 (xs (i + 1)) (xs (i + 2)) (((xs (i + 3)).toUInt32 % 65536).toInt32)) (vx_cwSW 5 C.1.2.2.2.2 gL_law_L_put rfl rfl rfl (by decide +kernel) ⟨Nat.le_of_ble_eq_true rfl, Nat.le_of_ble_eq_true rfl⟩) rfl rfl hl.1 (Nat.le_of_ble_eq_true rfl) dL_law_321 hcs (fun H locs e9 hW hP => ?_)
  refine lv_istore (lv' := [(6, .int (nI (sp_put T D (xs (i + 1)) (xs (i + 2)) (((xs (i + 3)).toUInt32 % 65536).toInt32)).1)), (0, .ref b), (1, .ref a0), (2, .ref (q 0)), (3, .ref o1), (4, .ref o2), (5, .int (nI i))]) C.1.1 C.1.2.1 dL_law_324 hl (by decide) rfl (fun ls hl => ?_)
  refine lv_aload_n C.1.1 C.1.2.1 dL_law_326 rfl (lv_at hl 3 rfl) ?_
  refine lv_aload_n C.1.1 C.1.2.1 dL_law_327 rfl (lv_at hl 1 rfl) ?_
  refine lv_iload C.1.1 C.1.2.1 dL_law_328 (lv_at hl 6 rfl) ?_
  refine lv_iconst (v := nI 1) C.1.1 C.1.2.1 dL_law_330 (by decide) ?_
  refine n_iadd C.1.1 C.1.2.1 dL_law_331 ?_
  refine lx_sld C hW.S (j := i + 1) (by omega) (by omega) dL_law_332 ?_
  refine lv_aload_n C.1.1 C.1.2.1 dL_law_333 rfl (lv_at hl 1 rfl) ?_
  refine lv_iload C.1.1 C.1.2.1 dL_law_334 (lv_at hl 6 rfl) ?_
  refine lv_iconst (v := nI 2) C.1.1 C.1.2.1 dL_law_336 (by decide) ?_
  refine n_iadd C.1.1 C.1.2.1 dL_law_337 ?_
  refine lx_sld C hW.S (j := i + 2) (by omega) (by omega) dL_law_338 ?_
  refine lv_aload_n C.1.1 C.1.2.1 dL_law_339 rfl (lv_at hl 1 rfl) ?_
  refine lv_iload C.1.1 C.1.2.1 dL_law_340 (lv_at hl 6 rfl) ?_
  refine lv_iconst (v := nI 3) C.1.1 C.1.2.1 dL_law_342 (by decide) ?_
  refine n_iadd C.1.1 C.1.2.1 dL_law_343 ?_
  refine lx_sld C hW.S (j := i + 3) (by omega) (by omega) dL_law_344 ?_
  refine lv_i2c (v := ((xs (i + 3)).toUInt32 % 65536).toInt32) C.1.1 C.1.2.1 dL_law_345 rfl ?_
  refine lx_callmi C hW (mo_put l C.2.2.2.2.2.1 _ _ _ hIJ.1 hIJ.2 (xs (i + 1)) (xs (i + 2)) (((xs (i + 3)).toUInt32 % 65536).toInt32)) (cwV 3 C.1.2.2.2.2 gL_law_X7_put rfl rfl rfl (by decide +kernel) ⟨Nat.le_of_ble_eq_true rfl, Nat.le_of_ble_eq_true rfl⟩) rfl rfl hl.1 (Nat.le_of_ble_eq_true rfl) dL_law_346 hcs (fun H locs hW => ?_)
  refine lv_istore (lv' := [(7, .int ((sp_put T D (xs (i + 1)) (xs (i + 2)) (((xs (i + 3)).toUInt32 % 65536).toInt32)).2.1)), (6, .int (nI (sp_put T D (xs (i + 1)) (xs (i + 2)) (((xs (i + 3)).toUInt32 % 65536).toInt32)).1)), (0, .ref b), (1, .ref a0), (2, .ref (q 0)), (3, .ref o1), (4, .ref o2), (5, .int (nI i))]) C.1.1 C.1.2.1 dL_law_349 hl (by decide) rfl (fun ls hl => ?_)
  refine lv_aload_n C.1.1 C.1.2.1 dL_law_351 rfl (lv_at hl 4 rfl) ?_
  refine lx_callmi C hW (mt_thrown l C.2.2.2.2.2.1 _ _ _) (cwV 0 C.1.2.2.2.2 gL_law_X7_thrown rfl rfl rfl (by decide +kernel) ⟨Nat.le_of_ble_eq_true rfl, Nat.le_of_ble_eq_true rfl⟩) rfl rfl hl.1 (Nat.le_of_ble_eq_true rfl) dL_law_352 hcs (fun H locs hW => ?_)
  refine lv_iload C.1.1 C.1.2.1 dL_law_355 (lv_at hl 1 rfl) ?_
  refine x_icmp_eq_t (tgt := 362) C.1.1 C.1.2.1 dL_law_357 (by decide) rfl ?_
  refine lv_iload C.1.1 C.1.2.1 dL_law_362 (lv_at hl 1 rfl) ?_
  have h4 : (sp_put T D (xs (i + 1)) (xs (i + 2)) (((xs (i + 3)).toUInt32 % 65536).toInt32)).1 ≤ 4 := sp_put_c T D (xs (i + 1)) (xs (i + 2)) (((xs (i + 3)).toUInt32 % 65536).toInt32) 0 0 0 0 0
  rcases Decidable.em ((sp_put T D (xs (i + 1)) (xs (i + 2)) (((xs (i + 3)).toUInt32 % 65536).toInt32)).1 = 0) with h0 | h0
  · refine x_if_ne_f (tgt := 379) C.1.1 C.1.2.1 dL_law_364 (by decide) (by rw [h0]; rfl) ?_
    obtain ⟨f9, rfl, hf9⟩ := hP
    have hf9 := hf9 h0
    refine lv_aload_n C.1.1 C.1.2.1 dL_law_367 rfl (lv_at hl 5 rfl) ?_
    refine lv_iconst (v := nI 0) C.1.1 C.1.2.1 dL_law_368 (by decide) ?_
    refine lx_lld C hW dL_law_369 ?_
    refine lv_iload C.1.1 C.1.2.1 dL_law_370 (lv_at hl 0 rfl) ?_
    refine lv_i2l (v := ((sp_put T D (xs (i + 1)) (xs (i + 2)) (((xs (i + 3)).toUInt32 % 65536).toInt32)).2.1).toInt64) C.1.1 C.1.2.1 dL_law_372 rfl ?_
    refine W.lcmp C.1.1 C.1.2.1 dL_law_373 ?_
    refine x_if_eq_t (tgt := 379) C.1.1 C.1.2.1 dL_law_374 (by decide) (by rw [hf9]; exact lx_cmp0 _) ?_
    refine lv_goto (tgt := 3303) C.1.1 C.1.2.1 dL_law_379 (by decide) ?_
    exact hk H locs _ _ _ _ _ _ _ hW ⟨f9, rfl, fun z => z.elim⟩ hP2 (by omega) (by omega) ls (lv_sub hl [2, 3, 4, 5, 6, 7] rfl)
  · refine x_if_ne_t (tgt := 379) C.1.1 C.1.2.1 dL_law_364 (by decide) (fun z => h0 (nI_inj (by omega) (by decide) z)) ?_
    refine lv_goto (tgt := 3303) C.1.1 C.1.2.1 dL_law_379 (by decide) ?_
    exact hk H locs _ _ _ _ _ _ _ hW (oL_w hP) hP2 (by omega) (by omega) ls (lv_sub hl [2, 3, 4, 5, 6, 7] rfl)

set_option maxHeartbeats 4000000 in
set_option maxRecDepth 100000 in
theorem lx_c2 {p : Program} {l : Launch} {e : Env} {s : State} {m : MethodId} {args : Array Value} {below : List Frame} {meth : Method} {c : Code} {H : Heap} {locs : List Loc} {cells slots : Nat} {Z : State → Prop} {ls : Array Slot} {G : va_G} {kT : Nat → ClassId} {q : Nat → Nat} {a0 o1 o2 b n : Nat} {xs : Nat → Int32} {T : mT} {D : mD} {th : Int32} {e1 e2 : va_E} (C : lx_C l p s m args c G kT q o1 o2 b n xs) (hW : lx_W G kT q a0 o1 o2 T D T D th e1 e2 s H locs) (hP1 : oL kT False 0 e1) (hP2 : oD kT False 0 e2) {i : Nat} (hi : i + 6 ≤ n) (hn : n ≤ 3072) (hcs : cells + 2 ≤ room_1.cells ∧ slots + 260 ≤ room_1.slots) (hl : lv_has ls 10 (lx_l b a0 (q 0) o1 o2 i)) (hk : lx_K p l e s m args below meth c Z G kT q a0 o1 o2 b cells slots i) : W p l e room_1 s m args below meth c H locs cells slots Z (F0 m 382 ls []) := by
  have hl : lv_has ls 10 [(0, .ref b), (1, .ref a0), (2, .ref (q 0)), (3, .ref o1), (4, .ref o2), (5, .int (nI i))] := hl
  refine lv_aload_n C.1.1 C.1.2.1 dL_law_382 rfl (lv_at hl 1 rfl) ?_
  refine lv_aload_n C.1.1 C.1.2.1 dL_law_383 rfl (lv_at hl 0 rfl) ?_
  refine lv_iload C.1.1 C.1.2.1 dL_law_384 (lv_at hl 5 rfl) ?_
  refine lv_iconst (v := nI 1) C.1.1 C.1.2.1 dL_law_386 (by decide) ?_
  refine n_iadd C.1.1 C.1.2.1 dL_law_387 ?_
  refine lx_sld C hW.S (j := i + 1) (by omega) (by omega) dL_law_388 ?_
  refine lv_aload_n C.1.1 C.1.2.1 dL_law_389 rfl (lv_at hl 0 rfl) ?_
  refine lv_iload C.1.1 C.1.2.1 dL_law_390 (lv_at hl 5 rfl) ?_
  refine lv_iconst (v := nI 2) C.1.1 C.1.2.1 dL_law_392 (by decide) ?_
  refine n_iadd C.1.1 C.1.2.1 dL_law_393 ?_
  refine lx_sld C hW.S (j := i + 2) (by omega) (by omega) dL_law_394 ?_
  refine lv_aload_n C.1.1 C.1.2.1 dL_law_395 rfl (lv_at hl 0 rfl) ?_
  refine lv_iload C.1.1 C.1.2.1 dL_law_396 (lv_at hl 5 rfl) ?_
  refine lv_iconst (v := nI 3) C.1.1 C.1.2.1 dL_law_398 (by decide) ?_
  refine n_iadd C.1.1 C.1.2.1 dL_law_399 ?_
  refine lx_sld C hW.S (j := i + 3) (by omega) (by omega) dL_law_400 ?_
  refine lv_aload_n C.1.1 C.1.2.1 dL_law_401 rfl (lv_at hl 0 rfl) ?_
  refine lv_iload C.1.1 C.1.2.1 dL_law_402 (lv_at hl 5 rfl) ?_
  refine lv_iconst (v := nI 4) C.1.1 C.1.2.1 dL_law_404 (by decide) ?_
  refine n_iadd C.1.1 C.1.2.1 dL_law_405 ?_
  refine lx_sld C hW.S (j := i + 4) (by omega) (by omega) dL_law_406 ?_
  refine lv_i2c (v := ((xs (i + 4)).toUInt32 % 65536).toInt32) C.1.1 C.1.2.1 dL_law_407 rfl ?_
  refine lv_aload_n C.1.1 C.1.2.1 dL_law_408 rfl (lv_at hl 0 rfl) ?_
  refine lv_iload C.1.1 C.1.2.1 dL_law_409 (lv_at hl 5 rfl) ?_
  refine lv_iconst (v := nI 5) C.1.1 C.1.2.1 dL_law_411 (by decide) ?_
  refine n_iadd C.1.1 C.1.2.1 dL_law_412 ?_
  refine lx_sld C hW.S (j := i + 5) (by omega) (by omega) dL_law_413 ?_
  refine lv_aload_n C.1.1 C.1.2.1 dL_law_414 rfl (lv_at hl 3 rfl) ?_
  have hIJ := hW.IJ
  refine lx_callw C hW hP1 (wo_fill l C.2.2.2.2.2.2.2.2.2.2 hIJ.1 hIJ.2 (xs (i + 1)) (xs (i + 2)) (xs (i + 3)) (((xs (i + 4)).toUInt32 % 65536).toInt32) (xs (i + 5))) (vx_cwSW 7 C.1.2.2.2.2 gL_law_L_fill rfl rfl rfl (by decide +kernel) ⟨Nat.le_of_ble_eq_true rfl, Nat.le_of_ble_eq_true rfl⟩) rfl rfl hl.1 (Nat.le_of_ble_eq_true rfl) dL_law_415 hcs (fun H locs e9 hW hP => ?_)
  refine lv_istore (lv' := [(6, .int (nI (sp_fill T D (xs (i + 1)) (xs (i + 2)) (xs (i + 3)) (((xs (i + 4)).toUInt32 % 65536).toInt32) (xs (i + 5))).1)), (0, .ref b), (1, .ref a0), (2, .ref (q 0)), (3, .ref o1), (4, .ref o2), (5, .int (nI i))]) C.1.1 C.1.2.1 dL_law_418 hl (by decide) rfl (fun ls hl => ?_)
  refine lv_aload_n C.1.1 C.1.2.1 dL_law_420 rfl (lv_at hl 3 rfl) ?_
  refine lv_aload_n C.1.1 C.1.2.1 dL_law_421 rfl (lv_at hl 1 rfl) ?_
  refine lv_iload C.1.1 C.1.2.1 dL_law_422 (lv_at hl 6 rfl) ?_
  refine lv_iconst (v := nI 1) C.1.1 C.1.2.1 dL_law_424 (by decide) ?_
  refine n_iadd C.1.1 C.1.2.1 dL_law_425 ?_
  refine lx_sld C hW.S (j := i + 1) (by omega) (by omega) dL_law_426 ?_
  refine lv_aload_n C.1.1 C.1.2.1 dL_law_427 rfl (lv_at hl 1 rfl) ?_
  refine lv_iload C.1.1 C.1.2.1 dL_law_428 (lv_at hl 6 rfl) ?_
  refine lv_iconst (v := nI 2) C.1.1 C.1.2.1 dL_law_430 (by decide) ?_
  refine n_iadd C.1.1 C.1.2.1 dL_law_431 ?_
  refine lx_sld C hW.S (j := i + 2) (by omega) (by omega) dL_law_432 ?_
  refine lv_aload_n C.1.1 C.1.2.1 dL_law_433 rfl (lv_at hl 1 rfl) ?_
  refine lv_iload C.1.1 C.1.2.1 dL_law_434 (lv_at hl 6 rfl) ?_
  refine lv_iconst (v := nI 3) C.1.1 C.1.2.1 dL_law_436 (by decide) ?_
  refine n_iadd C.1.1 C.1.2.1 dL_law_437 ?_
  refine lx_sld C hW.S (j := i + 3) (by omega) (by omega) dL_law_438 ?_
  refine lv_aload_n C.1.1 C.1.2.1 dL_law_439 rfl (lv_at hl 1 rfl) ?_
  refine lv_iload C.1.1 C.1.2.1 dL_law_440 (lv_at hl 6 rfl) ?_
  refine lv_iconst (v := nI 4) C.1.1 C.1.2.1 dL_law_442 (by decide) ?_
  refine n_iadd C.1.1 C.1.2.1 dL_law_443 ?_
  refine lx_sld C hW.S (j := i + 4) (by omega) (by omega) dL_law_444 ?_
  refine lv_i2c (v := ((xs (i + 4)).toUInt32 % 65536).toInt32) C.1.1 C.1.2.1 dL_law_445 rfl ?_
  refine lv_aload_n C.1.1 C.1.2.1 dL_law_446 rfl (lv_at hl 1 rfl) ?_
  refine lv_iload C.1.1 C.1.2.1 dL_law_447 (lv_at hl 6 rfl) ?_
  refine lv_iconst (v := nI 5) C.1.1 C.1.2.1 dL_law_449 (by decide) ?_
  refine n_iadd C.1.1 C.1.2.1 dL_law_450 ?_
  refine lx_sld C hW.S (j := i + 5) (by omega) (by omega) dL_law_451 ?_
  refine lx_callmi C hW (mo_fill l C.2.2.2.2.2.1 _ _ _ hIJ.1 hIJ.2 (xs (i + 1)) (xs (i + 2)) (xs (i + 3)) (((xs (i + 4)).toUInt32 % 65536).toInt32) (xs (i + 5))) (cwV 5 C.1.2.2.2.2 gL_law_X7_fill rfl rfl rfl (by decide +kernel) ⟨Nat.le_of_ble_eq_true rfl, Nat.le_of_ble_eq_true rfl⟩) rfl rfl hl.1 (Nat.le_of_ble_eq_true rfl) dL_law_452 hcs (fun H locs hW => ?_)
  refine lv_istore (lv' := [(7, .int ((sp_fill T D (xs (i + 1)) (xs (i + 2)) (xs (i + 3)) (((xs (i + 4)).toUInt32 % 65536).toInt32) (xs (i + 5))).2.1)), (6, .int (nI (sp_fill T D (xs (i + 1)) (xs (i + 2)) (xs (i + 3)) (((xs (i + 4)).toUInt32 % 65536).toInt32) (xs (i + 5))).1)), (0, .ref b), (1, .ref a0), (2, .ref (q 0)), (3, .ref o1), (4, .ref o2), (5, .int (nI i))]) C.1.1 C.1.2.1 dL_law_455 hl (by decide) rfl (fun ls hl => ?_)
  refine lv_aload_n C.1.1 C.1.2.1 dL_law_457 rfl (lv_at hl 4 rfl) ?_
  refine lx_callmi C hW (mt_thrown l C.2.2.2.2.2.1 _ _ _) (cwV 0 C.1.2.2.2.2 gL_law_X7_thrown rfl rfl rfl (by decide +kernel) ⟨Nat.le_of_ble_eq_true rfl, Nat.le_of_ble_eq_true rfl⟩) rfl rfl hl.1 (Nat.le_of_ble_eq_true rfl) dL_law_458 hcs (fun H locs hW => ?_)
  refine lv_iload C.1.1 C.1.2.1 dL_law_461 (lv_at hl 1 rfl) ?_
  refine x_icmp_eq_t (tgt := 468) C.1.1 C.1.2.1 dL_law_463 (by decide) rfl ?_
  refine lv_iload C.1.1 C.1.2.1 dL_law_468 (lv_at hl 1 rfl) ?_
  have h4 : (sp_fill T D (xs (i + 1)) (xs (i + 2)) (xs (i + 3)) (((xs (i + 4)).toUInt32 % 65536).toInt32) (xs (i + 5))).1 ≤ 4 := sp_fill_c T D (xs (i + 1)) (xs (i + 2)) (xs (i + 3)) (((xs (i + 4)).toUInt32 % 65536).toInt32) (xs (i + 5)) 0 0 0
  rcases Decidable.em ((sp_fill T D (xs (i + 1)) (xs (i + 2)) (xs (i + 3)) (((xs (i + 4)).toUInt32 % 65536).toInt32) (xs (i + 5))).1 = 0) with h0 | h0
  · refine x_if_ne_f (tgt := 485) C.1.1 C.1.2.1 dL_law_470 (by decide) (by rw [h0]; rfl) ?_
    obtain ⟨f9, rfl, hf9⟩ := hP
    have hf9 := hf9 h0
    refine lv_aload_n C.1.1 C.1.2.1 dL_law_473 rfl (lv_at hl 5 rfl) ?_
    refine lv_iconst (v := nI 0) C.1.1 C.1.2.1 dL_law_474 (by decide) ?_
    refine lx_lld C hW dL_law_475 ?_
    refine lv_iload C.1.1 C.1.2.1 dL_law_476 (lv_at hl 0 rfl) ?_
    refine lv_i2l (v := ((sp_fill T D (xs (i + 1)) (xs (i + 2)) (xs (i + 3)) (((xs (i + 4)).toUInt32 % 65536).toInt32) (xs (i + 5))).2.1).toInt64) C.1.1 C.1.2.1 dL_law_478 rfl ?_
    refine W.lcmp C.1.1 C.1.2.1 dL_law_479 ?_
    refine x_if_eq_t (tgt := 485) C.1.1 C.1.2.1 dL_law_480 (by decide) (by rw [hf9]; exact lx_cmp0 _) ?_
    refine lv_goto (tgt := 3303) C.1.1 C.1.2.1 dL_law_485 (by decide) ?_
    exact hk H locs _ _ _ _ _ _ _ hW ⟨f9, rfl, fun z => z.elim⟩ hP2 (by omega) (by omega) ls (lv_sub hl [2, 3, 4, 5, 6, 7] rfl)
  · refine x_if_ne_t (tgt := 485) C.1.1 C.1.2.1 dL_law_470 (by decide) (fun z => h0 (nI_inj (by omega) (by decide) z)) ?_
    refine lv_goto (tgt := 3303) C.1.1 C.1.2.1 dL_law_485 (by decide) ?_
    exact hk H locs _ _ _ _ _ _ _ hW (oL_w hP) hP2 (by omega) (by omega) ls (lv_sub hl [2, 3, 4, 5, 6, 7] rfl)

set_option maxHeartbeats 4000000 in
set_option maxRecDepth 100000 in
theorem lx_c3 {p : Program} {l : Launch} {e : Env} {s : State} {m : MethodId} {args : Array Value} {below : List Frame} {meth : Method} {c : Code} {H : Heap} {locs : List Loc} {cells slots : Nat} {Z : State → Prop} {ls : Array Slot} {G : va_G} {kT : Nat → ClassId} {q : Nat → Nat} {a0 o1 o2 b n : Nat} {xs : Nat → Int32} {T : mT} {D : mD} {th : Int32} {e1 e2 : va_E} (C : lx_C l p s m args c G kT q o1 o2 b n xs) (hW : lx_W G kT q a0 o1 o2 T D T D th e1 e2 s H locs) (hP1 : oL kT False 0 e1) (hP2 : oD kT False 0 e2) {i : Nat} (hi : i + 6 ≤ n) (hn : n ≤ 3072) (hcs : cells + 2 ≤ room_1.cells ∧ slots + 260 ≤ room_1.slots) (hl : lv_has ls 10 (lx_l b a0 (q 0) o1 o2 i)) (hk : lx_K p l e s m args below meth c Z G kT q a0 o1 o2 b cells slots i) : W p l e room_1 s m args below meth c H locs cells slots Z (F0 m 488 ls []) := by
  have hl : lv_has ls 10 [(0, .ref b), (1, .ref a0), (2, .ref (q 0)), (3, .ref o1), (4, .ref o2), (5, .int (nI i))] := hl
  refine lv_aload_n C.1.1 C.1.2.1 dL_law_488 rfl (lv_at hl 1 rfl) ?_
  refine lv_aload_n C.1.1 C.1.2.1 dL_law_489 rfl (lv_at hl 0 rfl) ?_
  refine lv_iload C.1.1 C.1.2.1 dL_law_490 (lv_at hl 5 rfl) ?_
  refine lv_iconst (v := nI 1) C.1.1 C.1.2.1 dL_law_492 (by decide) ?_
  refine n_iadd C.1.1 C.1.2.1 dL_law_493 ?_
  refine lx_sld C hW.S (j := i + 1) (by omega) (by omega) dL_law_494 ?_
  refine lv_aload_n C.1.1 C.1.2.1 dL_law_495 rfl (lv_at hl 0 rfl) ?_
  refine lv_iload C.1.1 C.1.2.1 dL_law_496 (lv_at hl 5 rfl) ?_
  refine lv_iconst (v := nI 2) C.1.1 C.1.2.1 dL_law_498 (by decide) ?_
  refine n_iadd C.1.1 C.1.2.1 dL_law_499 ?_
  refine lx_sld C hW.S (j := i + 2) (by omega) (by omega) dL_law_500 ?_
  refine lv_aload_n C.1.1 C.1.2.1 dL_law_501 rfl (lv_at hl 3 rfl) ?_
  have hIJ := hW.IJ
  refine lx_callw C hW hP1 (wo_get l C.2.2.2.2.2.2.2.2.2.2 hIJ.1 hIJ.2 (xs (i + 1)) (xs (i + 2))) (vx_cwSW 4 C.1.2.2.2.2 gL_law_L_get rfl rfl rfl (by decide +kernel) ⟨Nat.le_of_ble_eq_true rfl, Nat.le_of_ble_eq_true rfl⟩) rfl rfl hl.1 (Nat.le_of_ble_eq_true rfl) dL_law_502 hcs (fun H locs e9 hW hP => ?_)
  refine lv_istore (lv' := [(6, .int (nI (sp_get T D (xs (i + 1)) (xs (i + 2))).1)), (0, .ref b), (1, .ref a0), (2, .ref (q 0)), (3, .ref o1), (4, .ref o2), (5, .int (nI i))]) C.1.1 C.1.2.1 dL_law_505 hl (by decide) rfl (fun ls hl => ?_)
  refine lv_aload_n C.1.1 C.1.2.1 dL_law_507 rfl (lv_at hl 3 rfl) ?_
  refine lv_aload_n C.1.1 C.1.2.1 dL_law_508 rfl (lv_at hl 1 rfl) ?_
  refine lv_iload C.1.1 C.1.2.1 dL_law_509 (lv_at hl 6 rfl) ?_
  refine lv_iconst (v := nI 1) C.1.1 C.1.2.1 dL_law_511 (by decide) ?_
  refine n_iadd C.1.1 C.1.2.1 dL_law_512 ?_
  refine lx_sld C hW.S (j := i + 1) (by omega) (by omega) dL_law_513 ?_
  refine lv_aload_n C.1.1 C.1.2.1 dL_law_514 rfl (lv_at hl 1 rfl) ?_
  refine lv_iload C.1.1 C.1.2.1 dL_law_515 (lv_at hl 6 rfl) ?_
  refine lv_iconst (v := nI 2) C.1.1 C.1.2.1 dL_law_517 (by decide) ?_
  refine n_iadd C.1.1 C.1.2.1 dL_law_518 ?_
  refine lx_sld C hW.S (j := i + 2) (by omega) (by omega) dL_law_519 ?_
  refine lx_callmi C hW (mo_get l C.2.2.2.2.2.1 _ _ _ hIJ.1 hIJ.2 (xs (i + 1)) (xs (i + 2))) (cwV 2 C.1.2.2.2.2 gL_law_X7_get rfl rfl rfl (by decide +kernel) ⟨Nat.le_of_ble_eq_true rfl, Nat.le_of_ble_eq_true rfl⟩) rfl rfl hl.1 (Nat.le_of_ble_eq_true rfl) dL_law_520 hcs (fun H locs hW => ?_)
  refine lv_istore (lv' := [(7, .int ((sp_get T D (xs (i + 1)) (xs (i + 2))).2.1)), (6, .int (nI (sp_get T D (xs (i + 1)) (xs (i + 2))).1)), (0, .ref b), (1, .ref a0), (2, .ref (q 0)), (3, .ref o1), (4, .ref o2), (5, .int (nI i))]) C.1.1 C.1.2.1 dL_law_523 hl (by decide) rfl (fun ls hl => ?_)
  refine lv_aload_n C.1.1 C.1.2.1 dL_law_525 rfl (lv_at hl 4 rfl) ?_
  refine lx_callmi C hW (mt_thrown l C.2.2.2.2.2.1 _ _ _) (cwV 0 C.1.2.2.2.2 gL_law_X7_thrown rfl rfl rfl (by decide +kernel) ⟨Nat.le_of_ble_eq_true rfl, Nat.le_of_ble_eq_true rfl⟩) rfl rfl hl.1 (Nat.le_of_ble_eq_true rfl) dL_law_526 hcs (fun H locs hW => ?_)
  refine lv_iload C.1.1 C.1.2.1 dL_law_529 (lv_at hl 1 rfl) ?_
  refine x_icmp_eq_t (tgt := 536) C.1.1 C.1.2.1 dL_law_531 (by decide) rfl ?_
  refine lv_iload C.1.1 C.1.2.1 dL_law_536 (lv_at hl 1 rfl) ?_
  have h4 : (sp_get T D (xs (i + 1)) (xs (i + 2))).1 ≤ 4 := sp_get_c T D (xs (i + 1)) (xs (i + 2)) 0 0 0 0 0 0
  rcases Decidable.em ((sp_get T D (xs (i + 1)) (xs (i + 2))).1 = 0) with h0 | h0
  · refine x_if_ne_f (tgt := 553) C.1.1 C.1.2.1 dL_law_538 (by decide) (by rw [h0]; rfl) ?_
    obtain ⟨f9, rfl, hf9⟩ := hP
    have hf9 := hf9 h0
    refine lv_aload_n C.1.1 C.1.2.1 dL_law_541 rfl (lv_at hl 5 rfl) ?_
    refine lv_iconst (v := nI 0) C.1.1 C.1.2.1 dL_law_542 (by decide) ?_
    refine lx_lld C hW dL_law_543 ?_
    refine lv_iload C.1.1 C.1.2.1 dL_law_544 (lv_at hl 0 rfl) ?_
    refine lv_i2l (v := ((sp_get T D (xs (i + 1)) (xs (i + 2))).2.1).toInt64) C.1.1 C.1.2.1 dL_law_546 rfl ?_
    refine W.lcmp C.1.1 C.1.2.1 dL_law_547 ?_
    refine x_if_eq_t (tgt := 553) C.1.1 C.1.2.1 dL_law_548 (by decide) (by rw [hf9]; exact lx_cmp0 _) ?_
    refine lv_goto (tgt := 3303) C.1.1 C.1.2.1 dL_law_553 (by decide) ?_
    exact hk H locs _ _ _ _ _ _ _ hW ⟨f9, rfl, fun z => z.elim⟩ hP2 (by omega) (by omega) ls (lv_sub hl [2, 3, 4, 5, 6, 7] rfl)
  · refine x_if_ne_t (tgt := 553) C.1.1 C.1.2.1 dL_law_538 (by decide) (fun z => h0 (nI_inj (by omega) (by decide) z)) ?_
    refine lv_goto (tgt := 3303) C.1.1 C.1.2.1 dL_law_553 (by decide) ?_
    exact hk H locs _ _ _ _ _ _ _ hW (oL_w hP) hP2 (by omega) (by omega) ls (lv_sub hl [2, 3, 4, 5, 6, 7] rfl)

set_option maxHeartbeats 4000000 in
set_option maxRecDepth 100000 in
theorem lx_c4 {p : Program} {l : Launch} {e : Env} {s : State} {m : MethodId} {args : Array Value} {below : List Frame} {meth : Method} {c : Code} {H : Heap} {locs : List Loc} {cells slots : Nat} {Z : State → Prop} {ls : Array Slot} {G : va_G} {kT : Nat → ClassId} {q : Nat → Nat} {a0 o1 o2 b n : Nat} {xs : Nat → Int32} {T : mT} {D : mD} {th : Int32} {e1 e2 : va_E} (C : lx_C l p s m args c G kT q o1 o2 b n xs) (hW : lx_W G kT q a0 o1 o2 T D T D th e1 e2 s H locs) (hP1 : oL kT False 0 e1) (hP2 : oD kT False 0 e2) {i : Nat} (hi : i + 6 ≤ n) (hn : n ≤ 3072) (hcs : cells + 2 ≤ room_1.cells ∧ slots + 260 ≤ room_1.slots) (hl : lv_has ls 10 (lx_l b a0 (q 0) o1 o2 i)) (hk : lx_K p l e s m args below meth c Z G kT q a0 o1 o2 b cells slots i) : W p l e room_1 s m args below meth c H locs cells slots Z (F0 m 556 ls []) := by
  have hl : lv_has ls 10 [(0, .ref b), (1, .ref a0), (2, .ref (q 0)), (3, .ref o1), (4, .ref o2), (5, .int (nI i))] := hl
  refine lv_aload_n C.1.1 C.1.2.1 dL_law_556 rfl (lv_at hl 1 rfl) ?_
  refine lv_aload_n C.1.1 C.1.2.1 dL_law_557 rfl (lv_at hl 0 rfl) ?_
  refine lv_iload C.1.1 C.1.2.1 dL_law_558 (lv_at hl 5 rfl) ?_
  refine lv_iconst (v := nI 1) C.1.1 C.1.2.1 dL_law_560 (by decide) ?_
  refine n_iadd C.1.1 C.1.2.1 dL_law_561 ?_
  refine lx_sld C hW.S (j := i + 1) (by omega) (by omega) dL_law_562 ?_
  refine lv_aload_n C.1.1 C.1.2.1 dL_law_563 rfl (lv_at hl 3 rfl) ?_
  have hIJ := hW.IJ
  refine lx_callw C hW hP1 (wo_length l C.2.2.2.2.2.2.2.2.2.2 hIJ.1 hIJ.2 (xs (i + 1))) (vx_cwSW 3 C.1.2.2.2.2 gL_law_L_length rfl rfl rfl (by decide +kernel) ⟨Nat.le_of_ble_eq_true rfl, Nat.le_of_ble_eq_true rfl⟩) rfl rfl hl.1 (Nat.le_of_ble_eq_true rfl) dL_law_564 hcs (fun H locs e9 hW hP => ?_)
  refine lv_istore (lv' := [(6, .int (nI (sp_length T D (xs (i + 1))).1)), (0, .ref b), (1, .ref a0), (2, .ref (q 0)), (3, .ref o1), (4, .ref o2), (5, .int (nI i))]) C.1.1 C.1.2.1 dL_law_567 hl (by decide) rfl (fun ls hl => ?_)
  refine lv_aload_n C.1.1 C.1.2.1 dL_law_569 rfl (lv_at hl 3 rfl) ?_
  refine lv_aload_n C.1.1 C.1.2.1 dL_law_570 rfl (lv_at hl 1 rfl) ?_
  refine lv_iload C.1.1 C.1.2.1 dL_law_571 (lv_at hl 6 rfl) ?_
  refine lv_iconst (v := nI 1) C.1.1 C.1.2.1 dL_law_573 (by decide) ?_
  refine n_iadd C.1.1 C.1.2.1 dL_law_574 ?_
  refine lx_sld C hW.S (j := i + 1) (by omega) (by omega) dL_law_575 ?_
  refine lx_callmi C hW (mo_length l C.2.2.2.2.2.1 _ _ _ hIJ.1 hIJ.2 (xs (i + 1))) (cwV 1 C.1.2.2.2.2 gL_law_X7_length rfl rfl rfl (by decide +kernel) ⟨Nat.le_of_ble_eq_true rfl, Nat.le_of_ble_eq_true rfl⟩) rfl rfl hl.1 (Nat.le_of_ble_eq_true rfl) dL_law_576 hcs (fun H locs hW => ?_)
  refine lv_istore (lv' := [(7, .int ((sp_length T D (xs (i + 1))).2.1)), (6, .int (nI (sp_length T D (xs (i + 1))).1)), (0, .ref b), (1, .ref a0), (2, .ref (q 0)), (3, .ref o1), (4, .ref o2), (5, .int (nI i))]) C.1.1 C.1.2.1 dL_law_579 hl (by decide) rfl (fun ls hl => ?_)
  refine lv_aload_n C.1.1 C.1.2.1 dL_law_581 rfl (lv_at hl 4 rfl) ?_
  refine lx_callmi C hW (mt_thrown l C.2.2.2.2.2.1 _ _ _) (cwV 0 C.1.2.2.2.2 gL_law_X7_thrown rfl rfl rfl (by decide +kernel) ⟨Nat.le_of_ble_eq_true rfl, Nat.le_of_ble_eq_true rfl⟩) rfl rfl hl.1 (Nat.le_of_ble_eq_true rfl) dL_law_582 hcs (fun H locs hW => ?_)
  refine lv_iload C.1.1 C.1.2.1 dL_law_585 (lv_at hl 1 rfl) ?_
  refine x_icmp_eq_t (tgt := 592) C.1.1 C.1.2.1 dL_law_587 (by decide) rfl ?_
  refine lv_iload C.1.1 C.1.2.1 dL_law_592 (lv_at hl 1 rfl) ?_
  have h4 : (sp_length T D (xs (i + 1))).1 ≤ 4 := sp_length_c T D (xs (i + 1)) 0 0 0 0 0 0 0
  rcases Decidable.em ((sp_length T D (xs (i + 1))).1 = 0) with h0 | h0
  · refine x_if_ne_f (tgt := 609) C.1.1 C.1.2.1 dL_law_594 (by decide) (by rw [h0]; rfl) ?_
    obtain ⟨f9, rfl, hf9⟩ := hP
    have hf9 := hf9 h0
    refine lv_aload_n C.1.1 C.1.2.1 dL_law_597 rfl (lv_at hl 5 rfl) ?_
    refine lv_iconst (v := nI 0) C.1.1 C.1.2.1 dL_law_598 (by decide) ?_
    refine lx_lld C hW dL_law_599 ?_
    refine lv_iload C.1.1 C.1.2.1 dL_law_600 (lv_at hl 0 rfl) ?_
    refine lv_i2l (v := ((sp_length T D (xs (i + 1))).2.1).toInt64) C.1.1 C.1.2.1 dL_law_602 rfl ?_
    refine W.lcmp C.1.1 C.1.2.1 dL_law_603 ?_
    refine x_if_eq_t (tgt := 609) C.1.1 C.1.2.1 dL_law_604 (by decide) (by rw [hf9]; exact lx_cmp0 _) ?_
    refine lv_goto (tgt := 3303) C.1.1 C.1.2.1 dL_law_609 (by decide) ?_
    exact hk H locs _ _ _ _ _ _ _ hW ⟨f9, rfl, fun z => z.elim⟩ hP2 (by omega) (by omega) ls (lv_sub hl [2, 3, 4, 5, 6, 7] rfl)
  · refine x_if_ne_t (tgt := 609) C.1.1 C.1.2.1 dL_law_594 (by decide) (fun z => h0 (nI_inj (by omega) (by decide) z)) ?_
    refine lv_goto (tgt := 3303) C.1.1 C.1.2.1 dL_law_609 (by decide) ?_
    exact hk H locs _ _ _ _ _ _ _ hW (oL_w hP) hP2 (by omega) (by omega) ls (lv_sub hl [2, 3, 4, 5, 6, 7] rfl)

set_option maxHeartbeats 4000000 in
set_option maxRecDepth 100000 in
theorem lx_c5 {p : Program} {l : Launch} {e : Env} {s : State} {m : MethodId} {args : Array Value} {below : List Frame} {meth : Method} {c : Code} {H : Heap} {locs : List Loc} {cells slots : Nat} {Z : State → Prop} {ls : Array Slot} {G : va_G} {kT : Nat → ClassId} {q : Nat → Nat} {a0 o1 o2 b n : Nat} {xs : Nat → Int32} {T : mT} {D : mD} {th : Int32} {e1 e2 : va_E} (C : lx_C l p s m args c G kT q o1 o2 b n xs) (hW : lx_W G kT q a0 o1 o2 T D T D th e1 e2 s H locs) (hP1 : oL kT False 0 e1) (hP2 : oD kT False 0 e2) {i : Nat} (hi : i + 6 ≤ n) (hn : n ≤ 3072) (hcs : cells + 2 ≤ room_1.cells ∧ slots + 260 ≤ room_1.slots) (hl : lv_has ls 10 (lx_l b a0 (q 0) o1 o2 i)) (hk : lx_K p l e s m args below meth c Z G kT q a0 o1 o2 b cells slots i) : W p l e room_1 s m args below meth c H locs cells slots Z (F0 m 612 ls []) := by
  have hl : lv_has ls 10 [(0, .ref b), (1, .ref a0), (2, .ref (q 0)), (3, .ref o1), (4, .ref o2), (5, .int (nI i))] := hl
  refine lv_aload_n C.1.1 C.1.2.1 dL_law_612 rfl (lv_at hl 1 rfl) ?_
  refine lv_aload_n C.1.1 C.1.2.1 dL_law_613 rfl (lv_at hl 0 rfl) ?_
  refine lv_iload C.1.1 C.1.2.1 dL_law_614 (lv_at hl 5 rfl) ?_
  refine lv_iconst (v := nI 1) C.1.1 C.1.2.1 dL_law_616 (by decide) ?_
  refine n_iadd C.1.1 C.1.2.1 dL_law_617 ?_
  refine lx_sld C hW.S (j := i + 1) (by omega) (by omega) dL_law_618 ?_
  refine lv_aload_n C.1.1 C.1.2.1 dL_law_619 rfl (lv_at hl 0 rfl) ?_
  refine lv_iload C.1.1 C.1.2.1 dL_law_620 (lv_at hl 5 rfl) ?_
  refine lv_iconst (v := nI 2) C.1.1 C.1.2.1 dL_law_622 (by decide) ?_
  refine n_iadd C.1.1 C.1.2.1 dL_law_623 ?_
  refine lx_sld C hW.S (j := i + 2) (by omega) (by omega) dL_law_624 ?_
  refine lv_aload_n C.1.1 C.1.2.1 dL_law_625 rfl (lv_at hl 0 rfl) ?_
  refine lv_iload C.1.1 C.1.2.1 dL_law_626 (lv_at hl 5 rfl) ?_
  refine lv_iconst (v := nI 3) C.1.1 C.1.2.1 dL_law_628 (by decide) ?_
  refine n_iadd C.1.1 C.1.2.1 dL_law_629 ?_
  refine lx_sld C hW.S (j := i + 3) (by omega) (by omega) dL_law_630 ?_
  refine lv_aload_n C.1.1 C.1.2.1 dL_law_631 rfl (lv_at hl 0 rfl) ?_
  refine lv_iload C.1.1 C.1.2.1 dL_law_632 (lv_at hl 5 rfl) ?_
  refine lv_iconst (v := nI 4) C.1.1 C.1.2.1 dL_law_634 (by decide) ?_
  refine n_iadd C.1.1 C.1.2.1 dL_law_635 ?_
  refine lx_sld C hW.S (j := i + 4) (by omega) (by omega) dL_law_636 ?_
  refine lv_aload_n C.1.1 C.1.2.1 dL_law_637 rfl (lv_at hl 3 rfl) ?_
  have hIJ := hW.IJ
  refine lx_callw C hW hP1 (wo_makeBytes l C.2.2.2.2.2.2.2.2.2.2 hIJ.1 hIJ.2 (xs (i + 1)) (xs (i + 2)) (xs (i + 3)) (xs (i + 4))) (vx_cwSW 6 C.1.2.2.2.2 gL_law_L_makeBytes rfl rfl rfl (by decide +kernel) ⟨Nat.le_of_ble_eq_true rfl, Nat.le_of_ble_eq_true rfl⟩) rfl rfl hl.1 (Nat.le_of_ble_eq_true rfl) dL_law_638 hcs (fun H locs e9 hW hP => ?_)
  refine lv_istore (lv' := [(6, .int (nI (sp_makeBytes T D (xs (i + 1)) (xs (i + 2)) (xs (i + 3)) (xs (i + 4))).1)), (0, .ref b), (1, .ref a0), (2, .ref (q 0)), (3, .ref o1), (4, .ref o2), (5, .int (nI i))]) C.1.1 C.1.2.1 dL_law_641 hl (by decide) rfl (fun ls hl => ?_)
  refine lv_aload_n C.1.1 C.1.2.1 dL_law_643 rfl (lv_at hl 3 rfl) ?_
  refine lv_aload_n C.1.1 C.1.2.1 dL_law_644 rfl (lv_at hl 1 rfl) ?_
  refine lv_iload C.1.1 C.1.2.1 dL_law_645 (lv_at hl 6 rfl) ?_
  refine lv_iconst (v := nI 1) C.1.1 C.1.2.1 dL_law_647 (by decide) ?_
  refine n_iadd C.1.1 C.1.2.1 dL_law_648 ?_
  refine lx_sld C hW.S (j := i + 1) (by omega) (by omega) dL_law_649 ?_
  refine lv_aload_n C.1.1 C.1.2.1 dL_law_650 rfl (lv_at hl 1 rfl) ?_
  refine lv_iload C.1.1 C.1.2.1 dL_law_651 (lv_at hl 6 rfl) ?_
  refine lv_iconst (v := nI 2) C.1.1 C.1.2.1 dL_law_653 (by decide) ?_
  refine n_iadd C.1.1 C.1.2.1 dL_law_654 ?_
  refine lx_sld C hW.S (j := i + 2) (by omega) (by omega) dL_law_655 ?_
  refine lv_aload_n C.1.1 C.1.2.1 dL_law_656 rfl (lv_at hl 1 rfl) ?_
  refine lv_iload C.1.1 C.1.2.1 dL_law_657 (lv_at hl 6 rfl) ?_
  refine lv_iconst (v := nI 3) C.1.1 C.1.2.1 dL_law_659 (by decide) ?_
  refine n_iadd C.1.1 C.1.2.1 dL_law_660 ?_
  refine lx_sld C hW.S (j := i + 3) (by omega) (by omega) dL_law_661 ?_
  refine lv_aload_n C.1.1 C.1.2.1 dL_law_662 rfl (lv_at hl 1 rfl) ?_
  refine lv_iload C.1.1 C.1.2.1 dL_law_663 (lv_at hl 6 rfl) ?_
  refine lv_iconst (v := nI 4) C.1.1 C.1.2.1 dL_law_665 (by decide) ?_
  refine n_iadd C.1.1 C.1.2.1 dL_law_666 ?_
  refine lx_sld C hW.S (j := i + 4) (by omega) (by omega) dL_law_667 ?_
  refine lx_callmi C hW (mo_makeBytes l C.2.2.2.2.2.1 _ _ _ hIJ.1 hIJ.2 (xs (i + 1)) (xs (i + 2)) (xs (i + 3)) (xs (i + 4))) (cwV 4 C.1.2.2.2.2 gL_law_X7_makeBytes rfl rfl rfl (by decide +kernel) ⟨Nat.le_of_ble_eq_true rfl, Nat.le_of_ble_eq_true rfl⟩) rfl rfl hl.1 (Nat.le_of_ble_eq_true rfl) dL_law_668 hcs (fun H locs hW => ?_)
  refine lv_istore (lv' := [(7, .int ((sp_makeBytes T D (xs (i + 1)) (xs (i + 2)) (xs (i + 3)) (xs (i + 4))).2.1)), (6, .int (nI (sp_makeBytes T D (xs (i + 1)) (xs (i + 2)) (xs (i + 3)) (xs (i + 4))).1)), (0, .ref b), (1, .ref a0), (2, .ref (q 0)), (3, .ref o1), (4, .ref o2), (5, .int (nI i))]) C.1.1 C.1.2.1 dL_law_671 hl (by decide) rfl (fun ls hl => ?_)
  refine lv_aload_n C.1.1 C.1.2.1 dL_law_673 rfl (lv_at hl 4 rfl) ?_
  refine lx_callmi C hW (mt_thrown l C.2.2.2.2.2.1 _ _ _) (cwV 0 C.1.2.2.2.2 gL_law_X7_thrown rfl rfl rfl (by decide +kernel) ⟨Nat.le_of_ble_eq_true rfl, Nat.le_of_ble_eq_true rfl⟩) rfl rfl hl.1 (Nat.le_of_ble_eq_true rfl) dL_law_674 hcs (fun H locs hW => ?_)
  refine lv_iload C.1.1 C.1.2.1 dL_law_677 (lv_at hl 1 rfl) ?_
  refine x_icmp_eq_t (tgt := 684) C.1.1 C.1.2.1 dL_law_679 (by decide) rfl ?_
  refine lv_iload C.1.1 C.1.2.1 dL_law_684 (lv_at hl 1 rfl) ?_
  have h4 : (sp_makeBytes T D (xs (i + 1)) (xs (i + 2)) (xs (i + 3)) (xs (i + 4))).1 ≤ 4 := sp_makeBytes_c T D (xs (i + 1)) (xs (i + 2)) (xs (i + 3)) (xs (i + 4)) 0 0 0 0
  rcases Decidable.em ((sp_makeBytes T D (xs (i + 1)) (xs (i + 2)) (xs (i + 3)) (xs (i + 4))).1 = 0) with h0 | h0
  · refine x_if_ne_f (tgt := 701) C.1.1 C.1.2.1 dL_law_686 (by decide) (by rw [h0]; rfl) ?_
    obtain ⟨f9, rfl, hf9⟩ := hP
    have hf9 := hf9 h0
    refine lv_aload_n C.1.1 C.1.2.1 dL_law_689 rfl (lv_at hl 5 rfl) ?_
    refine lv_iconst (v := nI 0) C.1.1 C.1.2.1 dL_law_690 (by decide) ?_
    refine lx_lld C hW dL_law_691 ?_
    refine lv_iload C.1.1 C.1.2.1 dL_law_692 (lv_at hl 0 rfl) ?_
    refine lv_i2l (v := ((sp_makeBytes T D (xs (i + 1)) (xs (i + 2)) (xs (i + 3)) (xs (i + 4))).2.1).toInt64) C.1.1 C.1.2.1 dL_law_694 rfl ?_
    refine W.lcmp C.1.1 C.1.2.1 dL_law_695 ?_
    refine x_if_eq_t (tgt := 701) C.1.1 C.1.2.1 dL_law_696 (by decide) (by rw [hf9]; exact lx_cmp0 _) ?_
    refine lv_goto (tgt := 3303) C.1.1 C.1.2.1 dL_law_701 (by decide) ?_
    exact hk H locs _ _ _ _ _ _ _ hW ⟨f9, rfl, fun z => z.elim⟩ hP2 (by omega) (by omega) ls (lv_sub hl [2, 3, 4, 5, 6, 7] rfl)
  · refine x_if_ne_t (tgt := 701) C.1.1 C.1.2.1 dL_law_686 (by decide) (fun z => h0 (nI_inj (by omega) (by decide) z)) ?_
    refine lv_goto (tgt := 3303) C.1.1 C.1.2.1 dL_law_701 (by decide) ?_
    exact hk H locs _ _ _ _ _ _ _ hW (oL_w hP) hP2 (by omega) (by omega) ls (lv_sub hl [2, 3, 4, 5, 6, 7] rfl)

set_option maxHeartbeats 4000000 in
set_option maxRecDepth 100000 in
theorem lx_c6 {p : Program} {l : Launch} {e : Env} {s : State} {m : MethodId} {args : Array Value} {below : List Frame} {meth : Method} {c : Code} {H : Heap} {locs : List Loc} {cells slots : Nat} {Z : State → Prop} {ls : Array Slot} {G : va_G} {kT : Nat → ClassId} {q : Nat → Nat} {a0 o1 o2 b n : Nat} {xs : Nat → Int32} {T : mT} {D : mD} {th : Int32} {e1 e2 : va_E} (C : lx_C l p s m args c G kT q o1 o2 b n xs) (hW : lx_W G kT q a0 o1 o2 T D T D th e1 e2 s H locs) (hP1 : oL kT False 0 e1) (hP2 : oD kT False 0 e2) {i : Nat} (hi : i + 6 ≤ n) (hn : n ≤ 3072) (hcs : cells + 2 ≤ room_1.cells ∧ slots + 260 ≤ room_1.slots) (hl : lv_has ls 10 (lx_l b a0 (q 0) o1 o2 i)) (hk : lx_K p l e s m args below meth c Z G kT q a0 o1 o2 b cells slots i) : W p l e room_1 s m args below meth c H locs cells slots Z (F0 m 704 ls []) := by
  have hl : lv_has ls 10 [(0, .ref b), (1, .ref a0), (2, .ref (q 0)), (3, .ref o1), (4, .ref o2), (5, .int (nI i))] := hl
  refine lv_aload_n C.1.1 C.1.2.1 dL_law_704 rfl (lv_at hl 1 rfl) ?_
  refine lv_aload_n C.1.1 C.1.2.1 dL_law_705 rfl (lv_at hl 0 rfl) ?_
  refine lv_iload C.1.1 C.1.2.1 dL_law_706 (lv_at hl 5 rfl) ?_
  refine lv_iconst (v := nI 1) C.1.1 C.1.2.1 dL_law_708 (by decide) ?_
  refine n_iadd C.1.1 C.1.2.1 dL_law_709 ?_
  refine lx_sld C hW.S (j := i + 1) (by omega) (by omega) dL_law_710 ?_
  refine lv_aload_n C.1.1 C.1.2.1 dL_law_711 rfl (lv_at hl 0 rfl) ?_
  refine lv_iload C.1.1 C.1.2.1 dL_law_712 (lv_at hl 5 rfl) ?_
  refine lv_iconst (v := nI 2) C.1.1 C.1.2.1 dL_law_714 (by decide) ?_
  refine n_iadd C.1.1 C.1.2.1 dL_law_715 ?_
  refine lx_sld C hW.S (j := i + 2) (by omega) (by omega) dL_law_716 ?_
  refine lv_aload_n C.1.1 C.1.2.1 dL_law_717 rfl (lv_at hl 0 rfl) ?_
  refine lv_iload C.1.1 C.1.2.1 dL_law_718 (lv_at hl 5 rfl) ?_
  refine lv_iconst (v := nI 3) C.1.1 C.1.2.1 dL_law_720 (by decide) ?_
  refine n_iadd C.1.1 C.1.2.1 dL_law_721 ?_
  refine lx_sld C hW.S (j := i + 3) (by omega) (by omega) dL_law_722 ?_
  refine lv_aload_n C.1.1 C.1.2.1 dL_law_723 rfl (lv_at hl 3 rfl) ?_
  have hIJ := hW.IJ
  refine lx_callw C hW hP1 (wo_putByte l C.2.2.2.2.2.2.2.2.2.2 hIJ.1 hIJ.2 (xs (i + 1)) (xs (i + 2)) (xs (i + 3))) (vx_cwSW 5 C.1.2.2.2.2 gL_law_L_putByte rfl rfl rfl (by decide +kernel) ⟨Nat.le_of_ble_eq_true rfl, Nat.le_of_ble_eq_true rfl⟩) rfl rfl hl.1 (Nat.le_of_ble_eq_true rfl) dL_law_724 hcs (fun H locs e9 hW hP => ?_)
  refine lv_istore (lv' := [(6, .int (nI (sp_putByte T D (xs (i + 1)) (xs (i + 2)) (xs (i + 3))).1)), (0, .ref b), (1, .ref a0), (2, .ref (q 0)), (3, .ref o1), (4, .ref o2), (5, .int (nI i))]) C.1.1 C.1.2.1 dL_law_727 hl (by decide) rfl (fun ls hl => ?_)
  refine lv_aload_n C.1.1 C.1.2.1 dL_law_729 rfl (lv_at hl 3 rfl) ?_
  refine lv_aload_n C.1.1 C.1.2.1 dL_law_730 rfl (lv_at hl 1 rfl) ?_
  refine lv_iload C.1.1 C.1.2.1 dL_law_731 (lv_at hl 6 rfl) ?_
  refine lv_iconst (v := nI 1) C.1.1 C.1.2.1 dL_law_733 (by decide) ?_
  refine n_iadd C.1.1 C.1.2.1 dL_law_734 ?_
  refine lx_sld C hW.S (j := i + 1) (by omega) (by omega) dL_law_735 ?_
  refine lv_aload_n C.1.1 C.1.2.1 dL_law_736 rfl (lv_at hl 1 rfl) ?_
  refine lv_iload C.1.1 C.1.2.1 dL_law_737 (lv_at hl 6 rfl) ?_
  refine lv_iconst (v := nI 2) C.1.1 C.1.2.1 dL_law_739 (by decide) ?_
  refine n_iadd C.1.1 C.1.2.1 dL_law_740 ?_
  refine lx_sld C hW.S (j := i + 2) (by omega) (by omega) dL_law_741 ?_
  refine lv_aload_n C.1.1 C.1.2.1 dL_law_742 rfl (lv_at hl 1 rfl) ?_
  refine lv_iload C.1.1 C.1.2.1 dL_law_743 (lv_at hl 6 rfl) ?_
  refine lv_iconst (v := nI 3) C.1.1 C.1.2.1 dL_law_745 (by decide) ?_
  refine n_iadd C.1.1 C.1.2.1 dL_law_746 ?_
  refine lx_sld C hW.S (j := i + 3) (by omega) (by omega) dL_law_747 ?_
  refine lx_callmi C hW (mo_putByte l C.2.2.2.2.2.1 _ _ _ hIJ.1 hIJ.2 (xs (i + 1)) (xs (i + 2)) (xs (i + 3))) (cwV 3 C.1.2.2.2.2 gL_law_X7_putByte rfl rfl rfl (by decide +kernel) ⟨Nat.le_of_ble_eq_true rfl, Nat.le_of_ble_eq_true rfl⟩) rfl rfl hl.1 (Nat.le_of_ble_eq_true rfl) dL_law_748 hcs (fun H locs hW => ?_)
  refine lv_istore (lv' := [(7, .int ((sp_putByte T D (xs (i + 1)) (xs (i + 2)) (xs (i + 3))).2.1)), (6, .int (nI (sp_putByte T D (xs (i + 1)) (xs (i + 2)) (xs (i + 3))).1)), (0, .ref b), (1, .ref a0), (2, .ref (q 0)), (3, .ref o1), (4, .ref o2), (5, .int (nI i))]) C.1.1 C.1.2.1 dL_law_751 hl (by decide) rfl (fun ls hl => ?_)
  refine lv_aload_n C.1.1 C.1.2.1 dL_law_753 rfl (lv_at hl 4 rfl) ?_
  refine lx_callmi C hW (mt_thrown l C.2.2.2.2.2.1 _ _ _) (cwV 0 C.1.2.2.2.2 gL_law_X7_thrown rfl rfl rfl (by decide +kernel) ⟨Nat.le_of_ble_eq_true rfl, Nat.le_of_ble_eq_true rfl⟩) rfl rfl hl.1 (Nat.le_of_ble_eq_true rfl) dL_law_754 hcs (fun H locs hW => ?_)
  refine lv_iload C.1.1 C.1.2.1 dL_law_757 (lv_at hl 1 rfl) ?_
  refine x_icmp_eq_t (tgt := 764) C.1.1 C.1.2.1 dL_law_759 (by decide) rfl ?_
  refine lv_iload C.1.1 C.1.2.1 dL_law_764 (lv_at hl 1 rfl) ?_
  have h4 : (sp_putByte T D (xs (i + 1)) (xs (i + 2)) (xs (i + 3))).1 ≤ 4 := sp_putByte_c T D (xs (i + 1)) (xs (i + 2)) (xs (i + 3)) 0 0 0 0 0
  rcases Decidable.em ((sp_putByte T D (xs (i + 1)) (xs (i + 2)) (xs (i + 3))).1 = 0) with h0 | h0
  · refine x_if_ne_f (tgt := 781) C.1.1 C.1.2.1 dL_law_766 (by decide) (by rw [h0]; rfl) ?_
    obtain ⟨f9, rfl, hf9⟩ := hP
    have hf9 := hf9 h0
    refine lv_aload_n C.1.1 C.1.2.1 dL_law_769 rfl (lv_at hl 5 rfl) ?_
    refine lv_iconst (v := nI 0) C.1.1 C.1.2.1 dL_law_770 (by decide) ?_
    refine lx_lld C hW dL_law_771 ?_
    refine lv_iload C.1.1 C.1.2.1 dL_law_772 (lv_at hl 0 rfl) ?_
    refine lv_i2l (v := ((sp_putByte T D (xs (i + 1)) (xs (i + 2)) (xs (i + 3))).2.1).toInt64) C.1.1 C.1.2.1 dL_law_774 rfl ?_
    refine W.lcmp C.1.1 C.1.2.1 dL_law_775 ?_
    refine x_if_eq_t (tgt := 781) C.1.1 C.1.2.1 dL_law_776 (by decide) (by rw [hf9]; exact lx_cmp0 _) ?_
    refine lv_goto (tgt := 3303) C.1.1 C.1.2.1 dL_law_781 (by decide) ?_
    exact hk H locs _ _ _ _ _ _ _ hW ⟨f9, rfl, fun z => z.elim⟩ hP2 (by omega) (by omega) ls (lv_sub hl [2, 3, 4, 5, 6, 7] rfl)
  · refine x_if_ne_t (tgt := 781) C.1.1 C.1.2.1 dL_law_766 (by decide) (fun z => h0 (nI_inj (by omega) (by decide) z)) ?_
    refine lv_goto (tgt := 3303) C.1.1 C.1.2.1 dL_law_781 (by decide) ?_
    exact hk H locs _ _ _ _ _ _ _ hW (oL_w hP) hP2 (by omega) (by omega) ls (lv_sub hl [2, 3, 4, 5, 6, 7] rfl)

set_option maxHeartbeats 4000000 in
set_option maxRecDepth 100000 in
theorem lx_c7 {p : Program} {l : Launch} {e : Env} {s : State} {m : MethodId} {args : Array Value} {below : List Frame} {meth : Method} {c : Code} {H : Heap} {locs : List Loc} {cells slots : Nat} {Z : State → Prop} {ls : Array Slot} {G : va_G} {kT : Nat → ClassId} {q : Nat → Nat} {a0 o1 o2 b n : Nat} {xs : Nat → Int32} {T : mT} {D : mD} {th : Int32} {e1 e2 : va_E} (C : lx_C l p s m args c G kT q o1 o2 b n xs) (hW : lx_W G kT q a0 o1 o2 T D T D th e1 e2 s H locs) (hP1 : oL kT False 0 e1) (hP2 : oD kT False 0 e2) {i : Nat} (hi : i + 6 ≤ n) (hn : n ≤ 3072) (hcs : cells + 2 ≤ room_1.cells ∧ slots + 260 ≤ room_1.slots) (hl : lv_has ls 10 (lx_l b a0 (q 0) o1 o2 i)) (hk : lx_K p l e s m args below meth c Z G kT q a0 o1 o2 b cells slots i) : W p l e room_1 s m args below meth c H locs cells slots Z (F0 m 784 ls []) := by
  have hl : lv_has ls 10 [(0, .ref b), (1, .ref a0), (2, .ref (q 0)), (3, .ref o1), (4, .ref o2), (5, .int (nI i))] := hl
  refine lv_aload_n C.1.1 C.1.2.1 dL_law_784 rfl (lv_at hl 1 rfl) ?_
  refine lv_aload_n C.1.1 C.1.2.1 dL_law_785 rfl (lv_at hl 0 rfl) ?_
  refine lv_iload C.1.1 C.1.2.1 dL_law_786 (lv_at hl 5 rfl) ?_
  refine lv_iconst (v := nI 1) C.1.1 C.1.2.1 dL_law_788 (by decide) ?_
  refine n_iadd C.1.1 C.1.2.1 dL_law_789 ?_
  refine lx_sld C hW.S (j := i + 1) (by omega) (by omega) dL_law_790 ?_
  refine lv_aload_n C.1.1 C.1.2.1 dL_law_791 rfl (lv_at hl 0 rfl) ?_
  refine lv_iload C.1.1 C.1.2.1 dL_law_792 (lv_at hl 5 rfl) ?_
  refine lv_iconst (v := nI 2) C.1.1 C.1.2.1 dL_law_794 (by decide) ?_
  refine n_iadd C.1.1 C.1.2.1 dL_law_795 ?_
  refine lx_sld C hW.S (j := i + 2) (by omega) (by omega) dL_law_796 ?_
  refine lv_aload_n C.1.1 C.1.2.1 dL_law_797 rfl (lv_at hl 3 rfl) ?_
  have hIJ := hW.IJ
  refine lx_callw C hW hP1 (wo_getByte l C.2.2.2.2.2.2.2.2.2.2 hIJ.1 hIJ.2 (xs (i + 1)) (xs (i + 2))) (vx_cwSW 4 C.1.2.2.2.2 gL_law_L_getByte rfl rfl rfl (by decide +kernel) ⟨Nat.le_of_ble_eq_true rfl, Nat.le_of_ble_eq_true rfl⟩) rfl rfl hl.1 (Nat.le_of_ble_eq_true rfl) dL_law_798 hcs (fun H locs e9 hW hP => ?_)
  refine lv_istore (lv' := [(6, .int (nI (sp_getByte T D (xs (i + 1)) (xs (i + 2))).1)), (0, .ref b), (1, .ref a0), (2, .ref (q 0)), (3, .ref o1), (4, .ref o2), (5, .int (nI i))]) C.1.1 C.1.2.1 dL_law_801 hl (by decide) rfl (fun ls hl => ?_)
  refine lv_aload_n C.1.1 C.1.2.1 dL_law_803 rfl (lv_at hl 3 rfl) ?_
  refine lv_aload_n C.1.1 C.1.2.1 dL_law_804 rfl (lv_at hl 1 rfl) ?_
  refine lv_iload C.1.1 C.1.2.1 dL_law_805 (lv_at hl 6 rfl) ?_
  refine lv_iconst (v := nI 1) C.1.1 C.1.2.1 dL_law_807 (by decide) ?_
  refine n_iadd C.1.1 C.1.2.1 dL_law_808 ?_
  refine lx_sld C hW.S (j := i + 1) (by omega) (by omega) dL_law_809 ?_
  refine lv_aload_n C.1.1 C.1.2.1 dL_law_810 rfl (lv_at hl 1 rfl) ?_
  refine lv_iload C.1.1 C.1.2.1 dL_law_811 (lv_at hl 6 rfl) ?_
  refine lv_iconst (v := nI 2) C.1.1 C.1.2.1 dL_law_813 (by decide) ?_
  refine n_iadd C.1.1 C.1.2.1 dL_law_814 ?_
  refine lx_sld C hW.S (j := i + 2) (by omega) (by omega) dL_law_815 ?_
  refine lx_callmi C hW (mo_getByte l C.2.2.2.2.2.1 _ _ _ hIJ.1 hIJ.2 (xs (i + 1)) (xs (i + 2))) (cwV 2 C.1.2.2.2.2 gL_law_X7_getByte rfl rfl rfl (by decide +kernel) ⟨Nat.le_of_ble_eq_true rfl, Nat.le_of_ble_eq_true rfl⟩) rfl rfl hl.1 (Nat.le_of_ble_eq_true rfl) dL_law_816 hcs (fun H locs hW => ?_)
  refine lv_istore (lv' := [(7, .int ((sp_getByte T D (xs (i + 1)) (xs (i + 2))).2.1)), (6, .int (nI (sp_getByte T D (xs (i + 1)) (xs (i + 2))).1)), (0, .ref b), (1, .ref a0), (2, .ref (q 0)), (3, .ref o1), (4, .ref o2), (5, .int (nI i))]) C.1.1 C.1.2.1 dL_law_819 hl (by decide) rfl (fun ls hl => ?_)
  refine lv_aload_n C.1.1 C.1.2.1 dL_law_821 rfl (lv_at hl 4 rfl) ?_
  refine lx_callmi C hW (mt_thrown l C.2.2.2.2.2.1 _ _ _) (cwV 0 C.1.2.2.2.2 gL_law_X7_thrown rfl rfl rfl (by decide +kernel) ⟨Nat.le_of_ble_eq_true rfl, Nat.le_of_ble_eq_true rfl⟩) rfl rfl hl.1 (Nat.le_of_ble_eq_true rfl) dL_law_822 hcs (fun H locs hW => ?_)
  refine lv_iload C.1.1 C.1.2.1 dL_law_825 (lv_at hl 1 rfl) ?_
  refine x_icmp_eq_t (tgt := 832) C.1.1 C.1.2.1 dL_law_827 (by decide) rfl ?_
  refine lv_iload C.1.1 C.1.2.1 dL_law_832 (lv_at hl 1 rfl) ?_
  have h4 : (sp_getByte T D (xs (i + 1)) (xs (i + 2))).1 ≤ 4 := sp_getByte_c T D (xs (i + 1)) (xs (i + 2)) 0 0 0 0 0 0
  rcases Decidable.em ((sp_getByte T D (xs (i + 1)) (xs (i + 2))).1 = 0) with h0 | h0
  · refine x_if_ne_f (tgt := 849) C.1.1 C.1.2.1 dL_law_834 (by decide) (by rw [h0]; rfl) ?_
    obtain ⟨f9, rfl, hf9⟩ := hP
    have hf9 := hf9 h0
    refine lv_aload_n C.1.1 C.1.2.1 dL_law_837 rfl (lv_at hl 5 rfl) ?_
    refine lv_iconst (v := nI 0) C.1.1 C.1.2.1 dL_law_838 (by decide) ?_
    refine lx_lld C hW dL_law_839 ?_
    refine lv_iload C.1.1 C.1.2.1 dL_law_840 (lv_at hl 0 rfl) ?_
    refine lv_i2l (v := ((sp_getByte T D (xs (i + 1)) (xs (i + 2))).2.1).toInt64) C.1.1 C.1.2.1 dL_law_842 rfl ?_
    refine W.lcmp C.1.1 C.1.2.1 dL_law_843 ?_
    refine x_if_eq_t (tgt := 849) C.1.1 C.1.2.1 dL_law_844 (by decide) (by rw [hf9]; exact lx_cmp0 _) ?_
    refine lv_goto (tgt := 3303) C.1.1 C.1.2.1 dL_law_849 (by decide) ?_
    exact hk H locs _ _ _ _ _ _ _ hW ⟨f9, rfl, fun z => z.elim⟩ hP2 (by omega) (by omega) ls (lv_sub hl [2, 3, 4, 5, 6, 7] rfl)
  · refine x_if_ne_t (tgt := 849) C.1.1 C.1.2.1 dL_law_834 (by decide) (fun z => h0 (nI_inj (by omega) (by decide) z)) ?_
    refine lv_goto (tgt := 3303) C.1.1 C.1.2.1 dL_law_849 (by decide) ?_
    exact hk H locs _ _ _ _ _ _ _ hW (oL_w hP) hP2 (by omega) (by omega) ls (lv_sub hl [2, 3, 4, 5, 6, 7] rfl)

set_option maxHeartbeats 4000000 in
set_option maxRecDepth 100000 in
theorem lx_c8 {p : Program} {l : Launch} {e : Env} {s : State} {m : MethodId} {args : Array Value} {below : List Frame} {meth : Method} {c : Code} {H : Heap} {locs : List Loc} {cells slots : Nat} {Z : State → Prop} {ls : Array Slot} {G : va_G} {kT : Nat → ClassId} {q : Nat → Nat} {a0 o1 o2 b n : Nat} {xs : Nat → Int32} {T : mT} {D : mD} {th : Int32} {e1 e2 : va_E} (C : lx_C l p s m args c G kT q o1 o2 b n xs) (hW : lx_W G kT q a0 o1 o2 T D T D th e1 e2 s H locs) (hP1 : oL kT False 0 e1) (hP2 : oD kT False 0 e2) {i : Nat} (hi : i + 6 ≤ n) (hn : n ≤ 3072) (hcs : cells + 2 ≤ room_1.cells ∧ slots + 260 ≤ room_1.slots) (hl : lv_has ls 10 (lx_l b a0 (q 0) o1 o2 i)) (hk : lx_K p l e s m args below meth c Z G kT q a0 o1 o2 b cells slots i) : W p l e room_1 s m args below meth c H locs cells slots Z (F0 m 852 ls []) := by
  have hl : lv_has ls 10 [(0, .ref b), (1, .ref a0), (2, .ref (q 0)), (3, .ref o1), (4, .ref o2), (5, .int (nI i))] := hl
  refine lv_aload_n C.1.1 C.1.2.1 dL_law_852 rfl (lv_at hl 1 rfl) ?_
  refine lv_aload_n C.1.1 C.1.2.1 dL_law_853 rfl (lv_at hl 0 rfl) ?_
  refine lv_iload C.1.1 C.1.2.1 dL_law_854 (lv_at hl 5 rfl) ?_
  refine lv_iconst (v := nI 1) C.1.1 C.1.2.1 dL_law_856 (by decide) ?_
  refine n_iadd C.1.1 C.1.2.1 dL_law_857 ?_
  refine lx_sld C hW.S (j := i + 1) (by omega) (by omega) dL_law_858 ?_
  refine lv_aload_n C.1.1 C.1.2.1 dL_law_859 rfl (lv_at hl 3 rfl) ?_
  have hIJ := hW.IJ
  refine lx_callw C hW hP1 (wo_begin l C.2.2.2.2.2.2.2.2.2.2 hIJ.1 hIJ.2 (xs (i + 1))) (vx_cwSW 3 C.1.2.2.2.2 gL_law_L_begin rfl rfl rfl (by decide +kernel) ⟨Nat.le_of_ble_eq_true rfl, Nat.le_of_ble_eq_true rfl⟩) rfl rfl hl.1 (Nat.le_of_ble_eq_true rfl) dL_law_860 hcs (fun H locs e9 hW hP => ?_)
  refine lv_istore (lv' := [(6, .int (nI (sp_begin T D 0 (xs (i + 1))).1)), (0, .ref b), (1, .ref a0), (2, .ref (q 0)), (3, .ref o1), (4, .ref o2), (5, .int (nI i))]) C.1.1 C.1.2.1 dL_law_863 hl (by decide) rfl (fun ls hl => ?_)
  refine lv_aload_n C.1.1 C.1.2.1 dL_law_865 rfl (lv_at hl 3 rfl) ?_
  refine lv_aload_n C.1.1 C.1.2.1 dL_law_866 rfl (lv_at hl 1 rfl) ?_
  refine lv_iload C.1.1 C.1.2.1 dL_law_867 (lv_at hl 6 rfl) ?_
  refine lv_iconst (v := nI 1) C.1.1 C.1.2.1 dL_law_869 (by decide) ?_
  refine n_iadd C.1.1 C.1.2.1 dL_law_870 ?_
  refine lx_sld C hW.S (j := i + 1) (by omega) (by omega) dL_law_871 ?_
  refine lx_callmi C hW (mo_begin l C.2.2.2.2.2.1 _ _ _ hIJ.1 hIJ.2 (xs (i + 1))) (cwV 1 C.1.2.2.2.2 gL_law_X7_begin rfl rfl rfl (by decide +kernel) ⟨Nat.le_of_ble_eq_true rfl, Nat.le_of_ble_eq_true rfl⟩) rfl rfl hl.1 (Nat.le_of_ble_eq_true rfl) dL_law_872 hcs (fun H locs hW => ?_)
  refine lv_istore (lv' := [(7, .int ((sp_begin T D 0 (xs (i + 1))).2.1)), (6, .int (nI (sp_begin T D 0 (xs (i + 1))).1)), (0, .ref b), (1, .ref a0), (2, .ref (q 0)), (3, .ref o1), (4, .ref o2), (5, .int (nI i))]) C.1.1 C.1.2.1 dL_law_875 hl (by decide) rfl (fun ls hl => ?_)
  refine lv_aload_n C.1.1 C.1.2.1 dL_law_877 rfl (lv_at hl 4 rfl) ?_
  refine lx_callmi C hW (mt_thrown l C.2.2.2.2.2.1 _ _ _) (cwV 0 C.1.2.2.2.2 gL_law_X7_thrown rfl rfl rfl (by decide +kernel) ⟨Nat.le_of_ble_eq_true rfl, Nat.le_of_ble_eq_true rfl⟩) rfl rfl hl.1 (Nat.le_of_ble_eq_true rfl) dL_law_878 hcs (fun H locs hW => ?_)
  refine lv_iload C.1.1 C.1.2.1 dL_law_881 (lv_at hl 1 rfl) ?_
  refine x_icmp_eq_t (tgt := 888) C.1.1 C.1.2.1 dL_law_883 (by decide) rfl ?_
  refine lv_iload C.1.1 C.1.2.1 dL_law_888 (lv_at hl 1 rfl) ?_
  have h4 : (sp_begin T D 0 (xs (i + 1))).1 ≤ 4 := sp_begin_c T D (xs (i + 1)) 0 0 0 0 0 0 0
  rcases Decidable.em ((sp_begin T D 0 (xs (i + 1))).1 = 0) with h0 | h0
  · refine x_if_ne_f (tgt := 905) C.1.1 C.1.2.1 dL_law_890 (by decide) (by rw [h0]; rfl) ?_
    obtain ⟨f9, rfl, hf9⟩ := hP
    have hf9 := hf9 h0
    refine lv_aload_n C.1.1 C.1.2.1 dL_law_893 rfl (lv_at hl 5 rfl) ?_
    refine lv_iconst (v := nI 0) C.1.1 C.1.2.1 dL_law_894 (by decide) ?_
    refine lx_lld C hW dL_law_895 ?_
    refine lv_iload C.1.1 C.1.2.1 dL_law_896 (lv_at hl 0 rfl) ?_
    refine lv_i2l (v := ((sp_begin T D 0 (xs (i + 1))).2.1).toInt64) C.1.1 C.1.2.1 dL_law_898 rfl ?_
    refine W.lcmp C.1.1 C.1.2.1 dL_law_899 ?_
    refine x_if_eq_t (tgt := 905) C.1.1 C.1.2.1 dL_law_900 (by decide) (by rw [hf9]; exact lx_cmp0 _) ?_
    refine lv_goto (tgt := 3303) C.1.1 C.1.2.1 dL_law_905 (by decide) ?_
    exact hk H locs _ _ _ _ _ _ _ hW ⟨f9, rfl, fun z => z.elim⟩ hP2 (by omega) (by omega) ls (lv_sub hl [2, 3, 4, 5, 6, 7] rfl)
  · refine x_if_ne_t (tgt := 905) C.1.1 C.1.2.1 dL_law_890 (by decide) (fun z => h0 (nI_inj (by omega) (by decide) z)) ?_
    refine lv_goto (tgt := 3303) C.1.1 C.1.2.1 dL_law_905 (by decide) ?_
    exact hk H locs _ _ _ _ _ _ _ hW (oL_w hP) hP2 (by omega) (by omega) ls (lv_sub hl [2, 3, 4, 5, 6, 7] rfl)
