/-! the acts, from their case to behind the switch -/
def px_K (p : Program) (l : Launch) (e : Env) (s : State) (m : MethodId) (args : Array Value) (below : List Frame) (meth : Method) (c : Code) (Z : State → Prop) (G : va_G) (kT : Nat → ClassId) (a0 o1 o2 b en k cells slots : Nat) : Prop :=
  ∀ (H : Heap) (locs : List Loc) (T : mT) (D : mD) (f g : Nat → Int32) (n pl mk cells2 slots2 : Nat), px_W G kT a0 o1 o2 T D f g s H locs → jJ T D f g n pl mk en → n ≤ 208 → cells2 ≤ cells + 6 → slots2 ≤ slots + 780 → ∀ ls : Array Slot, lv_has ls 16 (px_l b a0 o1 o2 n en pl mk k) → W p l e room_1 s m args below meth c H locs cells2 slots2 Z (F0 m 569 ls [])

set_option maxHeartbeats 4000000 in
set_option maxRecDepth 100000 in
theorem px_c0 {p : Program} {l : Launch} {e : Env} {s : State} {m : MethodId} {args : Array Value} {below : List Frame} {meth : Method} {c : Code} {H : Heap} {locs : List Loc} {cells slots : Nat} {Z : State → Prop} {ls : Array Slot} {G : va_G} {kT : Nat → ClassId} {a0 o1 o2 b n9 : Nat} {xs : Nat → Int32} {T : mT} {D : mD} {f g : Nat → Int32} {n pl mk en k mo : Nat} (C : px_C l p s m args c G kT o1 o2 b n9 xs) (hW : px_W G kT a0 o1 o2 T D f g s H locs) (hJ : jJ T D f g n pl mk en) (hn : n ≤ 200) (hm : mo < 12500000) (hcs : cells + 6 ≤ room_1.cells ∧ slots + 780 ≤ room_1.slots) (hl : lv_has ls 16 ((11, .int (nI mo)) :: px_l b a0 o1 o2 n en pl mk k)) (hk : px_K p l e s m args below meth c Z G kT a0 o1 o2 b en k cells slots) : W p l e room_1 s m args below meth c H locs cells slots Z (F0 m 180 ls []) := by
  have hIJ := hW.IJ
  obtain ⟨⟨q40, q9⟩, ⟨r8, r9, r10, r11, r12⟩, ⟨r7, r73⟩, hf, hg, hpl, hmk, hen, hn9⟩ := id hJ
  subst r9
  subst r10
  subst r11
  subst r7
  have hl : lv_has ls 16 [(11, .int (nI mo)), (0, .ref b), (1, .ref a0), (2, .ref o1), (3, .ref o2), (4, .int (nI (T 7 0))), (6, .int (nI (T 10 0))), (7, .int (nI (T 9 0))), (8, .int (nI (T 11 0))), (9, .int (nI k))] := hl
  refine lv_iload C.1.1 C.1.2.1 dL_law_180 (lv_at hl 0 rfl) ?_
  refine lv_bipush (v := nI 40) C.1.1 C.1.2.1 dL_law_182 (by decide) ?_
  refine lv_irem C.1.1 C.1.2.1 dL_law_184 (by decide) ?_
  refine n_cv (y := nI (mo % 40)) (pk_rem (by omega) (by decide) (by decide)) ?_
  refine lv_istore (lv' := [(12, .int (nI (mo % 40))), (11, .int (nI mo)), (0, .ref b), (1, .ref a0), (2, .ref o1), (3, .ref o2), (4, .int (nI (T 7 0))), (6, .int (nI (T 10 0))), (7, .int (nI (T 9 0))), (8, .int (nI (T 11 0))), (9, .int (nI k))]) C.1.1 C.1.2.1 dL_law_185 hl (by decide) rfl (fun ls hl => ?_)
  refine lv_aload_n C.1.1 C.1.2.1 dL_law_187 rfl (lv_at hl 3 rfl) ?_
  refine lv_iconst (v := nI 0) C.1.1 C.1.2.1 dL_law_188 (by decide) ?_
  refine lv_iload C.1.1 C.1.2.1 dL_law_189 (lv_at hl 0 rfl) ?_
  refine lv_iload C.1.1 C.1.2.1 dL_law_191 (lv_at hl 1 rfl) ?_
  refine lv_bipush (v := nI 64) C.1.1 C.1.2.1 dL_law_193 (by decide) ?_
  refine lv_idiv C.1.1 C.1.2.1 dL_law_195 (by decide) ?_
  refine n_cv (y := nI (mo / 64)) (pk_div (by omega) (by decide) (by decide)) ?_
  refine lv_ldc C.1.1 C.1.2.1 C.1.2.2.2.1 (C.1.2.2.2.2 (.constant RL 120 (65536)) (wl_5)) dL_law_196 ?_
  refine n_cv (y := nI 65536) (rfl) ?_
  refine lv_irem C.1.1 C.1.2.1 dL_law_198 (by decide) ?_
  refine n_cv (y := nI ((mo / 64) % 65536)) (pk_rem (by omega) (by decide) (by decide)) ?_
  refine lv_i2c (v := nI ((mo / 64) % 65536)) C.1.1 C.1.2.1 dL_law_199 (p_chr (by omega)) ?_
  refine px_call C hW (wx_put l C.2.2.2.2.2.2.2.2.1 hIJ.1 hIJ.2 (r := 0) (f := mo % 40) (x := nI (mo / 64 % 65536)) (by decide) (by omega)) (vx_cwSW 4 C.1.2.2.2.2 gL_law_L_put rfl rfl rfl (by decide +kernel) ⟨Nat.le_of_ble_eq_true rfl, Nat.le_of_ble_eq_true rfl⟩) rfl rfl hl.1 (Nat.le_of_ble_eq_true rfl) dL_law_200 ⟨by omega, by omega⟩ (fun H locs hW => ?_)
  refine lv_aload_n C.1.1 C.1.2.1 dL_law_203 rfl (lv_at hl 4 rfl) ?_
  refine lv_iload C.1.1 C.1.2.1 dL_law_204 (lv_at hl 0 rfl) ?_
  refine px_ld1 C hW (j := mo % 40) (by omega) dL_law_206 ?_
  refine lv_i2l (v := (f (mo % 40) : Int32).toInt64) C.1.1 C.1.2.1 dL_law_207 rfl ?_
  refine W.lcmp C.1.1 C.1.2.1 dL_law_208 ?_
  refine x_if_eq_t (tgt := 214) C.1.1 C.1.2.1 dL_law_209 (by decide) (by rw [hf (mo % 40) (by omega)]; exact lx_cmp0 _) ?_
  refine lv_aload_n C.1.1 C.1.2.1 dL_law_214 rfl (lv_at hl 4 rfl) ?_
  refine lv_iload C.1.1 C.1.2.1 dL_law_215 (lv_at hl 0 rfl) ?_
  refine lv_iload C.1.1 C.1.2.1 dL_law_217 (lv_at hl 1 rfl) ?_
  refine lv_bipush (v := nI 64) C.1.1 C.1.2.1 dL_law_219 (by decide) ?_
  refine lv_idiv C.1.1 C.1.2.1 dL_law_221 (by decide) ?_
  refine n_cv (y := nI (mo / 64)) (pk_div (by omega) (by decide) (by decide)) ?_
  refine lv_sipush (v := nI 256) C.1.1 C.1.2.1 dL_law_222 (by decide) ?_
  refine lv_irem C.1.1 C.1.2.1 dL_law_225 (by decide) ?_
  refine n_cv (y := nI ((mo / 64) % 256)) (pk_rem (by omega) (by decide) (by decide)) ?_
  refine px_st1 C hW (j := mo % 40) (by omega) dL_law_226 (fun H locs hW => ?_)
  refine lv_goto (tgt := 569) C.1.1 C.1.2.1 dL_law_227 (by decide) ?_
  have e9 : nI (mo / 64 % 65536) &&& nI 255 = nI (mo / 64 % 256) := (pk_andN (by omega) 8 (by decide)).trans (congrArg nI (by omega))
  rw [e9] at hW
  exact hk H locs _ _ _ _ _ _ _ _ _ hW (hJ.put hIJ.1) (by omega) (by omega) (by omega) ls (lv_sub hl [2, 3, 4, 5, 6, 7, 8, 9, 10] rfl)

set_option maxHeartbeats 4000000 in
set_option maxRecDepth 100000 in
theorem px_c2 {p : Program} {l : Launch} {e : Env} {s : State} {m : MethodId} {args : Array Value} {below : List Frame} {meth : Method} {c : Code} {H : Heap} {locs : List Loc} {cells slots : Nat} {Z : State → Prop} {ls : Array Slot} {G : va_G} {kT : Nat → ClassId} {a0 o1 o2 b n9 : Nat} {xs : Nat → Int32} {T : mT} {D : mD} {f g : Nat → Int32} {n pl mk en k mo : Nat} (C : px_C l p s m args c G kT o1 o2 b n9 xs) (hW : px_W G kT a0 o1 o2 T D f g s H locs) (hJ : jJ T D f g n pl mk en) (hn : n ≤ 200) (hm : mo < 12500000) (hcs : cells + 6 ≤ room_1.cells ∧ slots + 780 ≤ room_1.slots) (hl : lv_has ls 16 ((11, .int (nI mo)) :: px_l b a0 o1 o2 n en pl mk k)) (hk : px_K p l e s m args below meth c Z G kT a0 o1 o2 b en k cells slots) : W p l e room_1 s m args below meth c H locs cells slots Z (F0 m 230 ls []) := by
  have hIJ := hW.IJ
  obtain ⟨⟨q40, q9⟩, ⟨r8, r9, r10, r11, r12⟩, ⟨r7, r73⟩, hf, hg, hpl, hmk, hen, hn9⟩ := id hJ
  subst r9
  subst r10
  subst r11
  subst r7
  have hl : lv_has ls 16 [(11, .int (nI mo)), (0, .ref b), (1, .ref a0), (2, .ref o1), (3, .ref o2), (4, .int (nI (T 7 0))), (6, .int (nI (T 10 0))), (7, .int (nI (T 9 0))), (8, .int (nI (T 11 0))), (9, .int (nI k))] := hl
  rcases Decidable.em (T 9 0 = T 10 0) with hx | hx
  · skip
    refine lv_aload_n C.1.1 C.1.2.1 dL_law_230 rfl (lv_at hl 2 rfl) ?_
    refine lv_iconst (v := nI 0) C.1.1 C.1.2.1 dL_law_231 (by decide) ?_
    refine px_call C hW (wx_read_e l C.2.2.2.2.2.2.2.2.1 hIJ.1 (i := 0) (by decide) hJ.open_ hx) (vx_cwSW 2 C.1.2.2.2.2 gL_law_L_read rfl rfl rfl (by decide +kernel) ⟨Nat.le_of_ble_eq_true rfl, Nat.le_of_ble_eq_true rfl⟩) rfl rfl hl.1 (Nat.le_of_ble_eq_true rfl) dL_law_232 ⟨by omega, by omega⟩ (fun H locs hW => ?_)
    refine lv_iload C.1.1 C.1.2.1 dL_law_235 (lv_at hl 7 rfl) ?_
    refine lv_iload C.1.1 C.1.2.1 dL_law_237 (lv_at hl 6 rfl) ?_
    refine n_icmp_ne_f (tgt := 246) C.1.1 C.1.2.1 dL_law_239 (by decide) (hx) (by omega) (by omega) ?_
    refine lv_iconst (v := -1) C.1.1 C.1.2.1 dL_law_242 (by decide) ?_
    refine lv_goto (tgt := 250) C.1.1 C.1.2.1 dL_law_243 (by decide) ?_
    refine lv_i2l (v := ((-1) : Int32).toInt64) C.1.1 C.1.2.1 dL_law_250 rfl ?_
    refine W.lcmp C.1.1 C.1.2.1 dL_law_251 ?_
    refine x_if_eq_t (tgt := 257) C.1.1 C.1.2.1 dL_law_252 (by decide) (lx_cmp0 _) ?_
    refine lv_iload C.1.1 C.1.2.1 dL_law_257 (lv_at hl 6 rfl) ?_
    refine lv_iload C.1.1 C.1.2.1 dL_law_259 (lv_at hl 7 rfl) ?_
    refine lv_iconst (v := nI 1) C.1.1 C.1.2.1 dL_law_261 (by decide) ?_
    refine n_iadd C.1.1 C.1.2.1 dL_law_262 ?_
    refine va_mmin C.1.1 C.1.2.1 (C.1.2.2.1.trans hl.1.symm) C.1.2.2.2.1 (C.1.2.2.2.2 (.methodLink RL 127 Lib.Math.min.name) (wl_6)) (C.1.2.2.2.2 (.static Lib.Math.min.name) (wl_7)) (C.1.2.2.2.2 (.initialized "java/lang/Math") (wl_8)) (C.1.2.2.2.2 (.code Lib.Math.min.name Lib.Math.min.code 2 (some .int)) (wl_9)) (Nat.le_of_ble_eq_true rfl) (Nat.le_of_ble_eq_true rfl) (by omega) (by omega) dL_law_263 ?_
    refine n_cv (y := nI (min (T 10 0) (T 9 0 + 1))) (p_min (by omega) (by omega)) ?_
    refine lv_istore (lv' := [(7, .int (nI (min (T 10 0) (T 9 0 + 1)))), (11, .int (nI mo)), (0, .ref b), (1, .ref a0), (2, .ref o1), (3, .ref o2), (4, .int (nI (T 7 0))), (6, .int (nI (T 10 0))), (8, .int (nI (T 11 0))), (9, .int (nI k))]) C.1.1 C.1.2.1 dL_law_266 hl (by decide) rfl (fun ls hl => ?_)
    refine lv_goto (tgt := 569) C.1.1 C.1.2.1 dL_law_268 (by decide) ?_
    exact hk H locs _ _ _ _ _ _ _ _ _ hW (by have h1 := hJ.at_ (x := min (T 10 0) (T 9 0 + 1)) (by omega); rw [show min (T 10 0) (T 9 0 + 1) = T 9 0 by omega, u2_self] at h1; rw [show min (T 10 0) (T 9 0 + 1) = T 9 0 by omega]; exact h1) (by omega) (by omega) (by omega) ls (lv_sub hl [2, 3, 4, 5, 6, 7, 0, 8, 9] rfl)
  · skip
    refine lv_aload_n C.1.1 C.1.2.1 dL_law_230 rfl (lv_at hl 2 rfl) ?_
    refine lv_iconst (v := nI 0) C.1.1 C.1.2.1 dL_law_231 (by decide) ?_
    refine px_call C hW (wx_read l C.2.2.2.2.2.2.2.2.1 hIJ.1 (i := 0) (by decide) hJ.open_ hx) (vx_cwSW 2 C.1.2.2.2.2 gL_law_L_read rfl rfl rfl (by decide +kernel) ⟨Nat.le_of_ble_eq_true rfl, Nat.le_of_ble_eq_true rfl⟩) rfl rfl hl.1 (Nat.le_of_ble_eq_true rfl) dL_law_232 ⟨by omega, by omega⟩ (fun H locs hW => ?_)
    refine lv_iload C.1.1 C.1.2.1 dL_law_235 (lv_at hl 7 rfl) ?_
    refine lv_iload C.1.1 C.1.2.1 dL_law_237 (lv_at hl 6 rfl) ?_
    refine n_icmp_ne_t (tgt := 246) C.1.1 C.1.2.1 dL_law_239 (by decide) (hx) (by omega) (by omega) ?_
    refine lv_aload_n C.1.1 C.1.2.1 dL_law_246 rfl (lv_at hl 3 rfl) ?_
    refine lv_iload C.1.1 C.1.2.1 dL_law_247 (lv_at hl 7 rfl) ?_
    refine px_ld1 C hW (j := T 9 0) (by omega) dL_law_249 ?_
    refine lv_i2l (v := (f (T 9 0) : Int32).toInt64) C.1.1 C.1.2.1 dL_law_250 rfl ?_
    refine W.lcmp C.1.1 C.1.2.1 dL_law_251 ?_
    refine x_if_eq_t (tgt := 257) C.1.1 C.1.2.1 dL_law_252 (by decide) (by rw [hJ.rd.2.2.2 (T 9 0) (by omega)]; exact lx_cmp0 _) ?_
    refine lv_iload C.1.1 C.1.2.1 dL_law_257 (lv_at hl 6 rfl) ?_
    refine lv_iload C.1.1 C.1.2.1 dL_law_259 (lv_at hl 7 rfl) ?_
    refine lv_iconst (v := nI 1) C.1.1 C.1.2.1 dL_law_261 (by decide) ?_
    refine n_iadd C.1.1 C.1.2.1 dL_law_262 ?_
    refine va_mmin C.1.1 C.1.2.1 (C.1.2.2.1.trans hl.1.symm) C.1.2.2.2.1 (C.1.2.2.2.2 (.methodLink RL 127 Lib.Math.min.name) (wl_6)) (C.1.2.2.2.2 (.static Lib.Math.min.name) (wl_7)) (C.1.2.2.2.2 (.initialized "java/lang/Math") (wl_8)) (C.1.2.2.2.2 (.code Lib.Math.min.name Lib.Math.min.code 2 (some .int)) (wl_9)) (Nat.le_of_ble_eq_true rfl) (Nat.le_of_ble_eq_true rfl) (by omega) (by omega) dL_law_263 ?_
    refine n_cv (y := nI (min (T 10 0) (T 9 0 + 1))) (p_min (by omega) (by omega)) ?_
    refine lv_istore (lv' := [(7, .int (nI (min (T 10 0) (T 9 0 + 1)))), (11, .int (nI mo)), (0, .ref b), (1, .ref a0), (2, .ref o1), (3, .ref o2), (4, .int (nI (T 7 0))), (6, .int (nI (T 10 0))), (8, .int (nI (T 11 0))), (9, .int (nI k))]) C.1.1 C.1.2.1 dL_law_266 hl (by decide) rfl (fun ls hl => ?_)
    refine lv_goto (tgt := 569) C.1.1 C.1.2.1 dL_law_268 (by decide) ?_
    exact hk H locs _ _ _ _ _ _ _ _ _ hW (by rw [show min (T 10 0) (T 9 0 + 1) = T 9 0 + 1 by omega]; exact hJ.at_ (by omega)) (by omega) (by omega) (by omega) ls (lv_sub hl [2, 3, 4, 5, 6, 7, 0, 8, 9] rfl)

set_option maxHeartbeats 4000000 in
set_option maxRecDepth 100000 in
theorem px_c3 {p : Program} {l : Launch} {e : Env} {s : State} {m : MethodId} {args : Array Value} {below : List Frame} {meth : Method} {c : Code} {H : Heap} {locs : List Loc} {cells slots : Nat} {Z : State → Prop} {ls : Array Slot} {G : va_G} {kT : Nat → ClassId} {a0 o1 o2 b n9 : Nat} {xs : Nat → Int32} {T : mT} {D : mD} {f g : Nat → Int32} {n pl mk en k mo : Nat} (C : px_C l p s m args c G kT o1 o2 b n9 xs) (hW : px_W G kT a0 o1 o2 T D f g s H locs) (hJ : jJ T D f g n pl mk en) (hn : n ≤ 200) (hm : mo < 12500000) (hcs : cells + 6 ≤ room_1.cells ∧ slots + 780 ≤ room_1.slots) (hl : lv_has ls 16 ((11, .int (nI mo)) :: px_l b a0 o1 o2 n en pl mk k)) (hk : px_K p l e s m args below meth c Z G kT a0 o1 o2 b en k cells slots) : W p l e room_1 s m args below meth c H locs cells slots Z (F0 m 271 ls []) := by
  have hIJ := hW.IJ
  obtain ⟨⟨q40, q9⟩, ⟨r8, r9, r10, r11, r12⟩, ⟨r7, r73⟩, hf, hg, hpl, hmk, hen, hn9⟩ := id hJ
  subst r9
  subst r10
  subst r11
  subst r7
  have hl : lv_has ls 16 [(11, .int (nI mo)), (0, .ref b), (1, .ref a0), (2, .ref o1), (3, .ref o2), (4, .int (nI (T 7 0))), (6, .int (nI (T 10 0))), (7, .int (nI (T 9 0))), (8, .int (nI (T 11 0))), (9, .int (nI k))] := hl
  rcases Nat.lt_or_ge (mo % 12) 2 with hx | hx
  · skip
    have hy : (nI (mo % 12) - nI 2 < nI 0 ∧ (nI (mo % 12) - nI 2).toInt64 < 0) := by
      rcases (show mo % 12 = 0 ∨ mo % 12 = 1 by omega) with z | z
      · rw [z]; decide
      · rw [z]; decide
    have hz : ¬ nI (T 10 0 - T 9 0) < nI (mo % 12) - nI 2 := fun z => absurd (Int32.lt_trans z hy.1) (nI_pos (by omega))
    have hs : skN (nI (mo % 12) - nI 2).toInt64 (T 10 0 - T 9 0) = 0 := if_pos hy.2
    refine lv_iload C.1.1 C.1.2.1 dL_law_271 (lv_at hl 0 rfl) ?_
    refine lv_bipush (v := nI 12) C.1.1 C.1.2.1 dL_law_273 (by decide) ?_
    refine lv_irem C.1.1 C.1.2.1 dL_law_275 (by decide) ?_
    refine n_cv (y := nI (mo % 12)) (pk_rem (by omega) (by decide) (by decide)) ?_
    refine lv_iconst (v := nI 2) C.1.1 C.1.2.1 dL_law_276 (by decide) ?_
    refine lv_isub C.1.1 C.1.2.1 dL_law_277 ?_
    refine lv_istore (lv' := [(12, .int (nI (mo % 12) - nI 2)), (11, .int (nI mo)), (0, .ref b), (1, .ref a0), (2, .ref o1), (3, .ref o2), (4, .int (nI (T 7 0))), (6, .int (nI (T 10 0))), (7, .int (nI (T 9 0))), (8, .int (nI (T 11 0))), (9, .int (nI k))]) C.1.1 C.1.2.1 dL_law_278 hl (by decide) rfl (fun ls hl => ?_)
    refine lv_iconst (v := nI 0) C.1.1 C.1.2.1 dL_law_280 (by decide) ?_
    refine lv_iload C.1.1 C.1.2.1 dL_law_281 (lv_at hl 0 rfl) ?_
    refine lv_iload C.1.1 C.1.2.1 dL_law_283 (lv_at hl 7 rfl) ?_
    refine lv_iload C.1.1 C.1.2.1 dL_law_285 (lv_at hl 8 rfl) ?_
    refine n_isub C.1.1 C.1.2.1 (by omega) dL_law_287 ?_
    refine va_mmin C.1.1 C.1.2.1 (C.1.2.2.1.trans hl.1.symm) C.1.2.2.2.1 (C.1.2.2.2.2 (.methodLink RL 127 Lib.Math.min.name) (wl_6)) (C.1.2.2.2.2 (.static Lib.Math.min.name) (wl_7)) (C.1.2.2.2.2 (.initialized "java/lang/Math") (wl_8)) (C.1.2.2.2.2 (.code Lib.Math.min.name Lib.Math.min.code 2 (some .int)) (wl_9)) (Nat.le_of_ble_eq_true rfl) (Nat.le_of_ble_eq_true rfl) (by omega) (by omega) dL_law_288 ?_
    refine n_cv (y := nI (mo % 12) - nI 2) (if_neg hz) ?_
    refine va_mmax C.1.1 C.1.2.1 (C.1.2.2.1.trans hl.1.symm) C.1.2.2.2.1 (C.1.2.2.2.2 (.methodLink RL 132 Lib.Math.max.name) (wl_10)) (C.1.2.2.2.2 (.static Lib.Math.max.name) (wl_11)) (C.1.2.2.2.2 (.initialized "java/lang/Math") (wl_8)) (C.1.2.2.2.2 (.code Lib.Math.max.name Lib.Math.max.code 2 (some .int)) (wl_12)) (Nat.le_of_ble_eq_true rfl) (Nat.le_of_ble_eq_true rfl) (by omega) (by omega) dL_law_291 ?_
    refine n_cv (y := nI 0) (if_neg (fun z => absurd (Int32.lt_trans z hy.1) (by decide))) ?_
    refine lv_istore (lv' := [(13, .int (nI 0)), (12, .int (nI (mo % 12) - nI 2)), (11, .int (nI mo)), (0, .ref b), (1, .ref a0), (2, .ref o1), (3, .ref o2), (4, .int (nI (T 7 0))), (6, .int (nI (T 10 0))), (7, .int (nI (T 9 0))), (8, .int (nI (T 11 0))), (9, .int (nI k))]) C.1.1 C.1.2.1 dL_law_294 hl (by decide) rfl (fun ls hl => ?_)
    refine lv_aload_n C.1.1 C.1.2.1 dL_law_296 rfl (lv_at hl 4 rfl) ?_
    refine lv_iconst (v := nI 0) C.1.1 C.1.2.1 dL_law_297 (by decide) ?_
    refine lv_iload C.1.1 C.1.2.1 dL_law_298 (lv_at hl 1 rfl) ?_
    refine lv_i2l (v := ((nI (mo % 12) - nI 2) : Int32).toInt64) C.1.1 C.1.2.1 dL_law_300 rfl ?_
    refine px_call C hW (wx_skip l C.2.2.2.2.2.2.2.2.1 (i := 0) (lm := (nI (mo % 12) - nI 2).toInt64) (by decide) hJ.open_) (vx_cwSW 3 C.1.2.2.2.2 gL_law_L_skip rfl rfl rfl (by decide +kernel) ⟨Nat.le_of_ble_eq_true rfl, Nat.le_of_ble_eq_true rfl⟩) rfl rfl hl.1 (Nat.le_of_ble_eq_true rfl) dL_law_301 ⟨by omega, by omega⟩ (fun H locs hW => ?_)
    refine lv_iload C.1.1 C.1.2.1 dL_law_304 (lv_at hl 0 rfl) ?_
    refine lv_i2l (v := lN 0) C.1.1 C.1.2.1 dL_law_306 (nI_l (by decide)) ?_
    refine W.lcmp C.1.1 C.1.2.1 dL_law_307 ?_
    refine x_if_eq_t (tgt := 313) C.1.1 C.1.2.1 dL_law_308 (by decide) (by rw [hs]; exact lx_cmp0 _) ?_
    refine lv_iload C.1.1 C.1.2.1 dL_law_313 (lv_at hl 9 rfl) ?_
    refine lv_iload C.1.1 C.1.2.1 dL_law_315 (lv_at hl 0 rfl) ?_
    refine n_iadd C.1.1 C.1.2.1 dL_law_317 ?_
    refine lv_istore (lv' := [(7, .int (nI ((T 9 0) + 0))), (13, .int (nI 0)), (12, .int (nI (mo % 12) - nI 2)), (11, .int (nI mo)), (0, .ref b), (1, .ref a0), (2, .ref o1), (3, .ref o2), (4, .int (nI (T 7 0))), (6, .int (nI (T 10 0))), (8, .int (nI (T 11 0))), (9, .int (nI k))]) C.1.1 C.1.2.1 dL_law_318 hl (by decide) rfl (fun ls hl => ?_)
    refine lv_goto (tgt := 569) C.1.1 C.1.2.1 dL_law_320 (by decide) ?_
    exact hk H locs _ _ _ _ _ _ _ _ _ hW (by rw [hs]; exact hJ.at_ (by omega)) (by omega) (by omega) (by omega) ls (lv_sub hl [4, 5, 6, 7, 8, 9, 0, 10, 11] rfl)
  · skip
    have hs : skN (nI (mo % 12 - 2)).toInt64 (T 10 0 - T 9 0) = min (mo % 12 - 2) (T 10 0 - T 9 0) := by
      rw [nI_l (by omega), skN, if_neg (show ¬ lN (mo % 12 - 2) < 0 from fun z => absurd ((pk_lLT (b := 0) (by omega) (by decide)).mp z) (Nat.not_lt_zero _)), pk_lT (by omega)]; rfl
    refine lv_iload C.1.1 C.1.2.1 dL_law_271 (lv_at hl 0 rfl) ?_
    refine lv_bipush (v := nI 12) C.1.1 C.1.2.1 dL_law_273 (by decide) ?_
    refine lv_irem C.1.1 C.1.2.1 dL_law_275 (by decide) ?_
    refine n_cv (y := nI (mo % 12)) (pk_rem (by omega) (by decide) (by decide)) ?_
    refine lv_iconst (v := nI 2) C.1.1 C.1.2.1 dL_law_276 (by decide) ?_
    refine n_isub C.1.1 C.1.2.1 (by omega) dL_law_277 ?_
    refine lv_istore (lv' := [(12, .int (nI ((mo % 12) - 2))), (11, .int (nI mo)), (0, .ref b), (1, .ref a0), (2, .ref o1), (3, .ref o2), (4, .int (nI (T 7 0))), (6, .int (nI (T 10 0))), (7, .int (nI (T 9 0))), (8, .int (nI (T 11 0))), (9, .int (nI k))]) C.1.1 C.1.2.1 dL_law_278 hl (by decide) rfl (fun ls hl => ?_)
    refine lv_iconst (v := nI 0) C.1.1 C.1.2.1 dL_law_280 (by decide) ?_
    refine lv_iload C.1.1 C.1.2.1 dL_law_281 (lv_at hl 0 rfl) ?_
    refine lv_iload C.1.1 C.1.2.1 dL_law_283 (lv_at hl 7 rfl) ?_
    refine lv_iload C.1.1 C.1.2.1 dL_law_285 (lv_at hl 8 rfl) ?_
    refine n_isub C.1.1 C.1.2.1 (by omega) dL_law_287 ?_
    refine va_mmin C.1.1 C.1.2.1 (C.1.2.2.1.trans hl.1.symm) C.1.2.2.2.1 (C.1.2.2.2.2 (.methodLink RL 127 Lib.Math.min.name) (wl_6)) (C.1.2.2.2.2 (.static Lib.Math.min.name) (wl_7)) (C.1.2.2.2.2 (.initialized "java/lang/Math") (wl_8)) (C.1.2.2.2.2 (.code Lib.Math.min.name Lib.Math.min.code 2 (some .int)) (wl_9)) (Nat.le_of_ble_eq_true rfl) (Nat.le_of_ble_eq_true rfl) (by omega) (by omega) dL_law_288 ?_
    refine n_cv (y := nI (min (mo % 12 - 2) (T 10 0 - T 9 0))) (p_min (by omega) (by omega)) ?_
    refine va_mmax C.1.1 C.1.2.1 (C.1.2.2.1.trans hl.1.symm) C.1.2.2.2.1 (C.1.2.2.2.2 (.methodLink RL 132 Lib.Math.max.name) (wl_10)) (C.1.2.2.2.2 (.static Lib.Math.max.name) (wl_11)) (C.1.2.2.2.2 (.initialized "java/lang/Math") (wl_8)) (C.1.2.2.2.2 (.code Lib.Math.max.name Lib.Math.max.code 2 (some .int)) (wl_12)) (Nat.le_of_ble_eq_true rfl) (Nat.le_of_ble_eq_true rfl) (by omega) (by omega) dL_law_291 ?_
    refine n_cv (y := nI (min (mo % 12 - 2) (T 10 0 - T 9 0))) (p_max0 (by omega)) ?_
    refine lv_istore (lv' := [(13, .int (nI (min (mo % 12 - 2) (T 10 0 - T 9 0)))), (12, .int (nI ((mo % 12) - 2))), (11, .int (nI mo)), (0, .ref b), (1, .ref a0), (2, .ref o1), (3, .ref o2), (4, .int (nI (T 7 0))), (6, .int (nI (T 10 0))), (7, .int (nI (T 9 0))), (8, .int (nI (T 11 0))), (9, .int (nI k))]) C.1.1 C.1.2.1 dL_law_294 hl (by decide) rfl (fun ls hl => ?_)
    refine lv_aload_n C.1.1 C.1.2.1 dL_law_296 rfl (lv_at hl 4 rfl) ?_
    refine lv_iconst (v := nI 0) C.1.1 C.1.2.1 dL_law_297 (by decide) ?_
    refine lv_iload C.1.1 C.1.2.1 dL_law_298 (lv_at hl 1 rfl) ?_
    refine lv_i2l (v := (nI ((mo % 12) - 2) : Int32).toInt64) C.1.1 C.1.2.1 dL_law_300 rfl ?_
    refine px_call C hW (wx_skip l C.2.2.2.2.2.2.2.2.1 (i := 0) (lm := (nI (mo % 12 - 2)).toInt64) (by decide) hJ.open_) (vx_cwSW 3 C.1.2.2.2.2 gL_law_L_skip rfl rfl rfl (by decide +kernel) ⟨Nat.le_of_ble_eq_true rfl, Nat.le_of_ble_eq_true rfl⟩) rfl rfl hl.1 (Nat.le_of_ble_eq_true rfl) dL_law_301 ⟨by omega, by omega⟩ (fun H locs hW => ?_)
    refine lv_iload C.1.1 C.1.2.1 dL_law_304 (lv_at hl 0 rfl) ?_
    refine lv_i2l (v := lN (min (mo % 12 - 2) (T 10 0 - T 9 0))) C.1.1 C.1.2.1 dL_law_306 (nI_l (by omega)) ?_
    refine W.lcmp C.1.1 C.1.2.1 dL_law_307 ?_
    refine x_if_eq_t (tgt := 313) C.1.1 C.1.2.1 dL_law_308 (by decide) (by rw [hs]; exact lx_cmp0 _) ?_
    refine lv_iload C.1.1 C.1.2.1 dL_law_313 (lv_at hl 9 rfl) ?_
    refine lv_iload C.1.1 C.1.2.1 dL_law_315 (lv_at hl 0 rfl) ?_
    refine n_iadd C.1.1 C.1.2.1 dL_law_317 ?_
    refine lv_istore (lv' := [(7, .int (nI ((T 9 0) + (min (mo % 12 - 2) (T 10 0 - T 9 0))))), (13, .int (nI (min (mo % 12 - 2) (T 10 0 - T 9 0)))), (12, .int (nI ((mo % 12) - 2))), (11, .int (nI mo)), (0, .ref b), (1, .ref a0), (2, .ref o1), (3, .ref o2), (4, .int (nI (T 7 0))), (6, .int (nI (T 10 0))), (8, .int (nI (T 11 0))), (9, .int (nI k))]) C.1.1 C.1.2.1 dL_law_318 hl (by decide) rfl (fun ls hl => ?_)
    refine lv_goto (tgt := 569) C.1.1 C.1.2.1 dL_law_320 (by decide) ?_
    exact hk H locs _ _ _ _ _ _ _ _ _ hW (by rw [hs]; exact hJ.at_ (by omega)) (by omega) (by omega) (by omega) ls (lv_sub hl [4, 5, 6, 7, 8, 9, 0, 10, 11] rfl)

set_option maxHeartbeats 4000000 in
set_option maxRecDepth 100000 in
theorem px_c4 {p : Program} {l : Launch} {e : Env} {s : State} {m : MethodId} {args : Array Value} {below : List Frame} {meth : Method} {c : Code} {H : Heap} {locs : List Loc} {cells slots : Nat} {Z : State → Prop} {ls : Array Slot} {G : va_G} {kT : Nat → ClassId} {a0 o1 o2 b n9 : Nat} {xs : Nat → Int32} {T : mT} {D : mD} {f g : Nat → Int32} {n pl mk en k mo : Nat} (C : px_C l p s m args c G kT o1 o2 b n9 xs) (hW : px_W G kT a0 o1 o2 T D f g s H locs) (hJ : jJ T D f g n pl mk en) (hn : n ≤ 200) (hm : mo < 12500000) (hcs : cells + 6 ≤ room_1.cells ∧ slots + 780 ≤ room_1.slots) (hl : lv_has ls 16 ((11, .int (nI mo)) :: px_l b a0 o1 o2 n en pl mk k)) (hk : px_K p l e s m args below meth c Z G kT a0 o1 o2 b en k cells slots) : W p l e room_1 s m args below meth c H locs cells slots Z (F0 m 323 ls []) := by
  have hIJ := hW.IJ
  obtain ⟨⟨q40, q9⟩, ⟨r8, r9, r10, r11, r12⟩, ⟨r7, r73⟩, hf, hg, hpl, hmk, hen, hn9⟩ := id hJ
  subst r9
  subst r10
  subst r11
  subst r7
  have hl : lv_has ls 16 [(11, .int (nI mo)), (0, .ref b), (1, .ref a0), (2, .ref o1), (3, .ref o2), (4, .int (nI (T 7 0))), (6, .int (nI (T 10 0))), (7, .int (nI (T 9 0))), (8, .int (nI (T 11 0))), (9, .int (nI k))] := hl
  refine lv_aload_n C.1.1 C.1.2.1 dL_law_323 rfl (lv_at hl 2 rfl) ?_
  refine lv_iconst (v := nI 0) C.1.1 C.1.2.1 dL_law_324 (by decide) ?_
  refine lv_iload C.1.1 C.1.2.1 dL_law_325 (lv_at hl 0 rfl) ?_
  refine px_call C hW (wx_mark l C.2.2.2.2.2.2.2.2.1 hIJ.1 (i := 0) (lm := nI mo) (by decide) (nI_pos (by omega)) hJ.open_) (vx_cwSW 3 C.1.2.2.2.2 gL_law_L_mark rfl rfl rfl (by decide +kernel) ⟨Nat.le_of_ble_eq_true rfl, Nat.le_of_ble_eq_true rfl⟩) rfl rfl hl.1 (Nat.le_of_ble_eq_true rfl) dL_law_327 ⟨by omega, by omega⟩ (fun H locs hW => ?_)
  refine lv_iload C.1.1 C.1.2.1 dL_law_330 (lv_at hl 6 rfl) ?_
  refine lv_iload C.1.1 C.1.2.1 dL_law_332 (lv_at hl 7 rfl) ?_
  refine n_isub C.1.1 C.1.2.1 (by omega) dL_law_334 ?_
  refine lv_i2l (v := (nI ((T 10 0) - (T 9 0)) : Int32).toInt64) C.1.1 C.1.2.1 dL_law_335 rfl ?_
  refine W.lcmp C.1.1 C.1.2.1 dL_law_336 ?_
  refine x_if_eq_t (tgt := 342) C.1.1 C.1.2.1 dL_law_337 (by decide) (lx_cmp0 _) ?_
  refine lv_iload C.1.1 C.1.2.1 dL_law_342 (lv_at hl 7 rfl) ?_
  refine lv_istore (lv' := [(8, .int (nI (T 9 0))), (11, .int (nI mo)), (0, .ref b), (1, .ref a0), (2, .ref o1), (3, .ref o2), (4, .int (nI (T 7 0))), (6, .int (nI (T 10 0))), (7, .int (nI (T 9 0))), (9, .int (nI k))]) C.1.1 C.1.2.1 dL_law_344 hl (by decide) rfl (fun ls hl => ?_)
  refine lv_goto (tgt := 569) C.1.1 C.1.2.1 dL_law_346 (by decide) ?_
  exact hk H locs _ _ _ _ _ _ _ _ _ hW (hJ.marked) (by omega) (by omega) (by omega) ls (lv_sub hl [2, 3, 4, 5, 6, 7, 8, 0, 9] rfl)

set_option maxHeartbeats 4000000 in
set_option maxRecDepth 100000 in
theorem px_c5 {p : Program} {l : Launch} {e : Env} {s : State} {m : MethodId} {args : Array Value} {below : List Frame} {meth : Method} {c : Code} {H : Heap} {locs : List Loc} {cells slots : Nat} {Z : State → Prop} {ls : Array Slot} {G : va_G} {kT : Nat → ClassId} {a0 o1 o2 b n9 : Nat} {xs : Nat → Int32} {T : mT} {D : mD} {f g : Nat → Int32} {n pl mk en k mo : Nat} (C : px_C l p s m args c G kT o1 o2 b n9 xs) (hW : px_W G kT a0 o1 o2 T D f g s H locs) (hJ : jJ T D f g n pl mk en) (hn : n ≤ 200) (hm : mo < 12500000) (hcs : cells + 6 ≤ room_1.cells ∧ slots + 780 ≤ room_1.slots) (hl : lv_has ls 16 ((11, .int (nI mo)) :: px_l b a0 o1 o2 n en pl mk k)) (hk : px_K p l e s m args below meth c Z G kT a0 o1 o2 b en k cells slots) : W p l e room_1 s m args below meth c H locs cells slots Z (F0 m 349 ls []) := by
  have hIJ := hW.IJ
  obtain ⟨⟨q40, q9⟩, ⟨r8, r9, r10, r11, r12⟩, ⟨r7, r73⟩, hf, hg, hpl, hmk, hen, hn9⟩ := id hJ
  subst r9
  subst r10
  subst r11
  subst r7
  have hl : lv_has ls 16 [(11, .int (nI mo)), (0, .ref b), (1, .ref a0), (2, .ref o1), (3, .ref o2), (4, .int (nI (T 7 0))), (6, .int (nI (T 10 0))), (7, .int (nI (T 9 0))), (8, .int (nI (T 11 0))), (9, .int (nI k))] := hl
  refine lv_aload_n C.1.1 C.1.2.1 dL_law_349 rfl (lv_at hl 2 rfl) ?_
  refine lv_iconst (v := nI 0) C.1.1 C.1.2.1 dL_law_350 (by decide) ?_
  refine px_call C hW (wx_back l C.2.2.2.2.2.2.2.2.1 hIJ.1 (i := 0) (by decide) hJ.open_) (vx_cwSW 2 C.1.2.2.2.2 gL_law_L_back rfl rfl rfl (by decide +kernel) ⟨Nat.le_of_ble_eq_true rfl, Nat.le_of_ble_eq_true rfl⟩) rfl rfl hl.1 (Nat.le_of_ble_eq_true rfl) dL_law_351 ⟨by omega, by omega⟩ (fun H locs hW => ?_)
  refine lv_iload C.1.1 C.1.2.1 dL_law_354 (lv_at hl 6 rfl) ?_
  refine lv_iload C.1.1 C.1.2.1 dL_law_356 (lv_at hl 8 rfl) ?_
  refine n_isub C.1.1 C.1.2.1 (by omega) dL_law_358 ?_
  refine lv_i2l (v := (nI ((T 10 0) - (T 11 0)) : Int32).toInt64) C.1.1 C.1.2.1 dL_law_359 rfl ?_
  refine W.lcmp C.1.1 C.1.2.1 dL_law_360 ?_
  refine x_if_eq_t (tgt := 366) C.1.1 C.1.2.1 dL_law_361 (by decide) (lx_cmp0 _) ?_
  refine lv_iload C.1.1 C.1.2.1 dL_law_366 (lv_at hl 8 rfl) ?_
  refine lv_istore (lv' := [(7, .int (nI (T 11 0))), (11, .int (nI mo)), (0, .ref b), (1, .ref a0), (2, .ref o1), (3, .ref o2), (4, .int (nI (T 7 0))), (6, .int (nI (T 10 0))), (8, .int (nI (T 11 0))), (9, .int (nI k))]) C.1.1 C.1.2.1 dL_law_368 hl (by decide) rfl (fun ls hl => ?_)
  refine lv_goto (tgt := 569) C.1.1 C.1.2.1 dL_law_370 (by decide) ?_
  exact hk H locs _ _ _ _ _ _ _ _ _ hW (hJ.at_ (by omega)) (by omega) (by omega) (by omega) ls (lv_sub hl [2, 3, 4, 5, 6, 7, 0, 8, 9] rfl)
