/-! the act that reads a part: both writers take it, the law its own copy -/
set_option maxHeartbeats 4000000 in
set_option maxRecDepth 100000 in
theorem px_f {p : Program} {l : Launch} {e : Env} {s : State} {m : MethodId} {args : Array Value} {below : List Frame} {meth : Method} {c : Code} {H : Heap} {locs : List Loc} {cells slots : Nat} {Z : State → Prop} {ls : Array Slot} {G : va_G} {kT : Nat → ClassId} {a0 o1 o2 b n9 : Nat} {xs : Nat → Int32} {T : mT} {D : mD} {f g : Nat → Int32} {n pl mk en k mo t c0 s0 : Nat} (C : px_C l p s m args c G kT o1 o2 b n9 xs) (hW : px_W G kT a0 o1 o2 (adT (adT (u2 T 9 0 (T 9 0 + t)) 0 t) (3 + 0) t) (adD (adT (u2 T 9 0 (T 9 0 + t)) 0 t) (adD (u2 T 9 0 (T 9 0 + t)) (cpF D 0 (256 * T 2 1 + 0) (rpF T D 0) t) 0 (fun i => (cpF D 0 (256 * T 2 1 + 0) (rpF T D 0) t) 0 (256 * (u2 T 9 0 (T 9 0 + t)) 2 1 + 0 + i) &&& nI 255) t) (3 + 0) (fun i => (adD (u2 T 9 0 (T 9 0 + t)) (cpF D 0 (256 * T 2 1 + 0) (rpF T D 0) t) 0 (fun i => (cpF D 0 (256 * T 2 1 + 0) (rpF T D 0) t) 0 (256 * (u2 T 9 0 (T 9 0 + t)) 2 1 + 0 + i) &&& nI 255) t) 0 (256 * (adT (u2 T 9 0 (T 9 0 + t)) 0 t) 2 1 + 0 + i) &&& nI 255) t) f g s H locs) (hJ0 : jJ T D f g n pl mk en) (hI0 : mI T) (hD0 : mJD D) (ht : t ≤ 8) (hpt : pl + t ≤ en) (hn : n ≤ 200) (hm : mo < 12500000) (hcs : cells ≤ c0 + 6 ∧ slots ≤ s0 + 780) (hl : lv_has ls 16 ((13, .int (nI t)) :: px_l b a0 o1 o2 n en pl mk k)) (hk : px_K p l e s m args below meth c Z G kT a0 o1 o2 b en k c0 s0) : W p l e room_1 s m args below meth c H locs cells slots Z (F0 m 522 ls []) := by
  obtain ⟨⟨q40, q9⟩, ⟨r8, r9, r10, r11, r12⟩, ⟨r7, r73⟩, hf, hg, hpl, hmk, hen, hn9⟩ := id hJ0
  subst r9
  subst r10
  subst r11
  subst r7
  have hl : lv_has ls 16 [(13, .int (nI t)), (0, .ref b), (1, .ref a0), (2, .ref o1), (3, .ref o2), (4, .int (nI (T 7 0))), (6, .int (nI (T 10 0))), (7, .int (nI (T 9 0))), (8, .int (nI (T 11 0))), (9, .int (nI k))] := hl
  refine lv_iconst (v := nI 0) C.1.1 C.1.2.1 dL_law_522 (by decide) ?_
  refine lv_istore (lv' := [(15, .int (nI 0)), (13, .int (nI t)), (0, .ref b), (1, .ref a0), (2, .ref o1), (3, .ref o2), (4, .int (nI (T 7 0))), (6, .int (nI (T 10 0))), (7, .int (nI (T 9 0))), (8, .int (nI (T 11 0))), (9, .int (nI k))]) C.1.1 C.1.2.1 dL_law_523 hl (by decide) rfl (fun ls hl => ?_)
  suffices hZ : ∀ (d i : Nat), i + d = t → ∀ (H : Heap) (locs : List Loc) (g2 : Nat → Int32), px_W G kT a0 o1 o2 (adT (adT (u2 T 9 0 (T 9 0 + t)) 0 t) (3 + 0) t) (adD (adT (u2 T 9 0 (T 9 0 + t)) 0 t) (adD (u2 T 9 0 (T 9 0 + t)) (cpF D 0 (256 * T 2 1 + 0) (rpF T D 0) t) 0 (fun i => (cpF D 0 (256 * T 2 1 + 0) (rpF T D 0) t) 0 (256 * (u2 T 9 0 (T 9 0 + t)) 2 1 + 0 + i) &&& nI 255) t) (3 + 0) (fun i => (adD (u2 T 9 0 (T 9 0 + t)) (cpF D 0 (256 * T 2 1 + 0) (rpF T D 0) t) 0 (fun i => (cpF D 0 (256 * T 2 1 + 0) (rpF T D 0) t) 0 (256 * (u2 T 9 0 (T 9 0 + t)) 2 1 + 0 + i) &&& nI 255) t) 0 (256 * (adT (u2 T 9 0 (T 9 0 + t)) 0 t) 2 1 + 0 + i) &&& nI 255) t) f g2 s H locs → (∀ j, j < T 7 0 → g2 j = g j) → (∀ j, j < i → g2 (T 7 0 + j) = f (T 9 0 + j)) → ∀ ls : Array Slot, lv_has ls 16 [(15, .int (nI i)), (13, .int (nI t)), (0, .ref b), (1, .ref a0), (2, .ref o1), (3, .ref o2), (4, .int (nI (T 7 0))), (6, .int (nI (T 10 0))), (7, .int (nI (T 9 0))), (8, .int (nI (T 11 0))), (9, .int (nI k))] → W p l e room_1 s m args below meth c H locs cells slots Z (F0 m 525 ls []) from hZ t 0 (by omega) H locs g hW (fun _ _ => rfl) (fun j hj => absurd hj (Nat.not_lt_zero j)) ls (lv_sub hl [0, 1, 2, 3, 4, 5, 6, 7, 8, 9, 10] rfl)
  intro d
  induction d with
  | zero =>
    intro i hi H locs g2 hW g1 gt ls hl
    obtain rfl : t = i := by omega
    refine lv_iload C.1.1 C.1.2.1 dL_law_525 (lv_at hl 0 rfl) ?_
    refine lv_iload C.1.1 C.1.2.1 dL_law_527 (lv_at hl 1 rfl) ?_
    refine n_icmp_ge_t (tgt := 552) C.1.1 C.1.2.1 dL_law_529 (by decide) (by omega) (by omega) (by omega) ?_
    refine lv_iload C.1.1 C.1.2.1 dL_law_552 (lv_at hl 8 rfl) ?_
    refine lv_iload C.1.1 C.1.2.1 dL_law_554 (lv_at hl 1 rfl) ?_
    refine n_iadd C.1.1 C.1.2.1 dL_law_556 ?_
    refine lv_istore (lv' := [(7, .int (nI ((T 9 0) + t))), (15, .int (nI t)), (13, .int (nI t)), (0, .ref b), (1, .ref a0), (2, .ref o1), (3, .ref o2), (4, .int (nI (T 7 0))), (6, .int (nI (T 10 0))), (8, .int (nI (T 11 0))), (9, .int (nI k))]) C.1.1 C.1.2.1 dL_law_557 hl (by decide) rfl (fun ls hl => ?_)
    refine lv_iload C.1.1 C.1.2.1 dL_law_559 (lv_at hl 7 rfl) ?_
    refine lv_iload C.1.1 C.1.2.1 dL_law_561 (lv_at hl 2 rfl) ?_
    refine n_iadd C.1.1 C.1.2.1 dL_law_563 ?_
    refine lv_istore (lv' := [(4, .int (nI ((T 7 0) + t))), (7, .int (nI ((T 9 0) + t))), (15, .int (nI t)), (13, .int (nI t)), (0, .ref b), (1, .ref a0), (2, .ref o1), (3, .ref o2), (6, .int (nI (T 10 0))), (8, .int (nI (T 11 0))), (9, .int (nI k))]) C.1.1 C.1.2.1 dL_law_564 hl (by decide) rfl (fun ls hl => ?_)
    refine lv_goto (tgt := 569) C.1.1 C.1.2.1 dL_law_566 (by decide) ?_
    exact hk H locs _ _ _ _ _ _ _ _ _ hW (hJ0.part hI0 hD0 (by omega) (by omega) (by omega) g1 gt rfl rfl rfl rfl rfl rfl) (by omega) (by omega) (by omega) ls (lv_sub hl [4, 5, 6, 7, 0, 8, 1, 9, 10] rfl)
  | succ d ih =>
    intro i hi H locs g2 hW g1 gt ls hl
    refine lv_iload C.1.1 C.1.2.1 dL_law_525 (lv_at hl 0 rfl) ?_
    refine lv_iload C.1.1 C.1.2.1 dL_law_527 (lv_at hl 1 rfl) ?_
    refine n_icmp_ge_f (tgt := 552) C.1.1 C.1.2.1 dL_law_529 (by decide) (by omega) (by omega) (by omega) ?_
    refine lv_aload_n C.1.1 C.1.2.1 dL_law_532 rfl (lv_at hl 5 rfl) ?_
    refine lv_iload C.1.1 C.1.2.1 dL_law_533 (lv_at hl 6 rfl) ?_
    refine lv_iload C.1.1 C.1.2.1 dL_law_535 (lv_at hl 0 rfl) ?_
    refine n_iadd C.1.1 C.1.2.1 dL_law_537 ?_
    refine lv_aload_n C.1.1 C.1.2.1 dL_law_538 rfl (lv_at hl 4 rfl) ?_
    refine lv_iload C.1.1 C.1.2.1 dL_law_539 (lv_at hl 8 rfl) ?_
    refine lv_iload C.1.1 C.1.2.1 dL_law_541 (lv_at hl 0 rfl) ?_
    refine n_iadd C.1.1 C.1.2.1 dL_law_543 ?_
    refine px_ld1 C hW (j := (T 9 0) + i) (by omega) dL_law_544 ?_
    refine px_st2 C hW (j := (T 7 0) + i) (by omega) dL_law_545 (fun H locs hW => ?_)
    refine lv_iinc (v := nI (i + 1)) (lv' := [(15, .int (nI (i + 1))), (13, .int (nI t)), (0, .ref b), (1, .ref a0), (2, .ref o1), (3, .ref o2), (4, .int (nI (T 7 0))), (6, .int (nI (T 10 0))), (7, .int (nI (T 9 0))), (8, .int (nI (T 11 0))), (9, .int (nI k))]) C.1.1 C.1.2.1 dL_law_546 hl (k := 0) rfl (nI_1 _) (by decide) rfl (fun ls hl => ?_)
    refine lv_goto (tgt := 525) C.1.1 C.1.2.1 dL_law_549 (by decide) ?_
    refine ih (i + 1) (by omega) H locs _ hW (fun j hj => ?_) (fun j hj => ?_) ls (lv_sub hl [0, 1, 2, 3, 4, 5, 6, 7, 8, 9, 10] rfl)
    · rw [pk_un (by omega)]; exact g1 j hj
    · by_cases e9 : j = i
      · subst e9; exact pk_us
      · rw [pk_un (by omega)]; exact gt j (by omega)

set_option maxHeartbeats 4000000 in
set_option maxRecDepth 100000 in
theorem px_e {p : Program} {l : Launch} {e : Env} {s : State} {m : MethodId} {args : Array Value} {below : List Frame} {meth : Method} {c : Code} {H : Heap} {locs : List Loc} {cells slots : Nat} {Z : State → Prop} {ls : Array Slot} {G : va_G} {kT : Nat → ClassId} {a0 o1 o2 b n9 : Nat} {xs : Nat → Int32} {T : mT} {D : mD} {f g : Nat → Int32} {n pl mk en k mo t c0 s0 : Nat} (C : px_C l p s m args c G kT o1 o2 b n9 xs) (hW : px_W G kT a0 o1 o2 (u2 T 9 0 (T 9 0 + t)) (cpF D 0 (256 * T 2 1 + 0) (rpF T D 0) t) f g s H locs) (hJ0 : jJ T D f g n pl mk en) (hI0 : mI T) (hD0 : mJD D) (ht : t ≤ 8) (hpt : pl + t ≤ en) (hn : n ≤ 200) (hm : mo < 12500000) (hcs : cells + 4 ≤ room_1.cells ∧ slots + 520 ≤ room_1.slots ∧ cells ≤ c0 + 2 ∧ slots ≤ s0 + 260) (hl : lv_has ls 16 ((13, .int (nI t)) :: (11, .int (nI mo)) :: px_l b a0 o1 o2 n en pl mk k)) (hk : px_K p l e s m args below meth c Z G kT a0 o1 o2 b en k c0 s0) : W p l e room_1 s m args below meth c H locs cells slots Z (F0 m 421 ls []) := by
  have hk0 := hk
  obtain ⟨⟨q40, q9⟩, ⟨r8, r9, r10, r11, r12⟩, ⟨r7, r73⟩, hf, hg, hpl, hmk, hen, hn9⟩ := id hJ0
  subst r9
  subst r10
  subst r11
  subst r7
  have hl : lv_has ls 16 [(13, .int (nI t)), (11, .int (nI mo)), (0, .ref b), (1, .ref a0), (2, .ref o1), (3, .ref o2), (4, .int (nI (T 7 0))), (6, .int (nI (T 10 0))), (7, .int (nI (T 9 0))), (8, .int (nI (T 11 0))), (9, .int (nI k))] := hl
  have i1 := hW.IJ
  have a1 : 0 + t ≤ (u2 T 9 0 (T 9 0 + t)) 1 ((u2 T 9 0 (T 9 0 + t)) 2 1) := by rw [u2_ne (by decide), u2_ne (by decide)]; omega
  have a2 : (u2 T 9 0 (T 9 0 + t)) 7 0 + t ≤ 256 := by rw [u2_ne (by decide)]; omega
  have a3 : 0 + t ≤ (adT (u2 T 9 0 (T 9 0 + t)) 0 t) 1 ((adT (u2 T 9 0 (T 9 0 + t)) 0 t) 2 1) := by rw [adT, u2_ne (by decide), u2_ne (by decide), u2_ne (by decide), u2_ne (by decide)]; omega
  have e73 : (adT (u2 T 9 0 (T 9 0 + t)) 0 t) 7 (3 + 0) = T 7 0 := by rw [adT, u2_nj (by decide), u2_ne (by decide), r73]
  have a4 : (adT (u2 T 9 0 (T 9 0 + t)) 0 t) 7 (3 + 0) + t ≤ 256 := by rw [e73]; omega
  refine lv_iload C.1.1 C.1.2.1 dL_law_421 (lv_at hl 6 rfl) ?_
  refine lv_iload C.1.1 C.1.2.1 dL_law_423 (lv_at hl 0 rfl) ?_
  refine n_iadd C.1.1 C.1.2.1 dL_law_425 ?_
  refine lv_sipush (v := nI 256) C.1.1 C.1.2.1 dL_law_426 (by decide) ?_
  refine n_icmp_le_t (tgt := 434) C.1.1 C.1.2.1 dL_law_429 (by decide) (by omega) (by omega) (by omega) ?_
  rcases Decidable.em (mo % 2 = 0) with hx | hx
  · skip
    refine lv_iload C.1.1 C.1.2.1 dL_law_434 (lv_at hl 1 rfl) ?_
    refine lv_iconst (v := nI 2) C.1.1 C.1.2.1 dL_law_436 (by decide) ?_
    refine lv_irem C.1.1 C.1.2.1 dL_law_437 (by decide) ?_
    refine n_cv (y := nI (mo % 2)) (pk_rem (by omega) (by decide) (by decide)) ?_
    refine n_if_ne_f (tgt := 445) C.1.1 C.1.2.1 dL_law_438 (by decide) (hx) (by omega) ?_
    refine lv_iconst (v := nI 1) C.1.1 C.1.2.1 dL_law_441 (by decide) ?_
    refine lv_goto (tgt := 446) C.1.1 C.1.2.1 dL_law_442 (by decide) ?_
    refine lv_istore (lv' := [(14, .int (nI 1)), (13, .int (nI t)), (11, .int (nI mo)), (0, .ref b), (1, .ref a0), (2, .ref o1), (3, .ref o2), (4, .int (nI (T 7 0))), (6, .int (nI (T 10 0))), (7, .int (nI (T 9 0))), (8, .int (nI (T 11 0))), (9, .int (nI k))]) C.1.1 C.1.2.1 dL_law_446 hl (by decide) rfl (fun ls hl => ?_)
    refine lv_iload C.1.1 C.1.2.1 dL_law_448 (lv_at hl 0 rfl) ?_
    refine n_if_eq_f (tgt := 465) C.1.1 C.1.2.1 dL_law_450 (by decide) (by decide) (by omega) ?_
    refine lv_aload_n C.1.1 C.1.2.1 dL_law_453 rfl (lv_at hl 4 rfl) ?_
    refine lv_iconst (v := nI 0) C.1.1 C.1.2.1 dL_law_454 (by decide) ?_
    refine lv_iconst (v := nI 1) C.1.1 C.1.2.1 dL_law_455 (by decide) ?_
    refine lv_iconst (v := nI 0) C.1.1 C.1.2.1 dL_law_456 (by decide) ?_
    refine lv_iload C.1.1 C.1.2.1 dL_law_457 (lv_at hl 1 rfl) ?_
    refine px_call C hW (wx_writeText l C.2.2.2.2.2.2.2.2.1 i1.1 (w := 0) (r := 1) (f := 0) (n := t) (by decide) (by decide) a1 a2) (vx_cwSW 5 C.1.2.2.2.2 gL_law_L_writeText rfl rfl rfl (by decide +kernel) ⟨Nat.le_of_ble_eq_true rfl, Nat.le_of_ble_eq_true rfl⟩) rfl rfl hl.1 (Nat.le_of_ble_eq_true rfl) dL_law_459 ⟨by omega, by omega⟩ (fun H locs hW => ?_)
    have i2 := hW.IJ
    refine lv_goto (tgt := 474) C.1.1 C.1.2.1 dL_law_462 (by decide) ?_
    refine lv_iload C.1.1 C.1.2.1 dL_law_474 (lv_at hl 7 rfl) ?_
    refine lv_iload C.1.1 C.1.2.1 dL_law_476 (lv_at hl 1 rfl) ?_
    refine n_iadd C.1.1 C.1.2.1 dL_law_478 ?_
    refine lv_i2l (v := (nI ((T 7 0) + t) : Int32).toInt64) C.1.1 C.1.2.1 dL_law_479 rfl ?_
    refine W.lcmp C.1.1 C.1.2.1 dL_law_480 ?_
    refine x_if_ne_f (tgt := 520) C.1.1 C.1.2.1 dL_law_481 (by decide) (by rw [u2_ne (by decide)]; exact lx_cmp0 _) ?_
    refine lv_iload C.1.1 C.1.2.1 dL_law_484 (lv_at hl 0 rfl) ?_
    refine n_if_eq_f (tgt := 501) C.1.1 C.1.2.1 dL_law_486 (by decide) (by decide) (by omega) ?_
    refine lv_aload_n C.1.1 C.1.2.1 dL_law_489 rfl (lv_at hl 4 rfl) ?_
    refine lv_iconst (v := nI 0) C.1.1 C.1.2.1 dL_law_490 (by decide) ?_
    refine lv_iconst (v := nI 1) C.1.1 C.1.2.1 dL_law_491 (by decide) ?_
    refine lv_iconst (v := nI 0) C.1.1 C.1.2.1 dL_law_492 (by decide) ?_
    refine lv_iload C.1.1 C.1.2.1 dL_law_493 (lv_at hl 1 rfl) ?_
    refine px_call C hW (wx_arraySigns l C.2.2.2.2.2.2.2.2.1 i2.1 (w := 0) (r := 1) (f := 0) (n := t) (by decide) (by decide) a3 a4) (vx_cwSW 5 C.1.2.2.2.2 gL_law_L_arraySigns rfl rfl rfl (by decide +kernel) ⟨Nat.le_of_ble_eq_true rfl, Nat.le_of_ble_eq_true rfl⟩) rfl rfl hl.1 (Nat.le_of_ble_eq_true rfl) dL_law_495 ⟨by omega, by omega⟩ (fun H locs hW => ?_)
    refine lv_goto (tgt := 510) C.1.1 C.1.2.1 dL_law_498 (by decide) ?_
    refine lv_iload C.1.1 C.1.2.1 dL_law_510 (lv_at hl 7 rfl) ?_
    refine lv_iload C.1.1 C.1.2.1 dL_law_512 (lv_at hl 1 rfl) ?_
    refine n_iadd C.1.1 C.1.2.1 dL_law_514 ?_
    refine lv_i2l (v := (nI ((T 7 0) + t) : Int32).toInt64) C.1.1 C.1.2.1 dL_law_515 rfl ?_
    refine W.lcmp C.1.1 C.1.2.1 dL_law_516 ?_
    refine x_if_eq_t (tgt := 522) C.1.1 C.1.2.1 dL_law_517 (by decide) (by rw [e73]; exact lx_cmp0 _) ?_
    exact px_f C hW hJ0 hI0 hD0 ht hpt hn hm ⟨by omega, by omega⟩ (lv_sub hl [1, 3, 4, 5, 6, 7, 8, 9, 10, 11] rfl) hk
  · skip
    refine lv_iload C.1.1 C.1.2.1 dL_law_434 (lv_at hl 1 rfl) ?_
    refine lv_iconst (v := nI 2) C.1.1 C.1.2.1 dL_law_436 (by decide) ?_
    refine lv_irem C.1.1 C.1.2.1 dL_law_437 (by decide) ?_
    refine n_cv (y := nI (mo % 2)) (pk_rem (by omega) (by decide) (by decide)) ?_
    refine n_if_ne_t (tgt := 445) C.1.1 C.1.2.1 dL_law_438 (by decide) (hx) (by omega) ?_
    refine lv_iconst (v := nI 0) C.1.1 C.1.2.1 dL_law_445 (by decide) ?_
    refine lv_istore (lv' := [(14, .int (nI 0)), (13, .int (nI t)), (11, .int (nI mo)), (0, .ref b), (1, .ref a0), (2, .ref o1), (3, .ref o2), (4, .int (nI (T 7 0))), (6, .int (nI (T 10 0))), (7, .int (nI (T 9 0))), (8, .int (nI (T 11 0))), (9, .int (nI k))]) C.1.1 C.1.2.1 dL_law_446 hl (by decide) rfl (fun ls hl => ?_)
    refine lv_iload C.1.1 C.1.2.1 dL_law_448 (lv_at hl 0 rfl) ?_
    refine n_if_eq_t (tgt := 465) C.1.1 C.1.2.1 dL_law_450 (by decide) (by decide) (by omega) ?_
    refine lv_aload_n C.1.1 C.1.2.1 dL_law_465 rfl (lv_at hl 4 rfl) ?_
    refine lv_iconst (v := nI 0) C.1.1 C.1.2.1 dL_law_466 (by decide) ?_
    refine lv_iconst (v := nI 1) C.1.1 C.1.2.1 dL_law_467 (by decide) ?_
    refine lv_iconst (v := nI 0) C.1.1 C.1.2.1 dL_law_468 (by decide) ?_
    refine lv_iload C.1.1 C.1.2.1 dL_law_469 (lv_at hl 1 rfl) ?_
    refine px_call C hW (wx_writeSigns l C.2.2.2.2.2.2.2.2.1 i1.1 (w := 0) (r := 1) (f := 0) (n := t) (by decide) (by decide) a1 a2) (vx_cwSW 5 C.1.2.2.2.2 gL_law_L_writeSigns rfl rfl rfl (by decide +kernel) ⟨Nat.le_of_ble_eq_true rfl, Nat.le_of_ble_eq_true rfl⟩) rfl rfl hl.1 (Nat.le_of_ble_eq_true rfl) dL_law_471 ⟨by omega, by omega⟩ (fun H locs hW => ?_)
    have i2 := hW.IJ
    refine lv_iload C.1.1 C.1.2.1 dL_law_474 (lv_at hl 7 rfl) ?_
    refine lv_iload C.1.1 C.1.2.1 dL_law_476 (lv_at hl 1 rfl) ?_
    refine n_iadd C.1.1 C.1.2.1 dL_law_478 ?_
    refine lv_i2l (v := (nI ((T 7 0) + t) : Int32).toInt64) C.1.1 C.1.2.1 dL_law_479 rfl ?_
    refine W.lcmp C.1.1 C.1.2.1 dL_law_480 ?_
    refine x_if_ne_f (tgt := 520) C.1.1 C.1.2.1 dL_law_481 (by decide) (by rw [u2_ne (by decide)]; exact lx_cmp0 _) ?_
    refine lv_iload C.1.1 C.1.2.1 dL_law_484 (lv_at hl 0 rfl) ?_
    refine n_if_eq_t (tgt := 501) C.1.1 C.1.2.1 dL_law_486 (by decide) (by decide) (by omega) ?_
    refine lv_aload_n C.1.1 C.1.2.1 dL_law_501 rfl (lv_at hl 4 rfl) ?_
    refine lv_iconst (v := nI 0) C.1.1 C.1.2.1 dL_law_502 (by decide) ?_
    refine lv_iconst (v := nI 1) C.1.1 C.1.2.1 dL_law_503 (by decide) ?_
    refine lv_iconst (v := nI 0) C.1.1 C.1.2.1 dL_law_504 (by decide) ?_
    refine lv_iload C.1.1 C.1.2.1 dL_law_505 (lv_at hl 1 rfl) ?_
    refine px_call C hW (wx_arrayText l C.2.2.2.2.2.2.2.2.1 i2.1 (w := 0) (r := 1) (f := 0) (n := t) (by decide) (by decide) a3 a4) (vx_cwSW 5 C.1.2.2.2.2 gL_law_L_arrayText rfl rfl rfl (by decide +kernel) ⟨Nat.le_of_ble_eq_true rfl, Nat.le_of_ble_eq_true rfl⟩) rfl rfl hl.1 (Nat.le_of_ble_eq_true rfl) dL_law_507 ⟨by omega, by omega⟩ (fun H locs hW => ?_)
    refine lv_iload C.1.1 C.1.2.1 dL_law_510 (lv_at hl 7 rfl) ?_
    refine lv_iload C.1.1 C.1.2.1 dL_law_512 (lv_at hl 1 rfl) ?_
    refine n_iadd C.1.1 C.1.2.1 dL_law_514 ?_
    refine lv_i2l (v := (nI ((T 7 0) + t) : Int32).toInt64) C.1.1 C.1.2.1 dL_law_515 rfl ?_
    refine W.lcmp C.1.1 C.1.2.1 dL_law_516 ?_
    refine x_if_eq_t (tgt := 522) C.1.1 C.1.2.1 dL_law_517 (by decide) (by rw [e73]; exact lx_cmp0 _) ?_
    exact px_f C hW hJ0 hI0 hD0 ht hpt hn hm ⟨by omega, by omega⟩ (lv_sub hl [1, 3, 4, 5, 6, 7, 8, 9, 10, 11] rfl) hk

set_option maxHeartbeats 4000000 in
set_option maxRecDepth 100000 in
theorem px_c6 {p : Program} {l : Launch} {e : Env} {s : State} {m : MethodId} {args : Array Value} {below : List Frame} {meth : Method} {c : Code} {H : Heap} {locs : List Loc} {cells slots : Nat} {Z : State → Prop} {ls : Array Slot} {G : va_G} {kT : Nat → ClassId} {a0 o1 o2 b n9 : Nat} {xs : Nat → Int32} {T : mT} {D : mD} {f g : Nat → Int32} {n pl mk en k mo : Nat} (C : px_C l p s m args c G kT o1 o2 b n9 xs) (hW : px_W G kT a0 o1 o2 T D f g s H locs) (hJ : jJ T D f g n pl mk en) (hn : n ≤ 200) (hm : mo < 12500000) (hcs : cells + 6 ≤ room_1.cells ∧ slots + 780 ≤ room_1.slots) (hl : lv_has ls 16 ((11, .int (nI mo)) :: px_l b a0 o1 o2 n en pl mk k)) (hk : px_K p l e s m args below meth c Z G kT a0 o1 o2 b en k cells slots) : W p l e room_1 s m args below meth c H locs cells slots Z (F0 m 373 ls []) := by
  have hIJ := hW.IJ
  obtain ⟨⟨q40, q9⟩, ⟨r8, r9, r10, r11, r12⟩, ⟨r7, r73⟩, hf, hg, hpl, hmk, hen, hn9⟩ := id hJ
  subst r9
  subst r10
  subst r11
  subst r7
  have hl : lv_has ls 16 [(11, .int (nI mo)), (0, .ref b), (1, .ref a0), (2, .ref o1), (3, .ref o2), (4, .int (nI (T 7 0))), (6, .int (nI (T 10 0))), (7, .int (nI (T 9 0))), (8, .int (nI (T 11 0))), (9, .int (nI k))] := hl
  refine lv_iconst (v := nI 1) C.1.1 C.1.2.1 dL_law_373 (by decide) ?_
  refine lv_iload C.1.1 C.1.2.1 dL_law_374 (lv_at hl 0 rfl) ?_
  refine lv_bipush (v := nI 8) C.1.1 C.1.2.1 dL_law_376 (by decide) ?_
  refine lv_irem C.1.1 C.1.2.1 dL_law_378 (by decide) ?_
  refine n_cv (y := nI (mo % 8)) (pk_rem (by omega) (by decide) (by decide)) ?_
  refine n_iadd C.1.1 C.1.2.1 dL_law_379 ?_
  refine lv_istore (lv' := [(12, .int (nI (1 + (mo % 8)))), (11, .int (nI mo)), (0, .ref b), (1, .ref a0), (2, .ref o1), (3, .ref o2), (4, .int (nI (T 7 0))), (6, .int (nI (T 10 0))), (7, .int (nI (T 9 0))), (8, .int (nI (T 11 0))), (9, .int (nI k))]) C.1.1 C.1.2.1 dL_law_380 hl (by decide) rfl (fun ls hl => ?_)
  refine lv_iload C.1.1 C.1.2.1 dL_law_382 (lv_at hl 0 rfl) ?_
  refine lv_iload C.1.1 C.1.2.1 dL_law_384 (lv_at hl 7 rfl) ?_
  refine lv_iload C.1.1 C.1.2.1 dL_law_386 (lv_at hl 8 rfl) ?_
  refine n_isub C.1.1 C.1.2.1 (by omega) dL_law_388 ?_
  refine va_mmin C.1.1 C.1.2.1 (C.1.2.2.1.trans hl.1.symm) C.1.2.2.2.1 (C.1.2.2.2.2 (.methodLink RL 127 Lib.Math.min.name) (wl_6)) (C.1.2.2.2.2 (.static Lib.Math.min.name) (wl_7)) (C.1.2.2.2.2 (.initialized "java/lang/Math") (wl_8)) (C.1.2.2.2.2 (.code Lib.Math.min.name Lib.Math.min.code 2 (some .int)) (wl_9)) (Nat.le_of_ble_eq_true rfl) (Nat.le_of_ble_eq_true rfl) (by omega) (by omega) dL_law_389 ?_
  refine n_cv (y := nI (min (1 + mo % 8) (T 10 0 - T 9 0))) (p_min (by omega) (by omega)) ?_
  refine lv_istore (lv' := [(13, .int (nI (min (1 + mo % 8) (T 10 0 - T 9 0)))), (12, .int (nI (1 + (mo % 8)))), (11, .int (nI mo)), (0, .ref b), (1, .ref a0), (2, .ref o1), (3, .ref o2), (4, .int (nI (T 7 0))), (6, .int (nI (T 10 0))), (7, .int (nI (T 9 0))), (8, .int (nI (T 11 0))), (9, .int (nI k))]) C.1.1 C.1.2.1 dL_law_392 hl (by decide) rfl (fun ls hl => ?_)
  have h4 : ¬ T 8 0 = T 2 1 + 1 := fun z => hJ.ne hIJ.1 (by omega)
  have hf9 : 0 + (1 + mo % 8) ≤ T 1 (T 2 1) := by omega
  rcases Decidable.em (min (1 + mo % 8) (T 10 0 - T 9 0) = 0) with hx | hx
  · skip
    refine lv_aload_n C.1.1 C.1.2.1 dL_law_394 rfl (lv_at hl 4 rfl) ?_
    refine lv_iconst (v := nI 0) C.1.1 C.1.2.1 dL_law_395 (by decide) ?_
    refine lv_iconst (v := nI 1) C.1.1 C.1.2.1 dL_law_396 (by decide) ?_
    refine lv_iconst (v := nI 0) C.1.1 C.1.2.1 dL_law_397 (by decide) ?_
    refine lv_iload C.1.1 C.1.2.1 dL_law_398 (lv_at hl 1 rfl) ?_
    refine px_call C hW (wx_readPart_z l C.2.2.2.2.2.2.2.2.1 hIJ.1 (i := 0) (r := 1) (f := 0) (n := 1 + mo % 8) (by decide) (by decide) hf9 (by omega) hJ.open_ h4 hx) (vx_cwSW 5 C.1.2.2.2.2 gL_law_L_readPart rfl rfl rfl (by decide +kernel) ⟨Nat.le_of_ble_eq_true rfl, Nat.le_of_ble_eq_true rfl⟩) rfl rfl hl.1 (Nat.le_of_ble_eq_true rfl) dL_law_400 ⟨by omega, by omega⟩ (fun H locs hW => ?_)
    refine lv_iload C.1.1 C.1.2.1 dL_law_403 (lv_at hl 0 rfl) ?_
    refine n_if_ne_f (tgt := 412) C.1.1 C.1.2.1 dL_law_405 (by decide) (hx) (by omega) ?_
    refine lv_iconst (v := -1) C.1.1 C.1.2.1 dL_law_408 (by decide) ?_
    refine lv_goto (tgt := 414) C.1.1 C.1.2.1 dL_law_409 (by decide) ?_
    refine lv_i2l (v := ((-1) : Int32).toInt64) C.1.1 C.1.2.1 dL_law_414 rfl ?_
    refine W.lcmp C.1.1 C.1.2.1 dL_law_415 ?_
    refine x_if_eq_t (tgt := 421) C.1.1 C.1.2.1 dL_law_416 (by decide) (lx_cmp0 _) ?_
    exact px_e (c0 := cells) (s0 := slots) C hW hJ hIJ.1 hIJ.2 (by omega) (by omega) hn hm ⟨by omega, by omega, by omega, by omega⟩ (lv_sub hl [0, 2, 3, 4, 5, 6, 7, 8, 9, 10, 11] rfl) hk
  · skip
    refine lv_aload_n C.1.1 C.1.2.1 dL_law_394 rfl (lv_at hl 4 rfl) ?_
    refine lv_iconst (v := nI 0) C.1.1 C.1.2.1 dL_law_395 (by decide) ?_
    refine lv_iconst (v := nI 1) C.1.1 C.1.2.1 dL_law_396 (by decide) ?_
    refine lv_iconst (v := nI 0) C.1.1 C.1.2.1 dL_law_397 (by decide) ?_
    refine lv_iload C.1.1 C.1.2.1 dL_law_398 (lv_at hl 1 rfl) ?_
    refine px_call C hW (wx_readPart_p l C.2.2.2.2.2.2.2.2.1 hIJ.1 (i := 0) (r := 1) (f := 0) (n := 1 + mo % 8) (by decide) (by decide) hf9 (by omega) hJ.open_ h4 hx) (vx_cwSW 5 C.1.2.2.2.2 gL_law_L_readPart rfl rfl rfl (by decide +kernel) ⟨Nat.le_of_ble_eq_true rfl, Nat.le_of_ble_eq_true rfl⟩) rfl rfl hl.1 (Nat.le_of_ble_eq_true rfl) dL_law_400 ⟨by omega, by omega⟩ (fun H locs hW => ?_)
    refine lv_iload C.1.1 C.1.2.1 dL_law_403 (lv_at hl 0 rfl) ?_
    refine n_if_ne_t (tgt := 412) C.1.1 C.1.2.1 dL_law_405 (by decide) (hx) (by omega) ?_
    refine lv_iload C.1.1 C.1.2.1 dL_law_412 (lv_at hl 0 rfl) ?_
    refine lv_i2l (v := (nI (min (1 + mo % 8) (T 10 0 - T 9 0)) : Int32).toInt64) C.1.1 C.1.2.1 dL_law_414 rfl ?_
    refine W.lcmp C.1.1 C.1.2.1 dL_law_415 ?_
    refine x_if_eq_t (tgt := 421) C.1.1 C.1.2.1 dL_law_416 (by decide) (lx_cmp0 _) ?_
    exact px_e (c0 := cells) (s0 := slots) C hW hJ hIJ.1 hIJ.2 (by omega) (by omega) hn hm ⟨by omega, by omega, by omega, by omega⟩ (lv_sub hl [0, 2, 3, 4, 5, 6, 7, 8, 9, 10, 11] rfl) hk
