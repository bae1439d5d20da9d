/-! behind the loop -/
set_option maxHeartbeats 4000000 in
set_option maxRecDepth 100000 in
theorem px_end3 {p : Program} {l : Launch} {e : Env} {s : State} {m : MethodId} {args : Array Value} {below : List Frame} {meth : Method} {c : Code} {H : Heap} {locs : List Loc} {cells slots : Nat} {Z : State → Prop} {ls : Array Slot} {G : va_G} {kT : Nat → ClassId} {a0 o1 o2 b n9 : Nat} {xs : Nat → Int32} {T : mT} {D : mD} {f g : Nat → Int32} {pl en : Nat} (C : px_C l p s m args c G kT o1 o2 b n9 xs) (hW : px_W G kT a0 o1 o2 T D f g s H locs) (hR : jR T D f pl en) (hc : cells ≤ 3900) (hs : slots ≤ 480000) (hl : lv_has ls 16 [(0, .ref b), (1, .ref a0), (2, .ref o1), (3, .ref o2), (6, .int (nI en)), (7, .int (nI pl))]) (hZ : px_Z p l e s m args below meth c Z) : W p l e room_1 s m args below meth c H locs cells slots Z (F0 m 708 ls []) := by
  have hrc : 600258 ≤ room_1.cells := Nat.le_of_ble_eq_true rfl
  have hrs : 7292778 ≤ room_1.slots := Nat.le_of_ble_eq_true rfl
  have hp9 := hR.2.1
  have he9 := hR.2.2.1
  suffices hY : ∀ (d pl : Nat), pl + d = en → ∀ (H : Heap) (locs : List Loc) (T : mT) (cells slots : Nat), px_W G kT a0 o1 o2 T D f g s H locs → jR T D f pl en → cells + 2 * d ≤ 4000 → slots + 260 * d ≤ 500000 → ∀ ls : Array Slot, lv_has ls 16 [(0, .ref b), (1, .ref a0), (2, .ref o1), (3, .ref o2), (6, .int (nI en)), (7, .int (nI pl))] → W p l e room_1 s m args below meth c H locs cells slots Z (F0 m 708 ls []) from hY (en - pl) pl (by omega) H locs T cells slots hW hR (by omega) (by omega) ls hl
  clear hR hW hl hp9 hc hs
  intro d
  induction d with
  | zero =>
    intro pl hd H locs T cells slots hW hR hc hs ls hl
    obtain rfl : pl = en := by omega
    have hIJ := hW.IJ
    have h9 : T 9 0 = T 10 0 := hR.1.2.1.trans hR.1.2.2.1.symm
    have hl : lv_has ls 16 [(0, .ref b), (1, .ref a0), (2, .ref o1), (3, .ref o2), (6, .int (nI pl)), (7, .int (nI pl))] := hl
    refine lv_iload C.1.1 C.1.2.1 dL_law_708 (lv_at hl 5 rfl) ?_
    refine lv_iload C.1.1 C.1.2.1 dL_law_710 (lv_at hl 4 rfl) ?_
    refine n_icmp_ge_t (tgt := 737) C.1.1 C.1.2.1 dL_law_712 (by decide) (by omega) (by omega) (by omega) ?_
    refine lv_aload_n C.1.1 C.1.2.1 dL_law_737 rfl (lv_at hl 1 rfl) ?_
    refine lv_iconst (v := nI 0) C.1.1 C.1.2.1 dL_law_738 (by decide) ?_
    refine px_call C hW (wx_read_e l C.2.2.2.2.2.2.2.2.1 hIJ.1 (i := 0) (by decide) hR.open_ h9) (vx_cwSW 2 C.1.2.2.2.2 gL_law_L_read rfl rfl rfl (by decide +kernel) ⟨Nat.le_of_ble_eq_true rfl, Nat.le_of_ble_eq_true rfl⟩) rfl rfl hl.1 (Nat.le_of_ble_eq_true rfl) dL_law_739 ⟨by omega, by omega⟩ (fun H locs hW => ?_)
    refine lv_ldc2 C.1.1 C.1.2.1 C.1.2.2.2.1 (C.1.2.2.2.2 (.constantLong RL 166 (-1)) (wl_13)) dL_law_742 ?_
    refine W.lcmp C.1.1 C.1.2.1 dL_law_745 ?_
    refine x_if_ne_f (tgt := 784) C.1.1 C.1.2.1 dL_law_746 (by decide) ((lg_cmp_eq _ _).mpr (by decide)) ?_
    refine lv_aload_n C.1.1 C.1.2.1 dL_law_749 rfl (lv_at hl 1 rfl) ?_
    refine lv_iconst (v := nI 0) C.1.1 C.1.2.1 dL_law_750 (by decide) ?_
    refine px_call C hW (wx_shut_b l C.2.2.2.2.2.2.2.2.1 hIJ.1 (i := 0) (by decide) hR.1.1 hR.1.2.2.2) (vx_cwSW 2 C.1.2.2.2.2 gL_law_L_shut rfl rfl rfl (by decide +kernel) ⟨Nat.le_of_ble_eq_true rfl, Nat.le_of_ble_eq_true rfl⟩) rfl rfl hl.1 (Nat.le_of_ble_eq_true rfl) dL_law_751 ⟨by omega, by omega⟩ (fun H locs hW => ?_)
    have i2 := hW.IJ
    refine lv_lconst (v := lN 0) C.1.1 C.1.2.1 dL_law_754 rfl ?_
    refine W.lcmp C.1.1 C.1.2.1 dL_law_755 ?_
    refine x_if_ne_f (tgt := 784) C.1.1 C.1.2.1 dL_law_756 (by decide) (by rw [show T 10 0 - T 9 0 = 0 by omega]; exact (lg_cmp_eq _ _).mpr (by decide)) ?_
    refine lv_aload_n C.1.1 C.1.2.1 dL_law_759 rfl (lv_at hl 1 rfl) ?_
    refine lv_iconst (v := nI 0) C.1.1 C.1.2.1 dL_law_760 (by decide) ?_
    refine px_call C hW (wx_read_2 l C.2.2.2.2.2.2.2.2.1 i2.1 (i := 0) (by decide) (Or.inr (by rw [u2_eq]; decide))) (vx_cwSW 2 C.1.2.2.2.2 gL_law_L_read rfl rfl rfl (by decide +kernel) ⟨Nat.le_of_ble_eq_true rfl, Nat.le_of_ble_eq_true rfl⟩) rfl rfl hl.1 (Nat.le_of_ble_eq_true rfl) dL_law_761 ⟨by omega, by omega⟩ (fun H locs hW => ?_)
    refine lv_ldc2 C.1.1 C.1.2.1 C.1.2.2.2.1 (C.1.2.2.2.2 (.constantLong RL 25 (-4000000000000000002)) (wl_14)) dL_law_764 ?_
    refine W.lcmp C.1.1 C.1.2.1 dL_law_767 ?_
    refine x_if_ne_f (tgt := 784) C.1.1 C.1.2.1 dL_law_768 (by decide) (lx_cmp0 _) ?_
    refine lv_aload_n C.1.1 C.1.2.1 dL_law_771 rfl (lv_at hl 1 rfl) ?_
    refine px_call0 C hW (wx_isTrue l C.2.2.2.2.2.2.2.2.1) (va_cwS 1 C.1.2.2.2.2 gL_law_L_isTrue rfl rfl rfl (by decide +kernel) ⟨Nat.le_of_ble_eq_true rfl, Nat.le_of_ble_eq_true rfl⟩) rfl rfl hl.1 (Nat.le_of_ble_eq_true rfl) dL_law_772 ⟨by omega, by omega⟩ (fun H locs hW => ?_)
    refine lv_lconst (v := lN 1) C.1.1 C.1.2.1 dL_law_775 rfl ?_
    refine W.lcmp C.1.1 C.1.2.1 dL_law_776 ?_
    refine x_if_ne_f (tgt := 784) C.1.1 C.1.2.1 dL_law_777 (by decide) ((lg_cmp_eq _ _).mpr (by decide)) ?_
    refine lv_iconst (v := nI 1) C.1.1 C.1.2.1 dL_law_780 (by decide) ?_
    refine lv_goto (tgt := 785) C.1.1 C.1.2.1 dL_law_781 (by decide) ?_
    exact hZ H locs ls _ _ hW.S (by omega) (by omega)
  | succ d ih =>
    intro pl hd H locs T cells slots hW hR hc hs ls hl
    have hIJ := hW.IJ
    have h9 : ¬ T 9 0 = T 10 0 := fun z => by have h1 := hR.1.2.1; have h2 := hR.1.2.2.1; omega
    have hl : lv_has ls 16 [(0, .ref b), (1, .ref a0), (2, .ref o1), (3, .ref o2), (6, .int (nI en)), (7, .int (nI pl))] := hl
    refine lv_iload C.1.1 C.1.2.1 dL_law_708 (lv_at hl 5 rfl) ?_
    refine lv_iload C.1.1 C.1.2.1 dL_law_710 (lv_at hl 4 rfl) ?_
    refine n_icmp_ge_f (tgt := 737) C.1.1 C.1.2.1 dL_law_712 (by decide) (by omega) (by omega) (by omega) ?_
    refine lv_aload_n C.1.1 C.1.2.1 dL_law_715 rfl (lv_at hl 1 rfl) ?_
    refine lv_iconst (v := nI 0) C.1.1 C.1.2.1 dL_law_716 (by decide) ?_
    refine px_call C hW (wx_read l C.2.2.2.2.2.2.2.2.1 hIJ.1 (i := 0) (by decide) hR.open_ h9) (vx_cwSW 2 C.1.2.2.2.2 gL_law_L_read rfl rfl rfl (by decide +kernel) ⟨Nat.le_of_ble_eq_true rfl, Nat.le_of_ble_eq_true rfl⟩) rfl rfl hl.1 (Nat.le_of_ble_eq_true rfl) dL_law_717 ⟨by omega, by omega⟩ (fun H locs hW => ?_)
    refine lv_aload_n C.1.1 C.1.2.1 dL_law_720 rfl (lv_at hl 2 rfl) ?_
    refine lv_iload C.1.1 C.1.2.1 dL_law_721 (lv_at hl 5 rfl) ?_
    refine px_ld1 C hW (j := pl) (by omega) dL_law_723 ?_
    refine lv_i2l (v := (f pl : Int32).toInt64) C.1.1 C.1.2.1 dL_law_724 rfl ?_
    refine W.lcmp C.1.1 C.1.2.1 dL_law_725 ?_
    refine x_if_eq_t (tgt := 731) C.1.1 C.1.2.1 dL_law_726 (by decide) (by rw [hR.2.2.2 pl (by omega), hR.1.2.1]; exact lx_cmp0 _) ?_
    refine lv_iinc (v := nI (pl + 1)) (lv' := [(7, .int (nI (pl + 1))), (0, .ref b), (1, .ref a0), (2, .ref o1), (3, .ref o2), (6, .int (nI en))]) C.1.1 C.1.2.1 dL_law_731 hl (k := 5) rfl (nI_1 _) (by decide) rfl (fun ls hl => ?_)
    refine lv_goto (tgt := 708) C.1.1 C.1.2.1 dL_law_734 (by decide) ?_
    exact ih (pl + 1) (by omega) H locs _ _ _ hW (hR.next (by omega)) (by omega) (by omega) ls (lv_sub hl [1, 2, 3, 4, 5, 0] rfl)

set_option maxHeartbeats 4000000 in
set_option maxRecDepth 100000 in
theorem px_end2 {p : Program} {l : Launch} {e : Env} {s : State} {m : MethodId} {args : Array Value} {below : List Frame} {meth : Method} {c : Code} {H : Heap} {locs : List Loc} {cells slots : Nat} {Z : State → Prop} {ls : Array Slot} {G : va_G} {kT : Nat → ClassId} {a0 o1 o2 b n9 : Nat} {xs : Nat → Int32} {T : mT} {D : mD} {f g : Nat → Int32} {n pl mk en k : Nat} (C : px_C l p s m args c G kT o1 o2 b n9 xs) (hW : px_W G kT a0 o1 o2 T D f g s H locs) (w2 : jW T D 2 n g) (w3 : jW T D 3 n g) (hR : jR T D f pl en) (hn : n ≤ 200) (hc : cells ≤ 1204) (hs : slots ≤ 120520) (hl : lv_has ls 16 (px_l b a0 o1 o2 n en pl mk k)) (hZ : px_Z p l e s m args below meth c Z) : W p l e room_1 s m args below meth c H locs cells slots Z (F0 m 625 ls []) := by
  have hl : lv_has ls 16 [(0, .ref b), (1, .ref a0), (2, .ref o1), (3, .ref o2), (4, .int (nI n)), (6, .int (nI en)), (7, .int (nI pl)), (8, .int (nI mk)), (9, .int (nI k))] := hl
  have hrc : 600258 ≤ room_1.cells := Nat.le_of_ble_eq_true rfl
  have hrs : 7292778 ≤ room_1.slots := Nat.le_of_ble_eq_true rfl
  have hIJ := hW.IJ
  refine lv_aload_n C.1.1 C.1.2.1 dL_law_625 rfl (lv_at hl 1 rfl) ?_
  refine lv_iconst (v := nI 2) C.1.1 C.1.2.1 dL_law_626 (by decide) ?_
  refine px_call C hW (wx_length l C.2.2.2.2.2.2.2.2.1 hIJ.1 (r := 2) (by decide)) (vx_cwSW 2 C.1.2.2.2.2 gL_law_L_length rfl rfl rfl (by decide +kernel) ⟨Nat.le_of_ble_eq_true rfl, Nat.le_of_ble_eq_true rfl⟩) rfl rfl hl.1 (Nat.le_of_ble_eq_true rfl) dL_law_627 ⟨by omega, by omega⟩ (fun H locs hW => ?_)
  refine lv_iload C.1.1 C.1.2.1 dL_law_630 (lv_at hl 4 rfl) ?_
  refine lv_i2l (v := (nI n : Int32).toInt64) C.1.1 C.1.2.1 dL_law_632 rfl ?_
  refine W.lcmp C.1.1 C.1.2.1 dL_law_633 ?_
  refine x_if_ne_f (tgt := 649) C.1.1 C.1.2.1 dL_law_634 (by decide) (by rw [w2.1]; exact lx_cmp0 _) ?_
  refine lv_aload_n C.1.1 C.1.2.1 dL_law_637 rfl (lv_at hl 1 rfl) ?_
  refine lv_iconst (v := nI 3) C.1.1 C.1.2.1 dL_law_638 (by decide) ?_
  refine px_call C hW (wx_length l C.2.2.2.2.2.2.2.2.1 hIJ.1 (r := 3) (by decide)) (vx_cwSW 2 C.1.2.2.2.2 gL_law_L_length rfl rfl rfl (by decide +kernel) ⟨Nat.le_of_ble_eq_true rfl, Nat.le_of_ble_eq_true rfl⟩) rfl rfl hl.1 (Nat.le_of_ble_eq_true rfl) dL_law_639 ⟨by omega, by omega⟩ (fun H locs hW => ?_)
  refine lv_iload C.1.1 C.1.2.1 dL_law_642 (lv_at hl 4 rfl) ?_
  refine lv_i2l (v := (nI n : Int32).toInt64) C.1.1 C.1.2.1 dL_law_644 rfl ?_
  refine W.lcmp C.1.1 C.1.2.1 dL_law_645 ?_
  refine x_if_eq_t (tgt := 651) C.1.1 C.1.2.1 dL_law_646 (by decide) (by rw [w3.1]; exact lx_cmp0 _) ?_
  refine lv_iconst (v := nI 0) C.1.1 C.1.2.1 dL_law_651 (by decide) ?_
  refine lv_istore (lv' := [(9, .int (nI 0)), (0, .ref b), (1, .ref a0), (2, .ref o1), (3, .ref o2), (4, .int (nI n)), (6, .int (nI en)), (7, .int (nI pl)), (8, .int (nI mk))]) C.1.1 C.1.2.1 dL_law_652 hl (by decide) rfl (fun ls hl => ?_)
  suffices hY : ∀ (d i : Nat), i + d = n → ∀ (H : Heap) (locs : List Loc) (cells slots : Nat), px_W G kT a0 o1 o2 T D f g s H locs → cells + 4 * d ≤ 3000 → slots + 520 * d ≤ 400000 → ∀ ls : Array Slot, lv_has ls 16 [(0, .ref b), (1, .ref a0), (2, .ref o1), (3, .ref o2), (4, .int (nI n)), (6, .int (nI en)), (7, .int (nI pl)), (9, .int (nI i))] → W p l e room_1 s m args below meth c H locs cells slots Z (F0 m 654 ls []) from hY n 0 (by omega) H locs _ _ hW (by omega) (by omega) ls (lv_sub hl [1, 2, 3, 4, 5, 6, 7, 0] rfl)
  clear hW hl hc hs
  intro d
  induction d with
  | zero =>
    intro i hd H locs cells slots hW hc hs ls hl
    obtain rfl : i = n := by omega
    have hl : lv_has ls 16 [(0, .ref b), (1, .ref a0), (2, .ref o1), (3, .ref o2), (4, .int (nI i)), (6, .int (nI en)), (7, .int (nI pl)), (9, .int (nI i))] := hl
    refine lv_iload C.1.1 C.1.2.1 dL_law_654 (lv_at hl 7 rfl) ?_
    refine lv_iload C.1.1 C.1.2.1 dL_law_656 (lv_at hl 4 rfl) ?_
    refine n_icmp_ge_t (tgt := 701) C.1.1 C.1.2.1 dL_law_658 (by decide) (by omega) (by omega) (by omega) ?_
    refine lv_aload_n C.1.1 C.1.2.1 dL_law_701 rfl (lv_at hl 1 rfl) ?_
    refine lv_iconst (v := nI 0) C.1.1 C.1.2.1 dL_law_702 (by decide) ?_
    refine lv_iconst (v := nI 0) C.1.1 C.1.2.1 dL_law_703 (by decide) ?_
    refine px_call C hW (wx_make l C.2.2.2.2.2.2.2.2.1 hIJ.1 (r := 0) (n := 0) (by decide) (by decide)) (vx_cwSW 3 C.1.2.2.2.2 gL_law_L_make rfl rfl rfl (by decide +kernel) ⟨Nat.le_of_ble_eq_true rfl, Nat.le_of_ble_eq_true rfl⟩) rfl rfl hl.1 (Nat.le_of_ble_eq_true rfl) dL_law_704 ⟨by omega, by omega⟩ (fun H locs hW => ?_)
    refine lv_pop2_2 C.1.1 C.1.2.1 dL_law_707 rfl ?_
    exact px_end3 C hW (hR.make (by decide)) (by omega) (by omega) (lv_sub hl [0, 1, 2, 3, 5, 6] rfl) hZ
  | succ d ih =>
    intro i hd H locs cells slots hW hc hs ls hl
    have hl : lv_has ls 16 [(0, .ref b), (1, .ref a0), (2, .ref o1), (3, .ref o2), (4, .int (nI n)), (6, .int (nI en)), (7, .int (nI pl)), (9, .int (nI i))] := hl
    refine lv_iload C.1.1 C.1.2.1 dL_law_654 (lv_at hl 7 rfl) ?_
    refine lv_iload C.1.1 C.1.2.1 dL_law_656 (lv_at hl 4 rfl) ?_
    refine n_icmp_ge_f (tgt := 701) C.1.1 C.1.2.1 dL_law_658 (by decide) (by omega) (by omega) (by omega) ?_
    refine lv_aload_n C.1.1 C.1.2.1 dL_law_661 rfl (lv_at hl 1 rfl) ?_
    refine lv_iconst (v := nI 2) C.1.1 C.1.2.1 dL_law_662 (by decide) ?_
    refine lv_iload C.1.1 C.1.2.1 dL_law_663 (lv_at hl 7 rfl) ?_
    refine px_call C hW (wx_get l C.2.2.2.2.2.2.2.2.1 hIJ.1 hIJ.2 (r := 2) (f := i) (by decide) (by rw [w2.1]; omega)) (vx_cwSW 3 C.1.2.2.2.2 gL_law_L_get rfl rfl rfl (by decide +kernel) ⟨Nat.le_of_ble_eq_true rfl, Nat.le_of_ble_eq_true rfl⟩) rfl rfl hl.1 (Nat.le_of_ble_eq_true rfl) dL_law_665 ⟨by omega, by omega⟩ (fun H locs hW => ?_)
    refine lv_aload_n C.1.1 C.1.2.1 dL_law_668 rfl (lv_at hl 3 rfl) ?_
    refine lv_iload C.1.1 C.1.2.1 dL_law_669 (lv_at hl 7 rfl) ?_
    refine px_ld2 C hW (j := i) (by omega) dL_law_671 ?_
    refine lv_i2l (v := (g i : Int32).toInt64) C.1.1 C.1.2.1 dL_law_672 rfl ?_
    refine W.lcmp C.1.1 C.1.2.1 dL_law_673 ?_
    refine x_if_ne_f (tgt := 693) C.1.1 C.1.2.1 dL_law_674 (by decide) (by rw [w2.2 i (by omega)]; exact lx_cmp0 _) ?_
    refine lv_aload_n C.1.1 C.1.2.1 dL_law_677 rfl (lv_at hl 1 rfl) ?_
    refine lv_iconst (v := nI 3) C.1.1 C.1.2.1 dL_law_678 (by decide) ?_
    refine lv_iload C.1.1 C.1.2.1 dL_law_679 (lv_at hl 7 rfl) ?_
    refine px_call C hW (wx_get l C.2.2.2.2.2.2.2.2.1 hIJ.1 hIJ.2 (r := 3) (f := i) (by decide) (by rw [w3.1]; omega)) (vx_cwSW 3 C.1.2.2.2.2 gL_law_L_get rfl rfl rfl (by decide +kernel) ⟨Nat.le_of_ble_eq_true rfl, Nat.le_of_ble_eq_true rfl⟩) rfl rfl hl.1 (Nat.le_of_ble_eq_true rfl) dL_law_681 ⟨by omega, by omega⟩ (fun H locs hW => ?_)
    refine lv_aload_n C.1.1 C.1.2.1 dL_law_684 rfl (lv_at hl 3 rfl) ?_
    refine lv_iload C.1.1 C.1.2.1 dL_law_685 (lv_at hl 7 rfl) ?_
    refine px_ld2 C hW (j := i) (by omega) dL_law_687 ?_
    refine lv_i2l (v := (g i : Int32).toInt64) C.1.1 C.1.2.1 dL_law_688 rfl ?_
    refine W.lcmp C.1.1 C.1.2.1 dL_law_689 ?_
    refine x_if_eq_t (tgt := 695) C.1.1 C.1.2.1 dL_law_690 (by decide) (by rw [w3.2 i (by omega)]; exact lx_cmp0 _) ?_
    refine lv_iinc (v := nI (i + 1)) (lv' := [(9, .int (nI (i + 1))), (0, .ref b), (1, .ref a0), (2, .ref o1), (3, .ref o2), (4, .int (nI n)), (6, .int (nI en)), (7, .int (nI pl))]) C.1.1 C.1.2.1 dL_law_695 hl (k := 7) rfl (nI_1 _) (by decide) rfl (fun ls hl => ?_)
    refine lv_goto (tgt := 654) C.1.1 C.1.2.1 dL_law_698 (by decide) ?_
    exact ih (i + 1) (by omega) H locs _ _ hW (by omega) (by omega) ls (lv_sub hl [1, 2, 3, 4, 5, 6, 7, 0] rfl)

set_option maxHeartbeats 4000000 in
set_option maxRecDepth 100000 in
theorem px_end {p : Program} {l : Launch} {e : Env} {s : State} {m : MethodId} {args : Array Value} {below : List Frame} {meth : Method} {c : Code} {H : Heap} {locs : List Loc} {cells slots : Nat} {Z : State → Prop} {ls : Array Slot} {G : va_G} {kT : Nat → ClassId} {a0 o1 o2 b n9 : Nat} {xs : Nat → Int32} {T : mT} {D : mD} {f g : Nat → Int32} {n pl mk en k : Nat} (C : px_C l p s m args c G kT o1 o2 b n9 xs) (hW : px_W G kT a0 o1 o2 T D f g s H locs) (hJ : jJ T D f g n pl mk en) (hn : n ≤ 200) (hc : cells ≤ 1200) (hs : slots ≤ 120000) (hl : lv_has ls 16 (px_l b a0 o1 o2 n en pl mk k)) (hZ : px_Z p l e s m args below meth c Z) : W p l e room_1 s m args below meth c H locs cells slots Z (F0 m 611 ls []) := by
  have hl : lv_has ls 16 [(0, .ref b), (1, .ref a0), (2, .ref o1), (3, .ref o2), (4, .int (nI n)), (6, .int (nI en)), (7, .int (nI pl)), (8, .int (nI mk)), (9, .int (nI k))] := hl
  have hrc : 600258 ≤ room_1.cells := Nat.le_of_ble_eq_true rfl
  have hrs : 7292778 ≤ room_1.slots := Nat.le_of_ble_eq_true rfl
  have hIJ := hW.IJ
  have h7 : T 7 0 = n := hJ.2.2.1.1
  have h73 : T 7 (3 + 0) = n := hJ.2.2.1.2
  refine lv_aload_n C.1.1 C.1.2.1 dL_law_611 rfl (lv_at hl 1 rfl) ?_
  refine lv_iconst (v := nI 0) C.1.1 C.1.2.1 dL_law_612 (by decide) ?_
  refine lv_iconst (v := nI 2) C.1.1 C.1.2.1 dL_law_613 (by decide) ?_
  refine px_call C hW (wx_take l C.2.2.2.2.2.2.2.2.1 hIJ.1 (w := 0) (r := 2) (by decide) (by decide)) (vx_cwSW 3 C.1.2.2.2.2 gL_law_L_take rfl rfl rfl (by decide +kernel) ⟨Nat.le_of_ble_eq_true rfl, Nat.le_of_ble_eq_true rfl⟩) rfl rfl hl.1 (Nat.le_of_ble_eq_true rfl) dL_law_614 ⟨by omega, by omega⟩ (fun H locs hW => ?_)
  have i1 := hW.IJ
  refine lv_pop2_2 C.1.1 C.1.2.1 dL_law_617 rfl ?_
  refine lv_aload_n C.1.1 C.1.2.1 dL_law_618 rfl (lv_at hl 1 rfl) ?_
  refine lv_iconst (v := nI 0) C.1.1 C.1.2.1 dL_law_619 (by decide) ?_
  refine lv_iconst (v := nI 3) C.1.1 C.1.2.1 dL_law_620 (by decide) ?_
  refine px_call C hW (wx_arrayTake l C.2.2.2.2.2.2.2.2.1 i1.1 (w := 0) (r := 3) (by decide) (by decide)) (vx_cwSW 3 C.1.2.2.2.2 gL_law_L_arrayTake rfl rfl rfl (by decide +kernel) ⟨Nat.le_of_ble_eq_true rfl, Nat.le_of_ble_eq_true rfl⟩) rfl rfl hl.1 (Nat.le_of_ble_eq_true rfl) dL_law_621 ⟨by omega, by omega⟩ (fun H locs hW => ?_)
  refine lv_pop2_2 C.1.1 C.1.2.1 dL_law_624 rfl ?_
  have k73 : beT T 2 (T 7 0) 7 (3 + 0) = n := by rw [beT_k (by decide) (by decide), h73]
  have w2 : jW (beT T 2 (T 7 0)) (beD T (cpF D 19 0 (fun i => D 6 (256 * 0 + i)) (T 7 0)) (T 7 0)) 2 n g := jW.take (fun i hi => (hJ.2.2.2.2.1 i hi).1) h7
  have w3 := jW.take (T := beT T 2 (T 7 0)) (D := beD T (cpF D 19 0 (fun i => D 6 (256 * 0 + i)) (T 7 0)) (T 7 0)) (n := n) (g := g) (a := 3 + 0) (r := 3) (fun i hi => by rw [beD_k (by decide), cpF_ne (by decide)]; exact (hJ.2.2.2.2.1 i hi).2) k73
  exact px_end2 C hW (w2.make (by decide) (by decide) (by omega) (by omega)) w3 ((hJ.rd.make (by omega)).make (by omega)) hn (by omega) (by omega) (lv_sub hl [0, 1, 2, 3, 4, 5, 6, 7, 8] rfl) hZ

set_option maxHeartbeats 4000000 in
set_option maxRecDepth 100000 in
theorem px_mid {p : Program} {l : Launch} {e : Env} {s : State} {m : MethodId} {args : Array Value} {below : List Frame} {meth : Method} {c : Code} {H : Heap} {locs : List Loc} {cells slots : Nat} {Z : State → Prop} {ls : Array Slot} {G : va_G} {kT : Nat → ClassId} {a0 o1 o2 b n9 : Nat} {xs : Nat → Int32} {T : mT} {D : mD} {f g : Nat → Int32} (C : px_C l p s m args c G kT o1 o2 b n9 xs) (hW : px_W G kT a0 o1 o2 T0 D0 (fun _ => 0) g s H locs) (hc : cells ≤ 200) (hs : slots ≤ 8000) (hl : lv_has ls 16 [(3, .ref o2), (2, .ref o1), (1, .ref a0), (0, .ref b)]) (hZ : px_Z p l e s m args below meth c Z) : W p l e room_1 s m args below meth c H locs cells slots Z (F0 m 19 ls []) := by
  have hl : lv_has ls 16 [(3, .ref o2), (2, .ref o1), (1, .ref a0), (0, .ref b)] := hl
  have hrc : 600258 ≤ room_1.cells := Nat.le_of_ble_eq_true rfl
  have hrs : 7292778 ≤ room_1.slots := Nat.le_of_ble_eq_true rfl
  refine lv_iconst (v := nI 0) C.1.1 C.1.2.1 dL_law_19 (by decide) ?_
  refine lv_istore (lv' := [(4, .int (nI 0)), (3, .ref o2), (2, .ref o1), (1, .ref a0), (0, .ref b)]) C.1.1 C.1.2.1 dL_law_20 hl (by decide) rfl (fun ls hl => ?_)
  refine lv_aload_n C.1.1 C.1.2.1 dL_law_22 rfl (lv_at hl 4 rfl) ?_
  refine lv_iconst (v := nI 0) C.1.1 C.1.2.1 dL_law_23 (by decide) ?_
  refine px_cell C.1 C.2.2.2.1 C.2.2.2.2.1 C.2.2.2.2.2.2.2.2.2 hW.S (by omega) (va_cwS 2 C.1.2.2.2.2 gL_law_L_cell rfl rfl rfl (by decide +kernel) ⟨Nat.le_of_ble_eq_true rfl, Nat.le_of_ble_eq_true rfl⟩) hl.1 (Nat.le_of_ble_eq_true rfl) dL_law_24 ⟨by omega, by omega⟩ (fun x H9 locs9 hz9 hk9 hS9 => ?_)
  have hW := hW.kept hk9 hS9
  refine lv_bipush (v := nI 10) C.1.1 C.1.2.1 dL_law_27 (by decide) ?_
  refine px_chosen C.1 hW.S (by decide) (by decide) (va_cwS 2 C.1.2.2.2.2 gL_law_L_chosen rfl rfl rfl (by decide +kernel) ⟨Nat.le_of_ble_eq_true rfl, Nat.le_of_ble_eq_true rfl⟩) hl.1 (Nat.le_of_ble_eq_true rfl) dL_law_29 ⟨by omega, by omega⟩ (fun j H9 locs9 hj hz9 hk9 hS9 => ?_)
  have hW := hW.kept hk9 hS9
  refine lv_istore (lv' := [(5, .int (nI j)), (4, .int (nI 0)), (3, .ref o2), (2, .ref o1), (1, .ref a0), (0, .ref b)]) C.1.1 C.1.2.1 dL_law_32 hl (by decide) rfl (fun ls hl => ?_)
  refine lv_bipush (v := nI 40) C.1.1 C.1.2.1 dL_law_34 (by decide) ?_
  refine lv_aload_n C.1.1 C.1.2.1 dL_law_36 rfl (lv_at hl 5 rfl) ?_
  refine lv_iconst (v := nI 1) C.1.1 C.1.2.1 dL_law_37 (by decide) ?_
  refine px_cell C.1 C.2.2.2.1 C.2.2.2.2.1 C.2.2.2.2.2.2.2.2.2 hW.S (by omega) (va_cwS 2 C.1.2.2.2.2 gL_law_L_cell rfl rfl rfl (by decide +kernel) ⟨Nat.le_of_ble_eq_true rfl, Nat.le_of_ble_eq_true rfl⟩) hl.1 (Nat.le_of_ble_eq_true rfl) dL_law_38 ⟨by omega, by omega⟩ (fun y H9 locs9 hz9 hk9 hS9 => ?_)
  have hW := hW.kept hk9 hS9
  refine lv_bipush (v := nI 10) C.1.1 C.1.2.1 dL_law_41 (by decide) ?_
  refine px_chosen C.1 hW.S (by decide) (by decide) (va_cwS 2 C.1.2.2.2.2 gL_law_L_chosen rfl rfl rfl (by decide +kernel) ⟨Nat.le_of_ble_eq_true rfl, Nat.le_of_ble_eq_true rfl⟩) hl.1 (Nat.le_of_ble_eq_true rfl) dL_law_43 ⟨by omega, by omega⟩ (fun i H9 locs9 hi hz9 hk9 hS9 => ?_)
  have hW := hW.kept hk9 hS9
  have hIJ := hW.IJ
  refine n_isub C.1.1 C.1.2.1 (by omega) dL_law_46 ?_
  refine lv_istore (lv' := [(6, .int (nI (40 - i))), (5, .int (nI j)), (4, .int (nI 0)), (3, .ref o2), (2, .ref o1), (1, .ref a0), (0, .ref b)]) C.1.1 C.1.2.1 dL_law_47 hl (by decide) rfl (fun ls hl => ?_)
  refine lv_aload_n C.1.1 C.1.2.1 dL_law_49 rfl (lv_at hl 5 rfl) ?_
  refine lv_iconst (v := nI 0) C.1.1 C.1.2.1 dL_law_50 (by decide) ?_
  refine lv_bipush (v := nI 40) C.1.1 C.1.2.1 dL_law_51 (by decide) ?_
  refine px_call C hW (wx_make l C.2.2.2.2.2.2.2.2.1 hIJ.1 (r := 0) (n := 40) (by decide) (by decide)) (vx_cwSW 3 C.1.2.2.2.2 gL_law_L_make rfl rfl rfl (by decide +kernel) ⟨Nat.le_of_ble_eq_true rfl, Nat.le_of_ble_eq_true rfl⟩) rfl rfl hl.1 (Nat.le_of_ble_eq_true rfl) dL_law_53 ⟨by omega, by omega⟩ (fun H locs hW => ?_)
  have i1 := hW.IJ
  refine lv_pop2_2 C.1.1 C.1.2.1 dL_law_56 rfl ?_
  refine lv_aload_n C.1.1 C.1.2.1 dL_law_57 rfl (lv_at hl 5 rfl) ?_
  refine lv_iconst (v := nI 1) C.1.1 C.1.2.1 dL_law_58 (by decide) ?_
  refine lv_bipush (v := nI 9) C.1.1 C.1.2.1 dL_law_59 (by decide) ?_
  refine px_call C hW (wx_make l C.2.2.2.2.2.2.2.2.1 i1.1 (r := 1) (n := 9) (by decide) (by decide)) (vx_cwSW 3 C.1.2.2.2.2 gL_law_L_make rfl rfl rfl (by decide +kernel) ⟨Nat.le_of_ble_eq_true rfl, Nat.le_of_ble_eq_true rfl⟩) rfl rfl hl.1 (Nat.le_of_ble_eq_true rfl) dL_law_61 ⟨by omega, by omega⟩ (fun H locs hW => ?_)
  have i2 := hW.IJ
  have st := jJ.start (g := g) (b := j) (e := 40 - i) (by omega) (by omega) (by omega) rfl rfl rfl rfl i1.1 rfl
  refine lv_pop2_2 C.1.1 C.1.2.1 dL_law_64 rfl ?_
  refine lv_aload_n C.1.1 C.1.2.1 dL_law_65 rfl (lv_at hl 5 rfl) ?_
  refine lv_iconst (v := nI 0) C.1.1 C.1.2.1 dL_law_66 (by decide) ?_
  refine lv_iconst (v := nI 0) C.1.1 C.1.2.1 dL_law_67 (by decide) ?_
  refine lv_iload C.1.1 C.1.2.1 dL_law_68 (lv_at hl 1 rfl) ?_
  refine lv_iload C.1.1 C.1.2.1 dL_law_70 (lv_at hl 0 rfl) ?_
  refine lv_iload C.1.1 C.1.2.1 dL_law_72 (lv_at hl 1 rfl) ?_
  refine n_isub C.1.1 C.1.2.1 (by omega) dL_law_74 ?_
  refine px_call C hW (wx_open l C.2.2.2.2.2.2.2.2.1 i2.1 (i := 0) (r := 0) (f := j) (n := 40 - i - j) (by decide) (by decide) (by rw [st.1]; omega) (by omega)) (vx_cwSW 5 C.1.2.2.2.2 gL_law_L_open rfl rfl rfl (by decide +kernel) ⟨Nat.le_of_ble_eq_true rfl, Nat.le_of_ble_eq_true rfl⟩) rfl rfl hl.1 (Nat.le_of_ble_eq_true rfl) dL_law_75 ⟨by omega, by omega⟩ (fun H locs hW => ?_)
  refine lv_iload C.1.1 C.1.2.1 dL_law_78 (lv_at hl 0 rfl) ?_
  refine lv_iload C.1.1 C.1.2.1 dL_law_80 (lv_at hl 1 rfl) ?_
  refine n_isub C.1.1 C.1.2.1 (by omega) dL_law_82 ?_
  refine lv_i2l (v := (nI ((40 - i) - j) : Int32).toInt64) C.1.1 C.1.2.1 dL_law_83 rfl ?_
  refine W.lcmp C.1.1 C.1.2.1 dL_law_84 ?_
  refine x_if_eq_t (tgt := 90) C.1.1 C.1.2.1 dL_law_85 (by decide) (by rw [st.1, show min (j + (40 - i - j)) 40 - j = 40 - i - j by omega]; exact lx_cmp0 _) ?_
  refine lv_iload C.1.1 C.1.2.1 dL_law_90 (lv_at hl 1 rfl) ?_
  refine lv_istore (lv' := [(7, .int (nI j)), (6, .int (nI (40 - i))), (5, .int (nI j)), (4, .int (nI 0)), (3, .ref o2), (2, .ref o1), (1, .ref a0), (0, .ref b)]) C.1.1 C.1.2.1 dL_law_92 hl (by decide) rfl (fun ls hl => ?_)
  refine lv_iload C.1.1 C.1.2.1 dL_law_94 (lv_at hl 2 rfl) ?_
  refine lv_istore (lv' := [(8, .int (nI j)), (7, .int (nI j)), (6, .int (nI (40 - i))), (5, .int (nI j)), (4, .int (nI 0)), (3, .ref o2), (2, .ref o1), (1, .ref a0), (0, .ref b)]) C.1.1 C.1.2.1 dL_law_96 hl (by decide) rfl (fun ls hl => ?_)
  refine lv_iconst (v := nI 0) C.1.1 C.1.2.1 dL_law_98 (by decide) ?_
  refine lv_istore (lv' := [(9, .int (nI 0)), (8, .int (nI j)), (7, .int (nI j)), (6, .int (nI (40 - i))), (5, .int (nI j)), (4, .int (nI 0)), (3, .ref o2), (2, .ref o1), (1, .ref a0), (0, .ref b)]) C.1.1 C.1.2.1 dL_law_99 hl (by decide) rfl (fun ls hl => ?_)
  exact px_loop C (fun H locs T D f g n pl mk c2 s2 hW hJ hn hc2 hs2 ls hl => px_end C hW hJ hn hc2 hs2 hl hZ) 56 0 rfl H locs _ _ _ _ _ _ _ _ _ hW st.2 (Nat.zero_le _) (by omega) (by omega) ls (lv_sub hl [9, 8, 7, 6, 5, 3, 2, 1, 0] rfl)
