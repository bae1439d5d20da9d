set_option maxHeartbeats 4000000 in
set_option maxRecDepth 100000 in
theorem lx_c18 {p : Program} {l : Launch} {e : Env} {s : State} {m : MethodId} {args : Array Value} {below : List Frame} {meth : Method} {c : Code} {H : Heap} {locs : List Loc} {cells slots : Nat} {Z : State → Prop} {ls : Array Slot} {G : va_G} {kT : Nat → ClassId} {q : Nat → Nat} {a0 o1 o2 b n : Nat} {xs : Nat → Int32} {T : mT} {D : mD} {th : Int32} {e1 e2 : va_E} (C : lx_C l p s m args c G kT q o1 o2 b n xs) (hW : lx_W G kT q a0 o1 o2 T D T D th e1 e2 s H locs) (hP1 : oL kT False 0 e1) (hP2 : oD kT False 0 e2) {i : Nat} (hi : i + 6 ≤ n) (hn : n ≤ 3072) (hcs : cells + 2 ≤ room_1.cells ∧ slots + 260 ≤ room_1.slots) (hl : lv_has ls 10 (lx_l b a0 (q 0) o1 o2 i)) (hk : lx_K p l e s m args below meth c Z G kT q a0 o1 o2 b cells slots i) : W p l e room_1 s m args below meth c H locs cells slots Z (F0 m 1570 ls []) := by
  have hl : lv_has ls 10 [(0, .ref b), (1, .ref a0), (2, .ref (q 0)), (3, .ref o1), (4, .ref o2), (5, .int (nI i))] := hl
  refine lv_aload_n C.1.1 C.1.2.1 dL_law_1570 rfl (lv_at hl 1 rfl) ?_
  refine lv_aload_n C.1.1 C.1.2.1 dL_law_1571 rfl (lv_at hl 0 rfl) ?_
  refine lv_iload C.1.1 C.1.2.1 dL_law_1572 (lv_at hl 5 rfl) ?_
  refine lv_iconst (v := nI 1) C.1.1 C.1.2.1 dL_law_1574 (by decide) ?_
  refine n_iadd C.1.1 C.1.2.1 dL_law_1575 ?_
  refine lx_sld C hW.S (j := i + 1) (by omega) (by omega) dL_law_1576 ?_
  refine lv_aload_n C.1.1 C.1.2.1 dL_law_1577 rfl (lv_at hl 0 rfl) ?_
  refine lv_iload C.1.1 C.1.2.1 dL_law_1578 (lv_at hl 5 rfl) ?_
  refine lv_iconst (v := nI 2) C.1.1 C.1.2.1 dL_law_1580 (by decide) ?_
  refine n_iadd C.1.1 C.1.2.1 dL_law_1581 ?_
  refine lx_sld C hW.S (j := i + 2) (by omega) (by omega) dL_law_1582 ?_
  refine lv_aload_n C.1.1 C.1.2.1 dL_law_1583 rfl (lv_at hl 0 rfl) ?_
  refine lv_iload C.1.1 C.1.2.1 dL_law_1584 (lv_at hl 5 rfl) ?_
  refine lv_iconst (v := nI 3) C.1.1 C.1.2.1 dL_law_1586 (by decide) ?_
  refine n_iadd C.1.1 C.1.2.1 dL_law_1587 ?_
  refine lx_sld C hW.S (j := i + 3) (by omega) (by omega) dL_law_1588 ?_
  refine lv_aload_n C.1.1 C.1.2.1 dL_law_1589 rfl (lv_at hl 0 rfl) ?_
  refine lv_iload C.1.1 C.1.2.1 dL_law_1590 (lv_at hl 5 rfl) ?_
  refine lv_iconst (v := nI 4) C.1.1 C.1.2.1 dL_law_1592 (by decide) ?_
  refine n_iadd C.1.1 C.1.2.1 dL_law_1593 ?_
  refine lx_sld C hW.S (j := i + 4) (by omega) (by omega) dL_law_1594 ?_
  refine lv_aload_n C.1.1 C.1.2.1 dL_law_1595 rfl (lv_at hl 3 rfl) ?_
  have hIJ := hW.IJ
  refine lx_callw C hW hP1 (wo_arraySigns l C.2.2.2.2.2.2.2.2.2.2 hIJ.1 hIJ.2 (xs (i + 1)) (xs (i + 2)) (xs (i + 3)) (xs (i + 4))) (vx_cwSW 6 C.1.2.2.2.2 gL_law_L_arraySigns rfl rfl rfl (by decide +kernel) ⟨Nat.le_of_ble_eq_true rfl, Nat.le_of_ble_eq_true rfl⟩) rfl rfl hl.1 (Nat.le_of_ble_eq_true rfl) dL_law_1596 hcs (fun H locs e9 hW hP => ?_)
  refine lv_istore (lv' := [(6, .int (nI (sp_part T D 3 (xs (i + 1)) (xs (i + 2)) (xs (i + 3)) (xs (i + 4))).1)), (0, .ref b), (1, .ref a0), (2, .ref (q 0)), (3, .ref o1), (4, .ref o2), (5, .int (nI i))]) C.1.1 C.1.2.1 dL_law_1599 hl (by decide) rfl (fun ls hl => ?_)
  refine lv_aload_n C.1.1 C.1.2.1 dL_law_1601 rfl (lv_at hl 3 rfl) ?_
  refine lv_aload_n C.1.1 C.1.2.1 dL_law_1602 rfl (lv_at hl 1 rfl) ?_
  refine lv_iload C.1.1 C.1.2.1 dL_law_1603 (lv_at hl 6 rfl) ?_
  refine lv_iconst (v := nI 1) C.1.1 C.1.2.1 dL_law_1605 (by decide) ?_
  refine n_iadd C.1.1 C.1.2.1 dL_law_1606 ?_
  refine lx_sld C hW.S (j := i + 1) (by omega) (by omega) dL_law_1607 ?_
  refine lv_aload_n C.1.1 C.1.2.1 dL_law_1608 rfl (lv_at hl 1 rfl) ?_
  refine lv_iload C.1.1 C.1.2.1 dL_law_1609 (lv_at hl 6 rfl) ?_
  refine lv_iconst (v := nI 2) C.1.1 C.1.2.1 dL_law_1611 (by decide) ?_
  refine n_iadd C.1.1 C.1.2.1 dL_law_1612 ?_
  refine lx_sld C hW.S (j := i + 2) (by omega) (by omega) dL_law_1613 ?_
  refine lv_aload_n C.1.1 C.1.2.1 dL_law_1614 rfl (lv_at hl 1 rfl) ?_
  refine lv_iload C.1.1 C.1.2.1 dL_law_1615 (lv_at hl 6 rfl) ?_
  refine lv_iconst (v := nI 3) C.1.1 C.1.2.1 dL_law_1617 (by decide) ?_
  refine n_iadd C.1.1 C.1.2.1 dL_law_1618 ?_
  refine lx_sld C hW.S (j := i + 3) (by omega) (by omega) dL_law_1619 ?_
  refine lv_aload_n C.1.1 C.1.2.1 dL_law_1620 rfl (lv_at hl 1 rfl) ?_
  refine lv_iload C.1.1 C.1.2.1 dL_law_1621 (lv_at hl 6 rfl) ?_
  refine lv_iconst (v := nI 4) C.1.1 C.1.2.1 dL_law_1623 (by decide) ?_
  refine n_iadd C.1.1 C.1.2.1 dL_law_1624 ?_
  refine lx_sld C hW.S (j := i + 4) (by omega) (by omega) dL_law_1625 ?_
  refine lx_callmi C hW (mo_arraySigns l C.2.2.2.2.2.1 _ _ _ hIJ.1 hIJ.2 (xs (i + 1)) (xs (i + 2)) (xs (i + 3)) (xs (i + 4))) (cwV 4 C.1.2.2.2.2 gL_law_X7_arraySigns rfl rfl rfl (by decide +kernel) ⟨Nat.le_of_ble_eq_true rfl, Nat.le_of_ble_eq_true rfl⟩) rfl rfl hl.1 (Nat.le_of_ble_eq_true rfl) dL_law_1626 hcs (fun H locs hW => ?_)
  refine lv_istore (lv' := [(7, .int ((sp_part T D 3 (xs (i + 1)) (xs (i + 2)) (xs (i + 3)) (xs (i + 4))).2.1)), (6, .int (nI (sp_part T D 3 (xs (i + 1)) (xs (i + 2)) (xs (i + 3)) (xs (i + 4))).1)), (0, .ref b), (1, .ref a0), (2, .ref (q 0)), (3, .ref o1), (4, .ref o2), (5, .int (nI i))]) C.1.1 C.1.2.1 dL_law_1629 hl (by decide) rfl (fun ls hl => ?_)
  refine lv_aload_n C.1.1 C.1.2.1 dL_law_1631 rfl (lv_at hl 4 rfl) ?_
  refine lx_callmi C hW (mt_thrown l C.2.2.2.2.2.1 _ _ _) (cwV 0 C.1.2.2.2.2 gL_law_X7_thrown rfl rfl rfl (by decide +kernel) ⟨Nat.le_of_ble_eq_true rfl, Nat.le_of_ble_eq_true rfl⟩) rfl rfl hl.1 (Nat.le_of_ble_eq_true rfl) dL_law_1632 hcs (fun H locs hW => ?_)
  refine lv_iload C.1.1 C.1.2.1 dL_law_1635 (lv_at hl 1 rfl) ?_
  refine x_icmp_eq_t (tgt := 1642) C.1.1 C.1.2.1 dL_law_1637 (by decide) rfl ?_
  refine lv_iload C.1.1 C.1.2.1 dL_law_1642 (lv_at hl 1 rfl) ?_
  have h4 : (sp_part T D 3 (xs (i + 1)) (xs (i + 2)) (xs (i + 3)) (xs (i + 4))).1 ≤ 4 := sp_part_c T D (xs (i + 1)) (xs (i + 2)) (xs (i + 3)) (xs (i + 4)) 0 0 3 0
  rcases Decidable.em ((sp_part T D 3 (xs (i + 1)) (xs (i + 2)) (xs (i + 3)) (xs (i + 4))).1 = 0) with h0 | h0
  · refine x_if_ne_f (tgt := 1659) C.1.1 C.1.2.1 dL_law_1644 (by decide) (by rw [h0]; rfl) ?_
    obtain ⟨f9, rfl, hf9⟩ := hP
    have hf9 := hf9 h0
    refine lv_aload_n C.1.1 C.1.2.1 dL_law_1647 rfl (lv_at hl 5 rfl) ?_
    refine lv_iconst (v := nI 0) C.1.1 C.1.2.1 dL_law_1648 (by decide) ?_
    refine lx_lld C hW dL_law_1649 ?_
    refine lv_iload C.1.1 C.1.2.1 dL_law_1650 (lv_at hl 0 rfl) ?_
    refine lv_i2l (v := ((sp_part T D 3 (xs (i + 1)) (xs (i + 2)) (xs (i + 3)) (xs (i + 4))).2.1).toInt64) C.1.1 C.1.2.1 dL_law_1652 rfl ?_
    refine W.lcmp C.1.1 C.1.2.1 dL_law_1653 ?_
    refine x_if_eq_t (tgt := 1659) C.1.1 C.1.2.1 dL_law_1654 (by decide) (by rw [hf9]; exact lx_cmp0 _) ?_
    refine lv_goto (tgt := 3303) C.1.1 C.1.2.1 dL_law_1659 (by decide) ?_
    exact hk H locs _ _ _ _ _ _ _ hW ⟨f9, rfl, fun z => z.elim⟩ hP2 (by omega) (by omega) ls (lv_sub hl [2, 3, 4, 5, 6, 7] rfl)
  · refine x_if_ne_t (tgt := 1659) C.1.1 C.1.2.1 dL_law_1644 (by decide) (fun z => h0 (nI_inj (by omega) (by decide) z)) ?_
    refine lv_goto (tgt := 3303) C.1.1 C.1.2.1 dL_law_1659 (by decide) ?_
    exact hk H locs _ _ _ _ _ _ _ hW (oL_w hP) hP2 (by omega) (by omega) ls (lv_sub hl [2, 3, 4, 5, 6, 7] rfl)

set_option maxHeartbeats 4000000 in
set_option maxRecDepth 100000 in
theorem lx_c19 {p : Program} {l : Launch} {e : Env} {s : State} {m : MethodId} {args : Array Value} {below : List Frame} {meth : Method} {c : Code} {H : Heap} {locs : List Loc} {cells slots : Nat} {Z : State → Prop} {ls : Array Slot} {G : va_G} {kT : Nat → ClassId} {q : Nat → Nat} {a0 o1 o2 b n : Nat} {xs : Nat → Int32} {T : mT} {D : mD} {th : Int32} {e1 e2 : va_E} (C : lx_C l p s m args c G kT q o1 o2 b n xs) (hW : lx_W G kT q a0 o1 o2 T D T D th e1 e2 s H locs) (hP1 : oL kT False 0 e1) (hP2 : oD kT False 0 e2) {i : Nat} (hi : i + 6 ≤ n) (hn : n ≤ 3072) (hcs : cells + 2 ≤ room_1.cells ∧ slots + 260 ≤ room_1.slots) (hl : lv_has ls 10 (lx_l b a0 (q 0) o1 o2 i)) (hk : lx_K p l e s m args below meth c Z G kT q a0 o1 o2 b cells slots i) : W p l e room_1 s m args below meth c H locs cells slots Z (F0 m 1662 ls []) := by
  have hl : lv_has ls 10 [(0, .ref b), (1, .ref a0), (2, .ref (q 0)), (3, .ref o1), (4, .ref o2), (5, .int (nI i))] := hl
  refine lv_aload_n C.1.1 C.1.2.1 dL_law_1662 rfl (lv_at hl 1 rfl) ?_
  refine lv_aload_n C.1.1 C.1.2.1 dL_law_1663 rfl (lv_at hl 0 rfl) ?_
  refine lv_iload C.1.1 C.1.2.1 dL_law_1664 (lv_at hl 5 rfl) ?_
  refine lv_iconst (v := nI 1) C.1.1 C.1.2.1 dL_law_1666 (by decide) ?_
  refine n_iadd C.1.1 C.1.2.1 dL_law_1667 ?_
  refine lx_sld C hW.S (j := i + 1) (by omega) (by omega) dL_law_1668 ?_
  refine lv_aload_n C.1.1 C.1.2.1 dL_law_1669 rfl (lv_at hl 0 rfl) ?_
  refine lv_iload C.1.1 C.1.2.1 dL_law_1670 (lv_at hl 5 rfl) ?_
  refine lv_iconst (v := nI 2) C.1.1 C.1.2.1 dL_law_1672 (by decide) ?_
  refine n_iadd C.1.1 C.1.2.1 dL_law_1673 ?_
  refine lx_sld C hW.S (j := i + 2) (by omega) (by omega) dL_law_1674 ?_
  refine lv_i2c (v := ((xs (i + 2)).toUInt32 % 65536).toInt32) C.1.1 C.1.2.1 dL_law_1675 rfl ?_
  refine lv_aload_n C.1.1 C.1.2.1 dL_law_1676 rfl (lv_at hl 3 rfl) ?_
  have hIJ := hW.IJ
  refine lx_callw C hW hP1 (wo_arrayAppend l C.2.2.2.2.2.2.2.2.2.2 hIJ.1 hIJ.2 (xs (i + 1)) (((xs (i + 2)).toUInt32 % 65536).toInt32)) (vx_cwSW 4 C.1.2.2.2.2 gL_law_L_arrayAppend rfl rfl rfl (by decide +kernel) ⟨Nat.le_of_ble_eq_true rfl, Nat.le_of_ble_eq_true rfl⟩) rfl rfl hl.1 (Nat.le_of_ble_eq_true rfl) dL_law_1677 hcs (fun H locs e9 hW hP => ?_)
  refine lv_istore (lv' := [(6, .int (nI (sp_one T D 3 2 (xs (i + 1)) (((xs (i + 2)).toUInt32 % 65536).toInt32)).1)), (0, .ref b), (1, .ref a0), (2, .ref (q 0)), (3, .ref o1), (4, .ref o2), (5, .int (nI i))]) C.1.1 C.1.2.1 dL_law_1680 hl (by decide) rfl (fun ls hl => ?_)
  refine lv_aload_n C.1.1 C.1.2.1 dL_law_1682 rfl (lv_at hl 3 rfl) ?_
  refine lv_aload_n C.1.1 C.1.2.1 dL_law_1683 rfl (lv_at hl 1 rfl) ?_
  refine lv_iload C.1.1 C.1.2.1 dL_law_1684 (lv_at hl 6 rfl) ?_
  refine lv_iconst (v := nI 1) C.1.1 C.1.2.1 dL_law_1686 (by decide) ?_
  refine n_iadd C.1.1 C.1.2.1 dL_law_1687 ?_
  refine lx_sld C hW.S (j := i + 1) (by omega) (by omega) dL_law_1688 ?_
  refine lv_aload_n C.1.1 C.1.2.1 dL_law_1689 rfl (lv_at hl 1 rfl) ?_
  refine lv_iload C.1.1 C.1.2.1 dL_law_1690 (lv_at hl 6 rfl) ?_
  refine lv_iconst (v := nI 2) C.1.1 C.1.2.1 dL_law_1692 (by decide) ?_
  refine n_iadd C.1.1 C.1.2.1 dL_law_1693 ?_
  refine lx_sld C hW.S (j := i + 2) (by omega) (by omega) dL_law_1694 ?_
  refine lv_i2c (v := ((xs (i + 2)).toUInt32 % 65536).toInt32) C.1.1 C.1.2.1 dL_law_1695 rfl ?_
  refine lx_callmi C hW (mo_arrayAppend l C.2.2.2.2.2.1 _ _ _ hIJ.1 hIJ.2 (xs (i + 1)) (((xs (i + 2)).toUInt32 % 65536).toInt32)) (cwV 2 C.1.2.2.2.2 gL_law_X7_arrayAppend rfl rfl rfl (by decide +kernel) ⟨Nat.le_of_ble_eq_true rfl, Nat.le_of_ble_eq_true rfl⟩) rfl rfl hl.1 (Nat.le_of_ble_eq_true rfl) dL_law_1696 hcs (fun H locs hW => ?_)
  refine lv_istore (lv' := [(7, .int ((sp_one T D 3 2 (xs (i + 1)) (((xs (i + 2)).toUInt32 % 65536).toInt32)).2.1)), (6, .int (nI (sp_one T D 3 2 (xs (i + 1)) (((xs (i + 2)).toUInt32 % 65536).toInt32)).1)), (0, .ref b), (1, .ref a0), (2, .ref (q 0)), (3, .ref o1), (4, .ref o2), (5, .int (nI i))]) C.1.1 C.1.2.1 dL_law_1699 hl (by decide) rfl (fun ls hl => ?_)
  refine lv_aload_n C.1.1 C.1.2.1 dL_law_1701 rfl (lv_at hl 4 rfl) ?_
  refine lx_callmi C hW (mt_thrown l C.2.2.2.2.2.1 _ _ _) (cwV 0 C.1.2.2.2.2 gL_law_X7_thrown rfl rfl rfl (by decide +kernel) ⟨Nat.le_of_ble_eq_true rfl, Nat.le_of_ble_eq_true rfl⟩) rfl rfl hl.1 (Nat.le_of_ble_eq_true rfl) dL_law_1702 hcs (fun H locs hW => ?_)
  refine lv_iload C.1.1 C.1.2.1 dL_law_1705 (lv_at hl 1 rfl) ?_
  refine x_icmp_eq_t (tgt := 1712) C.1.1 C.1.2.1 dL_law_1707 (by decide) rfl ?_
  refine lv_iload C.1.1 C.1.2.1 dL_law_1712 (lv_at hl 1 rfl) ?_
  have h4 : (sp_one T D 3 2 (xs (i + 1)) (((xs (i + 2)).toUInt32 % 65536).toInt32)).1 ≤ 4 := sp_one_c T D (xs (i + 1)) (((xs (i + 2)).toUInt32 % 65536).toInt32) 0 0 0 0 3 2
  rcases Decidable.em ((sp_one T D 3 2 (xs (i + 1)) (((xs (i + 2)).toUInt32 % 65536).toInt32)).1 = 0) with h0 | h0
  · refine x_if_ne_f (tgt := 1729) C.1.1 C.1.2.1 dL_law_1714 (by decide) (by rw [h0]; rfl) ?_
    obtain ⟨f9, rfl, hf9⟩ := hP
    have hf9 := hf9 h0
    refine lv_aload_n C.1.1 C.1.2.1 dL_law_1717 rfl (lv_at hl 5 rfl) ?_
    refine lv_iconst (v := nI 0) C.1.1 C.1.2.1 dL_law_1718 (by decide) ?_
    refine lx_lld C hW dL_law_1719 ?_
    refine lv_iload C.1.1 C.1.2.1 dL_law_1720 (lv_at hl 0 rfl) ?_
    refine lv_i2l (v := ((sp_one T D 3 2 (xs (i + 1)) (((xs (i + 2)).toUInt32 % 65536).toInt32)).2.1).toInt64) C.1.1 C.1.2.1 dL_law_1722 rfl ?_
    refine W.lcmp C.1.1 C.1.2.1 dL_law_1723 ?_
    refine x_if_eq_t (tgt := 1729) C.1.1 C.1.2.1 dL_law_1724 (by decide) (by rw [hf9]; exact lx_cmp0 _) ?_
    refine lv_goto (tgt := 3303) C.1.1 C.1.2.1 dL_law_1729 (by decide) ?_
    exact hk H locs _ _ _ _ _ _ _ hW ⟨f9, rfl, fun z => z.elim⟩ hP2 (by omega) (by omega) ls (lv_sub hl [2, 3, 4, 5, 6, 7] rfl)
  · refine x_if_ne_t (tgt := 1729) C.1.1 C.1.2.1 dL_law_1714 (by decide) (fun z => h0 (nI_inj (by omega) (by decide) z)) ?_
    refine lv_goto (tgt := 3303) C.1.1 C.1.2.1 dL_law_1729 (by decide) ?_
    exact hk H locs _ _ _ _ _ _ _ hW (oL_w hP) hP2 (by omega) (by omega) ls (lv_sub hl [2, 3, 4, 5, 6, 7] rfl)

set_option maxHeartbeats 4000000 in
set_option maxRecDepth 100000 in
theorem lx_c20 {p : Program} {l : Launch} {e : Env} {s : State} {m : MethodId} {args : Array Value} {below : List Frame} {meth : Method} {c : Code} {H : Heap} {locs : List Loc} {cells slots : Nat} {Z : State → Prop} {ls : Array Slot} {G : va_G} {kT : Nat → ClassId} {q : Nat → Nat} {a0 o1 o2 b n : Nat} {xs : Nat → Int32} {T : mT} {D : mD} {th : Int32} {e1 e2 : va_E} (C : lx_C l p s m args c G kT q o1 o2 b n xs) (hW : lx_W G kT q a0 o1 o2 T D T D th e1 e2 s H locs) (hP1 : oL kT False 0 e1) (hP2 : oD kT False 0 e2) {i : Nat} (hi : i + 6 ≤ n) (hn : n ≤ 3072) (hcs : cells + 2 ≤ room_1.cells ∧ slots + 260 ≤ room_1.slots) (hl : lv_has ls 10 (lx_l b a0 (q 0) o1 o2 i)) (hk : lx_K p l e s m args below meth c Z G kT q a0 o1 o2 b cells slots i) : W p l e room_1 s m args below meth c H locs cells slots Z (F0 m 1732 ls []) := by
  have hl : lv_has ls 10 [(0, .ref b), (1, .ref a0), (2, .ref (q 0)), (3, .ref o1), (4, .ref o2), (5, .int (nI i))] := hl
  refine lv_aload_n C.1.1 C.1.2.1 dL_law_1732 rfl (lv_at hl 1 rfl) ?_
  refine lv_aload_n C.1.1 C.1.2.1 dL_law_1733 rfl (lv_at hl 0 rfl) ?_
  refine lv_iload C.1.1 C.1.2.1 dL_law_1734 (lv_at hl 5 rfl) ?_
  refine lv_iconst (v := nI 1) C.1.1 C.1.2.1 dL_law_1736 (by decide) ?_
  refine n_iadd C.1.1 C.1.2.1 dL_law_1737 ?_
  refine lx_sld C hW.S (j := i + 1) (by omega) (by omega) dL_law_1738 ?_
  refine lv_aload_n C.1.1 C.1.2.1 dL_law_1739 rfl (lv_at hl 3 rfl) ?_
  have hIJ := hW.IJ
  refine lx_callw C hW hP1 (wo_arraySize l C.2.2.2.2.2.2.2.2.2.2 hIJ.1 hIJ.2 (xs (i + 1))) (vx_cwSW 3 C.1.2.2.2.2 gL_law_L_arraySize rfl rfl rfl (by decide +kernel) ⟨Nat.le_of_ble_eq_true rfl, Nat.le_of_ble_eq_true rfl⟩) rfl rfl hl.1 (Nat.le_of_ble_eq_true rfl) dL_law_1740 hcs (fun H locs e9 hW hP => ?_)
  refine lv_istore (lv' := [(6, .int (nI (sp_size T D 3 (xs (i + 1))).1)), (0, .ref b), (1, .ref a0), (2, .ref (q 0)), (3, .ref o1), (4, .ref o2), (5, .int (nI i))]) C.1.1 C.1.2.1 dL_law_1743 hl (by decide) rfl (fun ls hl => ?_)
  refine lv_aload_n C.1.1 C.1.2.1 dL_law_1745 rfl (lv_at hl 3 rfl) ?_
  refine lv_aload_n C.1.1 C.1.2.1 dL_law_1746 rfl (lv_at hl 1 rfl) ?_
  refine lv_iload C.1.1 C.1.2.1 dL_law_1747 (lv_at hl 6 rfl) ?_
  refine lv_iconst (v := nI 1) C.1.1 C.1.2.1 dL_law_1749 (by decide) ?_
  refine n_iadd C.1.1 C.1.2.1 dL_law_1750 ?_
  refine lx_sld C hW.S (j := i + 1) (by omega) (by omega) dL_law_1751 ?_
  refine lx_callmi C hW (mo_arraySize l C.2.2.2.2.2.1 _ _ _ hIJ.1 hIJ.2 (xs (i + 1))) (cwV 1 C.1.2.2.2.2 gL_law_X7_arraySize rfl rfl rfl (by decide +kernel) ⟨Nat.le_of_ble_eq_true rfl, Nat.le_of_ble_eq_true rfl⟩) rfl rfl hl.1 (Nat.le_of_ble_eq_true rfl) dL_law_1752 hcs (fun H locs hW => ?_)
  refine lv_istore (lv' := [(7, .int ((sp_size T D 3 (xs (i + 1))).2.1)), (6, .int (nI (sp_size T D 3 (xs (i + 1))).1)), (0, .ref b), (1, .ref a0), (2, .ref (q 0)), (3, .ref o1), (4, .ref o2), (5, .int (nI i))]) C.1.1 C.1.2.1 dL_law_1755 hl (by decide) rfl (fun ls hl => ?_)
  refine lv_aload_n C.1.1 C.1.2.1 dL_law_1757 rfl (lv_at hl 4 rfl) ?_
  refine lx_callmi C hW (mt_thrown l C.2.2.2.2.2.1 _ _ _) (cwV 0 C.1.2.2.2.2 gL_law_X7_thrown rfl rfl rfl (by decide +kernel) ⟨Nat.le_of_ble_eq_true rfl, Nat.le_of_ble_eq_true rfl⟩) rfl rfl hl.1 (Nat.le_of_ble_eq_true rfl) dL_law_1758 hcs (fun H locs hW => ?_)
  refine lv_iload C.1.1 C.1.2.1 dL_law_1761 (lv_at hl 1 rfl) ?_
  refine x_icmp_eq_t (tgt := 1768) C.1.1 C.1.2.1 dL_law_1763 (by decide) rfl ?_
  refine lv_iload C.1.1 C.1.2.1 dL_law_1768 (lv_at hl 1 rfl) ?_
  have h4 : (sp_size T D 3 (xs (i + 1))).1 ≤ 4 := sp_size_c T D (xs (i + 1)) 0 0 0 0 0 3 0
  rcases Decidable.em ((sp_size T D 3 (xs (i + 1))).1 = 0) with h0 | h0
  · refine x_if_ne_f (tgt := 1785) C.1.1 C.1.2.1 dL_law_1770 (by decide) (by rw [h0]; rfl) ?_
    obtain ⟨f9, rfl, hf9⟩ := hP
    have hf9 := hf9 h0
    refine lv_aload_n C.1.1 C.1.2.1 dL_law_1773 rfl (lv_at hl 5 rfl) ?_
    refine lv_iconst (v := nI 0) C.1.1 C.1.2.1 dL_law_1774 (by decide) ?_
    refine lx_lld C hW dL_law_1775 ?_
    refine lv_iload C.1.1 C.1.2.1 dL_law_1776 (lv_at hl 0 rfl) ?_
    refine lv_i2l (v := ((sp_size T D 3 (xs (i + 1))).2.1).toInt64) C.1.1 C.1.2.1 dL_law_1778 rfl ?_
    refine W.lcmp C.1.1 C.1.2.1 dL_law_1779 ?_
    refine x_if_eq_t (tgt := 1785) C.1.1 C.1.2.1 dL_law_1780 (by decide) (by rw [hf9]; exact lx_cmp0 _) ?_
    refine lv_goto (tgt := 3303) C.1.1 C.1.2.1 dL_law_1785 (by decide) ?_
    exact hk H locs _ _ _ _ _ _ _ hW ⟨f9, rfl, fun z => z.elim⟩ hP2 (by omega) (by omega) ls (lv_sub hl [2, 3, 4, 5, 6, 7] rfl)
  · refine x_if_ne_t (tgt := 1785) C.1.1 C.1.2.1 dL_law_1770 (by decide) (fun z => h0 (nI_inj (by omega) (by decide) z)) ?_
    refine lv_goto (tgt := 3303) C.1.1 C.1.2.1 dL_law_1785 (by decide) ?_
    exact hk H locs _ _ _ _ _ _ _ hW (oL_w hP) hP2 (by omega) (by omega) ls (lv_sub hl [2, 3, 4, 5, 6, 7] rfl)

set_option maxHeartbeats 4000000 in
set_option maxRecDepth 100000 in
theorem lx_c21 {p : Program} {l : Launch} {e : Env} {s : State} {m : MethodId} {args : Array Value} {below : List Frame} {meth : Method} {c : Code} {H : Heap} {locs : List Loc} {cells slots : Nat} {Z : State → Prop} {ls : Array Slot} {G : va_G} {kT : Nat → ClassId} {q : Nat → Nat} {a0 o1 o2 b n : Nat} {xs : Nat → Int32} {T : mT} {D : mD} {th : Int32} {e1 e2 : va_E} (C : lx_C l p s m args c G kT q o1 o2 b n xs) (hW : lx_W G kT q a0 o1 o2 T D T D th e1 e2 s H locs) (hP1 : oL kT False 0 e1) (hP2 : oD kT False 0 e2) {i : Nat} (hi : i + 6 ≤ n) (hn : n ≤ 3072) (hcs : cells + 2 ≤ room_1.cells ∧ slots + 260 ≤ room_1.slots) (hl : lv_has ls 10 (lx_l b a0 (q 0) o1 o2 i)) (hk : lx_K p l e s m args below meth c Z G kT q a0 o1 o2 b cells slots i) : W p l e room_1 s m args below meth c H locs cells slots Z (F0 m 1788 ls []) := by
  have hl : lv_has ls 10 [(0, .ref b), (1, .ref a0), (2, .ref (q 0)), (3, .ref o1), (4, .ref o2), (5, .int (nI i))] := hl
  refine lv_aload_n C.1.1 C.1.2.1 dL_law_1788 rfl (lv_at hl 1 rfl) ?_
  refine lv_aload_n C.1.1 C.1.2.1 dL_law_1789 rfl (lv_at hl 0 rfl) ?_
  refine lv_iload C.1.1 C.1.2.1 dL_law_1790 (lv_at hl 5 rfl) ?_
  refine lv_iconst (v := nI 1) C.1.1 C.1.2.1 dL_law_1792 (by decide) ?_
  refine n_iadd C.1.1 C.1.2.1 dL_law_1793 ?_
  refine lx_sld C hW.S (j := i + 1) (by omega) (by omega) dL_law_1794 ?_
  refine lv_aload_n C.1.1 C.1.2.1 dL_law_1795 rfl (lv_at hl 0 rfl) ?_
  refine lv_iload C.1.1 C.1.2.1 dL_law_1796 (lv_at hl 5 rfl) ?_
  refine lv_iconst (v := nI 2) C.1.1 C.1.2.1 dL_law_1798 (by decide) ?_
  refine n_iadd C.1.1 C.1.2.1 dL_law_1799 ?_
  refine lx_sld C hW.S (j := i + 2) (by omega) (by omega) dL_law_1800 ?_
  refine lv_aload_n C.1.1 C.1.2.1 dL_law_1801 rfl (lv_at hl 3 rfl) ?_
  have hIJ := hW.IJ
  refine lx_callw C hW hP1 (wo_arrayTake l C.2.2.2.2.2.2.2.2.2.2 hIJ.1 hIJ.2 (xs (i + 1)) (xs (i + 2))) (vx_cwSW 4 C.1.2.2.2.2 gL_law_L_arrayTake rfl rfl rfl (by decide +kernel) ⟨Nat.le_of_ble_eq_true rfl, Nat.le_of_ble_eq_true rfl⟩) rfl rfl hl.1 (Nat.le_of_ble_eq_true rfl) dL_law_1802 hcs (fun H locs e9 hW hP => ?_)
  refine lv_istore (lv' := [(6, .int (nI (sp_taken T D 3 (xs (i + 1)) (xs (i + 2))).1)), (0, .ref b), (1, .ref a0), (2, .ref (q 0)), (3, .ref o1), (4, .ref o2), (5, .int (nI i))]) C.1.1 C.1.2.1 dL_law_1805 hl (by decide) rfl (fun ls hl => ?_)
  refine lv_aload_n C.1.1 C.1.2.1 dL_law_1807 rfl (lv_at hl 3 rfl) ?_
  refine lv_aload_n C.1.1 C.1.2.1 dL_law_1808 rfl (lv_at hl 1 rfl) ?_
  refine lv_iload C.1.1 C.1.2.1 dL_law_1809 (lv_at hl 6 rfl) ?_
  refine lv_iconst (v := nI 1) C.1.1 C.1.2.1 dL_law_1811 (by decide) ?_
  refine n_iadd C.1.1 C.1.2.1 dL_law_1812 ?_
  refine lx_sld C hW.S (j := i + 1) (by omega) (by omega) dL_law_1813 ?_
  refine lv_aload_n C.1.1 C.1.2.1 dL_law_1814 rfl (lv_at hl 1 rfl) ?_
  refine lv_iload C.1.1 C.1.2.1 dL_law_1815 (lv_at hl 6 rfl) ?_
  refine lv_iconst (v := nI 2) C.1.1 C.1.2.1 dL_law_1817 (by decide) ?_
  refine n_iadd C.1.1 C.1.2.1 dL_law_1818 ?_
  refine lx_sld C hW.S (j := i + 2) (by omega) (by omega) dL_law_1819 ?_
  refine lx_callmi C hW (mo_arrayTake l C.2.2.2.2.2.1 _ _ _ hIJ.1 hIJ.2 (xs (i + 1)) (xs (i + 2))) (cwV 2 C.1.2.2.2.2 gL_law_X7_arrayTake rfl rfl rfl (by decide +kernel) ⟨Nat.le_of_ble_eq_true rfl, Nat.le_of_ble_eq_true rfl⟩) rfl rfl hl.1 (Nat.le_of_ble_eq_true rfl) dL_law_1820 hcs (fun H locs hW => ?_)
  refine lv_istore (lv' := [(7, .int ((sp_taken T D 3 (xs (i + 1)) (xs (i + 2))).2.1)), (6, .int (nI (sp_taken T D 3 (xs (i + 1)) (xs (i + 2))).1)), (0, .ref b), (1, .ref a0), (2, .ref (q 0)), (3, .ref o1), (4, .ref o2), (5, .int (nI i))]) C.1.1 C.1.2.1 dL_law_1823 hl (by decide) rfl (fun ls hl => ?_)
  refine lv_aload_n C.1.1 C.1.2.1 dL_law_1825 rfl (lv_at hl 4 rfl) ?_
  refine lx_callmi C hW (mt_thrown l C.2.2.2.2.2.1 _ _ _) (cwV 0 C.1.2.2.2.2 gL_law_X7_thrown rfl rfl rfl (by decide +kernel) ⟨Nat.le_of_ble_eq_true rfl, Nat.le_of_ble_eq_true rfl⟩) rfl rfl hl.1 (Nat.le_of_ble_eq_true rfl) dL_law_1826 hcs (fun H locs hW => ?_)
  refine lv_iload C.1.1 C.1.2.1 dL_law_1829 (lv_at hl 1 rfl) ?_
  refine x_icmp_eq_t (tgt := 1836) C.1.1 C.1.2.1 dL_law_1831 (by decide) rfl ?_
  refine lv_iload C.1.1 C.1.2.1 dL_law_1836 (lv_at hl 1 rfl) ?_
  have h4 : (sp_taken T D 3 (xs (i + 1)) (xs (i + 2))).1 ≤ 4 := sp_taken_c T D (xs (i + 1)) (xs (i + 2)) 0 0 0 0 3 0
  rcases Decidable.em ((sp_taken T D 3 (xs (i + 1)) (xs (i + 2))).1 = 0) with h0 | h0
  · refine x_if_ne_f (tgt := 1853) C.1.1 C.1.2.1 dL_law_1838 (by decide) (by rw [h0]; rfl) ?_
    obtain ⟨f9, rfl, hf9⟩ := hP
    have hf9 := hf9 h0
    refine lv_aload_n C.1.1 C.1.2.1 dL_law_1841 rfl (lv_at hl 5 rfl) ?_
    refine lv_iconst (v := nI 0) C.1.1 C.1.2.1 dL_law_1842 (by decide) ?_
    refine lx_lld C hW dL_law_1843 ?_
    refine lv_iload C.1.1 C.1.2.1 dL_law_1844 (lv_at hl 0 rfl) ?_
    refine lv_i2l (v := ((sp_taken T D 3 (xs (i + 1)) (xs (i + 2))).2.1).toInt64) C.1.1 C.1.2.1 dL_law_1846 rfl ?_
    refine W.lcmp C.1.1 C.1.2.1 dL_law_1847 ?_
    refine x_if_eq_t (tgt := 1853) C.1.1 C.1.2.1 dL_law_1848 (by decide) (by rw [hf9]; exact lx_cmp0 _) ?_
    refine lv_goto (tgt := 3303) C.1.1 C.1.2.1 dL_law_1853 (by decide) ?_
    exact hk H locs _ _ _ _ _ _ _ hW ⟨f9, rfl, fun z => z.elim⟩ hP2 (by omega) (by omega) ls (lv_sub hl [2, 3, 4, 5, 6, 7] rfl)
  · refine x_if_ne_t (tgt := 1853) C.1.1 C.1.2.1 dL_law_1838 (by decide) (fun z => h0 (nI_inj (by omega) (by decide) z)) ?_
    refine lv_goto (tgt := 3303) C.1.1 C.1.2.1 dL_law_1853 (by decide) ?_
    exact hk H locs _ _ _ _ _ _ _ hW (oL_w hP) hP2 (by omega) (by omega) ls (lv_sub hl [2, 3, 4, 5, 6, 7] rfl)

set_option maxHeartbeats 4000000 in
set_option maxRecDepth 100000 in
theorem lx_c22 {p : Program} {l : Launch} {e : Env} {s : State} {m : MethodId} {args : Array Value} {below : List Frame} {meth : Method} {c : Code} {H : Heap} {locs : List Loc} {cells slots : Nat} {Z : State → Prop} {ls : Array Slot} {G : va_G} {kT : Nat → ClassId} {q : Nat → Nat} {a0 o1 o2 b n : Nat} {xs : Nat → Int32} {T : mT} {D : mD} {th : Int32} {e1 e2 : va_E} (C : lx_C l p s m args c G kT q o1 o2 b n xs) (hW : lx_W G kT q a0 o1 o2 T D T D th e1 e2 s H locs) (hP1 : oL kT False 0 e1) (hP2 : oD kT False 0 e2) {i : Nat} (hi : i + 6 ≤ n) (hn : n ≤ 3072) (hcs : cells + 2 ≤ room_1.cells ∧ slots + 260 ≤ room_1.slots) (hl : lv_has ls 10 (lx_l b a0 (q 0) o1 o2 i)) (hk : lx_K p l e s m args below meth c Z G kT q a0 o1 o2 b cells slots i) : W p l e room_1 s m args below meth c H locs cells slots Z (F0 m 1856 ls []) := by
  have hl : lv_has ls 10 [(0, .ref b), (1, .ref a0), (2, .ref (q 0)), (3, .ref o1), (4, .ref o2), (5, .int (nI i))] := hl
  refine lv_aload_n C.1.1 C.1.2.1 dL_law_1856 rfl (lv_at hl 1 rfl) ?_
  refine lv_aload_n C.1.1 C.1.2.1 dL_law_1857 rfl (lv_at hl 0 rfl) ?_
  refine lv_iload C.1.1 C.1.2.1 dL_law_1858 (lv_at hl 5 rfl) ?_
  refine lv_iconst (v := nI 1) C.1.1 C.1.2.1 dL_law_1860 (by decide) ?_
  refine n_iadd C.1.1 C.1.2.1 dL_law_1861 ?_
  refine lx_sld C hW.S (j := i + 1) (by omega) (by omega) dL_law_1862 ?_
  refine lv_aload_n C.1.1 C.1.2.1 dL_law_1863 rfl (lv_at hl 0 rfl) ?_
  refine lv_iload C.1.1 C.1.2.1 dL_law_1864 (lv_at hl 5 rfl) ?_
  refine lv_iconst (v := nI 2) C.1.1 C.1.2.1 dL_law_1866 (by decide) ?_
  refine n_iadd C.1.1 C.1.2.1 dL_law_1867 ?_
  refine lx_sld C hW.S (j := i + 2) (by omega) (by omega) dL_law_1868 ?_
  refine lv_aload_n C.1.1 C.1.2.1 dL_law_1869 rfl (lv_at hl 3 rfl) ?_
  have hIJ := hW.IJ
  refine lx_callw C hW hP1 (wo_pour l C.2.2.2.2.2.2.2.2.2.2 hIJ.1 hIJ.2 (xs (i + 1)) (xs (i + 2))) (vx_cwSW 4 C.1.2.2.2.2 gL_law_L_pour rfl rfl rfl (by decide +kernel) ⟨Nat.le_of_ble_eq_true rfl, Nat.le_of_ble_eq_true rfl⟩) rfl rfl hl.1 (Nat.le_of_ble_eq_true rfl) dL_law_1870 hcs (fun H locs e9 hW hP => ?_)
  refine lv_istore (lv' := [(6, .int (nI (sp_pour T D (xs (i + 1)) (xs (i + 2))).1)), (0, .ref b), (1, .ref a0), (2, .ref (q 0)), (3, .ref o1), (4, .ref o2), (5, .int (nI i))]) C.1.1 C.1.2.1 dL_law_1873 hl (by decide) rfl (fun ls hl => ?_)
  refine lv_aload_n C.1.1 C.1.2.1 dL_law_1875 rfl (lv_at hl 3 rfl) ?_
  refine lv_aload_n C.1.1 C.1.2.1 dL_law_1876 rfl (lv_at hl 1 rfl) ?_
  refine lv_iload C.1.1 C.1.2.1 dL_law_1877 (lv_at hl 6 rfl) ?_
  refine lv_iconst (v := nI 1) C.1.1 C.1.2.1 dL_law_1879 (by decide) ?_
  refine n_iadd C.1.1 C.1.2.1 dL_law_1880 ?_
  refine lx_sld C hW.S (j := i + 1) (by omega) (by omega) dL_law_1881 ?_
  refine lv_aload_n C.1.1 C.1.2.1 dL_law_1882 rfl (lv_at hl 1 rfl) ?_
  refine lv_iload C.1.1 C.1.2.1 dL_law_1883 (lv_at hl 6 rfl) ?_
  refine lv_iconst (v := nI 2) C.1.1 C.1.2.1 dL_law_1885 (by decide) ?_
  refine n_iadd C.1.1 C.1.2.1 dL_law_1886 ?_
  refine lx_sld C hW.S (j := i + 2) (by omega) (by omega) dL_law_1887 ?_
  refine lx_callmi C hW (mo_pour l C.2.2.2.2.2.1 _ _ _ hIJ.1 hIJ.2 (xs (i + 1)) (xs (i + 2))) (cwV 2 C.1.2.2.2.2 gL_law_X7_pour rfl rfl rfl (by decide +kernel) ⟨Nat.le_of_ble_eq_true rfl, Nat.le_of_ble_eq_true rfl⟩) rfl rfl hl.1 (Nat.le_of_ble_eq_true rfl) dL_law_1888 hcs (fun H locs hW => ?_)
  refine lv_istore (lv' := [(7, .int ((sp_pour T D (xs (i + 1)) (xs (i + 2))).2.1)), (6, .int (nI (sp_pour T D (xs (i + 1)) (xs (i + 2))).1)), (0, .ref b), (1, .ref a0), (2, .ref (q 0)), (3, .ref o1), (4, .ref o2), (5, .int (nI i))]) C.1.1 C.1.2.1 dL_law_1891 hl (by decide) rfl (fun ls hl => ?_)
  refine lv_aload_n C.1.1 C.1.2.1 dL_law_1893 rfl (lv_at hl 4 rfl) ?_
  refine lx_callmi C hW (mt_thrown l C.2.2.2.2.2.1 _ _ _) (cwV 0 C.1.2.2.2.2 gL_law_X7_thrown rfl rfl rfl (by decide +kernel) ⟨Nat.le_of_ble_eq_true rfl, Nat.le_of_ble_eq_true rfl⟩) rfl rfl hl.1 (Nat.le_of_ble_eq_true rfl) dL_law_1894 hcs (fun H locs hW => ?_)
  refine lv_iload C.1.1 C.1.2.1 dL_law_1897 (lv_at hl 1 rfl) ?_
  refine x_icmp_eq_t (tgt := 1904) C.1.1 C.1.2.1 dL_law_1899 (by decide) rfl ?_
  refine lv_iload C.1.1 C.1.2.1 dL_law_1904 (lv_at hl 1 rfl) ?_
  have h4 : (sp_pour T D (xs (i + 1)) (xs (i + 2))).1 ≤ 4 := sp_pour_c T D (xs (i + 1)) (xs (i + 2)) 0 0 0 0 0 0
  rcases Decidable.em ((sp_pour T D (xs (i + 1)) (xs (i + 2))).1 = 0) with h0 | h0
  · refine x_if_ne_f (tgt := 1921) C.1.1 C.1.2.1 dL_law_1906 (by decide) (by rw [h0]; rfl) ?_
    obtain ⟨f9, rfl, hf9⟩ := hP
    have hf9 := hf9 h0
    refine lv_aload_n C.1.1 C.1.2.1 dL_law_1909 rfl (lv_at hl 5 rfl) ?_
    refine lv_iconst (v := nI 0) C.1.1 C.1.2.1 dL_law_1910 (by decide) ?_
    refine lx_lld C hW dL_law_1911 ?_
    refine lv_iload C.1.1 C.1.2.1 dL_law_1912 (lv_at hl 0 rfl) ?_
    refine lv_i2l (v := ((sp_pour T D (xs (i + 1)) (xs (i + 2))).2.1).toInt64) C.1.1 C.1.2.1 dL_law_1914 rfl ?_
    refine W.lcmp C.1.1 C.1.2.1 dL_law_1915 ?_
    refine x_if_eq_t (tgt := 1921) C.1.1 C.1.2.1 dL_law_1916 (by decide) (by rw [hf9]; exact lx_cmp0 _) ?_
    refine lv_goto (tgt := 3303) C.1.1 C.1.2.1 dL_law_1921 (by decide) ?_
    exact hk H locs _ _ _ _ _ _ _ hW ⟨f9, rfl, fun z => z.elim⟩ hP2 (by omega) (by omega) ls (lv_sub hl [2, 3, 4, 5, 6, 7] rfl)
  · refine x_if_ne_t (tgt := 1921) C.1.1 C.1.2.1 dL_law_1906 (by decide) (fun z => h0 (nI_inj (by omega) (by decide) z)) ?_
    refine lv_goto (tgt := 3303) C.1.1 C.1.2.1 dL_law_1921 (by decide) ?_
    exact hk H locs _ _ _ _ _ _ _ hW (oL_w hP) hP2 (by omega) (by omega) ls (lv_sub hl [2, 3, 4, 5, 6, 7] rfl)

set_option maxHeartbeats 4000000 in
set_option maxRecDepth 100000 in
theorem lx_c23 {p : Program} {l : Launch} {e : Env} {s : State} {m : MethodId} {args : Array Value} {below : List Frame} {meth : Method} {c : Code} {H : Heap} {locs : List Loc} {cells slots : Nat} {Z : State → Prop} {ls : Array Slot} {G : va_G} {kT : Nat → ClassId} {q : Nat → Nat} {a0 o1 o2 b n : Nat} {xs : Nat → Int32} {T : mT} {D : mD} {th : Int32} {e1 e2 : va_E} (C : lx_C l p s m args c G kT q o1 o2 b n xs) (hW : lx_W G kT q a0 o1 o2 T D T D th e1 e2 s H locs) (hP1 : oL kT False 0 e1) (hP2 : oD kT False 0 e2) {i : Nat} (hi : i + 6 ≤ n) (hn : n ≤ 3072) (hcs : cells + 2 ≤ room_1.cells ∧ slots + 260 ≤ room_1.slots) (hl : lv_has ls 10 (lx_l b a0 (q 0) o1 o2 i)) (hk : lx_K p l e s m args below meth c Z G kT q a0 o1 o2 b cells slots i) : W p l e room_1 s m args below meth c H locs cells slots Z (F0 m 1924 ls []) := by
  have hl : lv_has ls 10 [(0, .ref b), (1, .ref a0), (2, .ref (q 0)), (3, .ref o1), (4, .ref o2), (5, .int (nI i))] := hl
  refine lv_aload_n C.1.1 C.1.2.1 dL_law_1924 rfl (lv_at hl 1 rfl) ?_
  refine lv_aload_n C.1.1 C.1.2.1 dL_law_1925 rfl (lv_at hl 0 rfl) ?_
  refine lv_iload C.1.1 C.1.2.1 dL_law_1926 (lv_at hl 5 rfl) ?_
  refine lv_iconst (v := nI 1) C.1.1 C.1.2.1 dL_law_1928 (by decide) ?_
  refine n_iadd C.1.1 C.1.2.1 dL_law_1929 ?_
  refine lx_sld C hW.S (j := i + 1) (by omega) (by omega) dL_law_1930 ?_
  refine lv_aload_n C.1.1 C.1.2.1 dL_law_1931 rfl (lv_at hl 0 rfl) ?_
  refine lv_iload C.1.1 C.1.2.1 dL_law_1932 (lv_at hl 5 rfl) ?_
  refine lv_iconst (v := nI 2) C.1.1 C.1.2.1 dL_law_1934 (by decide) ?_
  refine n_iadd C.1.1 C.1.2.1 dL_law_1935 ?_
  refine lx_sld C hW.S (j := i + 2) (by omega) (by omega) dL_law_1936 ?_
  refine lv_aload_n C.1.1 C.1.2.1 dL_law_1937 rfl (lv_at hl 3 rfl) ?_
  have hIJ := hW.IJ
  refine lx_callw C hW hP1 (wo_pourOver l C.2.2.2.2.2.2.2.2.2.2 hIJ.1 hIJ.2 (xs (i + 1)) (xs (i + 2))) (vx_cwSW 4 C.1.2.2.2.2 gL_law_L_pourOver rfl rfl rfl (by decide +kernel) ⟨Nat.le_of_ble_eq_true rfl, Nat.le_of_ble_eq_true rfl⟩) rfl rfl hl.1 (Nat.le_of_ble_eq_true rfl) dL_law_1938 hcs (fun H locs e9 hW hP => ?_)
  refine lv_istore (lv' := [(6, .int (nI (sp_pourOver T D (xs (i + 1)) (xs (i + 2))).1)), (0, .ref b), (1, .ref a0), (2, .ref (q 0)), (3, .ref o1), (4, .ref o2), (5, .int (nI i))]) C.1.1 C.1.2.1 dL_law_1941 hl (by decide) rfl (fun ls hl => ?_)
  refine lv_aload_n C.1.1 C.1.2.1 dL_law_1943 rfl (lv_at hl 3 rfl) ?_
  refine lv_aload_n C.1.1 C.1.2.1 dL_law_1944 rfl (lv_at hl 1 rfl) ?_
  refine lv_iload C.1.1 C.1.2.1 dL_law_1945 (lv_at hl 6 rfl) ?_
  refine lv_iconst (v := nI 1) C.1.1 C.1.2.1 dL_law_1947 (by decide) ?_
  refine n_iadd C.1.1 C.1.2.1 dL_law_1948 ?_
  refine lx_sld C hW.S (j := i + 1) (by omega) (by omega) dL_law_1949 ?_
  refine lv_aload_n C.1.1 C.1.2.1 dL_law_1950 rfl (lv_at hl 1 rfl) ?_
  refine lv_iload C.1.1 C.1.2.1 dL_law_1951 (lv_at hl 6 rfl) ?_
  refine lv_iconst (v := nI 2) C.1.1 C.1.2.1 dL_law_1953 (by decide) ?_
  refine n_iadd C.1.1 C.1.2.1 dL_law_1954 ?_
  refine lx_sld C hW.S (j := i + 2) (by omega) (by omega) dL_law_1955 ?_
  refine lx_callmi C hW (mo_pourOver l C.2.2.2.2.2.1 _ _ _ hIJ.1 hIJ.2 (xs (i + 1)) (xs (i + 2))) (cwV 2 C.1.2.2.2.2 gL_law_X7_pourOver rfl rfl rfl (by decide +kernel) ⟨Nat.le_of_ble_eq_true rfl, Nat.le_of_ble_eq_true rfl⟩) rfl rfl hl.1 (Nat.le_of_ble_eq_true rfl) dL_law_1956 hcs (fun H locs hW => ?_)
  refine lv_istore (lv' := [(7, .int ((sp_pourOver T D (xs (i + 1)) (xs (i + 2))).2.1)), (6, .int (nI (sp_pourOver T D (xs (i + 1)) (xs (i + 2))).1)), (0, .ref b), (1, .ref a0), (2, .ref (q 0)), (3, .ref o1), (4, .ref o2), (5, .int (nI i))]) C.1.1 C.1.2.1 dL_law_1959 hl (by decide) rfl (fun ls hl => ?_)
  refine lv_aload_n C.1.1 C.1.2.1 dL_law_1961 rfl (lv_at hl 4 rfl) ?_
  refine lx_callmi C hW (mt_thrown l C.2.2.2.2.2.1 _ _ _) (cwV 0 C.1.2.2.2.2 gL_law_X7_thrown rfl rfl rfl (by decide +kernel) ⟨Nat.le_of_ble_eq_true rfl, Nat.le_of_ble_eq_true rfl⟩) rfl rfl hl.1 (Nat.le_of_ble_eq_true rfl) dL_law_1962 hcs (fun H locs hW => ?_)
  refine lv_iload C.1.1 C.1.2.1 dL_law_1965 (lv_at hl 1 rfl) ?_
  refine x_icmp_eq_t (tgt := 1972) C.1.1 C.1.2.1 dL_law_1967 (by decide) rfl ?_
  refine lv_iload C.1.1 C.1.2.1 dL_law_1972 (lv_at hl 1 rfl) ?_
  have h4 : (sp_pourOver T D (xs (i + 1)) (xs (i + 2))).1 ≤ 4 := sp_pourOver_c T D (xs (i + 1)) (xs (i + 2)) 0 0 0 0 0 0
  rcases Decidable.em ((sp_pourOver T D (xs (i + 1)) (xs (i + 2))).1 = 0) with h0 | h0
  · refine x_if_ne_f (tgt := 1989) C.1.1 C.1.2.1 dL_law_1974 (by decide) (by rw [h0]; rfl) ?_
    obtain ⟨f9, rfl, hf9⟩ := hP
    have hf9 := hf9 h0
    refine lv_aload_n C.1.1 C.1.2.1 dL_law_1977 rfl (lv_at hl 5 rfl) ?_
    refine lv_iconst (v := nI 0) C.1.1 C.1.2.1 dL_law_1978 (by decide) ?_
    refine lx_lld C hW dL_law_1979 ?_
    refine lv_iload C.1.1 C.1.2.1 dL_law_1980 (lv_at hl 0 rfl) ?_
    refine lv_i2l (v := ((sp_pourOver T D (xs (i + 1)) (xs (i + 2))).2.1).toInt64) C.1.1 C.1.2.1 dL_law_1982 rfl ?_
    refine W.lcmp C.1.1 C.1.2.1 dL_law_1983 ?_
    refine x_if_eq_t (tgt := 1989) C.1.1 C.1.2.1 dL_law_1984 (by decide) (by rw [hf9]; exact lx_cmp0 _) ?_
    refine lv_goto (tgt := 3303) C.1.1 C.1.2.1 dL_law_1989 (by decide) ?_
    exact hk H locs _ _ _ _ _ _ _ hW ⟨f9, rfl, fun z => z.elim⟩ hP2 (by omega) (by omega) ls (lv_sub hl [2, 3, 4, 5, 6, 7] rfl)
  · refine x_if_ne_t (tgt := 1989) C.1.1 C.1.2.1 dL_law_1974 (by decide) (fun z => h0 (nI_inj (by omega) (by decide) z)) ?_
    refine lv_goto (tgt := 3303) C.1.1 C.1.2.1 dL_law_1989 (by decide) ?_
    exact hk H locs _ _ _ _ _ _ _ hW (oL_w hP) hP2 (by omega) (by omega) ls (lv_sub hl [2, 3, 4, 5, 6, 7] rfl)

set_option maxHeartbeats 4000000 in
set_option maxRecDepth 100000 in
theorem lx_c24 {p : Program} {l : Launch} {e : Env} {s : State} {m : MethodId} {args : Array Value} {below : List Frame} {meth : Method} {c : Code} {H : Heap} {locs : List Loc} {cells slots : Nat} {Z : State → Prop} {ls : Array Slot} {G : va_G} {kT : Nat → ClassId} {q : Nat → Nat} {a0 o1 o2 b n : Nat} {xs : Nat → Int32} {T : mT} {D : mD} {th : Int32} {e1 e2 : va_E} (C : lx_C l p s m args c G kT q o1 o2 b n xs) (hW : lx_W G kT q a0 o1 o2 T D T D th e1 e2 s H locs) (hP1 : oL kT False 0 e1) (hP2 : oD kT False 0 e2) {i : Nat} (hi : i + 6 ≤ n) (hn : n ≤ 3072) (hcs : cells + 2 ≤ room_1.cells ∧ slots + 260 ≤ room_1.slots) (hl : lv_has ls 10 (lx_l b a0 (q 0) o1 o2 i)) (hk : lx_K p l e s m args below meth c Z G kT q a0 o1 o2 b cells slots i) : W p l e room_1 s m args below meth c H locs cells slots Z (F0 m 1992 ls []) := by
  have hl : lv_has ls 10 [(0, .ref b), (1, .ref a0), (2, .ref (q 0)), (3, .ref o1), (4, .ref o2), (5, .int (nI i))] := hl
  refine lv_aload_n C.1.1 C.1.2.1 dL_law_1992 rfl (lv_at hl 1 rfl) ?_
  refine lv_aload_n C.1.1 C.1.2.1 dL_law_1993 rfl (lv_at hl 0 rfl) ?_
  refine lv_iload C.1.1 C.1.2.1 dL_law_1994 (lv_at hl 5 rfl) ?_
  refine lv_iconst (v := nI 1) C.1.1 C.1.2.1 dL_law_1996 (by decide) ?_
  refine n_iadd C.1.1 C.1.2.1 dL_law_1997 ?_
  refine lx_sld C hW.S (j := i + 1) (by omega) (by omega) dL_law_1998 ?_
  refine lv_aload_n C.1.1 C.1.2.1 dL_law_1999 rfl (lv_at hl 0 rfl) ?_
  refine lv_iload C.1.1 C.1.2.1 dL_law_2000 (lv_at hl 5 rfl) ?_
  refine lv_iconst (v := nI 2) C.1.1 C.1.2.1 dL_law_2002 (by decide) ?_
  refine n_iadd C.1.1 C.1.2.1 dL_law_2003 ?_
  refine lx_sld C hW.S (j := i + 2) (by omega) (by omega) dL_law_2004 ?_
  refine lv_aload_n C.1.1 C.1.2.1 dL_law_2005 rfl (lv_at hl 3 rfl) ?_
  have hIJ := hW.IJ
  refine lx_callw C hW hP1 (wo_areLike l C.2.2.2.2.2.2.2.2.2.2 hIJ.1 hIJ.2 (xs (i + 1)) (xs (i + 2))) (vx_cwSW 4 C.1.2.2.2.2 gL_law_L_areLike rfl rfl rfl (by decide +kernel) ⟨Nat.le_of_ble_eq_true rfl, Nat.le_of_ble_eq_true rfl⟩) rfl rfl hl.1 (Nat.le_of_ble_eq_true rfl) dL_law_2006 hcs (fun H locs e9 hW hP => ?_)
  refine lv_istore (lv' := [(6, .int (nI (sp_areLike T D (xs (i + 1)) (xs (i + 2))).1)), (0, .ref b), (1, .ref a0), (2, .ref (q 0)), (3, .ref o1), (4, .ref o2), (5, .int (nI i))]) C.1.1 C.1.2.1 dL_law_2009 hl (by decide) rfl (fun ls hl => ?_)
  refine lv_aload_n C.1.1 C.1.2.1 dL_law_2011 rfl (lv_at hl 3 rfl) ?_
  refine lv_aload_n C.1.1 C.1.2.1 dL_law_2012 rfl (lv_at hl 1 rfl) ?_
  refine lv_iload C.1.1 C.1.2.1 dL_law_2013 (lv_at hl 6 rfl) ?_
  refine lv_iconst (v := nI 1) C.1.1 C.1.2.1 dL_law_2015 (by decide) ?_
  refine n_iadd C.1.1 C.1.2.1 dL_law_2016 ?_
  refine lx_sld C hW.S (j := i + 1) (by omega) (by omega) dL_law_2017 ?_
  refine lv_aload_n C.1.1 C.1.2.1 dL_law_2018 rfl (lv_at hl 1 rfl) ?_
  refine lv_iload C.1.1 C.1.2.1 dL_law_2019 (lv_at hl 6 rfl) ?_
  refine lv_iconst (v := nI 2) C.1.1 C.1.2.1 dL_law_2021 (by decide) ?_
  refine n_iadd C.1.1 C.1.2.1 dL_law_2022 ?_
  refine lx_sld C hW.S (j := i + 2) (by omega) (by omega) dL_law_2023 ?_
  refine lx_callmi C hW (mo_areLike l C.2.2.2.2.2.1 _ _ _ hIJ.1 hIJ.2 (xs (i + 1)) (xs (i + 2))) (cwV 2 C.1.2.2.2.2 gL_law_X7_areLike rfl rfl rfl (by decide +kernel) ⟨Nat.le_of_ble_eq_true rfl, Nat.le_of_ble_eq_true rfl⟩) rfl rfl hl.1 (Nat.le_of_ble_eq_true rfl) dL_law_2024 hcs (fun H locs hW => ?_)
  refine lv_istore (lv' := [(7, .int ((sp_areLike T D (xs (i + 1)) (xs (i + 2))).2.1)), (6, .int (nI (sp_areLike T D (xs (i + 1)) (xs (i + 2))).1)), (0, .ref b), (1, .ref a0), (2, .ref (q 0)), (3, .ref o1), (4, .ref o2), (5, .int (nI i))]) C.1.1 C.1.2.1 dL_law_2027 hl (by decide) rfl (fun ls hl => ?_)
  refine lv_aload_n C.1.1 C.1.2.1 dL_law_2029 rfl (lv_at hl 4 rfl) ?_
  refine lx_callmi C hW (mt_thrown l C.2.2.2.2.2.1 _ _ _) (cwV 0 C.1.2.2.2.2 gL_law_X7_thrown rfl rfl rfl (by decide +kernel) ⟨Nat.le_of_ble_eq_true rfl, Nat.le_of_ble_eq_true rfl⟩) rfl rfl hl.1 (Nat.le_of_ble_eq_true rfl) dL_law_2030 hcs (fun H locs hW => ?_)
  refine lv_iload C.1.1 C.1.2.1 dL_law_2033 (lv_at hl 1 rfl) ?_
  refine x_icmp_eq_t (tgt := 2040) C.1.1 C.1.2.1 dL_law_2035 (by decide) rfl ?_
  refine lv_iload C.1.1 C.1.2.1 dL_law_2040 (lv_at hl 1 rfl) ?_
  have h4 : (sp_areLike T D (xs (i + 1)) (xs (i + 2))).1 ≤ 4 := sp_areLike_c T D (xs (i + 1)) (xs (i + 2)) 0 0 0 0 0 0
  rcases Decidable.em ((sp_areLike T D (xs (i + 1)) (xs (i + 2))).1 = 0) with h0 | h0
  · refine x_if_ne_f (tgt := 2064) C.1.1 C.1.2.1 dL_law_2042 (by decide) (by rw [h0]; rfl) ?_
    obtain ⟨f9, rfl, hf9⟩ := hP
    have hf9 := hf9 h0
    refine lv_aload_n C.1.1 C.1.2.1 dL_law_2045 rfl (lv_at hl 5 rfl) ?_
    refine lv_iconst (v := nI 0) C.1.1 C.1.2.1 dL_law_2046 (by decide) ?_
    refine lx_lld C hW dL_law_2047 ?_
    refine lv_iload C.1.1 C.1.2.1 dL_law_2048 (lv_at hl 0 rfl) ?_
    have hv := sp_areLike_v T D (xs (i + 1)) (xs (i + 2)) h0
    rcases hv with hv | hv
    · refine x_if_eq_t (tgt := 2057) C.1.1 C.1.2.1 dL_law_2050 (by decide) hv ?_
      refine lv_lconst (v := 0) C.1.1 C.1.2.1 dL_law_2057 rfl ?_
      refine W.lcmp C.1.1 C.1.2.1 dL_law_2058 ?_
      refine x_if_eq_t (tgt := 2064) C.1.1 C.1.2.1 dL_law_2059 (by decide) ((lg_cmp_eq _ _).mpr (by rw [hf9, hv]; decide)) ?_
      refine lv_goto (tgt := 3303) C.1.1 C.1.2.1 dL_law_2064 (by decide) ?_
      exact hk H locs _ _ _ _ _ _ _ hW ⟨f9, rfl, fun z => z.elim⟩ hP2 (by omega) (by omega) ls (lv_sub hl [2, 3, 4, 5, 6, 7] rfl)
    · refine x_if_eq_f (tgt := 2057) C.1.1 C.1.2.1 dL_law_2050 (by decide) (by rw [hv]; decide) ?_
      refine lv_lconst (v := 1) C.1.1 C.1.2.1 dL_law_2053 rfl ?_
      refine lv_goto (tgt := 2058) C.1.1 C.1.2.1 dL_law_2054 (by decide) ?_
      refine W.lcmp C.1.1 C.1.2.1 dL_law_2058 ?_
      refine x_if_eq_t (tgt := 2064) C.1.1 C.1.2.1 dL_law_2059 (by decide) ((lg_cmp_eq _ _).mpr (by rw [hf9, hv]; decide)) ?_
      refine lv_goto (tgt := 3303) C.1.1 C.1.2.1 dL_law_2064 (by decide) ?_
      exact hk H locs _ _ _ _ _ _ _ hW ⟨f9, rfl, fun z => z.elim⟩ hP2 (by omega) (by omega) ls (lv_sub hl [2, 3, 4, 5, 6, 7] rfl)
  · refine x_if_ne_t (tgt := 2064) C.1.1 C.1.2.1 dL_law_2042 (by decide) (fun z => h0 (nI_inj (by omega) (by decide) z)) ?_
    refine lv_goto (tgt := 3303) C.1.1 C.1.2.1 dL_law_2064 (by decide) ?_
    exact hk H locs _ _ _ _ _ _ _ hW (oL_w hP) hP2 (by omega) (by omega) ls (lv_sub hl [2, 3, 4, 5, 6, 7] rfl)

set_option maxHeartbeats 4000000 in
set_option maxRecDepth 100000 in
theorem lx_c25 {p : Program} {l : Launch} {e : Env} {s : State} {m : MethodId} {args : Array Value} {below : List Frame} {meth : Method} {c : Code} {H : Heap} {locs : List Loc} {cells slots : Nat} {Z : State → Prop} {ls : Array Slot} {G : va_G} {kT : Nat → ClassId} {q : Nat → Nat} {a0 o1 o2 b n : Nat} {xs : Nat → Int32} {T : mT} {D : mD} {th : Int32} {e1 e2 : va_E} (C : lx_C l p s m args c G kT q o1 o2 b n xs) (hW : lx_W G kT q a0 o1 o2 T D T D th e1 e2 s H locs) (hP1 : oL kT False 0 e1) (hP2 : oD kT False 0 e2) {i : Nat} (hi : i + 6 ≤ n) (hn : n ≤ 3072) (hcs : cells + 2 ≤ room_1.cells ∧ slots + 260 ≤ room_1.slots) (hl : lv_has ls 10 (lx_l b a0 (q 0) o1 o2 i)) (hk : lx_K p l e s m args below meth c Z G kT q a0 o1 o2 b cells slots i) : W p l e room_1 s m args below meth c H locs cells slots Z (F0 m 2067 ls []) := by
  have hl : lv_has ls 10 [(0, .ref b), (1, .ref a0), (2, .ref (q 0)), (3, .ref o1), (4, .ref o2), (5, .int (nI i))] := hl
  refine lv_aload_n C.1.1 C.1.2.1 dL_law_2067 rfl (lv_at hl 1 rfl) ?_
  refine lv_aload_n C.1.1 C.1.2.1 dL_law_2068 rfl (lv_at hl 0 rfl) ?_
  refine lv_iload C.1.1 C.1.2.1 dL_law_2069 (lv_at hl 5 rfl) ?_
  refine lv_iconst (v := nI 1) C.1.1 C.1.2.1 dL_law_2071 (by decide) ?_
  refine n_iadd C.1.1 C.1.2.1 dL_law_2072 ?_
  refine lx_sld C hW.S (j := i + 1) (by omega) (by omega) dL_law_2073 ?_
  refine lv_aload_n C.1.1 C.1.2.1 dL_law_2074 rfl (lv_at hl 0 rfl) ?_
  refine lv_iload C.1.1 C.1.2.1 dL_law_2075 (lv_at hl 5 rfl) ?_
  refine lv_iconst (v := nI 2) C.1.1 C.1.2.1 dL_law_2077 (by decide) ?_
  refine n_iadd C.1.1 C.1.2.1 dL_law_2078 ?_
  refine lx_sld C hW.S (j := i + 2) (by omega) (by omega) dL_law_2079 ?_
  refine lv_aload_n C.1.1 C.1.2.1 dL_law_2080 rfl (lv_at hl 0 rfl) ?_
  refine lv_iload C.1.1 C.1.2.1 dL_law_2081 (lv_at hl 5 rfl) ?_
  refine lv_iconst (v := nI 3) C.1.1 C.1.2.1 dL_law_2083 (by decide) ?_
  refine n_iadd C.1.1 C.1.2.1 dL_law_2084 ?_
  refine lx_sld C hW.S (j := i + 3) (by omega) (by omega) dL_law_2085 ?_
  refine lv_aload_n C.1.1 C.1.2.1 dL_law_2086 rfl (lv_at hl 0 rfl) ?_
  refine lv_iload C.1.1 C.1.2.1 dL_law_2087 (lv_at hl 5 rfl) ?_
  refine lv_iconst (v := nI 4) C.1.1 C.1.2.1 dL_law_2089 (by decide) ?_
  refine n_iadd C.1.1 C.1.2.1 dL_law_2090 ?_
  refine lx_sld C hW.S (j := i + 4) (by omega) (by omega) dL_law_2091 ?_
  refine lv_aload_n C.1.1 C.1.2.1 dL_law_2092 rfl (lv_at hl 3 rfl) ?_
  have hIJ := hW.IJ
  refine lx_callw C hW hP1 (wo_open l C.2.2.2.2.2.2.2.2.2.2 hIJ.1 hIJ.2 (xs (i + 1)) (xs (i + 2)) (xs (i + 3)) (xs (i + 4))) (vx_cwSW 6 C.1.2.2.2.2 gL_law_L_open rfl rfl rfl (by decide +kernel) ⟨Nat.le_of_ble_eq_true rfl, Nat.le_of_ble_eq_true rfl⟩) rfl rfl hl.1 (Nat.le_of_ble_eq_true rfl) dL_law_2093 hcs (fun H locs e9 hW hP => ?_)
  refine lv_istore (lv' := [(6, .int (nI (sp_open T D (xs (i + 1)) (xs (i + 2)) (xs (i + 3)) (xs (i + 4))).1)), (0, .ref b), (1, .ref a0), (2, .ref (q 0)), (3, .ref o1), (4, .ref o2), (5, .int (nI i))]) C.1.1 C.1.2.1 dL_law_2096 hl (by decide) rfl (fun ls hl => ?_)
  refine lv_aload_n C.1.1 C.1.2.1 dL_law_2098 rfl (lv_at hl 3 rfl) ?_
  refine lv_aload_n C.1.1 C.1.2.1 dL_law_2099 rfl (lv_at hl 1 rfl) ?_
  refine lv_iload C.1.1 C.1.2.1 dL_law_2100 (lv_at hl 6 rfl) ?_
  refine lv_iconst (v := nI 1) C.1.1 C.1.2.1 dL_law_2102 (by decide) ?_
  refine n_iadd C.1.1 C.1.2.1 dL_law_2103 ?_
  refine lx_sld C hW.S (j := i + 1) (by omega) (by omega) dL_law_2104 ?_
  refine lv_aload_n C.1.1 C.1.2.1 dL_law_2105 rfl (lv_at hl 1 rfl) ?_
  refine lv_iload C.1.1 C.1.2.1 dL_law_2106 (lv_at hl 6 rfl) ?_
  refine lv_iconst (v := nI 2) C.1.1 C.1.2.1 dL_law_2108 (by decide) ?_
  refine n_iadd C.1.1 C.1.2.1 dL_law_2109 ?_
  refine lx_sld C hW.S (j := i + 2) (by omega) (by omega) dL_law_2110 ?_
  refine lv_aload_n C.1.1 C.1.2.1 dL_law_2111 rfl (lv_at hl 1 rfl) ?_
  refine lv_iload C.1.1 C.1.2.1 dL_law_2112 (lv_at hl 6 rfl) ?_
  refine lv_iconst (v := nI 3) C.1.1 C.1.2.1 dL_law_2114 (by decide) ?_
  refine n_iadd C.1.1 C.1.2.1 dL_law_2115 ?_
  refine lx_sld C hW.S (j := i + 3) (by omega) (by omega) dL_law_2116 ?_
  refine lv_aload_n C.1.1 C.1.2.1 dL_law_2117 rfl (lv_at hl 1 rfl) ?_
  refine lv_iload C.1.1 C.1.2.1 dL_law_2118 (lv_at hl 6 rfl) ?_
  refine lv_iconst (v := nI 4) C.1.1 C.1.2.1 dL_law_2120 (by decide) ?_
  refine n_iadd C.1.1 C.1.2.1 dL_law_2121 ?_
  refine lx_sld C hW.S (j := i + 4) (by omega) (by omega) dL_law_2122 ?_
  refine lx_callmi C hW (mo_open l C.2.2.2.2.2.1 _ _ _ hIJ.1 hIJ.2 (xs (i + 1)) (xs (i + 2)) (xs (i + 3)) (xs (i + 4))) (cwV 4 C.1.2.2.2.2 gL_law_X7_open rfl rfl rfl (by decide +kernel) ⟨Nat.le_of_ble_eq_true rfl, Nat.le_of_ble_eq_true rfl⟩) rfl rfl hl.1 (Nat.le_of_ble_eq_true rfl) dL_law_2123 hcs (fun H locs hW => ?_)
  refine lv_istore (lv' := [(7, .int ((sp_open T D (xs (i + 1)) (xs (i + 2)) (xs (i + 3)) (xs (i + 4))).2.1)), (6, .int (nI (sp_open T D (xs (i + 1)) (xs (i + 2)) (xs (i + 3)) (xs (i + 4))).1)), (0, .ref b), (1, .ref a0), (2, .ref (q 0)), (3, .ref o1), (4, .ref o2), (5, .int (nI i))]) C.1.1 C.1.2.1 dL_law_2126 hl (by decide) rfl (fun ls hl => ?_)
  refine lv_aload_n C.1.1 C.1.2.1 dL_law_2128 rfl (lv_at hl 4 rfl) ?_
  refine lx_callmi C hW (mt_thrown l C.2.2.2.2.2.1 _ _ _) (cwV 0 C.1.2.2.2.2 gL_law_X7_thrown rfl rfl rfl (by decide +kernel) ⟨Nat.le_of_ble_eq_true rfl, Nat.le_of_ble_eq_true rfl⟩) rfl rfl hl.1 (Nat.le_of_ble_eq_true rfl) dL_law_2129 hcs (fun H locs hW => ?_)
  refine lv_iload C.1.1 C.1.2.1 dL_law_2132 (lv_at hl 1 rfl) ?_
  refine x_icmp_eq_t (tgt := 2139) C.1.1 C.1.2.1 dL_law_2134 (by decide) rfl ?_
  refine lv_iload C.1.1 C.1.2.1 dL_law_2139 (lv_at hl 1 rfl) ?_
  have h4 : (sp_open T D (xs (i + 1)) (xs (i + 2)) (xs (i + 3)) (xs (i + 4))).1 ≤ 4 := sp_open_c T D (xs (i + 1)) (xs (i + 2)) (xs (i + 3)) (xs (i + 4)) 0 0 0 0
  rcases Decidable.em ((sp_open T D (xs (i + 1)) (xs (i + 2)) (xs (i + 3)) (xs (i + 4))).1 = 0) with h0 | h0
  · refine x_if_ne_f (tgt := 2156) C.1.1 C.1.2.1 dL_law_2141 (by decide) (by rw [h0]; rfl) ?_
    obtain ⟨f9, rfl, hf9⟩ := hP
    have hf9 := hf9 h0
    refine lv_aload_n C.1.1 C.1.2.1 dL_law_2144 rfl (lv_at hl 5 rfl) ?_
    refine lv_iconst (v := nI 0) C.1.1 C.1.2.1 dL_law_2145 (by decide) ?_
    refine lx_lld C hW dL_law_2146 ?_
    refine lv_iload C.1.1 C.1.2.1 dL_law_2147 (lv_at hl 0 rfl) ?_
    refine lv_i2l (v := ((sp_open T D (xs (i + 1)) (xs (i + 2)) (xs (i + 3)) (xs (i + 4))).2.1).toInt64) C.1.1 C.1.2.1 dL_law_2149 rfl ?_
    refine W.lcmp C.1.1 C.1.2.1 dL_law_2150 ?_
    refine x_if_eq_t (tgt := 2156) C.1.1 C.1.2.1 dL_law_2151 (by decide) (by rw [hf9]; exact lx_cmp0 _) ?_
    refine lv_goto (tgt := 3303) C.1.1 C.1.2.1 dL_law_2156 (by decide) ?_
    exact hk H locs _ _ _ _ _ _ _ hW ⟨f9, rfl, fun z => z.elim⟩ hP2 (by omega) (by omega) ls (lv_sub hl [2, 3, 4, 5, 6, 7] rfl)
  · refine x_if_ne_t (tgt := 2156) C.1.1 C.1.2.1 dL_law_2141 (by decide) (fun z => h0 (nI_inj (by omega) (by decide) z)) ?_
    refine lv_goto (tgt := 3303) C.1.1 C.1.2.1 dL_law_2156 (by decide) ?_
    exact hk H locs _ _ _ _ _ _ _ hW (oL_w hP) hP2 (by omega) (by omega) ls (lv_sub hl [2, 3, 4, 5, 6, 7] rfl)

set_option maxHeartbeats 4000000 in
set_option maxRecDepth 100000 in
theorem lx_c26 {p : Program} {l : Launch} {e : Env} {s : State} {m : MethodId} {args : Array Value} {below : List Frame} {meth : Method} {c : Code} {H : Heap} {locs : List Loc} {cells slots : Nat} {Z : State → Prop} {ls : Array Slot} {G : va_G} {kT : Nat → ClassId} {q : Nat → Nat} {a0 o1 o2 b n : Nat} {xs : Nat → Int32} {T : mT} {D : mD} {th : Int32} {e1 e2 : va_E} (C : lx_C l p s m args c G kT q o1 o2 b n xs) (hW : lx_W G kT q a0 o1 o2 T D T D th e1 e2 s H locs) (hP1 : oL kT False 0 e1) (hP2 : oD kT False 0 e2) {i : Nat} (hi : i + 6 ≤ n) (hn : n ≤ 3072) (hcs : cells + 2 ≤ room_1.cells ∧ slots + 260 ≤ room_1.slots) (hl : lv_has ls 10 (lx_l b a0 (q 0) o1 o2 i)) (hk : lx_K p l e s m args below meth c Z G kT q a0 o1 o2 b cells slots i) : W p l e room_1 s m args below meth c H locs cells slots Z (F0 m 2159 ls []) := by
  have hl : lv_has ls 10 [(0, .ref b), (1, .ref a0), (2, .ref (q 0)), (3, .ref o1), (4, .ref o2), (5, .int (nI i))] := hl
  refine lv_aload_n C.1.1 C.1.2.1 dL_law_2159 rfl (lv_at hl 1 rfl) ?_
  refine lv_aload_n C.1.1 C.1.2.1 dL_law_2160 rfl (lv_at hl 0 rfl) ?_
  refine lv_iload C.1.1 C.1.2.1 dL_law_2161 (lv_at hl 5 rfl) ?_
  refine lv_iconst (v := nI 1) C.1.1 C.1.2.1 dL_law_2163 (by decide) ?_
  refine n_iadd C.1.1 C.1.2.1 dL_law_2164 ?_
  refine lx_sld C hW.S (j := i + 1) (by omega) (by omega) dL_law_2165 ?_
  refine lv_aload_n C.1.1 C.1.2.1 dL_law_2166 rfl (lv_at hl 0 rfl) ?_
  refine lv_iload C.1.1 C.1.2.1 dL_law_2167 (lv_at hl 5 rfl) ?_
  refine lv_iconst (v := nI 2) C.1.1 C.1.2.1 dL_law_2169 (by decide) ?_
  refine n_iadd C.1.1 C.1.2.1 dL_law_2170 ?_
  refine lx_sld C hW.S (j := i + 2) (by omega) (by omega) dL_law_2171 ?_
  refine lv_aload_n C.1.1 C.1.2.1 dL_law_2172 rfl (lv_at hl 3 rfl) ?_
  have hIJ := hW.IJ
  refine lx_callw C hW hP1 (wo_openAll l C.2.2.2.2.2.2.2.2.2.2 hIJ.1 hIJ.2 (xs (i + 1)) (xs (i + 2))) (vx_cwSW 4 C.1.2.2.2.2 gL_law_L_openAll rfl rfl rfl (by decide +kernel) ⟨Nat.le_of_ble_eq_true rfl, Nat.le_of_ble_eq_true rfl⟩) rfl rfl hl.1 (Nat.le_of_ble_eq_true rfl) dL_law_2173 hcs (fun H locs e9 hW hP => ?_)
  refine lv_istore (lv' := [(6, .int (nI (sp_openAll T D (xs (i + 1)) (xs (i + 2))).1)), (0, .ref b), (1, .ref a0), (2, .ref (q 0)), (3, .ref o1), (4, .ref o2), (5, .int (nI i))]) C.1.1 C.1.2.1 dL_law_2176 hl (by decide) rfl (fun ls hl => ?_)
  refine lv_aload_n C.1.1 C.1.2.1 dL_law_2178 rfl (lv_at hl 3 rfl) ?_
  refine lv_aload_n C.1.1 C.1.2.1 dL_law_2179 rfl (lv_at hl 1 rfl) ?_
  refine lv_iload C.1.1 C.1.2.1 dL_law_2180 (lv_at hl 6 rfl) ?_
  refine lv_iconst (v := nI 1) C.1.1 C.1.2.1 dL_law_2182 (by decide) ?_
  refine n_iadd C.1.1 C.1.2.1 dL_law_2183 ?_
  refine lx_sld C hW.S (j := i + 1) (by omega) (by omega) dL_law_2184 ?_
  refine lv_aload_n C.1.1 C.1.2.1 dL_law_2185 rfl (lv_at hl 1 rfl) ?_
  refine lv_iload C.1.1 C.1.2.1 dL_law_2186 (lv_at hl 6 rfl) ?_
  refine lv_iconst (v := nI 2) C.1.1 C.1.2.1 dL_law_2188 (by decide) ?_
  refine n_iadd C.1.1 C.1.2.1 dL_law_2189 ?_
  refine lx_sld C hW.S (j := i + 2) (by omega) (by omega) dL_law_2190 ?_
  refine lx_callmi C hW (mo_openAll l C.2.2.2.2.2.1 _ _ _ hIJ.1 hIJ.2 (xs (i + 1)) (xs (i + 2))) (cwV 2 C.1.2.2.2.2 gL_law_X7_openAll rfl rfl rfl (by decide +kernel) ⟨Nat.le_of_ble_eq_true rfl, Nat.le_of_ble_eq_true rfl⟩) rfl rfl hl.1 (Nat.le_of_ble_eq_true rfl) dL_law_2191 hcs (fun H locs hW => ?_)
  refine lv_istore (lv' := [(7, .int ((sp_openAll T D (xs (i + 1)) (xs (i + 2))).2.1)), (6, .int (nI (sp_openAll T D (xs (i + 1)) (xs (i + 2))).1)), (0, .ref b), (1, .ref a0), (2, .ref (q 0)), (3, .ref o1), (4, .ref o2), (5, .int (nI i))]) C.1.1 C.1.2.1 dL_law_2194 hl (by decide) rfl (fun ls hl => ?_)
  refine lv_aload_n C.1.1 C.1.2.1 dL_law_2196 rfl (lv_at hl 4 rfl) ?_
  refine lx_callmi C hW (mt_thrown l C.2.2.2.2.2.1 _ _ _) (cwV 0 C.1.2.2.2.2 gL_law_X7_thrown rfl rfl rfl (by decide +kernel) ⟨Nat.le_of_ble_eq_true rfl, Nat.le_of_ble_eq_true rfl⟩) rfl rfl hl.1 (Nat.le_of_ble_eq_true rfl) dL_law_2197 hcs (fun H locs hW => ?_)
  refine lv_iload C.1.1 C.1.2.1 dL_law_2200 (lv_at hl 1 rfl) ?_
  refine x_icmp_eq_t (tgt := 2207) C.1.1 C.1.2.1 dL_law_2202 (by decide) rfl ?_
  refine lv_iload C.1.1 C.1.2.1 dL_law_2207 (lv_at hl 1 rfl) ?_
  have h4 : (sp_openAll T D (xs (i + 1)) (xs (i + 2))).1 ≤ 4 := sp_openAll_c T D (xs (i + 1)) (xs (i + 2)) 0 0 0 0 0 0
  rcases Decidable.em ((sp_openAll T D (xs (i + 1)) (xs (i + 2))).1 = 0) with h0 | h0
  · refine x_if_ne_f (tgt := 2224) C.1.1 C.1.2.1 dL_law_2209 (by decide) (by rw [h0]; rfl) ?_
    obtain ⟨f9, rfl, hf9⟩ := hP
    have hf9 := hf9 h0
    refine lv_aload_n C.1.1 C.1.2.1 dL_law_2212 rfl (lv_at hl 5 rfl) ?_
    refine lv_iconst (v := nI 0) C.1.1 C.1.2.1 dL_law_2213 (by decide) ?_
    refine lx_lld C hW dL_law_2214 ?_
    refine lv_iload C.1.1 C.1.2.1 dL_law_2215 (lv_at hl 0 rfl) ?_
    refine lv_i2l (v := ((sp_openAll T D (xs (i + 1)) (xs (i + 2))).2.1).toInt64) C.1.1 C.1.2.1 dL_law_2217 rfl ?_
    refine W.lcmp C.1.1 C.1.2.1 dL_law_2218 ?_
    refine x_if_eq_t (tgt := 2224) C.1.1 C.1.2.1 dL_law_2219 (by decide) (by rw [hf9]; exact lx_cmp0 _) ?_
    refine lv_goto (tgt := 3303) C.1.1 C.1.2.1 dL_law_2224 (by decide) ?_
    exact hk H locs _ _ _ _ _ _ _ hW ⟨f9, rfl, fun z => z.elim⟩ hP2 (by omega) (by omega) ls (lv_sub hl [2, 3, 4, 5, 6, 7] rfl)
  · refine x_if_ne_t (tgt := 2224) C.1.1 C.1.2.1 dL_law_2209 (by decide) (fun z => h0 (nI_inj (by omega) (by decide) z)) ?_
    refine lv_goto (tgt := 3303) C.1.1 C.1.2.1 dL_law_2224 (by decide) ?_
    exact hk H locs _ _ _ _ _ _ _ hW (oL_w hP) hP2 (by omega) (by omega) ls (lv_sub hl [2, 3, 4, 5, 6, 7] rfl)
