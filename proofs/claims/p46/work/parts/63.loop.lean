/-! behind an act; the loop -/
def px_H (p : Program) (l : Launch) (e : Env) (s : State) (m : MethodId) (args : Array Value) (below : List Frame) (meth : Method) (c : Code) (Z : State → Prop) (G : va_G) (kT : Nat → ClassId) (a0 o1 o2 b en k cells slots : Nat) : Prop :=
  ∀ (H : Heap) (locs : List Loc) (T : mT) (D : mD) (f g : Nat → Int32) (n pl mk cells2 slots2 : Nat), px_W G kT a0 o1 o2 T D f g s H locs → jJ T D f g n pl mk en → n ≤ 200 → cells2 ≤ cells → slots2 ≤ slots → ∀ ls : Array Slot, lv_has ls 16 (px_l b a0 o1 o2 n en pl mk k) → W p l e room_1 s m args below meth c H locs cells2 slots2 Z (F0 m 101 ls [])
def px_E (p : Program) (l : Launch) (e : Env) (s : State) (m : MethodId) (args : Array Value) (below : List Frame) (meth : Method) (c : Code) (Z : State → Prop) (G : va_G) (kT : Nat → ClassId) (a0 o1 o2 b en : Nat) : Prop :=
  ∀ (H : Heap) (locs : List Loc) (T : mT) (D : mD) (f g : Nat → Int32) (n pl mk cells2 slots2 : Nat), px_W G kT a0 o1 o2 T D f g s H locs → jJ T D f g n pl mk en → n ≤ 200 → cells2 ≤ 1200 → slots2 ≤ 120000 → ∀ ls : Array Slot, lv_has ls 16 (px_l b a0 o1 o2 n en pl mk 56) → W p l e room_1 s m args below meth c H locs cells2 slots2 Z (F0 m 611 ls [])
def px_Z (p : Program) (l : Launch) (e : Env) (s : State) (m : MethodId) (args : Array Value) (below : List Frame) (meth : Method) (c : Code) (Z : State → Prop) : Prop :=
  ∀ (H : Heap) (locs : List Loc) (ls : Array Slot) (cells slots : Nat), va_S (lx_A s) s.heap H locs → cells ≤ 600258 → slots ≤ 7292778 → W p l e room_1 s m args below meth c H locs cells slots Z (F0 m 785 ls [.int (nI 1)])

set_option maxHeartbeats 4000000 in
set_option maxRecDepth 100000 in
theorem px_t {p : Program} {l : Launch} {e : Env} {s : State} {m : MethodId} {args : Array Value} {below : List Frame} {meth : Method} {c : Code} {H : Heap} {locs : List Loc} {cells slots : Nat} {Z : State → Prop} {ls : Array Slot} {G : va_G} {kT : Nat → ClassId} {a0 o1 o2 b n9 : Nat} {xs : Nat → Int32} {T : mT} {D : mD} {f g : Nat → Int32} {n pl mk en k : Nat} (C : px_C l p s m args c G kT o1 o2 b n9 xs) (hW : px_W G kT a0 o1 o2 T D f g s H locs) (hJ : jJ T D f g n pl mk en) (hn : n ≤ 208) (hk9 : k < 56) (hcs : cells + 6 ≤ room_1.cells ∧ slots + 780 ≤ room_1.slots) (hl : lv_has ls 16 (px_l b a0 o1 o2 n en pl mk k)) (hk : px_H p l e s m args below meth c Z G kT a0 o1 o2 b en (k + 1) (cells + 6) (slots + 780)) : W p l e room_1 s m args below meth c H locs cells slots Z (F0 m 569 ls []) := by
  have hl : lv_has ls 16 [(0, .ref b), (1, .ref a0), (2, .ref o1), (3, .ref o2), (4, .int (nI n)), (6, .int (nI en)), (7, .int (nI pl)), (8, .int (nI mk)), (9, .int (nI k))] := hl
  refine lv_aload_n C.1.1 C.1.2.1 dL_law_569 rfl (lv_at hl 1 rfl) ?_
  refine lv_iconst (v := nI 0) C.1.1 C.1.2.1 dL_law_570 (by decide) ?_
  refine lv_iconst (v := nI 0) C.1.1 C.1.2.1 dL_law_571 (by decide) ?_
  refine px_call C hW (wx_areLike l C.2.2.2.2.2.2.2.2.1 (w := 0) (v := 0) (by decide) (by decide) hJ.like) (vx_cwSW 3 C.1.2.2.2.2 gL_law_L_areLike rfl rfl rfl (by decide +kernel) ⟨Nat.le_of_ble_eq_true rfl, Nat.le_of_ble_eq_true rfl⟩) rfl rfl hl.1 (Nat.le_of_ble_eq_true rfl) dL_law_572 ⟨by omega, by omega⟩ (fun H locs hW => ?_)
  refine lv_lconst (v := lN 1) C.1.1 C.1.2.1 dL_law_575 rfl ?_
  refine W.lcmp C.1.1 C.1.2.1 dL_law_576 ?_
  refine x_if_eq_t (tgt := 582) C.1.1 C.1.2.1 dL_law_577 (by decide) ((lg_cmp_eq _ _).mpr (by decide)) ?_
  rcases Decidable.em (n ≤ 200) with hx | hx
  · skip
    refine lv_iload C.1.1 C.1.2.1 dL_law_582 (lv_at hl 4 rfl) ?_
    refine lv_sipush (v := nI 200) C.1.1 C.1.2.1 dL_law_584 (by decide) ?_
    refine n_icmp_le_t (tgt := 605) C.1.1 C.1.2.1 dL_law_587 (by decide) (hx) (by omega) (by omega) ?_
    refine lv_iinc (v := nI (k + 1)) (lv' := [(9, .int (nI (k + 1))), (0, .ref b), (1, .ref a0), (2, .ref o1), (3, .ref o2), (4, .int (nI n)), (6, .int (nI en)), (7, .int (nI pl)), (8, .int (nI mk))]) C.1.1 C.1.2.1 dL_law_605 hl (k := 8) rfl (nI_1 _) (by decide) rfl (fun ls hl => ?_)
    refine lv_goto (tgt := 101) C.1.1 C.1.2.1 dL_law_608 (by decide) ?_
    exact hk H locs _ _ _ _ _ _ _ _ _ hW (hJ) (hx) (by omega) (by omega) ls (lv_sub hl [1, 2, 3, 4, 5, 6, 7, 8, 0] rfl)
  · skip
    refine lv_iload C.1.1 C.1.2.1 dL_law_582 (lv_at hl 4 rfl) ?_
    refine lv_sipush (v := nI 200) C.1.1 C.1.2.1 dL_law_584 (by decide) ?_
    refine n_icmp_le_f (tgt := 605) C.1.1 C.1.2.1 dL_law_587 (by decide) (hx) (by omega) (by omega) ?_
    refine lv_aload_n C.1.1 C.1.2.1 dL_law_590 rfl (lv_at hl 1 rfl) ?_
    refine lv_iconst (v := nI 0) C.1.1 C.1.2.1 dL_law_591 (by decide) ?_
    refine px_call C hW (wx_begin l C.2.2.2.2.2.2.2.2.1 (w := 0) (by decide)) (vx_cwSW 2 C.1.2.2.2.2 gL_law_L_begin rfl rfl rfl (by decide +kernel) ⟨Nat.le_of_ble_eq_true rfl, Nat.le_of_ble_eq_true rfl⟩) rfl rfl hl.1 (Nat.le_of_ble_eq_true rfl) dL_law_592 ⟨by omega, by omega⟩ (fun H locs hW => ?_)
    refine lv_pop2_2 C.1.1 C.1.2.1 dL_law_595 rfl ?_
    refine lv_aload_n C.1.1 C.1.2.1 dL_law_596 rfl (lv_at hl 1 rfl) ?_
    refine lv_iconst (v := nI 0) C.1.1 C.1.2.1 dL_law_597 (by decide) ?_
    refine px_call C hW (wx_empty l C.2.2.2.2.2.2.2.2.1 (w := 0) (by decide)) (vx_cwSW 2 C.1.2.2.2.2 gL_law_L_empty rfl rfl rfl (by decide +kernel) ⟨Nat.le_of_ble_eq_true rfl, Nat.le_of_ble_eq_true rfl⟩) rfl rfl hl.1 (Nat.le_of_ble_eq_true rfl) dL_law_598 ⟨by omega, by omega⟩ (fun H locs hW => ?_)
    refine lv_pop2_2 C.1.1 C.1.2.1 dL_law_601 rfl ?_
    refine lv_iconst (v := nI 0) C.1.1 C.1.2.1 dL_law_602 (by decide) ?_
    refine lv_istore (lv' := [(4, .int (nI 0)), (0, .ref b), (1, .ref a0), (2, .ref o1), (3, .ref o2), (6, .int (nI en)), (7, .int (nI pl)), (8, .int (nI mk)), (9, .int (nI k))]) C.1.1 C.1.2.1 dL_law_603 hl (by decide) rfl (fun ls hl => ?_)
    refine lv_iinc (v := nI (k + 1)) (lv' := [(9, .int (nI (k + 1))), (4, .int (nI 0)), (0, .ref b), (1, .ref a0), (2, .ref o1), (3, .ref o2), (6, .int (nI en)), (7, .int (nI pl)), (8, .int (nI mk))]) C.1.1 C.1.2.1 dL_law_605 hl (k := 8) rfl (nI_1 _) (by decide) rfl (fun ls hl => ?_)
    refine lv_goto (tgt := 101) C.1.1 C.1.2.1 dL_law_608 (by decide) ?_
    exact hk H locs _ _ _ _ _ _ _ _ _ hW (hJ.none) (Nat.zero_le _) (by omega) (by omega) ls (lv_sub hl [2, 3, 4, 5, 1, 6, 7, 8, 0] rfl)

set_option maxHeartbeats 4000000 in
set_option maxRecDepth 100000 in
theorem px_loop {p : Program} {l : Launch} {e : Env} {s : State} {m : MethodId} {args : Array Value} {below : List Frame} {meth : Method} {c : Code} {Z : State → Prop} {G : va_G} {kT : Nat → ClassId} {a0 o1 o2 b n9 : Nat} {xs : Nat → Int32} {en : Nat} (C : px_C l p s m args c G kT o1 o2 b n9 xs) (hEnd : px_E p l e s m args below meth c Z G kT a0 o1 o2 b en) : ∀ d k : Nat, k + d = 56 → px_H p l e s m args below meth c Z G kT a0 o1 o2 b en k (400 + 12 * k) (20000 + 1560 * k) := by
  intro d
  induction d with
  | zero =>
    intro k hk
    obtain rfl : k = 56 := by omega
    intro H locs T D f g n pl mk cells slots hW hJ hn hc hs ls hl
    have hl : lv_has ls 16 [(0, .ref b), (1, .ref a0), (2, .ref o1), (3, .ref o2), (4, .int (nI n)), (6, .int (nI en)), (7, .int (nI pl)), (8, .int (nI mk)), (9, .int (nI 56))] := hl
    refine lv_iload C.1.1 C.1.2.1 dL_law_101 (lv_at hl 8 rfl) ?_
    refine lv_bipush (v := nI 56) C.1.1 C.1.2.1 dL_law_103 (by decide) ?_
    refine n_icmp_ge_t (tgt := 611) C.1.1 C.1.2.1 dL_law_105 (by decide) (by omega) (by omega) (by omega) ?_
    exact hEnd H locs T D f g n pl mk cells slots hW hJ hn (by omega) (by omega) ls hl
  | succ d ih =>
    intro k hk H locs T D f g n pl mk cells slots hW hJ hn hc hs ls hl
    have hrc : 600258 ≤ room_1.cells := Nat.le_of_ble_eq_true rfl
    have hrs : 7292778 ≤ room_1.slots := Nat.le_of_ble_eq_true rfl
    have hl : lv_has ls 16 [(0, .ref b), (1, .ref a0), (2, .ref o1), (3, .ref o2), (4, .int (nI n)), (6, .int (nI en)), (7, .int (nI pl)), (8, .int (nI mk)), (9, .int (nI k))] := hl
    refine lv_iload C.1.1 C.1.2.1 dL_law_101 (lv_at hl 8 rfl) ?_
    refine lv_bipush (v := nI 56) C.1.1 C.1.2.1 dL_law_103 (by decide) ?_
    refine n_icmp_ge_f (tgt := 611) C.1.1 C.1.2.1 dL_law_105 (by decide) (by omega) (by omega) (by omega) ?_
    refine lv_aload_n C.1.1 C.1.2.1 dL_law_108 rfl (lv_at hl 0 rfl) ?_
    refine lv_iconst (v := nI 2) C.1.1 C.1.2.1 dL_law_109 (by decide) ?_
    refine lv_iload C.1.1 C.1.2.1 dL_law_110 (lv_at hl 8 rfl) ?_
    refine n_iadd C.1.1 C.1.2.1 dL_law_112 ?_
    refine px_cell C.1 C.2.2.2.1 C.2.2.2.2.1 C.2.2.2.2.2.2.2.2.2 hW.S (by omega) (va_cwS 2 C.1.2.2.2.2 gL_law_L_cell rfl rfl rfl (by decide +kernel) ⟨Nat.le_of_ble_eq_true rfl, Nat.le_of_ble_eq_true rfl⟩) hl.1 (Nat.le_of_ble_eq_true rfl) dL_law_113 ⟨by omega, by omega⟩ (fun x H9 locs9 hz9 hk9 hS9 => ?_)
    have hW := hW.kept hk9 hS9
    refine lv_sipush (v := nI 7919) C.1.1 C.1.2.1 dL_law_116 (by decide) ?_
    refine lv_iload C.1.1 C.1.2.1 dL_law_119 (lv_at hl 8 rfl) ?_
    refine n_imul C.1.1 C.1.2.1 dL_law_121 ?_
    refine lv_iadd C.1.1 C.1.2.1 dL_law_122 ?_
    refine lv_ldc C.1.1 C.1.2.1 C.1.2.2.2.1 (C.1.2.2.2.2 (.constant RL 119 (100000000)) (wl_4)) dL_law_123 ?_
    refine n_cv (y := nI 100000000) (rfl) ?_
    refine px_chosen C.1 hW.S (by decide) (by decide) (va_cwS 2 C.1.2.2.2.2 gL_law_L_chosen rfl rfl rfl (by decide +kernel) ⟨Nat.le_of_ble_eq_true rfl, Nat.le_of_ble_eq_true rfl⟩) hl.1 (Nat.le_of_ble_eq_true rfl) dL_law_125 ⟨by omega, by omega⟩ (fun j H9 locs9 hj hz9 hk9 hS9 => ?_)
    have hW := hW.kept hk9 hS9
    refine lv_istore (lv' := [(10, .int (nI j)), (0, .ref b), (1, .ref a0), (2, .ref o1), (3, .ref o2), (4, .int (nI n)), (6, .int (nI en)), (7, .int (nI pl)), (8, .int (nI mk)), (9, .int (nI k))]) C.1.1 C.1.2.1 dL_law_128 hl (by decide) rfl (fun ls hl => ?_)
    refine lv_iload C.1.1 C.1.2.1 dL_law_130 (lv_at hl 0 rfl) ?_
    refine lv_bipush (v := nI 8) C.1.1 C.1.2.1 dL_law_132 (by decide) ?_
    refine lv_idiv C.1.1 C.1.2.1 dL_law_134 (by decide) ?_
    refine n_cv (y := nI (j / 8)) (pk_div (by omega) (by decide) (by decide)) ?_
    refine lv_istore (lv' := [(11, .int (nI (j / 8))), (10, .int (nI j)), (0, .ref b), (1, .ref a0), (2, .ref o1), (3, .ref o2), (4, .int (nI n)), (6, .int (nI en)), (7, .int (nI pl)), (8, .int (nI mk)), (9, .int (nI k))]) C.1.1 C.1.2.1 dL_law_135 hl (by decide) rfl (fun ls hl => ?_)
    refine lv_iload C.1.1 C.1.2.1 dL_law_137 (lv_at hl 1 rfl) ?_
    refine lv_bipush (v := nI 8) C.1.1 C.1.2.1 dL_law_139 (by decide) ?_
    refine lv_irem C.1.1 C.1.2.1 dL_law_141 (by decide) ?_
    refine n_cv (y := nI (j % 8)) (pk_rem (by omega) (by decide) (by decide)) ?_
    have hl : lv_has ls 16 ((11, .int (nI (j / 8))) :: px_l b a0 o1 o2 n en pl mk k) := lv_sub hl [0, 2, 3, 4, 5, 6, 7, 8, 9, 10] rfl
    have hk9 : px_K p l e s m args below meth c Z G kT a0 o1 o2 b en k cells slots := fun H locs T D f g n pl mk c2 s2 hW hJ hn hc2 hs2 ls hl => px_t C hW hJ hn (by omega) ⟨by omega, by omega⟩ hl (fun H locs T D f g n pl mk c3 s3 hW hJ hn hc3 hs3 ls hl => ih (k + 1) (by omega) H locs T D f g n pl mk c3 s3 hW hJ hn (by omega) (by omega) ls hl)
    rcases (show j % 8 = 0 ∨ j % 8 = 1 ∨ j % 8 = 2 ∨ j % 8 = 3 ∨ j % 8 = 4 ∨ j % 8 = 5 ∨ 5 < j % 8 by omega) with hx | hx | hx | hx | hx | hx | hx
    · rw [hx]
      exact lv_tableIn (x := nI 0) (off := 38) (tgt := 180) C.1.1 C.1.2.1 dL_law_142 (by decide) (by decide) (by decide +kernel) (by decide) (px_c0 C hW hJ hn (by omega) ⟨by omega, by omega⟩ hl hk9)
    · rw [hx]
      exact lv_tableIn (x := nI 1) (off := 38) (tgt := 180) C.1.1 C.1.2.1 dL_law_142 (by decide) (by decide) (by decide +kernel) (by decide) (px_c0 C hW hJ hn (by omega) ⟨by omega, by omega⟩ hl hk9)
    · rw [hx]
      exact lv_tableIn (x := nI 2) (off := 88) (tgt := 230) C.1.1 C.1.2.1 dL_law_142 (by decide) (by decide) (by decide +kernel) (by decide) (px_c2 C hW hJ hn (by omega) ⟨by omega, by omega⟩ hl hk9)
    · rw [hx]
      exact lv_tableIn (x := nI 3) (off := 129) (tgt := 271) C.1.1 C.1.2.1 dL_law_142 (by decide) (by decide) (by decide +kernel) (by decide) (px_c3 C hW hJ hn (by omega) ⟨by omega, by omega⟩ hl hk9)
    · rw [hx]
      exact lv_tableIn (x := nI 4) (off := 181) (tgt := 323) C.1.1 C.1.2.1 dL_law_142 (by decide) (by decide) (by decide +kernel) (by decide) (px_c4 C hW hJ hn (by omega) ⟨by omega, by omega⟩ hl hk9)
    · rw [hx]
      exact lv_tableIn (x := nI 5) (off := 207) (tgt := 349) C.1.1 C.1.2.1 dL_law_142 (by decide) (by decide) (by decide +kernel) (by decide) (px_c5 C hW hJ hn (by omega) ⟨by omega, by omega⟩ hl hk9)
    · exact lv_tableOut (tgt := 373) C.1.1 C.1.2.1 dL_law_142 (Or.inr (by rw [nI_toInt (by omega)]; omega)) (by decide) (px_c6 C hW hJ hn (by omega) ⟨by omega, by omega⟩ hl hk9)
