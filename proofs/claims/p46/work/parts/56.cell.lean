/-! the law's own helpers: cell (some int), chosen (below its bound) -/
section CEL
variable {l : Launch} {y : MethodName} {ws ws2 : List Cond} {rm : Room} {as : List Value} {maxL : Nat} {cc : ByteArray}
theorem pst {P0 : State → Prop} {Qv : Int32 → Prop} (hy : plainName y.cls = true) (hw : ws = Cond.code y cc maxL (some .int) :: ws2) (hlen : (lg_sl as).length ≤ maxL)
    (body : ∀ (p : Program) (e : Env) (s : State) (m : MethodId) (args : Array Value) (below : List Frame) (meth : Method) (c : Code) (Z : State → Prop), (∀ (pc : Nat) (ls : Array Slot) (v : Int32), Qv v → decode cc pc = .ok (.ireturn, 1) → W p l e rm s m args below meth c s.heap [] 0 0 Z (F0 m pc ls [.int v])) → CallFix p m c cc maxL s args ws y.cls → P0 s → ∀ ls : Array Slot, lv_has ls maxL (lv_args 0 as) → W p l e rm s m args below meth c s.heap [] 0 0 Z (F0 m 0 ls [])) (sz : Nat) : Met l y ws rm (va_Pc as (fun U => U.heap.size = sz ∧ P0 U)) (va_Qi (fun (v : Int32) (_ : Unit) => Qv v) (fun _ _ => True) (fun a => sz ≤ a)) 0 0 (fun a => sz ≤ a) := by
  refine Met.ofW (cc := cc) (maxL := maxL) (ret := some .int) hy hw ?_
  intro p e s m args below meth c s₁ B hml hv
  obtain ⟨rfl, hsz, h0⟩ := hv
  subst hsz
  have hl := lv_entry as (n := maxL) hlen
  rw [lg_entry_eq]
  have X : CallFix p m c cc maxL s _ ws y.cls := ⟨B.exec, B.bytes, hml, findClass_of_methodNamed B.named, atoms_spec (ws := ws) B.pre⟩
  refine body p e s m _ below meth c _ (fun pc ls v hv hdg => ?_) X h0 _ hl
  exact W.zret (v := v) X.1 X.2.1 B.returns rfl (fun t ht hWm => ⟨⟨v, (), rfl, hv, trivial⟩, (va_S.rf (A := fun a => s.heap.size ≤ a)).F ht⟩) (fun q hq => absurd hq List.not_mem_nil) hdg B.notSynchronized
end CEL
set_option maxHeartbeats 4000000 in
set_option maxRecDepth 100000 in
theorem w_chosen (l : Launch) {x : Int32} {n : Nat} (h0 : 0 < n) (hn : n < 2 ^ 31) (sz : Nat) : Met l yL_chosen wsL_chosen ({ frames := 0, cells := 0, slots := 0, locals := 0 } : Room) (va_Pc [.int x, .int (nI n)] (fun U => U.heap.size = sz ∧ True)) (va_Qi (fun (v : Int32) (_ : Unit) => ∃ j : Nat, j < n ∧ v = nI j) (fun _ _ => True) (fun a => sz ≤ a)) 0 0 (fun a => sz ≤ a) := by
  refine pst (cc := cL_chosen) (maxL := 2) (P0 := fun _ => True) (by decide) rfl (Nat.le_of_ble_eq_true rfl) (fun p e s m args below meth c Z hE X _ ls hl => ?_) sz
  have X : CallFix p m c cL_chosen 2 s args wsL_chosen RL := X
  have hl : lv_has ls 2 [(0, .int x), (1, .int (nI n))] := hl
  refine lv_iload_n X.1 X.2.1 dL_chosen_0 rfl (lv_at hl 0 rfl) ?_
  refine lv_ldc X.1 X.2.1 X.2.2.2.1 (X.2.2.2.2 (.constant RL 10 (2147483647)) (List.mem_cons_of_mem _ (List.mem_of_getElem? (i := 0) rfl))) dL_chosen_1 ?_
  refine lv_iand X.1 X.2.1 dL_chosen_3 ?_
  obtain ⟨j, hj, e9⟩ := pk_andE x (m := 2147483647) 31 (by decide)
  refine n_cv (y := nI j) e9 ?_
  refine lv_iload_n X.1 X.2.1 dL_chosen_4 rfl (lv_at hl 1 rfl) ?_
  refine lv_irem X.1 X.2.1 dL_chosen_5 (fun z => by have := nI_inj hn (by decide) (show nI n = nI 0 from z); omega) ?_
  refine n_cv (y := nI (j % n)) (pk_rem (by omega) h0 hn) ?_
  exact hE _ _ _ ⟨j % n, Nat.mod_lt _ h0, rfl⟩ dL_chosen_6
set_option maxHeartbeats 4000000 in
set_option maxRecDepth 100000 in
theorem w_cell (l : Launch) {b n : Nat} {xs : Nat → Int32} {k : Nat} (hk : k < 2 ^ 30) (hn : n < 2 ^ 31) (sz : Nat) : Met l yL_cell wsL_cell ({ frames := 0, cells := 0, slots := 0, locals := 0 } : Room) (va_Pc [.ref b, .int (nI k)] (fun U => U.heap.size = sz ∧ va_X b n xs U U.heap ∧ b < U.heap.size)) (va_Qi (fun (_ : Int32) (_ : Unit) => True) (fun _ _ => True) (fun a => sz ≤ a)) 0 0 (fun a => sz ≤ a) := by
  refine pst (cc := cL_cell) (maxL := 7) (P0 := fun U => va_X b n xs U U.heap ∧ b < U.heap.size) (Qv := fun _ => True) (by decide) rfl (Nat.le_of_ble_eq_true rfl) (fun p e s m args below meth c Z hE X h9 ls hl => ?_) sz
  obtain ⟨hX, hb⟩ := h9
  have X : CallFix p m c cL_cell 7 s args wsL_cell RL := X
  have hA : ¬ (fun a : Nat => s.heap.size ≤ a) b := Nat.not_le.mpr hb
  have hS : va_S (fun a : Nat => s.heap.size ≤ a) s.heap s.heap [] := va_S.rf
  have hl : lv_has ls 7 [(0, .ref b), (1, .int (nI k))] := hl
  refine lv_sipush (v := nI 12345) X.1 X.2.1 dL_cell_0 (by decide) ?_
  refine lv_bipush (v := nI 31) X.1 X.2.1 dL_cell_3 (by decide) ?_
  refine lv_aload_n X.1 X.2.1 dL_cell_5 rfl (lv_at hl 0 rfl) ?_
  refine va_slen X.1 X.2.1 hX hb hA hS dL_cell_6 ?_
  refine n_imul X.1 X.2.1 dL_cell_7 ?_
  refine n_iadd X.1 X.2.1 dL_cell_8 ?_
  refine lv_topi (fun z0 _ => ?_)
  refine lv_istore_n (lv' := [(2, .int z0), (0, .ref b), (1, .int (nI k))]) X.1 X.2.1 dL_cell_9 rfl hl (by decide) rfl (fun ls hl => ?_)
  refine lv_aload_n X.1 X.2.1 dL_cell_10 rfl (lv_at hl 1 rfl) ?_
  refine lv_astore_n (lv' := [(3, .ref b), (2, .int z0), (0, .ref b), (1, .int (nI k))]) X.1 X.2.1 dL_cell_11 rfl hl (by decide) rfl (fun ls hl => ?_)
  refine lv_aload_n X.1 X.2.1 dL_cell_12 rfl (lv_at hl 0 rfl) ?_
  refine va_slen X.1 X.2.1 hX hb hA hS dL_cell_13 ?_
  refine lv_istore (lv' := [(4, .int (nI n)), (3, .ref b), (2, .int z0), (0, .ref b), (1, .int (nI k))]) X.1 X.2.1 dL_cell_14 hl (by decide) rfl (fun ls hl => ?_)
  refine lv_iconst (v := nI 0) X.1 X.2.1 dL_cell_16 (by decide) ?_
  refine lv_istore (lv' := [(5, .int (nI 0)), (4, .int (nI n)), (3, .ref b), (2, .int z0), (0, .ref b), (1, .int (nI k))]) X.1 X.2.1 dL_cell_17 hl (by decide) rfl (fun ls hl => ?_)
  suffices hZ : ∀ (d i : Nat), i + d = n → ∀ (z : Int32) (ls : Array Slot), lv_has ls 7 [(5, .int (nI i)), (4, .int (nI n)), (3, .ref b), (2, .int z), (0, .ref b), (1, .int (nI k))] → W p l e ({ frames := 0, cells := 0, slots := 0, locals := 0 } : Room) s m args below meth c s.heap [] 0 0 Z (F0 m 19 ls []) from hZ n 0 (by omega) z0 ls hl
  intro d
  induction d with
  | zero =>
    intro i hi z ls hl
    obtain rfl : n = i := by omega
    refine lv_iload X.1 X.2.1 dL_cell_19 (lv_at hl 0 rfl) ?_
    refine lv_iload X.1 X.2.1 dL_cell_21 (lv_at hl 1 rfl) ?_
    refine n_icmp_ge_t (tgt := 49) X.1 X.2.1 dL_cell_23 (by decide) (by omega) (by omega) (by omega) ?_
    refine lv_iload_n X.1 X.2.1 dL_cell_49 rfl (lv_at hl 3 rfl) ?_
    refine lv_bipush (v := nI 7) X.1 X.2.1 dL_cell_50 (by decide) ?_
    refine lv_iushr X.1 X.2.1 dL_cell_52 rfl ?_
    refine lv_topi (fun z1 _ => ?_)
    refine lv_iconst (v := nI 3) X.1 X.2.1 dL_cell_53 (by decide) ?_
    refine lv_iand X.1 X.2.1 dL_cell_54 ?_
    refine lv_topi (fun z2 _ => ?_)
    rcases Decidable.em (z2 = 0) with hx | hx
    · skip
      refine x_if_ne_f (tgt := 79) X.1 X.2.1 dL_cell_55 (by decide) (hx) ?_
      refine lv_iload_n X.1 X.2.1 dL_cell_58 rfl (lv_at hl 5 rfl) ?_
      refine lv_aload_n X.1 X.2.1 dL_cell_59 rfl (lv_at hl 4 rfl) ?_
      refine va_slen X.1 X.2.1 hX hb hA hS dL_cell_60 ?_
      rcases Decidable.em (n ≤ k) with hy | hy
      · skip
        refine n_icmp_ge_t (tgt := 70) X.1 X.2.1 dL_cell_61 (by decide) (hy) (by omega) (by omega) ?_
        refine lv_sipush (v := nI 7919) X.1 X.2.1 dL_cell_70 (by decide) ?_
        refine lv_iload_n X.1 X.2.1 dL_cell_73 rfl (lv_at hl 5 rfl) ?_
        refine n_imul X.1 X.2.1 dL_cell_74 ?_
        refine lv_bipush (v := nI 12) X.1 X.2.1 dL_cell_75 (by decide) ?_
        refine n_iadd X.1 X.2.1 dL_cell_77 ?_
        refine lv_topi (fun z3 _ => ?_)
        exact hE _ _ _ trivial dL_cell_78
      · skip
        refine n_icmp_ge_f (tgt := 70) X.1 X.2.1 dL_cell_61 (by decide) (hy) (by omega) (by omega) ?_
        refine lv_aload_n X.1 X.2.1 dL_cell_64 rfl (lv_at hl 4 rfl) ?_
        refine lv_iload_n X.1 X.2.1 dL_cell_65 rfl (lv_at hl 5 rfl) ?_
        refine va_sld X.1 X.2.1 hX hb hA hS (vp_in_nI (by omega) (by omega)) dL_cell_66 ?_
        refine lv_goto (tgt := 78) X.1 X.2.1 dL_cell_67 (by decide) ?_
        exact hE _ _ _ trivial dL_cell_78
    · skip
      refine x_if_ne_t (tgt := 79) X.1 X.2.1 dL_cell_55 (by decide) (hx) ?_
      refine lv_iload_n X.1 X.2.1 dL_cell_79 rfl (lv_at hl 3 rfl) ?_
      refine lv_ldc X.1 X.2.1 X.2.2.2.1 (X.2.2.2.2 (.constant RL 8 (69069)) (List.mem_cons_of_mem _ (List.mem_append_left _ (List.mem_of_getElem? (i := 1) rfl)))) dL_cell_80 ?_
      refine lv_iload_n X.1 X.2.1 dL_cell_82 rfl (lv_at hl 5 rfl) ?_
      refine lv_sipush (v := nI 1009) X.1 X.2.1 dL_cell_83 (by decide) ?_
      refine n_iadd X.1 X.2.1 dL_cell_86 ?_
      refine lv_imul X.1 X.2.1 dL_cell_87 ?_
      refine lv_topi (fun z9 _ => ?_)
      refine lv_ixor X.1 X.2.1 dL_cell_88 ?_
      refine lv_topi (fun z3 _ => ?_)
      refine lv_istore_n (lv' := [(3, .int z3), (5, .int (nI n)), (4, .int (nI n)), (2, .int z), (0, .ref b), (1, .int (nI k))]) X.1 X.2.1 dL_cell_89 rfl hl (by decide) rfl (fun ls hl => ?_)
      refine lv_iload_n X.1 X.2.1 dL_cell_90 rfl (lv_at hl 0 rfl) ?_
      refine lv_iload_n X.1 X.2.1 dL_cell_91 rfl (lv_at hl 0 rfl) ?_
      refine lv_bipush (v := nI 13) X.1 X.2.1 dL_cell_92 (by decide) ?_
      refine lv_iushr X.1 X.2.1 dL_cell_94 rfl ?_
      refine lv_topi (fun z4 _ => ?_)
      refine lv_ixor X.1 X.2.1 dL_cell_95 ?_
      refine lv_topi (fun z5 _ => ?_)
      refine lv_ldc X.1 X.2.1 X.2.2.2.1 (X.2.2.2.2 (.constant RL 9 (1103515245)) (List.mem_cons_of_mem _ (List.mem_append_left _ (List.mem_of_getElem? (i := 2) rfl)))) dL_cell_96 ?_
      refine lv_imul X.1 X.2.1 dL_cell_98 ?_
      refine lv_topi (fun z6 _ => ?_)
      refine lv_istore_n (lv' := [(3, .int z6), (5, .int (nI n)), (4, .int (nI n)), (2, .int z), (0, .ref b), (1, .int (nI k))]) X.1 X.2.1 dL_cell_99 rfl hl (by decide) rfl (fun ls hl => ?_)
      refine lv_iload_n X.1 X.2.1 dL_cell_100 rfl (lv_at hl 0 rfl) ?_
      refine lv_iload_n X.1 X.2.1 dL_cell_101 rfl (lv_at hl 0 rfl) ?_
      refine lv_bipush (v := nI 16) X.1 X.2.1 dL_cell_102 (by decide) ?_
      refine lv_iushr X.1 X.2.1 dL_cell_104 rfl ?_
      refine lv_topi (fun z7 _ => ?_)
      refine lv_ixor X.1 X.2.1 dL_cell_105 ?_
      refine lv_topi (fun z8 _ => ?_)
      exact hE _ _ _ trivial dL_cell_106
  | succ d ih =>
    intro i hi z ls hl
    refine lv_iload X.1 X.2.1 dL_cell_19 (lv_at hl 0 rfl) ?_
    refine lv_iload X.1 X.2.1 dL_cell_21 (lv_at hl 1 rfl) ?_
    refine n_icmp_ge_f (tgt := 49) X.1 X.2.1 dL_cell_23 (by decide) (by omega) (by omega) (by omega) ?_
    refine lv_aload_n X.1 X.2.1 dL_cell_26 rfl (lv_at hl 2 rfl) ?_
    refine lv_iload X.1 X.2.1 dL_cell_27 (lv_at hl 0 rfl) ?_
    refine va_sld X.1 X.2.1 hX hb hA hS (vp_in_nI (by omega) (by omega)) dL_cell_29 ?_
    refine lv_topi (fun z1 _ => ?_)
    refine lv_istore (lv' := [(6, .int z1), (5, .int (nI i)), (4, .int (nI n)), (3, .ref b), (2, .int z), (0, .ref b), (1, .int (nI k))]) X.1 X.2.1 dL_cell_30 hl (by decide) rfl (fun ls hl => ?_)
    refine lv_iload_n X.1 X.2.1 dL_cell_32 rfl (lv_at hl 4 rfl) ?_
    refine lv_iload X.1 X.2.1 dL_cell_33 (lv_at hl 0 rfl) ?_
    refine lv_ixor X.1 X.2.1 dL_cell_35 ?_
    refine lv_ldc X.1 X.2.1 X.2.2.2.1 (X.2.2.2.2 (.constant RL 7 (16777619)) (List.mem_cons_of_mem _ (List.mem_append_left _ (List.mem_of_getElem? (i := 0) rfl)))) dL_cell_36 ?_
    refine lv_imul X.1 X.2.1 dL_cell_38 ?_
    refine lv_bipush (v := nI 7) X.1 X.2.1 dL_cell_39 (by decide) ?_
    refine lv_iadd X.1 X.2.1 dL_cell_41 ?_
    refine lv_topi (fun z2 _ => ?_)
    refine lv_istore_n (lv' := [(2, .int z2), (6, .int z1), (5, .int (nI i)), (4, .int (nI n)), (3, .ref b), (0, .ref b), (1, .int (nI k))]) X.1 X.2.1 dL_cell_42 rfl hl (by decide) rfl (fun ls hl => ?_)
    refine lv_iinc (v := nI (i + 1)) (lv' := [(5, .int (nI (i + 1))), (2, .int z2), (6, .int z1), (4, .int (nI n)), (3, .ref b), (0, .ref b), (1, .int (nI k))]) X.1 X.2.1 dL_cell_43 hl (k := 2) rfl (nI_1 _) (by decide) rfl (fun ls hl => ?_)
    refine lv_goto (tgt := 19) X.1 X.2.1 dL_cell_46 (by decide) ?_
    exact ih (i + 1) (by omega) z2 ls (lv_sub hl [0, 3, 4, 1, 5, 6] rfl)
