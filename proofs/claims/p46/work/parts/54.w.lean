/-! the law's calls of the class: they answer a long -/
def wL (l : Launch) (y : MethodName) (ws : List Cond) (rm : Room) (G : va_G) (kT : Nat → ClassId) (h0 : Nat) (as : List Value) (T : mT) (D : mD) (v9 : Int64) (T2 : mT) (D2 : mD) : Prop :=
  ∀ (ad : pD) (L : List Nat) (K : pN) (R : pR) (I : pI) (A : mD) (Q : pR) (N : pN), Rep T D ad L K R I A Q N → ad 0 0 = h0 → ∀ sz : Nat,
    Met l y ws rm (va_Pc as (fun U => U.heap.size = sz ∧ va_K G vwCl (ctys kT) U ∧ va_P G vwCl (cW kT L K R I A Q N) U.heap ∧ L.Nodup ∧ cE (cA L sz) U U.heap)) (va_Ql (fun (v : Int64) (_ : Unit) => v = v9) (fun _ t => ∃ (ad2 : pD) (L2 : List Nat) (K2 : pN) (R2 : pR) (I2 : pI) (A2 : mD) (Q2 : pR) (N2 : pN), va_K G vwCl (ctys kT) t ∧ va_P G vwCl (cW kT L2 K2 R2 I2 A2 Q2 N2) t.heap ∧ L2.Nodup ∧ (∀ a ∈ L2, cA L sz a) ∧ Rep T2 D2 ad2 L2 K2 R2 I2 A2 Q2 N2 ∧ ad2 0 0 = h0) (cA L sz)) 2 260 (cA L sz)
theorem skN_le (m : Int64) (k : Nat) : skN m k ≤ k := by
  unfold skN
  split
  · exact Nat.zero_le _
  · exact Nat.min_le_right _ _
section WL
variable {l : Launch} {G : va_G} {kT : Nat → ClassId} {h0 : Nat} {y : MethodName} {ws ws2 : List Cond} {rm : Room} {as : List Value} {maxL : Nat} {cc : ByteArray}
theorem wstL {hh : List (Nat × Nat × Nat × Nat)} {T : mT} {D : mD} {v9 : Int64} {T2 : mT} {D2 : mD} (hy : plainName y.cls = true) (hw : ws = Cond.codeWith y cc maxL (some .long) hh :: ws2) (hlen : (lg_sl as).length ≤ maxL)
    (body : ∀ (ad : pD) (L : List Nat) (K : pN) (R : pR) (I : pI) (A : mD) (Q : pR) (N : pN), Rep T D ad L K R I A Q N → ad 0 0 = h0 → ∀ (p : Program) (e : Env) (s : State) (m : MethodId) (args : Array Value) (below : List Frame) (meth : Method) (c : Code) (Z : State → Prop),
      (∀ (H : Heap) (locs : List Loc) (pc : Nat) (ls : Array Slot) (cells slots : Nat) (v : Int64) (ad2 : pD) (L2 : List Nat) (K2 : pN) (R2 : pR) (I2 : pI) (A2 : mD) (Q2 : pR) (N2 : pN), v = v9 → cells ≤ 2 → slots ≤ 260 → cH G kT L L2 K2 R2 I2 A2 Q2 N2 s H locs → Rep T2 D2 ad2 L2 K2 R2 I2 A2 Q2 N2 → ad2 0 0 = h0 → decode cc pc = .ok (.lreturn, 1) → W p l e rm s m args below meth c H locs cells slots Z (F0 m pc ls [.long v])) →
      CallFix p m c cc maxL s args ws y.cls → c.exceptionTable.toList = tableOf hh → cE (cA L s.heap.size) s s.heap → cH G kT L L K R I A Q N s s.heap [] → ∀ ls : Array Slot, lv_has ls maxL (lv_args 0 as) → W p l e rm s m args below meth c s.heap [] 0 0 Z (F0 m 0 ls [])) : wL l y ws rm G kT h0 as T D v9 T2 D2 := by
  intro ad L K R I A Q N HB h0 sz
  refine va_MetW (cc := cc) (maxL := maxL) (ret := some .long) hy hw ?_
  intro p e s m args below meth c s₁ B hml hv
  obtain ⟨rfl, hsz, hK, hP, hnd, hE⟩ := hv
  subst hsz
  have hl := lv_entry as (n := maxL) hlen
  rw [lg_entry_eq]
  have hts := atoms_spec (ws := ws) B.pre
  have X : CallFix p m c cc maxL s _ ws y.cls := ⟨B.exec, B.bytes, hml, findClass_of_methodNamed B.named, hts⟩
  have hT : c.exceptionTable.toList = tableOf hh := vx_table (x := y) B (hts (Cond.codeWith y cc maxL (some .long) hh) (by rw [hw]; exact List.mem_cons_self))
  refine body ad L K R I A Q N HB h0 p e s m _ below meth c _ (fun H locs pc ls cells slots v ad2 L2 K2 R2 I2 A2 Q2 N2 hv hc hs hW HB2 h02 hdg => ?_) X hT hE ⟨hK, hP, hnd, fun a h => Or.inl h, va_S.rf⟩ _ hl
  exact W.widen hc hs (W.lret (v := v) X.1 X.2.1 B.returns (fun t ht hWm => ⟨⟨v, (), rfl, hv, ad2, L2, K2, R2, I2, A2, Q2, N2, va_K.moved hWm.alike hW.1, by rw [ht]; exact hW.2.1, hW.2.2.1, hW.2.2.2.1, HB2, h02⟩, hW.2.2.2.2.F ht⟩) hW.2.2.2.2.2.2 hdg B.notSynchronized)
theorem wstL0 {T : mT} {D : mD} {v9 : Int64} {T2 : mT} {D2 : mD} (hy : plainName y.cls = true) (hw : ws = Cond.code y cc maxL (some .long) :: ws2) (hlen : (lg_sl as).length ≤ maxL)
    (body : ∀ (ad : pD) (L : List Nat) (K : pN) (R : pR) (I : pI) (A : mD) (Q : pR) (N : pN), Rep T D ad L K R I A Q N → ad 0 0 = h0 → ∀ (p : Program) (e : Env) (s : State) (m : MethodId) (args : Array Value) (below : List Frame) (meth : Method) (c : Code) (Z : State → Prop),
      (∀ (H : Heap) (locs : List Loc) (pc : Nat) (ls : Array Slot) (cells slots : Nat) (v : Int64) (ad2 : pD) (L2 : List Nat) (K2 : pN) (R2 : pR) (I2 : pI) (A2 : mD) (Q2 : pR) (N2 : pN), v = v9 → cells ≤ 2 → slots ≤ 260 → cH G kT L L2 K2 R2 I2 A2 Q2 N2 s H locs → Rep T2 D2 ad2 L2 K2 R2 I2 A2 Q2 N2 → ad2 0 0 = h0 → decode cc pc = .ok (.lreturn, 1) → W p l e rm s m args below meth c H locs cells slots Z (F0 m pc ls [.long v])) →
      CallFix p m c cc maxL s args ws y.cls → cH G kT L L K R I A Q N s s.heap [] → ∀ ls : Array Slot, lv_has ls maxL (lv_args 0 as) → W p l e rm s m args below meth c s.heap [] 0 0 Z (F0 m 0 ls [])) : wL l y ws rm G kT h0 as T D v9 T2 D2 := by
  intro ad L K R I A Q N HB h0 sz
  refine Met.ofW (cc := cc) (maxL := maxL) (ret := some .long) hy hw ?_
  intro p e s m args below meth c s₁ B hml hv
  obtain ⟨rfl, hsz, hK, hP, hnd, hE⟩ := hv
  subst hsz
  have hl := lv_entry as (n := maxL) hlen
  rw [lg_entry_eq]
  have hts := atoms_spec (ws := ws) B.pre
  have X : CallFix p m c cc maxL s _ ws y.cls := ⟨B.exec, B.bytes, hml, findClass_of_methodNamed B.named, hts⟩
  refine body ad L K R I A Q N HB h0 p e s m _ below meth c _ (fun H locs pc ls cells slots v ad2 L2 K2 R2 I2 A2 Q2 N2 hv hc hs hW HB2 h02 hdg => ?_) X ⟨hK, hP, hnd, fun a h => Or.inl h, va_S.rf⟩ _ hl
  exact W.widen hc hs (W.lret (v := v) X.1 X.2.1 B.returns (fun t ht hWm => ⟨⟨v, (), rfl, hv, ad2, L2, K2, R2, I2, A2, Q2, N2, va_K.moved hWm.alike hW.1, by rw [ht]; exact hW.2.1, hW.2.2.1, hW.2.2.2.1, HB2, h02⟩, hW.2.2.2.2.F ht⟩) hW.2.2.2.2.2.2 hdg B.notSynchronized)
end WL
