/-! contracts of the class's methods: over a pool that keeps its addresses -/
def cMi (l : Launch) (y : MethodName) (ws : List Cond) (rm : Room) (G : va_G) (kT : Nat → ClassId) (as : List Value) (L : List Nat) (K : Nat → Nat) (R : pR) (I : pI) (A : mD) (Q : pR) (N : Nat → Nat) (r : Int32) (R2 : pR) (I2 : pI) (A2 : mD) (Q2 : pR) : Prop := ∀ sz : Nat, Met l y ws rm (va_Pc as (fun U => U.heap.size = sz ∧ va_K G vwCl (ctys kT) U ∧ va_P G vwCl (cW kT L K R I A Q N) U.heap ∧ L.Nodup)) (va_Qi (fun (v : Int32) (_ : Unit) => v = r) (fun _ t => va_K G vwCl (ctys kT) t ∧ va_P G vwCl (cW kT L K R2 I2 A2 Q2 N) t.heap) (cA L sz)) 0 0 (cA L sz)
def cMl (l : Launch) (y : MethodName) (ws : List Cond) (rm : Room) (G : va_G) (kT : Nat → ClassId) (as : List Value) (L : List Nat) (K : Nat → Nat) (R : pR) (I : pI) (A : mD) (Q : pR) (N : Nat → Nat) (r : Int64) (R2 : pR) (I2 : pI) (A2 : mD) (Q2 : pR) : Prop := ∀ sz : Nat, Met l y ws rm (va_Pc as (fun U => U.heap.size = sz ∧ va_K G vwCl (ctys kT) U ∧ va_P G vwCl (cW kT L K R I A Q N) U.heap ∧ L.Nodup)) (va_Ql (fun (v : Int64) (_ : Unit) => v = r) (fun _ t => va_K G vwCl (ctys kT) t ∧ va_P G vwCl (cW kT L K R2 I2 A2 Q2 N) t.heap) (cA L sz)) 0 0 (cA L sz)
def cMf (l : Launch) (y : MethodName) (ws : List Cond) (rm : Room) (G : va_G) (kT : Nat → ClassId) (as : List Value) (L : List Nat) (K : Nat → Nat) (R : pR) (I : pI) (A : mD) (Q : pR) (N : Nat → Nat) (r : UInt32) (R2 : pR) (I2 : pI) (A2 : mD) (Q2 : pR) : Prop := ∀ sz : Nat, Met l y ws rm (va_Pc as (fun U => U.heap.size = sz ∧ va_K G vwCl (ctys kT) U ∧ va_P G vwCl (cW kT L K R I A Q N) U.heap ∧ L.Nodup)) (va_Qf (fun (v : UInt32) (_ : Unit) => v = r) (fun _ t => va_K G vwCl (ctys kT) t ∧ va_P G vwCl (cW kT L K R2 I2 A2 Q2 N) t.heap) (cA L sz)) 0 0 (cA L sz)
def cMd (l : Launch) (y : MethodName) (ws : List Cond) (rm : Room) (G : va_G) (kT : Nat → ClassId) (as : List Value) (L : List Nat) (K : Nat → Nat) (R : pR) (I : pI) (A : mD) (Q : pR) (N : Nat → Nat) (r : UInt64) (R2 : pR) (I2 : pI) (A2 : mD) (Q2 : pR) : Prop := ∀ sz : Nat, Met l y ws rm (va_Pc as (fun U => U.heap.size = sz ∧ va_K G vwCl (ctys kT) U ∧ va_P G vwCl (cW kT L K R I A Q N) U.heap ∧ L.Nodup)) (va_Qd (fun (v : UInt64) (_ : Unit) => v = r) (fun _ t => va_K G vwCl (ctys kT) t ∧ va_P G vwCl (cW kT L K R2 I2 A2 Q2 N) t.heap) (cA L sz)) 0 0 (cA L sz)
def cMr (l : Launch) (y : MethodName) (ws : List Cond) (rm : Room) (G : va_G) (kT : Nat → ClassId) (as : List Value) (L : List Nat) (K : Nat → Nat) (R : pR) (I : pI) (A : mD) (Q : pR) (N : Nat → Nat) (r : Nat) (R2 : pR) (I2 : pI) (A2 : mD) (Q2 : pR) : Prop := ∀ sz : Nat, Met l y ws rm (va_Pc as (fun U => U.heap.size = sz ∧ va_K G vwCl (ctys kT) U ∧ va_P G vwCl (cW kT L K R I A Q N) U.heap ∧ L.Nodup)) (va_Qr (fun (_ : Unit) => True) (fun _ v t => v = r ∧ va_K G vwCl (ctys kT) t ∧ va_P G vwCl (cW kT L K R2 I2 A2 Q2 N) t.heap) (cA L sz)) 0 0 (cA L sz)
def cMv (l : Launch) (y : MethodName) (ws : List Cond) (rm : Room) (G : va_G) (kT : Nat → ClassId) (as : List Value) (L : List Nat) (K : Nat → Nat) (R : pR) (I : pI) (A : mD) (Q : pR) (N : Nat → Nat) (R2 : pR) (I2 : pI) (A2 : mD) (Q2 : pR) : Prop := ∀ sz : Nat, Met l y ws rm (va_Pc as (fun U => U.heap.size = sz ∧ va_K G vwCl (ctys kT) U ∧ va_P G vwCl (cW kT L K R I A Q N) U.heap ∧ L.Nodup)) (va_Qv (fun (_ : Unit) => True) (fun _ t => va_K G vwCl (ctys kT) t ∧ va_P G vwCl (cW kT L K R2 I2 A2 Q2 N) t.heap) (cA L sz)) 0 0 (cA L sz)
section CC
variable {p : Program} {l : Launch} {e : Env} {Rm : Room} {s : State} {m : MethodId} {args : Array Value} {below : List Frame} {meth : Method} {c : Code} {H : Heap} {locs : List Loc} {cells slots : Nat} {Z : State → Prop} {cc : ByteArray} {pc nL : Nat} {ls : Array Slot} {rest : List Value} {Ts : List Cond} {own : String}
variable {G : va_G} {kT : Nat → ClassId} {L0 L : List Nat} {K : Nat → Nat} {R R2 : pR} {I I2 : pI} {A A2 : mD} {Q Q2 : pR} {N : Nat → Nat}
variable {y : MethodName} {ws ws2 : List Cond} {rm : Room} {as : List Value} {maxL index n : Nat} {ret : Option FieldType} {bytes : ByteArray}
theorem cA_up (hW : cH G kT L0 L K R I A Q N s H locs) : ∀ a : Nat, cA L H.size a → cA L0 s.heap.size a := fun a h => h.elim (fun h => hW.2.2.2.1 a h) (fun h => Or.inr (Nat.le_trans hW.2.2.2.2.1 h))
theorem cH.back {H1 : Heap} {locs1 : List Loc} {t : State} (hW : cH G kT L0 L K R I A Q N s H locs) (ht : t.heap = H1) (hvm : s.vm.Alike t.vm) (hB : va_K G vwCl (ctys kT) t ∧ va_P G vwCl (cW kT L K R2 I2 A2 Q2 N) t.heap) (hS : va_S (cA L0 s.heap.size) s.heap H1 locs1) : cH G kT L0 L K R2 I2 A2 Q2 N s H1 locs1 := ⟨va_K.moved hvm.symm hB.1, by rw [← ht]; exact hB.2, hW.2.2.1, hW.2.2.2.1, hS⟩
theorem cVi {r : Int32} {b ci : Nat} {q9 : vw_C} {fs : List Value} (X : CallFix p m c cc nL s args Ts own) (hW : cH G kT L0 L K R I A Q N s H locs) (hb : b ∈ L) (hrec : pC kT K R I A Q N b = .inr (ci, fs)) (hq : vwCl[ci]? = some q9) (hM : cMi l y ws rm G kT (.ref b :: as) L K R I A Q N r R2 I2 A2 Q2) (cw : CallW Rm s args own q9.1 index y bytes maxL ret ws rm 0 0 n) {st : List Value} (hst : st = as.reverse ++ .ref b :: rest) (hn : as.length = n) (hs : ls.size = nL) (hroom : (rest.map fun v => v.category).sum ≤ 8) (hdg : decode cc pc = .ok (.invokevirtual index, 3)) (hcs : cells ≤ Rm.cells ∧ slots ≤ Rm.slots)
    (kk : ∀ (H1 : Heap) (locs1 : List Loc), cH G kT L0 L K R2 I2 A2 Q2 N s H1 locs1 → W p l e Rm s m args below meth c H1 locs1 cells slots Z (F0 m (pc + 3) ls (.int r :: rest))) : W p l e Rm s m args below meth c H locs cells slots Z (F0 m pc ls st) := by
  subst hst
  obtain ⟨k0, h0⟩ := cW_get hb hrec
  refine va_calli (va_runV (As := as) (rest := rest) X (hM H.size) cw ⟨fun a U g mk z => by obtain ⟨z0, z1, z2, z3, z4⟩ := z; exact ⟨z0, z1, va_K.moved (u := U) (U := U.calling g mk a) (Vm.Alike.refl U.vm) z2, z3, z4⟩, va_recv hW.1 hW.2.1 (ci := ci) (q0 := k0) hq h0, fun U hU hWm => ⟨rfl, by rw [hU], va_K.moved hWm.alike hW.1, by rw [hU]; exact hW.2.1, hW.2.2.1⟩⟩ rfl hn hs rfl (lv_room hroom) hdg hcs) hW.2.2.2.2 (fun a _ h => cA_up hW a h) (cA_up hW) (fun r u t H1 locs1 ht hvm hw hB hz1 hk1 hS => ?_)
  subst hw
  exact kk H1 locs1 (hW.back ht hvm hB hS)
theorem cSi {r : Int32} (X : CallFix p m c cc nL s args Ts own) (hW : cH G kT L0 L K R I A Q N s H locs) (hM : cMi l y ws rm G kT as L K R I A Q N r R2 I2 A2 Q2) (cw : CallB Rm s args own index y bytes maxL ret ws rm 0 0 n ∧ (Cond.static y).before args s = true) {st : List Value} (hst : st = as.reverse ++ rest) (hn : as.length = n) (hs : ls.size = nL) (hroom : (rest.map fun v => v.category).sum ≤ 8) (hdg : decode cc pc = .ok (.invokestatic index, 3)) (hcs : cells ≤ Rm.cells ∧ slots ≤ Rm.slots)
    (kk : ∀ (H1 : Heap) (locs1 : List Loc), cH G kT L0 L K R2 I2 A2 Q2 N s H1 locs1 → W p l e Rm s m args below meth c H1 locs1 cells slots Z (F0 m (pc + 3) ls (.int r :: rest))) : W p l e Rm s m args below meth c H locs cells slots Z (F0 m pc ls st) := by
  subst hst
  refine va_calli (va_runS (As := as) (rest := rest) X (hM H.size) cw ⟨fun a U g mk z => by obtain ⟨z0, z1, z2, z3, z4⟩ := z; exact ⟨z0, z1, va_K.moved (u := U) (U := U.calling g mk a) (Vm.Alike.refl U.vm) z2, z3, z4⟩, fun U hU hWm => ⟨rfl, by rw [hU], va_K.moved hWm.alike hW.1, by rw [hU]; exact hW.2.1, hW.2.2.1⟩⟩ rfl hn hs rfl (lv_room hroom) hdg hcs) hW.2.2.2.2 (fun a _ h => cA_up hW a h) (cA_up hW) (fun r u t H1 locs1 ht hvm hw hB hz1 hk1 hS => ?_)
  subst hw
  exact kk H1 locs1 (hW.back ht hvm hB hS)
theorem csti {r : Int32} (hy : plainName y.cls = true) (hw : ws = Cond.code y cc maxL ret :: ws2) (hret : ∃ ty : FieldType, ret = some ty) (hlen : (lg_sl as).length ≤ maxL) (body : ∀ (p : Program) (e : Env) (s : State) (m : MethodId) (args : Array Value) (below : List Frame) (meth : Method) (c : Code) (Z : State → Prop), (∀ (H : Heap) (locs : List Loc) (pc : Nat) (ls : Array Slot) (v : Int32) , v = r → (∀ ty : FieldType, ret = some ty → narrow ty (.int v) = .int v) → cH G kT L L K R2 I2 A2 Q2 N s H locs → decode cc pc = .ok (.ireturn, 1) → W p l e rm s m args below meth c H locs 0 0 Z (F0 m pc ls [.int v])) → CallFix p m c cc maxL s args ws y.cls → cH G kT L L K R I A Q N s s.heap [] → ∀ ls : Array Slot, lv_has ls maxL (lv_args 0 as) → W p l e rm s m args below meth c s.heap [] 0 0 Z (F0 m 0 ls [])) : cMi l y ws rm G kT as L K R I A Q N r R2 I2 A2 Q2 := by
  intro sz
  refine Met.ofW (cc := cc) (maxL := maxL) (ret := ret) hy hw ?_
  intro p e s m args below meth c s₁ B hml hv
  obtain ⟨rfl, hsz, hK, hP, hnd⟩ := hv
  subst hsz
  have hl := lv_entry as (n := maxL) hlen
  rw [lg_entry_eq]
  have X : CallFix p m c cc maxL s _ ws y.cls := ⟨B.exec, B.bytes, hml, findClass_of_methodNamed B.named, atoms_spec (ws := ws) B.pre⟩
  refine body p e s m _ below meth c _ (fun H locs pc ls v hv hn hW hdg => ?_) X ⟨hK, hP, hnd, fun a h => Or.inl h, va_S.rf⟩ _ hl
  obtain ⟨ty, hty⟩ := hret
  exact W.zret (v := v) X.1 X.2.1 (B.returns.trans hty) (hn ty hty) (fun t ht hWm => ⟨⟨v, (), rfl, hv, va_K.moved hWm.alike hW.1, by rw [ht]; exact hW.2.1⟩, hW.2.2.2.2.F ht⟩) hW.2.2.2.2.2.2 hdg B.notSynchronized
theorem cVl {r : Int64} {b ci : Nat} {q9 : vw_C} {fs : List Value} (X : CallFix p m c cc nL s args Ts own) (hW : cH G kT L0 L K R I A Q N s H locs) (hb : b ∈ L) (hrec : pC kT K R I A Q N b = .inr (ci, fs)) (hq : vwCl[ci]? = some q9) (hM : cMl l y ws rm G kT (.ref b :: as) L K R I A Q N r R2 I2 A2 Q2) (cw : CallW Rm s args own q9.1 index y bytes maxL ret ws rm 0 0 n) {st : List Value} (hst : st = as.reverse ++ .ref b :: rest) (hn : as.length = n) (hs : ls.size = nL) (hroom : (rest.map fun v => v.category).sum ≤ 8) (hdg : decode cc pc = .ok (.invokevirtual index, 3)) (hcs : cells ≤ Rm.cells ∧ slots ≤ Rm.slots)
    (kk : ∀ (H1 : Heap) (locs1 : List Loc), cH G kT L0 L K R2 I2 A2 Q2 N s H1 locs1 → W p l e Rm s m args below meth c H1 locs1 cells slots Z (F0 m (pc + 3) ls (.long r :: rest))) : W p l e Rm s m args below meth c H locs cells slots Z (F0 m pc ls st) := by
  subst hst
  obtain ⟨k0, h0⟩ := cW_get hb hrec
  refine va_calll (va_runV (As := as) (rest := rest) X (hM H.size) cw ⟨fun a U g mk z => by obtain ⟨z0, z1, z2, z3, z4⟩ := z; exact ⟨z0, z1, va_K.moved (u := U) (U := U.calling g mk a) (Vm.Alike.refl U.vm) z2, z3, z4⟩, va_recv hW.1 hW.2.1 (ci := ci) (q0 := k0) hq h0, fun U hU hWm => ⟨rfl, by rw [hU], va_K.moved hWm.alike hW.1, by rw [hU]; exact hW.2.1, hW.2.2.1⟩⟩ rfl hn hs rfl (lv_room hroom) hdg hcs) hW.2.2.2.2 (fun a _ h => cA_up hW a h) (cA_up hW) (fun r u t H1 locs1 ht hvm hw hB hz1 hk1 hS => ?_)
  subst hw
  exact kk H1 locs1 (hW.back ht hvm hB hS)
theorem cSl {r : Int64} (X : CallFix p m c cc nL s args Ts own) (hW : cH G kT L0 L K R I A Q N s H locs) (hM : cMl l y ws rm G kT as L K R I A Q N r R2 I2 A2 Q2) (cw : CallB Rm s args own index y bytes maxL ret ws rm 0 0 n ∧ (Cond.static y).before args s = true) {st : List Value} (hst : st = as.reverse ++ rest) (hn : as.length = n) (hs : ls.size = nL) (hroom : (rest.map fun v => v.category).sum ≤ 8) (hdg : decode cc pc = .ok (.invokestatic index, 3)) (hcs : cells ≤ Rm.cells ∧ slots ≤ Rm.slots)
    (kk : ∀ (H1 : Heap) (locs1 : List Loc), cH G kT L0 L K R2 I2 A2 Q2 N s H1 locs1 → W p l e Rm s m args below meth c H1 locs1 cells slots Z (F0 m (pc + 3) ls (.long r :: rest))) : W p l e Rm s m args below meth c H locs cells slots Z (F0 m pc ls st) := by
  subst hst
  refine va_calll (va_runS (As := as) (rest := rest) X (hM H.size) cw ⟨fun a U g mk z => by obtain ⟨z0, z1, z2, z3, z4⟩ := z; exact ⟨z0, z1, va_K.moved (u := U) (U := U.calling g mk a) (Vm.Alike.refl U.vm) z2, z3, z4⟩, fun U hU hWm => ⟨rfl, by rw [hU], va_K.moved hWm.alike hW.1, by rw [hU]; exact hW.2.1, hW.2.2.1⟩⟩ rfl hn hs rfl (lv_room hroom) hdg hcs) hW.2.2.2.2 (fun a _ h => cA_up hW a h) (cA_up hW) (fun r u t H1 locs1 ht hvm hw hB hz1 hk1 hS => ?_)
  subst hw
  exact kk H1 locs1 (hW.back ht hvm hB hS)
theorem cstl {r : Int64} (hy : plainName y.cls = true) (hw : ws = Cond.code y cc maxL ret :: ws2) (hret : ret = some .long) (hlen : (lg_sl as).length ≤ maxL) (body : ∀ (p : Program) (e : Env) (s : State) (m : MethodId) (args : Array Value) (below : List Frame) (meth : Method) (c : Code) (Z : State → Prop), (∀ (H : Heap) (locs : List Loc) (pc : Nat) (ls : Array Slot) (v : Int64) , v = r → cH G kT L L K R2 I2 A2 Q2 N s H locs → decode cc pc = .ok (.lreturn, 1) → W p l e rm s m args below meth c H locs 0 0 Z (F0 m pc ls [.long v])) → CallFix p m c cc maxL s args ws y.cls → cH G kT L L K R I A Q N s s.heap [] → ∀ ls : Array Slot, lv_has ls maxL (lv_args 0 as) → W p l e rm s m args below meth c s.heap [] 0 0 Z (F0 m 0 ls [])) : cMl l y ws rm G kT as L K R I A Q N r R2 I2 A2 Q2 := by
  intro sz
  refine Met.ofW (cc := cc) (maxL := maxL) (ret := ret) hy hw ?_
  intro p e s m args below meth c s₁ B hml hv
  obtain ⟨rfl, hsz, hK, hP, hnd⟩ := hv
  subst hsz
  have hl := lv_entry as (n := maxL) hlen
  rw [lg_entry_eq]
  have X : CallFix p m c cc maxL s _ ws y.cls := ⟨B.exec, B.bytes, hml, findClass_of_methodNamed B.named, atoms_spec (ws := ws) B.pre⟩
  refine body p e s m _ below meth c _ (fun H locs pc ls v hv hW hdg => ?_) X ⟨hK, hP, hnd, fun a h => Or.inl h, va_S.rf⟩ _ hl
  exact W.lret (v := v) X.1 X.2.1 (B.returns.trans hret) (fun t ht hWm => ⟨⟨v, (), rfl, hv, va_K.moved hWm.alike hW.1, by rw [ht]; exact hW.2.1⟩, hW.2.2.2.2.F ht⟩) hW.2.2.2.2.2.2 hdg B.notSynchronized
theorem cVf {r : UInt32} {b ci : Nat} {q9 : vw_C} {fs : List Value} (X : CallFix p m c cc nL s args Ts own) (hW : cH G kT L0 L K R I A Q N s H locs) (hb : b ∈ L) (hrec : pC kT K R I A Q N b = .inr (ci, fs)) (hq : vwCl[ci]? = some q9) (hM : cMf l y ws rm G kT (.ref b :: as) L K R I A Q N r R2 I2 A2 Q2) (cw : CallW Rm s args own q9.1 index y bytes maxL ret ws rm 0 0 n) {st : List Value} (hst : st = as.reverse ++ .ref b :: rest) (hn : as.length = n) (hs : ls.size = nL) (hroom : (rest.map fun v => v.category).sum ≤ 8) (hdg : decode cc pc = .ok (.invokevirtual index, 3)) (hcs : cells ≤ Rm.cells ∧ slots ≤ Rm.slots)
    (kk : ∀ (H1 : Heap) (locs1 : List Loc), cH G kT L0 L K R2 I2 A2 Q2 N s H1 locs1 → W p l e Rm s m args below meth c H1 locs1 cells slots Z (F0 m (pc + 3) ls (.float r :: rest))) : W p l e Rm s m args below meth c H locs cells slots Z (F0 m pc ls st) := by
  subst hst
  obtain ⟨k0, h0⟩ := cW_get hb hrec
  refine va_callf (va_runV (As := as) (rest := rest) X (hM H.size) cw ⟨fun a U g mk z => by obtain ⟨z0, z1, z2, z3, z4⟩ := z; exact ⟨z0, z1, va_K.moved (u := U) (U := U.calling g mk a) (Vm.Alike.refl U.vm) z2, z3, z4⟩, va_recv hW.1 hW.2.1 (ci := ci) (q0 := k0) hq h0, fun U hU hWm => ⟨rfl, by rw [hU], va_K.moved hWm.alike hW.1, by rw [hU]; exact hW.2.1, hW.2.2.1⟩⟩ rfl hn hs rfl (lv_room hroom) hdg hcs) hW.2.2.2.2 (fun a _ h => cA_up hW a h) (cA_up hW) (fun r u t H1 locs1 ht hvm hw hB hz1 hk1 hS => ?_)
  subst hw
  exact kk H1 locs1 (hW.back ht hvm hB hS)
theorem cSf {r : UInt32} (X : CallFix p m c cc nL s args Ts own) (hW : cH G kT L0 L K R I A Q N s H locs) (hM : cMf l y ws rm G kT as L K R I A Q N r R2 I2 A2 Q2) (cw : CallB Rm s args own index y bytes maxL ret ws rm 0 0 n ∧ (Cond.static y).before args s = true) {st : List Value} (hst : st = as.reverse ++ rest) (hn : as.length = n) (hs : ls.size = nL) (hroom : (rest.map fun v => v.category).sum ≤ 8) (hdg : decode cc pc = .ok (.invokestatic index, 3)) (hcs : cells ≤ Rm.cells ∧ slots ≤ Rm.slots)
    (kk : ∀ (H1 : Heap) (locs1 : List Loc), cH G kT L0 L K R2 I2 A2 Q2 N s H1 locs1 → W p l e Rm s m args below meth c H1 locs1 cells slots Z (F0 m (pc + 3) ls (.float r :: rest))) : W p l e Rm s m args below meth c H locs cells slots Z (F0 m pc ls st) := by
  subst hst
  refine va_callf (va_runS (As := as) (rest := rest) X (hM H.size) cw ⟨fun a U g mk z => by obtain ⟨z0, z1, z2, z3, z4⟩ := z; exact ⟨z0, z1, va_K.moved (u := U) (U := U.calling g mk a) (Vm.Alike.refl U.vm) z2, z3, z4⟩, fun U hU hWm => ⟨rfl, by rw [hU], va_K.moved hWm.alike hW.1, by rw [hU]; exact hW.2.1, hW.2.2.1⟩⟩ rfl hn hs rfl (lv_room hroom) hdg hcs) hW.2.2.2.2 (fun a _ h => cA_up hW a h) (cA_up hW) (fun r u t H1 locs1 ht hvm hw hB hz1 hk1 hS => ?_)
  subst hw
  exact kk H1 locs1 (hW.back ht hvm hB hS)
theorem cstf {r : UInt32} (hy : plainName y.cls = true) (hw : ws = Cond.code y cc maxL ret :: ws2) (hret : ret = some .float) (hlen : (lg_sl as).length ≤ maxL) (body : ∀ (p : Program) (e : Env) (s : State) (m : MethodId) (args : Array Value) (below : List Frame) (meth : Method) (c : Code) (Z : State → Prop), (∀ (H : Heap) (locs : List Loc) (pc : Nat) (ls : Array Slot) (v : UInt32) , v = r → cH G kT L L K R2 I2 A2 Q2 N s H locs → decode cc pc = .ok (.freturn, 1) → W p l e rm s m args below meth c H locs 0 0 Z (F0 m pc ls [.float v])) → CallFix p m c cc maxL s args ws y.cls → cH G kT L L K R I A Q N s s.heap [] → ∀ ls : Array Slot, lv_has ls maxL (lv_args 0 as) → W p l e rm s m args below meth c s.heap [] 0 0 Z (F0 m 0 ls [])) : cMf l y ws rm G kT as L K R I A Q N r R2 I2 A2 Q2 := by
  intro sz
  refine Met.ofW (cc := cc) (maxL := maxL) (ret := ret) hy hw ?_
  intro p e s m args below meth c s₁ B hml hv
  obtain ⟨rfl, hsz, hK, hP, hnd⟩ := hv
  subst hsz
  have hl := lv_entry as (n := maxL) hlen
  rw [lg_entry_eq]
  have X : CallFix p m c cc maxL s _ ws y.cls := ⟨B.exec, B.bytes, hml, findClass_of_methodNamed B.named, atoms_spec (ws := ws) B.pre⟩
  refine body p e s m _ below meth c _ (fun H locs pc ls v hv hW hdg => ?_) X ⟨hK, hP, hnd, fun a h => Or.inl h, va_S.rf⟩ _ hl
  exact W.fret (v := v) X.1 X.2.1 (B.returns.trans hret) (fun t ht hWm => ⟨⟨v, (), rfl, hv, va_K.moved hWm.alike hW.1, by rw [ht]; exact hW.2.1⟩, hW.2.2.2.2.F ht⟩) hW.2.2.2.2.2.2 hdg B.notSynchronized
theorem cVd {r : UInt64} {b ci : Nat} {q9 : vw_C} {fs : List Value} (X : CallFix p m c cc nL s args Ts own) (hW : cH G kT L0 L K R I A Q N s H locs) (hb : b ∈ L) (hrec : pC kT K R I A Q N b = .inr (ci, fs)) (hq : vwCl[ci]? = some q9) (hM : cMd l y ws rm G kT (.ref b :: as) L K R I A Q N r R2 I2 A2 Q2) (cw : CallW Rm s args own q9.1 index y bytes maxL ret ws rm 0 0 n) {st : List Value} (hst : st = as.reverse ++ .ref b :: rest) (hn : as.length = n) (hs : ls.size = nL) (hroom : (rest.map fun v => v.category).sum ≤ 8) (hdg : decode cc pc = .ok (.invokevirtual index, 3)) (hcs : cells ≤ Rm.cells ∧ slots ≤ Rm.slots)
    (kk : ∀ (H1 : Heap) (locs1 : List Loc), cH G kT L0 L K R2 I2 A2 Q2 N s H1 locs1 → W p l e Rm s m args below meth c H1 locs1 cells slots Z (F0 m (pc + 3) ls (.double r :: rest))) : W p l e Rm s m args below meth c H locs cells slots Z (F0 m pc ls st) := by
  subst hst
  obtain ⟨k0, h0⟩ := cW_get hb hrec
  refine va_calld (va_runV (As := as) (rest := rest) X (hM H.size) cw ⟨fun a U g mk z => by obtain ⟨z0, z1, z2, z3, z4⟩ := z; exact ⟨z0, z1, va_K.moved (u := U) (U := U.calling g mk a) (Vm.Alike.refl U.vm) z2, z3, z4⟩, va_recv hW.1 hW.2.1 (ci := ci) (q0 := k0) hq h0, fun U hU hWm => ⟨rfl, by rw [hU], va_K.moved hWm.alike hW.1, by rw [hU]; exact hW.2.1, hW.2.2.1⟩⟩ rfl hn hs rfl (lv_room hroom) hdg hcs) hW.2.2.2.2 (fun a _ h => cA_up hW a h) (cA_up hW) (fun r u t H1 locs1 ht hvm hw hB hz1 hk1 hS => ?_)
  subst hw
  exact kk H1 locs1 (hW.back ht hvm hB hS)
theorem cSd {r : UInt64} (X : CallFix p m c cc nL s args Ts own) (hW : cH G kT L0 L K R I A Q N s H locs) (hM : cMd l y ws rm G kT as L K R I A Q N r R2 I2 A2 Q2) (cw : CallB Rm s args own index y bytes maxL ret ws rm 0 0 n ∧ (Cond.static y).before args s = true) {st : List Value} (hst : st = as.reverse ++ rest) (hn : as.length = n) (hs : ls.size = nL) (hroom : (rest.map fun v => v.category).sum ≤ 8) (hdg : decode cc pc = .ok (.invokestatic index, 3)) (hcs : cells ≤ Rm.cells ∧ slots ≤ Rm.slots)
    (kk : ∀ (H1 : Heap) (locs1 : List Loc), cH G kT L0 L K R2 I2 A2 Q2 N s H1 locs1 → W p l e Rm s m args below meth c H1 locs1 cells slots Z (F0 m (pc + 3) ls (.double r :: rest))) : W p l e Rm s m args below meth c H locs cells slots Z (F0 m pc ls st) := by
  subst hst
  refine va_calld (va_runS (As := as) (rest := rest) X (hM H.size) cw ⟨fun a U g mk z => by obtain ⟨z0, z1, z2, z3, z4⟩ := z; exact ⟨z0, z1, va_K.moved (u := U) (U := U.calling g mk a) (Vm.Alike.refl U.vm) z2, z3, z4⟩, fun U hU hWm => ⟨rfl, by rw [hU], va_K.moved hWm.alike hW.1, by rw [hU]; exact hW.2.1, hW.2.2.1⟩⟩ rfl hn hs rfl (lv_room hroom) hdg hcs) hW.2.2.2.2 (fun a _ h => cA_up hW a h) (cA_up hW) (fun r u t H1 locs1 ht hvm hw hB hz1 hk1 hS => ?_)
  subst hw
  exact kk H1 locs1 (hW.back ht hvm hB hS)
theorem cstd {r : UInt64} (hy : plainName y.cls = true) (hw : ws = Cond.code y cc maxL ret :: ws2) (hret : ret = some .double) (hlen : (lg_sl as).length ≤ maxL) (body : ∀ (p : Program) (e : Env) (s : State) (m : MethodId) (args : Array Value) (below : List Frame) (meth : Method) (c : Code) (Z : State → Prop), (∀ (H : Heap) (locs : List Loc) (pc : Nat) (ls : Array Slot) (v : UInt64) , v = r → cH G kT L L K R2 I2 A2 Q2 N s H locs → decode cc pc = .ok (.dreturn, 1) → W p l e rm s m args below meth c H locs 0 0 Z (F0 m pc ls [.double v])) → CallFix p m c cc maxL s args ws y.cls → cH G kT L L K R I A Q N s s.heap [] → ∀ ls : Array Slot, lv_has ls maxL (lv_args 0 as) → W p l e rm s m args below meth c s.heap [] 0 0 Z (F0 m 0 ls [])) : cMd l y ws rm G kT as L K R I A Q N r R2 I2 A2 Q2 := by
  intro sz
  refine Met.ofW (cc := cc) (maxL := maxL) (ret := ret) hy hw ?_
  intro p e s m args below meth c s₁ B hml hv
  obtain ⟨rfl, hsz, hK, hP, hnd⟩ := hv
  subst hsz
  have hl := lv_entry as (n := maxL) hlen
  rw [lg_entry_eq]
  have X : CallFix p m c cc maxL s _ ws y.cls := ⟨B.exec, B.bytes, hml, findClass_of_methodNamed B.named, atoms_spec (ws := ws) B.pre⟩
  refine body p e s m _ below meth c _ (fun H locs pc ls v hv hW hdg => ?_) X ⟨hK, hP, hnd, fun a h => Or.inl h, va_S.rf⟩ _ hl
  exact W.dret (v := v) X.1 X.2.1 (B.returns.trans hret) (fun t ht hWm => ⟨⟨v, (), rfl, hv, va_K.moved hWm.alike hW.1, by rw [ht]; exact hW.2.1⟩, hW.2.2.2.2.F ht⟩) hW.2.2.2.2.2.2 hdg B.notSynchronized
theorem cVr {r : Nat} {b ci : Nat} {q9 : vw_C} {fs : List Value} (X : CallFix p m c cc nL s args Ts own) (hW : cH G kT L0 L K R I A Q N s H locs) (hb : b ∈ L) (hrec : pC kT K R I A Q N b = .inr (ci, fs)) (hq : vwCl[ci]? = some q9) (hM : cMr l y ws rm G kT (.ref b :: as) L K R I A Q N r R2 I2 A2 Q2) (cw : CallW Rm s args own q9.1 index y bytes maxL ret ws rm 0 0 n) {st : List Value} (hst : st = as.reverse ++ .ref b :: rest) (hn : as.length = n) (hs : ls.size = nL) (hroom : (rest.map fun v => v.category).sum ≤ 8) (hdg : decode cc pc = .ok (.invokevirtual index, 3)) (hcs : cells ≤ Rm.cells ∧ slots ≤ Rm.slots)
    (kk : ∀ (H1 : Heap) (locs1 : List Loc), cH G kT L0 L K R2 I2 A2 Q2 N s H1 locs1 → W p l e Rm s m args below meth c H1 locs1 cells slots Z (F0 m (pc + 3) ls (.ref r :: rest))) : W p l e Rm s m args below meth c H locs cells slots Z (F0 m pc ls st) := by
  subst hst
  obtain ⟨k0, h0⟩ := cW_get hb hrec
  refine va_callr (va_runV (As := as) (rest := rest) X (hM H.size) cw ⟨fun a U g mk z => by obtain ⟨z0, z1, z2, z3, z4⟩ := z; exact ⟨z0, z1, va_K.moved (u := U) (U := U.calling g mk a) (Vm.Alike.refl U.vm) z2, z3, z4⟩, va_recv hW.1 hW.2.1 (ci := ci) (q0 := k0) hq h0, fun U hU hWm => ⟨rfl, by rw [hU], va_K.moved hWm.alike hW.1, by rw [hU]; exact hW.2.1, hW.2.2.1⟩⟩ rfl hn hs rfl (lv_room hroom) hdg hcs) hW.2.2.2.2 (fun a _ h => cA_up hW a h) (cA_up hW) (fun u ra t H1 locs1 ht hvm hw hB hz1 hk1 hS => ?_)
  obtain ⟨e9, hB⟩ := hB
  subst e9
  exact kk H1 locs1 (hW.back ht hvm hB hS)
theorem cSr {r : Nat} (X : CallFix p m c cc nL s args Ts own) (hW : cH G kT L0 L K R I A Q N s H locs) (hM : cMr l y ws rm G kT as L K R I A Q N r R2 I2 A2 Q2) (cw : CallB Rm s args own index y bytes maxL ret ws rm 0 0 n ∧ (Cond.static y).before args s = true) {st : List Value} (hst : st = as.reverse ++ rest) (hn : as.length = n) (hs : ls.size = nL) (hroom : (rest.map fun v => v.category).sum ≤ 8) (hdg : decode cc pc = .ok (.invokestatic index, 3)) (hcs : cells ≤ Rm.cells ∧ slots ≤ Rm.slots)
    (kk : ∀ (H1 : Heap) (locs1 : List Loc), cH G kT L0 L K R2 I2 A2 Q2 N s H1 locs1 → W p l e Rm s m args below meth c H1 locs1 cells slots Z (F0 m (pc + 3) ls (.ref r :: rest))) : W p l e Rm s m args below meth c H locs cells slots Z (F0 m pc ls st) := by
  subst hst
  refine va_callr (va_runS (As := as) (rest := rest) X (hM H.size) cw ⟨fun a U g mk z => by obtain ⟨z0, z1, z2, z3, z4⟩ := z; exact ⟨z0, z1, va_K.moved (u := U) (U := U.calling g mk a) (Vm.Alike.refl U.vm) z2, z3, z4⟩, fun U hU hWm => ⟨rfl, by rw [hU], va_K.moved hWm.alike hW.1, by rw [hU]; exact hW.2.1, hW.2.2.1⟩⟩ rfl hn hs rfl (lv_room hroom) hdg hcs) hW.2.2.2.2 (fun a _ h => cA_up hW a h) (cA_up hW) (fun u ra t H1 locs1 ht hvm hw hB hz1 hk1 hS => ?_)
  obtain ⟨e9, hB⟩ := hB
  subst e9
  exact kk H1 locs1 (hW.back ht hvm hB hS)
theorem cstr {r : Nat} (hy : plainName y.cls = true) (hw : ws = Cond.code y cc maxL ret :: ws2) (hret : ∃ cn : String, ret = some (.object cn)) (hlen : (lg_sl as).length ≤ maxL) (body : ∀ (p : Program) (e : Env) (s : State) (m : MethodId) (args : Array Value) (below : List Frame) (meth : Method) (c : Code) (Z : State → Prop), (∀ (H : Heap) (locs : List Loc) (pc : Nat) (ls : Array Slot) (v : Nat) , v = r → cH G kT L L K R2 I2 A2 Q2 N s H locs → decode cc pc = .ok (.areturn, 1) → W p l e rm s m args below meth c H locs 0 0 Z (F0 m pc ls [.ref v])) → CallFix p m c cc maxL s args ws y.cls → cH G kT L L K R I A Q N s s.heap [] → ∀ ls : Array Slot, lv_has ls maxL (lv_args 0 as) → W p l e rm s m args below meth c s.heap [] 0 0 Z (F0 m 0 ls [])) : cMr l y ws rm G kT as L K R I A Q N r R2 I2 A2 Q2 := by
  intro sz
  refine Met.ofW (cc := cc) (maxL := maxL) (ret := ret) hy hw ?_
  intro p e s m args below meth c s₁ B hml hv
  obtain ⟨rfl, hsz, hK, hP, hnd⟩ := hv
  subst hsz
  have hl := lv_entry as (n := maxL) hlen
  rw [lg_entry_eq]
  have X : CallFix p m c cc maxL s _ ws y.cls := ⟨B.exec, B.bytes, hml, findClass_of_methodNamed B.named, atoms_spec (ws := ws) B.pre⟩
  refine body p e s m _ below meth c _ (fun H locs pc ls v hv hW hdg => ?_) X ⟨hK, hP, hnd, fun a h => Or.inl h, va_S.rf⟩ _ hl
  obtain ⟨cn, hcn⟩ := hret
  exact W.aret (v := .ref v) X.1 X.2.1 (B.returns.trans hcn) (Or.inl ⟨cn, rfl⟩) (Or.inr ⟨v, rfl⟩) (fun t ht hWm => ⟨⟨(), v, rfl, trivial, hv, va_K.moved hWm.alike hW.1, by rw [ht]; exact hW.2.1⟩, hW.2.2.2.2.F ht⟩) hW.2.2.2.2.2.2 hdg B.notSynchronized
theorem cVv {b ci : Nat} {q9 : vw_C} {fs : List Value} (X : CallFix p m c cc nL s args Ts own) (hW : cH G kT L0 L K R I A Q N s H locs) (hb : b ∈ L) (hrec : pC kT K R I A Q N b = .inr (ci, fs)) (hq : vwCl[ci]? = some q9) (hM : cMv l y ws rm G kT (.ref b :: as) L K R I A Q N R2 I2 A2 Q2) (cw : CallW Rm s args own q9.1 index y bytes maxL ret ws rm 0 0 n) {st : List Value} (hst : st = as.reverse ++ .ref b :: rest) (hn : as.length = n) (hs : ls.size = nL) (hroom : (rest.map fun v => v.category).sum ≤ 8) (hdg : decode cc pc = .ok (.invokevirtual index, 3)) (hcs : cells ≤ Rm.cells ∧ slots ≤ Rm.slots)
    (kk : ∀ (H1 : Heap) (locs1 : List Loc), cH G kT L0 L K R2 I2 A2 Q2 N s H1 locs1 → W p l e Rm s m args below meth c H1 locs1 cells slots Z (F0 m (pc + 3) ls (rest))) : W p l e Rm s m args below meth c H locs cells slots Z (F0 m pc ls st) := by
  subst hst
  obtain ⟨k0, h0⟩ := cW_get hb hrec
  refine va_callv (va_runV (As := as) (rest := rest) X (hM H.size) cw ⟨fun a U g mk z => by obtain ⟨z0, z1, z2, z3, z4⟩ := z; exact ⟨z0, z1, va_K.moved (u := U) (U := U.calling g mk a) (Vm.Alike.refl U.vm) z2, z3, z4⟩, va_recv hW.1 hW.2.1 (ci := ci) (q0 := k0) hq h0, fun U hU hWm => ⟨rfl, by rw [hU], va_K.moved hWm.alike hW.1, by rw [hU]; exact hW.2.1, hW.2.2.1⟩⟩ rfl hn hs rfl (lv_room hroom) hdg hcs) hW.2.2.2.2 (fun a _ h => cA_up hW a h) (cA_up hW) (fun u t H1 locs1 ht hvm hw hB hz1 hk1 hS => ?_)
  skip
  exact kk H1 locs1 (hW.back ht hvm hB hS)
theorem cSv (X : CallFix p m c cc nL s args Ts own) (hW : cH G kT L0 L K R I A Q N s H locs) (hM : cMv l y ws rm G kT as L K R I A Q N R2 I2 A2 Q2) (cw : CallB Rm s args own index y bytes maxL ret ws rm 0 0 n ∧ (Cond.static y).before args s = true) {st : List Value} (hst : st = as.reverse ++ rest) (hn : as.length = n) (hs : ls.size = nL) (hroom : (rest.map fun v => v.category).sum ≤ 8) (hdg : decode cc pc = .ok (.invokestatic index, 3)) (hcs : cells ≤ Rm.cells ∧ slots ≤ Rm.slots)
    (kk : ∀ (H1 : Heap) (locs1 : List Loc), cH G kT L0 L K R2 I2 A2 Q2 N s H1 locs1 → W p l e Rm s m args below meth c H1 locs1 cells slots Z (F0 m (pc + 3) ls (rest))) : W p l e Rm s m args below meth c H locs cells slots Z (F0 m pc ls st) := by
  subst hst
  refine va_callv (va_runS (As := as) (rest := rest) X (hM H.size) cw ⟨fun a U g mk z => by obtain ⟨z0, z1, z2, z3, z4⟩ := z; exact ⟨z0, z1, va_K.moved (u := U) (U := U.calling g mk a) (Vm.Alike.refl U.vm) z2, z3, z4⟩, fun U hU hWm => ⟨rfl, by rw [hU], va_K.moved hWm.alike hW.1, by rw [hU]; exact hW.2.1, hW.2.2.1⟩⟩ rfl hn hs rfl (lv_room hroom) hdg hcs) hW.2.2.2.2 (fun a _ h => cA_up hW a h) (cA_up hW) (fun u t H1 locs1 ht hvm hw hB hz1 hk1 hS => ?_)
  skip
  exact kk H1 locs1 (hW.back ht hvm hB hS)
theorem cstv (hy : plainName y.cls = true) (hw : ws = Cond.code y cc maxL ret :: ws2) (hret : ret = none) (hlen : (lg_sl as).length ≤ maxL) (body : ∀ (p : Program) (e : Env) (s : State) (m : MethodId) (args : Array Value) (below : List Frame) (meth : Method) (c : Code) (Z : State → Prop), (∀ (H : Heap) (locs : List Loc) (pc : Nat) (ls : Array Slot) , cH G kT L L K R2 I2 A2 Q2 N s H locs → decode cc pc = .ok (.return_, 1) → W p l e rm s m args below meth c H locs 0 0 Z (F0 m pc ls [])) → CallFix p m c cc maxL s args ws y.cls → cH G kT L L K R I A Q N s s.heap [] → ∀ ls : Array Slot, lv_has ls maxL (lv_args 0 as) → W p l e rm s m args below meth c s.heap [] 0 0 Z (F0 m 0 ls [])) : cMv l y ws rm G kT as L K R I A Q N R2 I2 A2 Q2 := by
  intro sz
  refine Met.ofW (cc := cc) (maxL := maxL) (ret := ret) hy hw ?_
  intro p e s m args below meth c s₁ B hml hv
  obtain ⟨rfl, hsz, hK, hP, hnd⟩ := hv
  subst hsz
  have hl := lv_entry as (n := maxL) hlen
  rw [lg_entry_eq]
  have X : CallFix p m c cc maxL s _ ws y.cls := ⟨B.exec, B.bytes, hml, findClass_of_methodNamed B.named, atoms_spec (ws := ws) B.pre⟩
  refine body p e s m _ below meth c _ (fun H locs pc ls hW hdg => ?_) X ⟨hK, hP, hnd, fun a h => Or.inl h, va_S.rf⟩ _ hl
  exact W.vret X.1 X.2.1 (B.returns.trans hret) (fun t ht hWm => ⟨⟨(), rfl, trivial, va_K.moved hWm.alike hW.1, by rw [ht]; exact hW.2.1⟩, hW.2.2.2.2.F ht⟩) hW.2.2.2.2.2.2 hdg B.notSynchronized
end CC
