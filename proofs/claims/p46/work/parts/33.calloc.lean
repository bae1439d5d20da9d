/-! new cells: the pool grows, what was there stays -/
def pX (L : List Nat) (K : pN) (R : pR) (I : pI) (A : mD) (Q : pR) (N : pN) (L2 : List Nat) (K2 : pN) (R2 : pR) (I2 : pI) (A2 : mD) (Q2 : pR) (N2 : pN) : Prop := ∀ a, a ∈ L → a ∈ L2 ∧ K2 a = K a ∧ (∀ f, R2 f a = R f a) ∧ (∀ f, I2 f a = I f a) ∧ A2 a = A a ∧ Q2 a = Q a ∧ N2 a = N a
section PX
variable {L L1 L2 : List Nat} {K K1 K2 : pN} {R R1 R2 : pR} {I I1 I2 : pI} {A A1 A2 : mD} {Q Q1 Q2 : pR} {N N1 N2 : pN}
theorem pX.rf : pX L K R I A Q N L K R I A Q N := fun a h => ⟨h, rfl, fun _ => rfl, fun _ => rfl, rfl, rfl, rfl⟩
theorem pX.tr (h : pX L K R I A Q N L1 K1 R1 I1 A1 Q1 N1) (g : pX L1 K1 R1 I1 A1 Q1 N1 L2 K2 R2 I2 A2 Q2 N2) : pX L K R I A Q N L2 K2 R2 I2 A2 Q2 N2 := fun a ha => by
  obtain ⟨h1, h2, h3, h4, h5, h6, h7⟩ := h a ha
  obtain ⟨g1, g2, g3, g4, g5, g6, g7⟩ := g a h1
  exact ⟨g1, g2.trans h2, fun f => (g3 f).trans (h3 f), fun f => (g4 f).trans (h4 f), g5.trans h5, g6.trans h6, g7.trans h7⟩
theorem pX.uR {k b : Nat} {v : Option Nat} (h : pX L K R I A Q N L2 K2 R2 I2 A2 Q2 N2) : pX L K (u2 R k b v) I A Q N L2 K2 (u2 R2 k b v) I2 A2 Q2 N2 := fun a ha => by
  obtain ⟨h1, h2, h3, h4, h5, h6, h7⟩ := h a ha
  refine ⟨h1, h2, fun f => ?_, h4, h5, h6, h7⟩
  simp only [u2, h3]
theorem pX.uQ {k b : Nat} {v : Option Nat} (h : pX L K R I A Q N L2 K2 R2 I2 A2 Q2 N2) : pX L K R I A (u2 Q k b v) N L2 K2 R2 I2 A2 (u2 Q2 k b v) N2 := fun a ha => by
  obtain ⟨h1, h2, h3, h4, h5, h6, h7⟩ := h a ha
  refine ⟨h1, h2, h3, h4, h5, ?_, h7⟩
  funext i
  by_cases hf : a = k
  · subst hf; simp only [u2, h6, if_true]
  · simp only [u2, if_neg hf, h6]
/-- a change at a cell that is new: what was there stays -/
theorem pX.newR {k b : Nat} {v : Option Nat} (h : pX L K R I A Q N L2 K2 R2 I2 A2 Q2 N2) (hb : b ∉ L) : pX L K R I A Q N L2 K2 (u2 R2 k b v) I2 A2 Q2 N2 := fun a ha => by
  obtain ⟨h1, h2, h3, h4, h5, h6, h7⟩ := h a ha
  have hne : a ≠ b := fun z => hb (z ▸ ha)
  refine ⟨h1, h2, fun f => ?_, h4, h5, h6, h7⟩
  by_cases hf : f = k
  · subst hf; simp only [u2, if_neg hne, h3, if_true]
  · simp only [u2, if_neg hf, h3]
theorem pX.oldR {k b : Nat} {v : Option Nat} (h : pX L K (u2 R k b v) I A Q N L2 K2 R2 I2 A2 Q2 N2) (hb : b ∉ L) : pX L K R I A Q N L2 K2 R2 I2 A2 Q2 N2 := fun a ha => by
  obtain ⟨h1, h2, h3, h4, h5, h6, h7⟩ := h a ha
  have hne : a ≠ b := fun z => hb (z ▸ ha)
  refine ⟨h1, h2, fun f => ?_, h4, h5, h6, h7⟩
  rw [h3]
  by_cases hf : f = k
  · subst hf; simp only [u2, if_neg hne, if_true]
  · simp only [u2, if_neg hf]
theorem pX.newQ {k b : Nat} {v : Option Nat} (h : pX L K R I A Q N L2 K2 R2 I2 A2 Q2 N2) (hb : b ∉ L) : pX L K R I A Q N L2 K2 R2 I2 A2 (u2 Q2 b k v) N2 := fun a ha => by
  obtain ⟨h1, h2, h3, h4, h5, h6, h7⟩ := h a ha
  have hne : a ≠ b := fun z => hb (z ▸ ha)
  refine ⟨h1, h2, h3, h4, h5, ?_, h7⟩
  rw [← h6]; exact u2_ne hne
theorem pX.newA {b j : Nat} {v : Int32} (h : pX L K R I A Q N L2 K2 R2 I2 A2 Q2 N2) (hb : b ∉ L) : pX L K R I A Q N L2 K2 R2 I2 (u2 A2 b j v) Q2 N2 := fun a ha => by
  obtain ⟨h1, h2, h3, h4, h5, h6, h7⟩ := h a ha
  have hne : a ≠ b := fun z => hb (z ▸ ha)
  refine ⟨h1, h2, h3, h4, ?_, h6, h7⟩
  rw [← h5]; exact u2_ne hne
theorem pX.newF {b d n : Nat} {f : Nat → Int32} (h : pX L K R I A Q N L2 K2 R2 I2 A2 Q2 N2) (hb : b ∉ L) : pX L K R I A Q N L2 K2 R2 I2 (cpF A2 b d f n) Q2 N2 := fun a ha => by
  obtain ⟨h1, h2, h3, h4, h5, h6, h7⟩ := h a ha
  have hne : a ≠ b := fun z => hb (z ▸ ha)
  refine ⟨h1, h2, h3, h4, ?_, h6, h7⟩
  rw [← h5]; exact cpF_ne hne
end PX
/-- what the tables say beside the good words: that an array class stands; a link to a nest mate's constructor -/
abbrev cAx : Type := String ⊕ (String × Nat × MethodName)
def cAe : cAx → State → Prop
  | .inl C, U => va_AO C U
  | .inr q, U => va_Nw (.methodLinkNest q.1 q.2.1 q.2.2 RX6) U
theorem cAe.warm {x : cAx} {s U : State} (h : cAe x s) (hW : s.WarmedH U.vm) : cAe x U := by
  cases x with
  | inl C => exact va_AO.moved hW.alike h
  | inr q => exact va_Nw.warmM hW h
abbrev pΦ : Type := List Nat → pN → pR → pI → mD → pR → pN → Prop
def cNv (l : Launch) (y : MethodName) (ws : List Cond) (rm : Room) (G : va_G) (kT : Nat → ClassId) (as : List Value) (L : List Nat) (K : Nat → Nat) (R : pR) (I : pI) (A : mD) (Q : pR) (N : Nat → Nat) (mc ms : Nat) (cs : List cAx) (Φ : pΦ) : Prop := ∀ sz : Nat, Met l y ws rm (va_Pc as (fun U => U.heap.size = sz ∧ va_K G vwCl (ctys kT) U ∧ va_P G vwCl (cW kT L K R I A Q N) U.heap ∧ L.Nodup ∧ ∀ C ∈ cs, cAe C U)) (va_Qv (fun (_ : Unit) => True) (fun _ t => ∃ L2 K2 R2 I2 A2 Q2 N2, va_K G vwCl (ctys kT) t ∧ va_P G vwCl (cW kT L2 K2 R2 I2 A2 Q2 N2) t.heap ∧ L2.Nodup ∧ (∀ a ∈ L2, cA L sz a) ∧ Φ L2 K2 R2 I2 A2 Q2 N2) (cA L sz)) mc ms (cA L sz)
def cNi (l : Launch) (y : MethodName) (ws : List Cond) (rm : Room) (G : va_G) (kT : Nat → ClassId) (as : List Value) (L : List Nat) (K : Nat → Nat) (R : pR) (I : pI) (A : mD) (Q : pR) (N : Nat → Nat) (mc ms : Nat) (cs : List cAx) (r : Int32) (Φ : pΦ) : Prop := ∀ sz : Nat, Met l y ws rm (va_Pc as (fun U => U.heap.size = sz ∧ va_K G vwCl (ctys kT) U ∧ va_P G vwCl (cW kT L K R I A Q N) U.heap ∧ L.Nodup ∧ ∀ C ∈ cs, cAe C U)) (va_Qi (fun (v : Int32) (_ : Unit) => v = r) (fun _ t => ∃ L2 K2 R2 I2 A2 Q2 N2, va_K G vwCl (ctys kT) t ∧ va_P G vwCl (cW kT L2 K2 R2 I2 A2 Q2 N2) t.heap ∧ L2.Nodup ∧ (∀ a ∈ L2, cA L sz a) ∧ Φ L2 K2 R2 I2 A2 Q2 N2) (cA L sz)) mc ms (cA L sz)
section CN
variable {p : Program} {l : Launch} {e : Env} {Rm : Room} {s : State} {m : MethodId} {args : Array Value} {below : List Frame} {meth : Method} {c : Code} {H : Heap} {locs : List Loc} {cells slots : Nat} {Z : State → Prop} {cc : ByteArray} {pc nL : Nat} {ls : Array Slot} {rest : List Value} {Ts : List Cond} {own : String}
variable {G : va_G} {kT : Nat → ClassId} {L0 L : List Nat} {K : Nat → Nat} {R : pR} {I : pI} {A : mD} {Q : pR} {N : Nat → Nat}
variable {y : MethodName} {ws ws2 : List Cond} {rm : Room} {as : List Value} {maxL index n mc ms : Nat} {ret : Option FieldType} {bytes : ByteArray} {cs : List cAx} {Φ : pΦ}
theorem cstNv (hy : plainName y.cls = true) (hw : ws = Cond.code y cc maxL ret :: ws2) (hret : ret = none) (hlen : (lg_sl as).length ≤ maxL) (body : ∀ (p : Program) (e : Env) (s : State) (m : MethodId) (args : Array Value) (below : List Frame) (meth : Method) (c : Code) (Z : State → Prop), (∀ (H : Heap) (locs : List Loc) (pc : Nat) (ls : Array Slot) (cells slots : Nat) (L2 : List Nat) (K2 : pN) (R2 : pR) (I2 : pI) (A2 : mD) (Q2 : pR) (N2 : pN), cells ≤ mc → slots ≤ ms → cH G kT L L2 K2 R2 I2 A2 Q2 N2 s H locs → Φ L2 K2 R2 I2 A2 Q2 N2 → decode cc pc = .ok (.return_, 1) → W p l e rm s m args below meth c H locs cells slots Z (F0 m pc ls [])) → CallFix p m c cc maxL s args ws y.cls → meth.name = y.name → (∀ C ∈ cs, cAe C s) → cH G kT L L K R I A Q N s s.heap [] → ∀ ls : Array Slot, lv_has ls maxL (lv_args 0 as) → W p l e rm s m args below meth c s.heap [] 0 0 Z (F0 m 0 ls [])) : cNv l y ws rm G kT as L K R I A Q N mc ms cs Φ := by
  intro sz
  refine Met.ofW (cc := cc) (maxL := maxL) (ret := ret) hy hw ?_
  intro p e s m args below meth c s₁ B hml hv
  obtain ⟨rfl, hsz, hK, hP, hnd, hAO⟩ := hv
  subst hsz
  have hl := lv_entry as (n := maxL) hlen
  rw [lg_entry_eq]
  have X : CallFix p m c cc maxL s _ ws y.cls := ⟨B.exec, B.bytes, hml, findClass_of_methodNamed B.named, atoms_spec (ws := ws) B.pre⟩
  refine body p e s m _ below meth c _ (fun H locs pc ls cells slots L2 K2 R2 I2 A2 Q2 N2 hc hs hW hF hdg => ?_) X (name_of_methodNamed B.named B.method).1 hAO ⟨hK, hP, hnd, fun a h => Or.inl h, va_S.rf⟩ _ hl
  exact W.widen hc hs (W.vret X.1 X.2.1 (B.returns.trans hret) (fun t ht hWm => ⟨⟨(), rfl, trivial, L2, K2, R2, I2, A2, Q2, N2, va_K.moved hWm.alike hW.1, by rw [ht]; exact hW.2.1, hW.2.2.1, hW.2.2.2.1, hF⟩, hW.2.2.2.2.F ht⟩) hW.2.2.2.2.2.2 hdg B.notSynchronized)
theorem cINv {b : Nat} (X : CallFix p m c cc nL s args Ts own) (hW : cH G kT L0 L K R I A Q N s H locs) (hAO : ∀ C ∈ cs, cAe C s) (hM : cNv l y ws rm G kT (.ref b :: as) L K R I A Q N mc ms cs Φ) (cw : CallB Rm s args own index y bytes maxL none ws rm mc ms n ∧ y.name = "<init>" ∧ (Cond.instanceMethod y).before args s = true) {st : List Value} (hst : st = as.reverse ++ .ref b :: rest) (hn : as.length = n) (hs : ls.size = nL) (hroom : (rest.map fun v => v.category).sum ≤ 8) (hdg : decode cc pc = .ok (.invokespecial index, 3)) (hcs : cells + mc ≤ Rm.cells ∧ slots + ms ≤ Rm.slots)
    (kk : ∀ (L2 : List Nat) (K2 : pN) (R2 : pR) (I2 : pI) (A2 : mD) (Q2 : pR) (N2 : pN) (H1 : Heap) (locs1 : List Loc), cH G kT L0 L2 K2 R2 I2 A2 Q2 N2 s H1 locs1 → Φ L2 K2 R2 I2 A2 Q2 N2 → W p l e Rm s m args below meth c H1 locs1 (cells + mc) (slots + ms) Z (F0 m (pc + 3) ls (rest))) : W p l e Rm s m args below meth c H locs cells slots Z (F0 m pc ls st) := by
  subst hst
  refine va_callv (va_runI (As := as) (rest := rest) X (hM H.size) cw ⟨fun a U g mk z => by obtain ⟨z0, z1, z2, z3, z4, z5⟩ := z; exact ⟨z0, z1, va_K.moved (u := U) (U := U.calling g mk a) (Vm.Alike.refl U.vm) z2, z3, z4, fun C hC => (z5 C hC).warm (U := U.calling g mk a) (State.WarmedH.refl U)⟩, fun U hU hWm => ⟨rfl, by rw [hU], va_K.moved hWm.alike hW.1, by rw [hU]; exact hW.2.1, hW.2.2.1, fun C hC => (hAO C hC).warm hWm⟩⟩ rfl hn hs rfl (lv_room hroom) hdg hcs) hW.2.2.2.2 (fun a _ h => cA_up hW a h) (cA_up hW) (fun u t H1 locs1 ht hvm hw hB hz1 hk1 hS => ?_)
  skip
  obtain ⟨L2, K2, R2, I2, A2, Q2, N2, g1, g2, g3, g4, g5⟩ := hB
  exact kk L2 K2 R2 I2 A2 Q2 N2 H1 locs1 ⟨va_K.moved hvm.symm g1, by rw [← ht]; exact g2, g3, fun a ha => cA_up hW a (g4 a ha), hS⟩ g5
theorem cVNv {b ci : Nat} {q9 : vw_C} {fs : List Value} (hb : b ∈ L) (hrec : pC kT K R I A Q N b = .inr (ci, fs)) (hq : vwCl[ci]? = some q9) (X : CallFix p m c cc nL s args Ts own) (hW : cH G kT L0 L K R I A Q N s H locs) (hAO : ∀ C ∈ cs, cAe C s) (hM : cNv l y ws rm G kT (.ref b :: as) L K R I A Q N mc ms cs Φ) (cw : CallW Rm s args own q9.1 index y bytes maxL ret ws rm mc ms n) {st : List Value} (hst : st = as.reverse ++ .ref b :: rest) (hn : as.length = n) (hs : ls.size = nL) (hroom : (rest.map fun v => v.category).sum ≤ 8) (hdg : decode cc pc = .ok (.invokevirtual index, 3)) (hcs : cells + mc ≤ Rm.cells ∧ slots + ms ≤ Rm.slots)
    (kk : ∀ (L2 : List Nat) (K2 : pN) (R2 : pR) (I2 : pI) (A2 : mD) (Q2 : pR) (N2 : pN) (H1 : Heap) (locs1 : List Loc), cH G kT L0 L2 K2 R2 I2 A2 Q2 N2 s H1 locs1 → Φ L2 K2 R2 I2 A2 Q2 N2 → W p l e Rm s m args below meth c H1 locs1 (cells + mc) (slots + ms) Z (F0 m (pc + 3) ls (rest))) : W p l e Rm s m args below meth c H locs cells slots Z (F0 m pc ls st) := by
  subst hst
  obtain ⟨k0, h0⟩ := cW_get hb hrec
  refine va_callv (va_runV (As := as) (rest := rest) X (hM H.size) cw ⟨fun a U g mk z => by obtain ⟨z0, z1, z2, z3, z4, z5⟩ := z; exact ⟨z0, z1, va_K.moved (u := U) (U := U.calling g mk a) (Vm.Alike.refl U.vm) z2, z3, z4, fun C hC => (z5 C hC).warm (U := U.calling g mk a) (State.WarmedH.refl U)⟩, va_recv hW.1 hW.2.1 (ci := ci) (q0 := k0) hq h0, fun U hU hWm => ⟨rfl, by rw [hU], va_K.moved hWm.alike hW.1, by rw [hU]; exact hW.2.1, hW.2.2.1, fun C hC => (hAO C hC).warm hWm⟩⟩ rfl hn hs rfl (lv_room hroom) hdg hcs) hW.2.2.2.2 (fun a _ h => cA_up hW a h) (cA_up hW) (fun u t H1 locs1 ht hvm hw hB hz1 hk1 hS => ?_)
  skip
  obtain ⟨L2, K2, R2, I2, A2, Q2, N2, g1, g2, g3, g4, g5⟩ := hB
  exact kk L2 K2 R2 I2 A2 Q2 N2 H1 locs1 ⟨va_K.moved hvm.symm g1, by rw [← ht]; exact g2, g3, fun a ha => cA_up hW a (g4 a ha), hS⟩ g5
theorem cKNv {b : Nat} (X : CallFix p m c cc nL s args Ts own) (hW : cH G kT L0 L K R I A Q N s H locs) (hAO : ∀ C ∈ cs, cAe C s) (hM : cNv l y ws rm G kT (.ref b :: as) L K R I A Q N mc ms cs Φ) (cw : va_CN Rm s args own index y RX6 bytes maxL none ws rm mc ms n ∧ y.name = "<init>" ∧ (Cond.instanceMethod y).before args s = true) {st : List Value} (hst : st = as.reverse ++ .ref b :: rest) (hn : as.length = n) (hs : ls.size = nL) (hroom : (rest.map fun v => v.category).sum ≤ 8) (hdg : decode cc pc = .ok (.invokespecial index, 3)) (hcs : cells + mc ≤ Rm.cells ∧ slots + ms ≤ Rm.slots)
    (kk : ∀ (L2 : List Nat) (K2 : pN) (R2 : pR) (I2 : pI) (A2 : mD) (Q2 : pR) (N2 : pN) (H1 : Heap) (locs1 : List Loc), cH G kT L0 L2 K2 R2 I2 A2 Q2 N2 s H1 locs1 → Φ L2 K2 R2 I2 A2 Q2 N2 → W p l e Rm s m args below meth c H1 locs1 (cells + mc) (slots + ms) Z (F0 m (pc + 3) ls (rest))) : W p l e Rm s m args below meth c H locs cells slots Z (F0 m pc ls st) := by
  subst hst
  refine va_callv (va_runIN (As := as) (rest := rest) X (hM H.size) cw ⟨fun a U g mk z => by obtain ⟨z0, z1, z2, z3, z4, z5⟩ := z; exact ⟨z0, z1, va_K.moved (u := U) (U := U.calling g mk a) (Vm.Alike.refl U.vm) z2, z3, z4, fun C hC => (z5 C hC).warm (U := U.calling g mk a) (State.WarmedH.refl U)⟩, fun U hU hWm => ⟨rfl, by rw [hU], va_K.moved hWm.alike hW.1, by rw [hU]; exact hW.2.1, hW.2.2.1, fun C hC => (hAO C hC).warm hWm⟩⟩ rfl hn hs rfl (lv_room hroom) hdg hcs) hW.2.2.2.2 (fun a _ h => cA_up hW a h) (cA_up hW) (fun u t H1 locs1 ht hvm hw hB hz1 hk1 hS => ?_)
  skip
  obtain ⟨L2, K2, R2, I2, A2, Q2, N2, g1, g2, g3, g4, g5⟩ := hB
  exact kk L2 K2 R2 I2 A2 Q2 N2 H1 locs1 ⟨va_K.moved hvm.symm g1, by rw [← ht]; exact g2, g3, fun a ha => cA_up hW a (g4 a ha), hS⟩ g5
theorem cstNi {r : Int32} (hy : plainName y.cls = true) (hw : ws = Cond.code y cc maxL ret :: ws2) (hret : ret = some .int) (hlen : (lg_sl as).length ≤ maxL) (body : ∀ (p : Program) (e : Env) (s : State) (m : MethodId) (args : Array Value) (below : List Frame) (meth : Method) (c : Code) (Z : State → Prop), (∀ (H : Heap) (locs : List Loc) (pc : Nat) (ls : Array Slot) (cells slots : Nat) (v : Int32) (L2 : List Nat) (K2 : pN) (R2 : pR) (I2 : pI) (A2 : mD) (Q2 : pR) (N2 : pN), v = r → cells ≤ mc → slots ≤ ms → cH G kT L L2 K2 R2 I2 A2 Q2 N2 s H locs → Φ L2 K2 R2 I2 A2 Q2 N2 → decode cc pc = .ok (.ireturn, 1) → W p l e rm s m args below meth c H locs cells slots Z (F0 m pc ls [.int v])) → CallFix p m c cc maxL s args ws y.cls → meth.name = y.name → (∀ C ∈ cs, cAe C s) → cH G kT L L K R I A Q N s s.heap [] → ∀ ls : Array Slot, lv_has ls maxL (lv_args 0 as) → W p l e rm s m args below meth c s.heap [] 0 0 Z (F0 m 0 ls [])) : cNi l y ws rm G kT as L K R I A Q N mc ms cs r Φ := by
  intro sz
  refine Met.ofW (cc := cc) (maxL := maxL) (ret := ret) hy hw ?_
  intro p e s m args below meth c s₁ B hml hv
  obtain ⟨rfl, hsz, hK, hP, hnd, hAO⟩ := hv
  subst hsz
  have hl := lv_entry as (n := maxL) hlen
  rw [lg_entry_eq]
  have X : CallFix p m c cc maxL s _ ws y.cls := ⟨B.exec, B.bytes, hml, findClass_of_methodNamed B.named, atoms_spec (ws := ws) B.pre⟩
  refine body p e s m _ below meth c _ (fun H locs pc ls cells slots v L2 K2 R2 I2 A2 Q2 N2 hv hc hs hW hF hdg => ?_) X (name_of_methodNamed B.named B.method).1 hAO ⟨hK, hP, hnd, fun a h => Or.inl h, va_S.rf⟩ _ hl
  exact W.widen hc hs (W.zret (v := v) X.1 X.2.1 (B.returns.trans hret) rfl (fun t ht hWm => ⟨⟨v, (), rfl, hv, L2, K2, R2, I2, A2, Q2, N2, va_K.moved hWm.alike hW.1, by rw [ht]; exact hW.2.1, hW.2.2.1, hW.2.2.2.1, hF⟩, hW.2.2.2.2.F ht⟩) hW.2.2.2.2.2.2 hdg B.notSynchronized)
theorem cVNi {r : Int32} {b ci : Nat} {q9 : vw_C} {fs : List Value} (hb : b ∈ L) (hrec : pC kT K R I A Q N b = .inr (ci, fs)) (hq : vwCl[ci]? = some q9) (X : CallFix p m c cc nL s args Ts own) (hW : cH G kT L0 L K R I A Q N s H locs) (hAO : ∀ C ∈ cs, cAe C s) (hM : cNi l y ws rm G kT (.ref b :: as) L K R I A Q N mc ms cs r Φ) (cw : CallW Rm s args own q9.1 index y bytes maxL ret ws rm mc ms n) {st : List Value} (hst : st = as.reverse ++ .ref b :: rest) (hn : as.length = n) (hs : ls.size = nL) (hroom : (rest.map fun v => v.category).sum ≤ 8) (hdg : decode cc pc = .ok (.invokevirtual index, 3)) (hcs : cells + mc ≤ Rm.cells ∧ slots + ms ≤ Rm.slots)
    (kk : ∀ (L2 : List Nat) (K2 : pN) (R2 : pR) (I2 : pI) (A2 : mD) (Q2 : pR) (N2 : pN) (H1 : Heap) (locs1 : List Loc), cH G kT L0 L2 K2 R2 I2 A2 Q2 N2 s H1 locs1 → Φ L2 K2 R2 I2 A2 Q2 N2 → W p l e Rm s m args below meth c H1 locs1 (cells + mc) (slots + ms) Z (F0 m (pc + 3) ls (.int r :: rest))) : W p l e Rm s m args below meth c H locs cells slots Z (F0 m pc ls st) := by
  subst hst
  obtain ⟨k0, h0⟩ := cW_get hb hrec
  refine va_calli (va_runV (As := as) (rest := rest) X (hM H.size) cw ⟨fun a U g mk z => by obtain ⟨z0, z1, z2, z3, z4, z5⟩ := z; exact ⟨z0, z1, va_K.moved (u := U) (U := U.calling g mk a) (Vm.Alike.refl U.vm) z2, z3, z4, fun C hC => (z5 C hC).warm (U := U.calling g mk a) (State.WarmedH.refl U)⟩, va_recv hW.1 hW.2.1 (ci := ci) (q0 := k0) hq h0, fun U hU hWm => ⟨rfl, by rw [hU], va_K.moved hWm.alike hW.1, by rw [hU]; exact hW.2.1, hW.2.2.1, fun C hC => (hAO C hC).warm hWm⟩⟩ rfl hn hs rfl (lv_room hroom) hdg hcs) hW.2.2.2.2 (fun a _ h => cA_up hW a h) (cA_up hW) (fun r u t H1 locs1 ht hvm hw hB hz1 hk1 hS => ?_)
  subst hw
  obtain ⟨L2, K2, R2, I2, A2, Q2, N2, g1, g2, g3, g4, g5⟩ := hB
  exact kk L2 K2 R2 I2 A2 Q2 N2 H1 locs1 ⟨va_K.moved hvm.symm g1, by rw [← ht]; exact g2, g3, fun a ha => cA_up hW a (g4 a ha), hS⟩ g5
theorem pN_0 {q : Nat} : va_up (pC kT K R I A Q N) q (.inr (2, [.null])) = pC kT (va_up K q 0) (fun f => va_up (R f) q none) (fun f => va_up (I f) q 0) A Q N := by
  funext b
  by_cases hb : b = q
  · subst hb; simp [pC, va_up, va_rf]
  · rw [va_up_ne _ _ hb]; simp [pC, va_up, hb]
theorem cnw_0 (X : CallFix p m c cc nL s args Ts own) (hin : ∀ w ∈ wsX00, w ∈ Ts) (hW : cH G kT L0 L K R I A Q N s H locs) {index : Nat} (hcl : (Cond.classLink own index RX0).before args s = true) (hinst : (Cond.instantiable RX0 1).before args s = true) (hini : (Cond.initialized RX0).before args s = true) (hcells : cells + 1 ≤ Rm.cells) (hslots : slots + 1 ≤ Rm.slots) (hdg : decode cc pc = .ok (.new index, 3))
    (kk : ∀ (b : Nat) (L1 : List Nat) (K1 : pN) (R1 : pR) (I1 : pI) (A1 : mD) (Q1 : pR) (N1 : pN) (H1 : Heap), pX L K R I A Q N L1 K1 R1 I1 A1 Q1 N1 → b ∉ L → b ∈ L1 → K1 b = 0 → (∀ f, R1 f b = none) → (∀ f, I1 f b = 0) → cH G kT L0 L1 K1 R1 I1 A1 Q1 N1 s H1 locs → W p l e Rm s m args below meth c H1 locs (cells + 1) (slots + 1) Z (F0 m (pc + 3) ls (.ref b :: rest))) : W p l e Rm s m args below meth c H locs cells slots Z (F0 m pc ls rest) := by
  refine va_new (D := G) (ci := 2) (fs := [.null]) (C := RX0) (T := TX0) (N := 1) X.1 X.2.1 X.2.2.2.2 hin tyX0 tyX0_ok X.2.2.2.1 hcl hinst hini hW.1 hW.2.1 hW.D hW.2.2.2.2 (fun q h => Or.inr h) rfl (fun j hj => by rcases (show j = 0 by omega) with rfl <;> rfl) hcells hslots hdg (fun q H1 hP hD hS => ?_)
  have hq : q ∉ L := va_pl_fresh2 (X := []) hD
  have e9 : cW kT L K R I A Q N ++ [(q, .inr (2, [.null]))] = cW kT (L ++ [q]) (va_up K q 0) (fun f => va_up (R f) q none) (fun f => va_up (I f) q 0) A Q N := by
    rw [cW, va_pl_push hq, pN_0]; rfl
  rw [e9] at hP
  have hne : ∀ a ∈ L, a ≠ q := fun a ha z => hq (z ▸ ha)
  refine kk q (L ++ [q]) (va_up K q 0) (fun f => va_up (R f) q none) (fun f => va_up (I f) q 0) A Q N H1 (fun a ha => ⟨List.mem_append_left _ ha, va_up_ne _ _ (hne a ha), fun f => va_up_ne _ _ (hne a ha), fun f => va_up_ne _ _ (hne a ha), rfl, rfl, rfl⟩) hq (List.mem_append_right _ (List.mem_singleton.mpr rfl)) (va_up_self _ _ _) (fun f => va_up_self _ _ _) (fun f => va_up_self _ _ _) ⟨hW.1, hP, List.nodup_append.mpr ⟨hW.2.2.1, (by simp), fun a ha b hb => by rw [List.mem_singleton.mp hb]; exact hne a ha⟩, fun a ha => (List.mem_append.mp ha).elim (hW.2.2.2.1 a) (fun z => by rw [List.mem_singleton.mp z]; exact hD.2 (cW kT L K R I A Q N).length (q, .inr (2, [.null])) (by rw [List.getElem?_append_right (Nat.le_refl _), Nat.sub_self]; rfl)), hS⟩
theorem pN_1 {q : Nat} : va_up (pC kT K R I A Q N) q (.inr (3, [.null, .int 0, .int 0, .int 0, .int 0, .int 0])) = pC kT (va_up K q 1) (fun f => va_up (R f) q none) (fun f => va_up (I f) q 0) A Q N := by
  funext b
  by_cases hb : b = q
  · subst hb; simp [pC, va_up, va_rf]
  · rw [va_up_ne _ _ hb]; simp [pC, va_up, hb]
theorem cnw_1 (X : CallFix p m c cc nL s args Ts own) (hin : ∀ w ∈ wsX10, w ∈ Ts) (hW : cH G kT L0 L K R I A Q N s H locs) {index : Nat} (hcl : (Cond.classLink own index RX1).before args s = true) (hinst : (Cond.instantiable RX1 6).before args s = true) (hini : (Cond.initialized RX1).before args s = true) (hcells : cells + 1 ≤ Rm.cells) (hslots : slots + 6 ≤ Rm.slots) (hdg : decode cc pc = .ok (.new index, 3))
    (kk : ∀ (b : Nat) (L1 : List Nat) (K1 : pN) (R1 : pR) (I1 : pI) (A1 : mD) (Q1 : pR) (N1 : pN) (H1 : Heap), pX L K R I A Q N L1 K1 R1 I1 A1 Q1 N1 → b ∉ L → b ∈ L1 → K1 b = 1 → (∀ f, R1 f b = none) → (∀ f, I1 f b = 0) → cH G kT L0 L1 K1 R1 I1 A1 Q1 N1 s H1 locs → W p l e Rm s m args below meth c H1 locs (cells + 1) (slots + 6) Z (F0 m (pc + 3) ls (.ref b :: rest))) : W p l e Rm s m args below meth c H locs cells slots Z (F0 m pc ls rest) := by
  refine va_new (D := G) (ci := 3) (fs := [.null, .int 0, .int 0, .int 0, .int 0, .int 0]) (C := RX1) (T := TX1) (N := 6) X.1 X.2.1 X.2.2.2.2 hin tyX1 tyX1_ok X.2.2.2.1 hcl hinst hini hW.1 hW.2.1 hW.D hW.2.2.2.2 (fun q h => Or.inr h) rfl (fun j hj => by rcases (show j = 0 ∨ j = 1 ∨ j = 2 ∨ j = 3 ∨ j = 4 ∨ j = 5 by omega) with rfl | rfl | rfl | rfl | rfl | rfl <;> rfl) hcells hslots hdg (fun q H1 hP hD hS => ?_)
  have hq : q ∉ L := va_pl_fresh2 (X := []) hD
  have e9 : cW kT L K R I A Q N ++ [(q, .inr (3, [.null, .int 0, .int 0, .int 0, .int 0, .int 0]))] = cW kT (L ++ [q]) (va_up K q 1) (fun f => va_up (R f) q none) (fun f => va_up (I f) q 0) A Q N := by
    rw [cW, va_pl_push hq, pN_1]; rfl
  rw [e9] at hP
  have hne : ∀ a ∈ L, a ≠ q := fun a ha z => hq (z ▸ ha)
  refine kk q (L ++ [q]) (va_up K q 1) (fun f => va_up (R f) q none) (fun f => va_up (I f) q 0) A Q N H1 (fun a ha => ⟨List.mem_append_left _ ha, va_up_ne _ _ (hne a ha), fun f => va_up_ne _ _ (hne a ha), fun f => va_up_ne _ _ (hne a ha), rfl, rfl, rfl⟩) hq (List.mem_append_right _ (List.mem_singleton.mpr rfl)) (va_up_self _ _ _) (fun f => va_up_self _ _ _) (fun f => va_up_self _ _ _) ⟨hW.1, hP, List.nodup_append.mpr ⟨hW.2.2.1, (by simp), fun a ha b hb => by rw [List.mem_singleton.mp hb]; exact hne a ha⟩, fun a ha => (List.mem_append.mp ha).elim (hW.2.2.2.1 a) (fun z => by rw [List.mem_singleton.mp z]; exact hD.2 (cW kT L K R I A Q N).length (q, .inr (3, [.null, .int 0, .int 0, .int 0, .int 0, .int 0])) (by rw [List.getElem?_append_right (Nat.le_refl _), Nat.sub_self]; rfl)), hS⟩
theorem pN_2 {q : Nat} : va_up (pC kT K R I A Q N) q (.inr (4, [.null, .int 0, .int 0, .int 0, .int 0, .int 0])) = pC kT (va_up K q 2) (fun f => va_up (R f) q none) (fun f => va_up (I f) q 0) A Q N := by
  funext b
  by_cases hb : b = q
  · subst hb; simp [pC, va_up, va_rf]
  · rw [va_up_ne _ _ hb]; simp [pC, va_up, hb]
theorem cnw_2 (X : CallFix p m c cc nL s args Ts own) (hin : ∀ w ∈ wsX20, w ∈ Ts) (hW : cH G kT L0 L K R I A Q N s H locs) {index : Nat} (hcl : (Cond.classLink own index RX2).before args s = true) (hinst : (Cond.instantiable RX2 6).before args s = true) (hini : (Cond.initialized RX2).before args s = true) (hcells : cells + 1 ≤ Rm.cells) (hslots : slots + 6 ≤ Rm.slots) (hdg : decode cc pc = .ok (.new index, 3))
    (kk : ∀ (b : Nat) (L1 : List Nat) (K1 : pN) (R1 : pR) (I1 : pI) (A1 : mD) (Q1 : pR) (N1 : pN) (H1 : Heap), pX L K R I A Q N L1 K1 R1 I1 A1 Q1 N1 → b ∉ L → b ∈ L1 → K1 b = 2 → (∀ f, R1 f b = none) → (∀ f, I1 f b = 0) → cH G kT L0 L1 K1 R1 I1 A1 Q1 N1 s H1 locs → W p l e Rm s m args below meth c H1 locs (cells + 1) (slots + 6) Z (F0 m (pc + 3) ls (.ref b :: rest))) : W p l e Rm s m args below meth c H locs cells slots Z (F0 m pc ls rest) := by
  refine va_new (D := G) (ci := 4) (fs := [.null, .int 0, .int 0, .int 0, .int 0, .int 0]) (C := RX2) (T := TX2) (N := 6) X.1 X.2.1 X.2.2.2.2 hin tyX2 tyX2_ok X.2.2.2.1 hcl hinst hini hW.1 hW.2.1 hW.D hW.2.2.2.2 (fun q h => Or.inr h) rfl (fun j hj => by rcases (show j = 0 ∨ j = 1 ∨ j = 2 ∨ j = 3 ∨ j = 4 ∨ j = 5 by omega) with rfl | rfl | rfl | rfl | rfl | rfl <;> rfl) hcells hslots hdg (fun q H1 hP hD hS => ?_)
  have hq : q ∉ L := va_pl_fresh2 (X := []) hD
  have e9 : cW kT L K R I A Q N ++ [(q, .inr (4, [.null, .int 0, .int 0, .int 0, .int 0, .int 0]))] = cW kT (L ++ [q]) (va_up K q 2) (fun f => va_up (R f) q none) (fun f => va_up (I f) q 0) A Q N := by
    rw [cW, va_pl_push hq, pN_2]; rfl
  rw [e9] at hP
  have hne : ∀ a ∈ L, a ≠ q := fun a ha z => hq (z ▸ ha)
  refine kk q (L ++ [q]) (va_up K q 2) (fun f => va_up (R f) q none) (fun f => va_up (I f) q 0) A Q N H1 (fun a ha => ⟨List.mem_append_left _ ha, va_up_ne _ _ (hne a ha), fun f => va_up_ne _ _ (hne a ha), fun f => va_up_ne _ _ (hne a ha), rfl, rfl, rfl⟩) hq (List.mem_append_right _ (List.mem_singleton.mpr rfl)) (va_up_self _ _ _) (fun f => va_up_self _ _ _) (fun f => va_up_self _ _ _) ⟨hW.1, hP, List.nodup_append.mpr ⟨hW.2.2.1, (by simp), fun a ha b hb => by rw [List.mem_singleton.mp hb]; exact hne a ha⟩, fun a ha => (List.mem_append.mp ha).elim (hW.2.2.2.1 a) (fun z => by rw [List.mem_singleton.mp z]; exact hD.2 (cW kT L K R I A Q N).length (q, .inr (4, [.null, .int 0, .int 0, .int 0, .int 0, .int 0])) (by rw [List.getElem?_append_right (Nat.le_refl _), Nat.sub_self]; rfl)), hS⟩
theorem pN_3 {q : Nat} : va_up (pC kT K R I A Q N) q (.inr (5, [.null])) = pC kT (va_up K q 3) (fun f => va_up (R f) q none) (fun f => va_up (I f) q 0) A Q N := by
  funext b
  by_cases hb : b = q
  · subst hb; simp [pC, va_up, va_rf]
  · rw [va_up_ne _ _ hb]; simp [pC, va_up, hb]
theorem cnw_3 (X : CallFix p m c cc nL s args Ts own) (hin : ∀ w ∈ wsX30, w ∈ Ts) (hW : cH G kT L0 L K R I A Q N s H locs) {index : Nat} (hcl : (Cond.classLink own index RX3).before args s = true) (hinst : (Cond.instantiable RX3 1).before args s = true) (hini : (Cond.initialized RX3).before args s = true) (hcells : cells + 1 ≤ Rm.cells) (hslots : slots + 1 ≤ Rm.slots) (hdg : decode cc pc = .ok (.new index, 3))
    (kk : ∀ (b : Nat) (L1 : List Nat) (K1 : pN) (R1 : pR) (I1 : pI) (A1 : mD) (Q1 : pR) (N1 : pN) (H1 : Heap), pX L K R I A Q N L1 K1 R1 I1 A1 Q1 N1 → b ∉ L → b ∈ L1 → K1 b = 3 → (∀ f, R1 f b = none) → (∀ f, I1 f b = 0) → cH G kT L0 L1 K1 R1 I1 A1 Q1 N1 s H1 locs → W p l e Rm s m args below meth c H1 locs (cells + 1) (slots + 1) Z (F0 m (pc + 3) ls (.ref b :: rest))) : W p l e Rm s m args below meth c H locs cells slots Z (F0 m pc ls rest) := by
  refine va_new (D := G) (ci := 5) (fs := [.null]) (C := RX3) (T := TX3) (N := 1) X.1 X.2.1 X.2.2.2.2 hin tyX3 tyX3_ok X.2.2.2.1 hcl hinst hini hW.1 hW.2.1 hW.D hW.2.2.2.2 (fun q h => Or.inr h) rfl (fun j hj => by rcases (show j = 0 by omega) with rfl <;> rfl) hcells hslots hdg (fun q H1 hP hD hS => ?_)
  have hq : q ∉ L := va_pl_fresh2 (X := []) hD
  have e9 : cW kT L K R I A Q N ++ [(q, .inr (5, [.null]))] = cW kT (L ++ [q]) (va_up K q 3) (fun f => va_up (R f) q none) (fun f => va_up (I f) q 0) A Q N := by
    rw [cW, va_pl_push hq, pN_3]; rfl
  rw [e9] at hP
  have hne : ∀ a ∈ L, a ≠ q := fun a ha z => hq (z ▸ ha)
  refine kk q (L ++ [q]) (va_up K q 3) (fun f => va_up (R f) q none) (fun f => va_up (I f) q 0) A Q N H1 (fun a ha => ⟨List.mem_append_left _ ha, va_up_ne _ _ (hne a ha), fun f => va_up_ne _ _ (hne a ha), fun f => va_up_ne _ _ (hne a ha), rfl, rfl, rfl⟩) hq (List.mem_append_right _ (List.mem_singleton.mpr rfl)) (va_up_self _ _ _) (fun f => va_up_self _ _ _) (fun f => va_up_self _ _ _) ⟨hW.1, hP, List.nodup_append.mpr ⟨hW.2.2.1, (by simp), fun a ha b hb => by rw [List.mem_singleton.mp hb]; exact hne a ha⟩, fun a ha => (List.mem_append.mp ha).elim (hW.2.2.2.1 a) (fun z => by rw [List.mem_singleton.mp z]; exact hD.2 (cW kT L K R I A Q N).length (q, .inr (5, [.null])) (by rw [List.getElem?_append_right (Nat.le_refl _), Nat.sub_self]; rfl)), hS⟩
theorem pN_4 {q : Nat} : va_up (pC kT K R I A Q N) q (.inr (6, [.null, .int 0])) = pC kT (va_up K q 4) (fun f => va_up (R f) q none) (fun f => va_up (I f) q 0) A Q N := by
  funext b
  by_cases hb : b = q
  · subst hb; simp [pC, va_up, va_rf]
  · rw [va_up_ne _ _ hb]; simp [pC, va_up, hb]
theorem cnw_4 (X : CallFix p m c cc nL s args Ts own) (hin : ∀ w ∈ wsX40, w ∈ Ts) (hW : cH G kT L0 L K R I A Q N s H locs) {index : Nat} (hcl : (Cond.classLink own index RX4).before args s = true) (hinst : (Cond.instantiable RX4 2).before args s = true) (hini : (Cond.initialized RX4).before args s = true) (hcells : cells + 1 ≤ Rm.cells) (hslots : slots + 2 ≤ Rm.slots) (hdg : decode cc pc = .ok (.new index, 3))
    (kk : ∀ (b : Nat) (L1 : List Nat) (K1 : pN) (R1 : pR) (I1 : pI) (A1 : mD) (Q1 : pR) (N1 : pN) (H1 : Heap), pX L K R I A Q N L1 K1 R1 I1 A1 Q1 N1 → b ∉ L → b ∈ L1 → K1 b = 4 → (∀ f, R1 f b = none) → (∀ f, I1 f b = 0) → cH G kT L0 L1 K1 R1 I1 A1 Q1 N1 s H1 locs → W p l e Rm s m args below meth c H1 locs (cells + 1) (slots + 2) Z (F0 m (pc + 3) ls (.ref b :: rest))) : W p l e Rm s m args below meth c H locs cells slots Z (F0 m pc ls rest) := by
  refine va_new (D := G) (ci := 6) (fs := [.null, .int 0]) (C := RX4) (T := TX4) (N := 2) X.1 X.2.1 X.2.2.2.2 hin tyX4 tyX4_ok X.2.2.2.1 hcl hinst hini hW.1 hW.2.1 hW.D hW.2.2.2.2 (fun q h => Or.inr h) rfl (fun j hj => by rcases (show j = 0 ∨ j = 1 by omega) with rfl | rfl <;> rfl) hcells hslots hdg (fun q H1 hP hD hS => ?_)
  have hq : q ∉ L := va_pl_fresh2 (X := []) hD
  have e9 : cW kT L K R I A Q N ++ [(q, .inr (6, [.null, .int 0]))] = cW kT (L ++ [q]) (va_up K q 4) (fun f => va_up (R f) q none) (fun f => va_up (I f) q 0) A Q N := by
    rw [cW, va_pl_push hq, pN_4]; rfl
  rw [e9] at hP
  have hne : ∀ a ∈ L, a ≠ q := fun a ha z => hq (z ▸ ha)
  refine kk q (L ++ [q]) (va_up K q 4) (fun f => va_up (R f) q none) (fun f => va_up (I f) q 0) A Q N H1 (fun a ha => ⟨List.mem_append_left _ ha, va_up_ne _ _ (hne a ha), fun f => va_up_ne _ _ (hne a ha), fun f => va_up_ne _ _ (hne a ha), rfl, rfl, rfl⟩) hq (List.mem_append_right _ (List.mem_singleton.mpr rfl)) (va_up_self _ _ _) (fun f => va_up_self _ _ _) (fun f => va_up_self _ _ _) ⟨hW.1, hP, List.nodup_append.mpr ⟨hW.2.2.1, (by simp), fun a ha b hb => by rw [List.mem_singleton.mp hb]; exact hne a ha⟩, fun a ha => (List.mem_append.mp ha).elim (hW.2.2.2.1 a) (fun z => by rw [List.mem_singleton.mp z]; exact hD.2 (cW kT L K R I A Q N).length (q, .inr (6, [.null, .int 0])) (by rw [List.getElem?_append_right (Nat.le_refl _), Nat.sub_self]; rfl)), hS⟩
theorem pN_5 {q : Nat} : va_up (pC kT K R I A Q N) q (.inr (7, [.null, .null, .null, .null, .null, .null, .null, .null])) = pC kT (va_up K q 5) (fun f => va_up (R f) q none) (fun f => va_up (I f) q 0) A Q N := by
  funext b
  by_cases hb : b = q
  · subst hb; simp [pC, va_up, va_rf]
  · rw [va_up_ne _ _ hb]; simp [pC, va_up, hb]
theorem cnw_5 (X : CallFix p m c cc nL s args Ts own) (hin : ∀ w ∈ wsX50, w ∈ Ts) (hW : cH G kT L0 L K R I A Q N s H locs) {index : Nat} (hcl : (Cond.classLink own index RX5).before args s = true) (hinst : (Cond.instantiable RX5 8).before args s = true) (hini : (Cond.initialized RX5).before args s = true) (hcells : cells + 1 ≤ Rm.cells) (hslots : slots + 8 ≤ Rm.slots) (hdg : decode cc pc = .ok (.new index, 3))
    (kk : ∀ (b : Nat) (L1 : List Nat) (K1 : pN) (R1 : pR) (I1 : pI) (A1 : mD) (Q1 : pR) (N1 : pN) (H1 : Heap), pX L K R I A Q N L1 K1 R1 I1 A1 Q1 N1 → b ∉ L → b ∈ L1 → K1 b = 5 → (∀ f, R1 f b = none) → (∀ f, I1 f b = 0) → cH G kT L0 L1 K1 R1 I1 A1 Q1 N1 s H1 locs → W p l e Rm s m args below meth c H1 locs (cells + 1) (slots + 8) Z (F0 m (pc + 3) ls (.ref b :: rest))) : W p l e Rm s m args below meth c H locs cells slots Z (F0 m pc ls rest) := by
  refine va_new (D := G) (ci := 7) (fs := [.null, .null, .null, .null, .null, .null, .null, .null]) (C := RX5) (T := TX5) (N := 8) X.1 X.2.1 X.2.2.2.2 hin tyX5 tyX5_ok X.2.2.2.1 hcl hinst hini hW.1 hW.2.1 hW.D hW.2.2.2.2 (fun q h => Or.inr h) rfl (fun j hj => by rcases (show j = 0 ∨ j = 1 ∨ j = 2 ∨ j = 3 ∨ j = 4 ∨ j = 5 ∨ j = 6 ∨ j = 7 by omega) with rfl | rfl | rfl | rfl | rfl | rfl | rfl | rfl <;> rfl) hcells hslots hdg (fun q H1 hP hD hS => ?_)
  have hq : q ∉ L := va_pl_fresh2 (X := []) hD
  have e9 : cW kT L K R I A Q N ++ [(q, .inr (7, [.null, .null, .null, .null, .null, .null, .null, .null]))] = cW kT (L ++ [q]) (va_up K q 5) (fun f => va_up (R f) q none) (fun f => va_up (I f) q 0) A Q N := by
    rw [cW, va_pl_push hq, pN_5]; rfl
  rw [e9] at hP
  have hne : ∀ a ∈ L, a ≠ q := fun a ha z => hq (z ▸ ha)
  refine kk q (L ++ [q]) (va_up K q 5) (fun f => va_up (R f) q none) (fun f => va_up (I f) q 0) A Q N H1 (fun a ha => ⟨List.mem_append_left _ ha, va_up_ne _ _ (hne a ha), fun f => va_up_ne _ _ (hne a ha), fun f => va_up_ne _ _ (hne a ha), rfl, rfl, rfl⟩) hq (List.mem_append_right _ (List.mem_singleton.mpr rfl)) (va_up_self _ _ _) (fun f => va_up_self _ _ _) (fun f => va_up_self _ _ _) ⟨hW.1, hP, List.nodup_append.mpr ⟨hW.2.2.1, (by simp), fun a ha b hb => by rw [List.mem_singleton.mp hb]; exact hne a ha⟩, fun a ha => (List.mem_append.mp ha).elim (hW.2.2.2.1 a) (fun z => by rw [List.mem_singleton.mp z]; exact hD.2 (cW kT L K R I A Q N).length (q, .inr (7, [.null, .null, .null, .null, .null, .null, .null, .null])) (by rw [List.getElem?_append_right (Nat.le_refl _), Nat.sub_self]; rfl)), hS⟩
theorem pN_6 {q : Nat} : va_up (pC kT K R I A Q N) q (.inr (8, [.null, .null, .null, .null, .null, .null, .null])) = pC kT (va_up K q 6) (fun f => va_up (R f) q none) (fun f => va_up (I f) q 0) A Q N := by
  funext b
  by_cases hb : b = q
  · subst hb; simp [pC, va_up, va_rf]
  · rw [va_up_ne _ _ hb]; simp [pC, va_up, hb]
theorem cnw_6 (X : CallFix p m c cc nL s args Ts own) (hin : ∀ w ∈ wsX60, w ∈ Ts) (hW : cH G kT L0 L K R I A Q N s H locs) {index : Nat} (hcl : (Cond.classLink own index RX6).before args s = true) (hinst : (Cond.instantiable RX6 7).before args s = true) (hini : (Cond.initialized RX6).before args s = true) (hcells : cells + 1 ≤ Rm.cells) (hslots : slots + 7 ≤ Rm.slots) (hdg : decode cc pc = .ok (.new index, 3))
    (kk : ∀ (b : Nat) (L1 : List Nat) (K1 : pN) (R1 : pR) (I1 : pI) (A1 : mD) (Q1 : pR) (N1 : pN) (H1 : Heap), pX L K R I A Q N L1 K1 R1 I1 A1 Q1 N1 → b ∉ L → b ∈ L1 → K1 b = 6 → (∀ f, R1 f b = none) → (∀ f, I1 f b = 0) → cH G kT L0 L1 K1 R1 I1 A1 Q1 N1 s H1 locs → W p l e Rm s m args below meth c H1 locs (cells + 1) (slots + 7) Z (F0 m (pc + 3) ls (.ref b :: rest))) : W p l e Rm s m args below meth c H locs cells slots Z (F0 m pc ls rest) := by
  refine va_new (D := G) (ci := 8) (fs := [.null, .null, .null, .null, .null, .null, .null]) (C := RX6) (T := TX6) (N := 7) X.1 X.2.1 X.2.2.2.2 hin tyX6 tyX6_ok X.2.2.2.1 hcl hinst hini hW.1 hW.2.1 hW.D hW.2.2.2.2 (fun q h => Or.inr h) rfl (fun j hj => by rcases (show j = 0 ∨ j = 1 ∨ j = 2 ∨ j = 3 ∨ j = 4 ∨ j = 5 ∨ j = 6 by omega) with rfl | rfl | rfl | rfl | rfl | rfl | rfl <;> rfl) hcells hslots hdg (fun q H1 hP hD hS => ?_)
  have hq : q ∉ L := va_pl_fresh2 (X := []) hD
  have e9 : cW kT L K R I A Q N ++ [(q, .inr (8, [.null, .null, .null, .null, .null, .null, .null]))] = cW kT (L ++ [q]) (va_up K q 6) (fun f => va_up (R f) q none) (fun f => va_up (I f) q 0) A Q N := by
    rw [cW, va_pl_push hq, pN_6]; rfl
  rw [e9] at hP
  have hne : ∀ a ∈ L, a ≠ q := fun a ha z => hq (z ▸ ha)
  refine kk q (L ++ [q]) (va_up K q 6) (fun f => va_up (R f) q none) (fun f => va_up (I f) q 0) A Q N H1 (fun a ha => ⟨List.mem_append_left _ ha, va_up_ne _ _ (hne a ha), fun f => va_up_ne _ _ (hne a ha), fun f => va_up_ne _ _ (hne a ha), rfl, rfl, rfl⟩) hq (List.mem_append_right _ (List.mem_singleton.mpr rfl)) (va_up_self _ _ _) (fun f => va_up_self _ _ _) (fun f => va_up_self _ _ _) ⟨hW.1, hP, List.nodup_append.mpr ⟨hW.2.2.1, (by simp), fun a ha b hb => by rw [List.mem_singleton.mp hb]; exact hne a ha⟩, fun a ha => (List.mem_append.mp ha).elim (hW.2.2.2.1 a) (fun z => by rw [List.mem_singleton.mp z]; exact hD.2 (cW kT L K R I A Q N).length (q, .inr (8, [.null, .null, .null, .null, .null, .null, .null])) (by rw [List.getElem?_append_right (Nat.le_refl _), Nat.sub_self]; rfl)), hS⟩
theorem pN_7 {q n : Nat} : va_up (pC kT K R I A Q N) q (.inl (kT 0, n, .inl (fun _ => 0))) = pC kT (va_up K q 7) R I (va_up A q (fun _ => 0)) Q (va_up N q n) := by
  funext b
  by_cases hb : b = q
  · subst hb; simp [pC, va_up]
  · rw [va_up_ne _ _ hb]; simp [pC, va_up, hb]
theorem cna_7 (X : CallFix p m c cc nL s args Ts own) (hW : cH G kT L0 L K R I A Q N s H locs) (harr : (Cond.arrayClass .byte).before args s = true) {n : Nat} (hn : n < 100000) (hcells : cells + 1 ≤ Rm.cells) (hslots : slots + n ≤ Rm.slots) (hdg : decode cc pc = .ok (.newarray .byte, 2))
    (kk : ∀ (b : Nat) (L1 : List Nat) (K1 : pN) (R1 : pR) (I1 : pI) (A1 : mD) (Q1 : pR) (N1 : pN) (H1 : Heap), pX L K R I A Q N L1 K1 R1 I1 A1 Q1 N1 → b ∉ L → b ∈ L1 → K1 b = 7 → N1 b = n → (∀ j, A1 b j = 0) → cH G kT L0 L1 K1 R1 I1 A1 Q1 N1 s H1 locs → W p l e Rm s m args below meth c H1 locs (cells + 1) (slots + n) Z (F0 m (pc + 2) ls (.ref b :: rest))) : W p l e Rm s m args below meth c H locs cells slots Z (F0 m pc ls (.int (nI n) :: rest)) := by
  have hn : n < 2 ^ 31 := by omega
  refine va_newa (atype := .byte) (a0 := (n, .inl (fun _ => 0))) (N' := n) X.1 X.2.1 harr rfl hW.1 hW.2.1 hW.D hW.2.2.2.2 (fun q h => Or.inr h) (fun cA => by rw [vp_cell_i]; rfl) (nI_pos hn) (nI_clamp hn) (show n * 1 ≤ 536870912 by omega) hcells hslots hdg (fun q cA H1 hK hP hD hS => ?_)
  have ec : cA = kT 0 := Option.some.inj ((hK.2 11 (cA, .byte) rfl).2.symm.trans (hW.1.2 0 (kT 0, .byte) rfl).2)
  subst ec
  have hq : q ∉ L := va_pl_fresh2 (X := []) hD
  have e9 : cW kT L K R I A Q N ++ [(q, .inl (kT 0, n, .inl (fun _ => 0)))] = cW kT (L ++ [q]) (va_up K q 7) R I (va_up A q (fun _ => 0)) Q (va_up N q n) := by
    rw [cW, va_pl_push hq, pN_7]; rfl
  rw [e9] at hP
  have hne : ∀ a ∈ L, a ≠ q := fun a ha z => hq (z ▸ ha)
  refine kk q (L ++ [q]) (va_up K q 7) R I (va_up A q (fun _ => 0)) Q (va_up N q n) H1 (fun a ha => ⟨List.mem_append_left _ ha, va_up_ne _ _ (hne a ha), fun f => rfl, fun f => rfl, va_up_ne _ _ (hne a ha), rfl, va_up_ne _ _ (hne a ha)⟩) hq (List.mem_append_right _ (List.mem_singleton.mpr rfl)) (va_up_self _ _ _) (va_up_self _ _ _) (fun j => congrFun (va_up_self _ _ _) j) ⟨hW.1, hP, List.nodup_append.mpr ⟨hW.2.2.1, (by simp), fun a ha b hb => by rw [List.mem_singleton.mp hb]; exact hne a ha⟩, fun a ha => (List.mem_append.mp ha).elim (hW.2.2.2.1 a) (fun z => by rw [List.mem_singleton.mp z]; exact hD.2 (cW kT L K R I A Q N).length (q, .inl (kT 0, n, .inl (fun _ => 0))) (by rw [List.getElem?_append_right (Nat.le_refl _), Nat.sub_self]; rfl)), hS⟩
theorem pN_8 {q n : Nat} : va_up (pC kT K R I A Q N) q (.inl (kT 1, n, .inl (fun _ => 0))) = pC kT (va_up K q 8) R I (va_up A q (fun _ => 0)) Q (va_up N q n) := by
  funext b
  by_cases hb : b = q
  · subst hb; simp [pC, va_up]
  · rw [va_up_ne _ _ hb]; simp [pC, va_up, hb]
theorem cna_8 (X : CallFix p m c cc nL s args Ts own) (hW : cH G kT L0 L K R I A Q N s H locs) (harr : (Cond.arrayClass .char).before args s = true) {n : Nat} (hn : n < 100000) (hcells : cells + 1 ≤ Rm.cells) (hslots : slots + n ≤ Rm.slots) (hdg : decode cc pc = .ok (.newarray .char, 2))
    (kk : ∀ (b : Nat) (L1 : List Nat) (K1 : pN) (R1 : pR) (I1 : pI) (A1 : mD) (Q1 : pR) (N1 : pN) (H1 : Heap), pX L K R I A Q N L1 K1 R1 I1 A1 Q1 N1 → b ∉ L → b ∈ L1 → K1 b = 8 → N1 b = n → (∀ j, A1 b j = 0) → cH G kT L0 L1 K1 R1 I1 A1 Q1 N1 s H1 locs → W p l e Rm s m args below meth c H1 locs (cells + 1) (slots + n) Z (F0 m (pc + 2) ls (.ref b :: rest))) : W p l e Rm s m args below meth c H locs cells slots Z (F0 m pc ls (.int (nI n) :: rest)) := by
  have hn : n < 2 ^ 31 := by omega
  refine va_newa (atype := .char) (a0 := (n, .inl (fun _ => 0))) (N' := n) X.1 X.2.1 harr rfl hW.1 hW.2.1 hW.D hW.2.2.2.2 (fun q h => Or.inr h) (fun cA => by rw [vp_cell_i]; rfl) (nI_pos hn) (nI_clamp hn) (show n * 2 ≤ 536870912 by omega) hcells hslots hdg (fun q cA H1 hK hP hD hS => ?_)
  have ec : cA = kT 1 := Option.some.inj ((hK.2 11 (cA, .char) rfl).2.symm.trans (hW.1.2 1 (kT 1, .char) rfl).2)
  subst ec
  have hq : q ∉ L := va_pl_fresh2 (X := []) hD
  have e9 : cW kT L K R I A Q N ++ [(q, .inl (kT 1, n, .inl (fun _ => 0)))] = cW kT (L ++ [q]) (va_up K q 8) R I (va_up A q (fun _ => 0)) Q (va_up N q n) := by
    rw [cW, va_pl_push hq, pN_8]; rfl
  rw [e9] at hP
  have hne : ∀ a ∈ L, a ≠ q := fun a ha z => hq (z ▸ ha)
  refine kk q (L ++ [q]) (va_up K q 8) R I (va_up A q (fun _ => 0)) Q (va_up N q n) H1 (fun a ha => ⟨List.mem_append_left _ ha, va_up_ne _ _ (hne a ha), fun f => rfl, fun f => rfl, va_up_ne _ _ (hne a ha), rfl, va_up_ne _ _ (hne a ha)⟩) hq (List.mem_append_right _ (List.mem_singleton.mpr rfl)) (va_up_self _ _ _) (va_up_self _ _ _) (fun j => congrFun (va_up_self _ _ _) j) ⟨hW.1, hP, List.nodup_append.mpr ⟨hW.2.2.1, (by simp), fun a ha b hb => by rw [List.mem_singleton.mp hb]; exact hne a ha⟩, fun a ha => (List.mem_append.mp ha).elim (hW.2.2.2.1 a) (fun z => by rw [List.mem_singleton.mp z]; exact hD.2 (cW kT L K R I A Q N).length (q, .inl (kT 1, n, .inl (fun _ => 0))) (by rw [List.getElem?_append_right (Nat.le_refl _), Nat.sub_self]; rfl)), hS⟩
theorem pN_10 {q n : Nat} : va_up (pC kT K R I A Q N) q (.inl (kT 4, n, .inr (.inr (.inr (.inr (fun _ => none)))))) = pC kT (va_up K q 10) R I A (va_up Q q (fun _ => none)) (va_up N q n) := by
  funext b
  by_cases hb : b = q
  · subst hb; simp [pC, va_up]
  · rw [va_up_ne _ _ hb]; simp [pC, va_up, hb]
theorem cna_10 (X : CallFix p m c cc nL s args Ts own) (hW : cH G kT L0 L K R I A Q N s H locs) {index : Nat} (hcl : (Cond.classLink own index RX0).before args s = true) (hao : va_AO RX0 s) {n : Nat} (hn : n < 100000) (hcells : cells + 1 ≤ Rm.cells) (hslots : slots + n ≤ Rm.slots) (hdg : decode cc pc = .ok (.anewarray index, 3))
    (kk : ∀ (b : Nat) (L1 : List Nat) (K1 : pN) (R1 : pR) (I1 : pI) (A1 : mD) (Q1 : pR) (N1 : pN) (H1 : Heap), pX L K R I A Q N L1 K1 R1 I1 A1 Q1 N1 → b ∉ L → b ∈ L1 → K1 b = 10 → N1 b = n → (∀ j, Q1 b j = none) → cH G kT L0 L1 K1 R1 I1 A1 Q1 N1 s H1 locs → W p l e Rm s m args below meth c H1 locs (cells + 1) (slots + n) Z (F0 m (pc + 3) ls (.ref b :: rest))) : W p l e Rm s m args below meth c H locs cells slots Z (F0 m pc ls (.int (nI n) :: rest)) := by
  have hn : n < 2 ^ 31 := by omega
  refine va_newq (C := RX0) (N' := n) X.1 X.2.1 X.2.2.2.1 hcl hao hW.1 hW.2.1 hW.D hW.2.2.2.2 (fun q h => Or.inr h) (nI_pos hn) (nI_clamp hn) (by omega) hcells hslots hdg (fun q cA H1 hK hP hD hS => ?_)
  have ec : cA = kT 4 := by
    obtain ⟨_, _, -, -, -, z1⟩ := (hK.2 11 (cA, (.object RX0)) rfl).2
    obtain ⟨_, _, -, -, -, z2⟩ := (hW.1.2 4 (kT 4, (.object RX0)) rfl).2
    exact Option.some.inj (z1.symm.trans z2)
  subst ec
  have hq : q ∉ L := va_pl_fresh2 (X := []) hD
  have e9 : cW kT L K R I A Q N ++ [(q, .inl (kT 4, n, .inr (.inr (.inr (.inr (fun _ => none))))))] = cW kT (L ++ [q]) (va_up K q 10) R I A (va_up Q q (fun _ => none)) (va_up N q n) := by
    rw [cW, va_pl_push hq, pN_10]; rfl
  rw [e9] at hP
  have hne : ∀ a ∈ L, a ≠ q := fun a ha z => hq (z ▸ ha)
  refine kk q (L ++ [q]) (va_up K q 10) R I A (va_up Q q (fun _ => none)) (va_up N q n) H1 (fun a ha => ⟨List.mem_append_left _ ha, va_up_ne _ _ (hne a ha), fun f => rfl, fun f => rfl, rfl, va_up_ne _ _ (hne a ha), va_up_ne _ _ (hne a ha)⟩) hq (List.mem_append_right _ (List.mem_singleton.mpr rfl)) (va_up_self _ _ _) (va_up_self _ _ _) (fun j => congrFun (va_up_self _ _ _) j) ⟨hW.1, hP, List.nodup_append.mpr ⟨hW.2.2.1, (by simp), fun a ha b hb => by rw [List.mem_singleton.mp hb]; exact hne a ha⟩, fun a ha => (List.mem_append.mp ha).elim (hW.2.2.2.1 a) (fun z => by rw [List.mem_singleton.mp z]; exact hD.2 (cW kT L K R I A Q N).length (q, .inl (kT 4, n, .inr (.inr (.inr (.inr (fun _ => none)))))) (by rw [List.getElem?_append_right (Nat.le_refl _), Nat.sub_self]; rfl)), hS⟩
theorem pN_11 {q n : Nat} : va_up (pC kT K R I A Q N) q (.inl (kT 5, n, .inr (.inr (.inr (.inr (fun _ => none)))))) = pC kT (va_up K q 11) R I A (va_up Q q (fun _ => none)) (va_up N q n) := by
  funext b
  by_cases hb : b = q
  · subst hb; simp [pC, va_up]
  · rw [va_up_ne _ _ hb]; simp [pC, va_up, hb]
theorem cna_11 (X : CallFix p m c cc nL s args Ts own) (hW : cH G kT L0 L K R I A Q N s H locs) {index : Nat} (hcl : (Cond.classLink own index RX1).before args s = true) (hao : va_AO RX1 s) {n : Nat} (hn : n < 100000) (hcells : cells + 1 ≤ Rm.cells) (hslots : slots + n ≤ Rm.slots) (hdg : decode cc pc = .ok (.anewarray index, 3))
    (kk : ∀ (b : Nat) (L1 : List Nat) (K1 : pN) (R1 : pR) (I1 : pI) (A1 : mD) (Q1 : pR) (N1 : pN) (H1 : Heap), pX L K R I A Q N L1 K1 R1 I1 A1 Q1 N1 → b ∉ L → b ∈ L1 → K1 b = 11 → N1 b = n → (∀ j, Q1 b j = none) → cH G kT L0 L1 K1 R1 I1 A1 Q1 N1 s H1 locs → W p l e Rm s m args below meth c H1 locs (cells + 1) (slots + n) Z (F0 m (pc + 3) ls (.ref b :: rest))) : W p l e Rm s m args below meth c H locs cells slots Z (F0 m pc ls (.int (nI n) :: rest)) := by
  have hn : n < 2 ^ 31 := by omega
  refine va_newq (C := RX1) (N' := n) X.1 X.2.1 X.2.2.2.1 hcl hao hW.1 hW.2.1 hW.D hW.2.2.2.2 (fun q h => Or.inr h) (nI_pos hn) (nI_clamp hn) (by omega) hcells hslots hdg (fun q cA H1 hK hP hD hS => ?_)
  have ec : cA = kT 5 := by
    obtain ⟨_, _, -, -, -, z1⟩ := (hK.2 11 (cA, (.object RX1)) rfl).2
    obtain ⟨_, _, -, -, -, z2⟩ := (hW.1.2 5 (kT 5, (.object RX1)) rfl).2
    exact Option.some.inj (z1.symm.trans z2)
  subst ec
  have hq : q ∉ L := va_pl_fresh2 (X := []) hD
  have e9 : cW kT L K R I A Q N ++ [(q, .inl (kT 5, n, .inr (.inr (.inr (.inr (fun _ => none))))))] = cW kT (L ++ [q]) (va_up K q 11) R I A (va_up Q q (fun _ => none)) (va_up N q n) := by
    rw [cW, va_pl_push hq, pN_11]; rfl
  rw [e9] at hP
  have hne : ∀ a ∈ L, a ≠ q := fun a ha z => hq (z ▸ ha)
  refine kk q (L ++ [q]) (va_up K q 11) R I A (va_up Q q (fun _ => none)) (va_up N q n) H1 (fun a ha => ⟨List.mem_append_left _ ha, va_up_ne _ _ (hne a ha), fun f => rfl, fun f => rfl, rfl, va_up_ne _ _ (hne a ha), va_up_ne _ _ (hne a ha)⟩) hq (List.mem_append_right _ (List.mem_singleton.mpr rfl)) (va_up_self _ _ _) (va_up_self _ _ _) (fun j => congrFun (va_up_self _ _ _) j) ⟨hW.1, hP, List.nodup_append.mpr ⟨hW.2.2.1, (by simp), fun a ha b hb => by rw [List.mem_singleton.mp hb]; exact hne a ha⟩, fun a ha => (List.mem_append.mp ha).elim (hW.2.2.2.1 a) (fun z => by rw [List.mem_singleton.mp z]; exact hD.2 (cW kT L K R I A Q N).length (q, .inl (kT 5, n, .inr (.inr (.inr (.inr (fun _ => none)))))) (by rw [List.getElem?_append_right (Nat.le_refl _), Nat.sub_self]; rfl)), hS⟩
theorem pN_12 {q n : Nat} : va_up (pC kT K R I A Q N) q (.inl (kT 6, n, .inr (.inr (.inr (.inr (fun _ => none)))))) = pC kT (va_up K q 12) R I A (va_up Q q (fun _ => none)) (va_up N q n) := by
  funext b
  by_cases hb : b = q
  · subst hb; simp [pC, va_up]
  · rw [va_up_ne _ _ hb]; simp [pC, va_up, hb]
theorem cna_12 (X : CallFix p m c cc nL s args Ts own) (hW : cH G kT L0 L K R I A Q N s H locs) {index : Nat} (hcl : (Cond.classLink own index RX2).before args s = true) (hao : va_AO RX2 s) {n : Nat} (hn : n < 100000) (hcells : cells + 1 ≤ Rm.cells) (hslots : slots + n ≤ Rm.slots) (hdg : decode cc pc = .ok (.anewarray index, 3))
    (kk : ∀ (b : Nat) (L1 : List Nat) (K1 : pN) (R1 : pR) (I1 : pI) (A1 : mD) (Q1 : pR) (N1 : pN) (H1 : Heap), pX L K R I A Q N L1 K1 R1 I1 A1 Q1 N1 → b ∉ L → b ∈ L1 → K1 b = 12 → N1 b = n → (∀ j, Q1 b j = none) → cH G kT L0 L1 K1 R1 I1 A1 Q1 N1 s H1 locs → W p l e Rm s m args below meth c H1 locs (cells + 1) (slots + n) Z (F0 m (pc + 3) ls (.ref b :: rest))) : W p l e Rm s m args below meth c H locs cells slots Z (F0 m pc ls (.int (nI n) :: rest)) := by
  have hn : n < 2 ^ 31 := by omega
  refine va_newq (C := RX2) (N' := n) X.1 X.2.1 X.2.2.2.1 hcl hao hW.1 hW.2.1 hW.D hW.2.2.2.2 (fun q h => Or.inr h) (nI_pos hn) (nI_clamp hn) (by omega) hcells hslots hdg (fun q cA H1 hK hP hD hS => ?_)
  have ec : cA = kT 6 := by
    obtain ⟨_, _, -, -, -, z1⟩ := (hK.2 11 (cA, (.object RX2)) rfl).2
    obtain ⟨_, _, -, -, -, z2⟩ := (hW.1.2 6 (kT 6, (.object RX2)) rfl).2
    exact Option.some.inj (z1.symm.trans z2)
  subst ec
  have hq : q ∉ L := va_pl_fresh2 (X := []) hD
  have e9 : cW kT L K R I A Q N ++ [(q, .inl (kT 6, n, .inr (.inr (.inr (.inr (fun _ => none))))))] = cW kT (L ++ [q]) (va_up K q 12) R I A (va_up Q q (fun _ => none)) (va_up N q n) := by
    rw [cW, va_pl_push hq, pN_12]; rfl
  rw [e9] at hP
  have hne : ∀ a ∈ L, a ≠ q := fun a ha z => hq (z ▸ ha)
  refine kk q (L ++ [q]) (va_up K q 12) R I A (va_up Q q (fun _ => none)) (va_up N q n) H1 (fun a ha => ⟨List.mem_append_left _ ha, va_up_ne _ _ (hne a ha), fun f => rfl, fun f => rfl, rfl, va_up_ne _ _ (hne a ha), va_up_ne _ _ (hne a ha)⟩) hq (List.mem_append_right _ (List.mem_singleton.mpr rfl)) (va_up_self _ _ _) (va_up_self _ _ _) (fun j => congrFun (va_up_self _ _ _) j) ⟨hW.1, hP, List.nodup_append.mpr ⟨hW.2.2.1, (by simp), fun a ha b hb => by rw [List.mem_singleton.mp hb]; exact hne a ha⟩, fun a ha => (List.mem_append.mp ha).elim (hW.2.2.2.1 a) (fun z => by rw [List.mem_singleton.mp z]; exact hD.2 (cW kT L K R I A Q N).length (q, .inl (kT 6, n, .inr (.inr (.inr (.inr (fun _ => none)))))) (by rw [List.getElem?_append_right (Nat.le_refl _), Nat.sub_self]; rfl)), hS⟩
theorem pN_13 {q n : Nat} : va_up (pC kT K R I A Q N) q (.inl (kT 7, n, .inr (.inr (.inr (.inr (fun _ => none)))))) = pC kT (va_up K q 13) R I A (va_up Q q (fun _ => none)) (va_up N q n) := by
  funext b
  by_cases hb : b = q
  · subst hb; simp [pC, va_up]
  · rw [va_up_ne _ _ hb]; simp [pC, va_up, hb]
theorem cna_13 (X : CallFix p m c cc nL s args Ts own) (hW : cH G kT L0 L K R I A Q N s H locs) {index : Nat} (hcl : (Cond.classLink own index RX3).before args s = true) (hao : va_AO RX3 s) {n : Nat} (hn : n < 100000) (hcells : cells + 1 ≤ Rm.cells) (hslots : slots + n ≤ Rm.slots) (hdg : decode cc pc = .ok (.anewarray index, 3))
    (kk : ∀ (b : Nat) (L1 : List Nat) (K1 : pN) (R1 : pR) (I1 : pI) (A1 : mD) (Q1 : pR) (N1 : pN) (H1 : Heap), pX L K R I A Q N L1 K1 R1 I1 A1 Q1 N1 → b ∉ L → b ∈ L1 → K1 b = 13 → N1 b = n → (∀ j, Q1 b j = none) → cH G kT L0 L1 K1 R1 I1 A1 Q1 N1 s H1 locs → W p l e Rm s m args below meth c H1 locs (cells + 1) (slots + n) Z (F0 m (pc + 3) ls (.ref b :: rest))) : W p l e Rm s m args below meth c H locs cells slots Z (F0 m pc ls (.int (nI n) :: rest)) := by
  have hn : n < 2 ^ 31 := by omega
  refine va_newq (C := RX3) (N' := n) X.1 X.2.1 X.2.2.2.1 hcl hao hW.1 hW.2.1 hW.D hW.2.2.2.2 (fun q h => Or.inr h) (nI_pos hn) (nI_clamp hn) (by omega) hcells hslots hdg (fun q cA H1 hK hP hD hS => ?_)
  have ec : cA = kT 7 := by
    obtain ⟨_, _, -, -, -, z1⟩ := (hK.2 11 (cA, (.object RX3)) rfl).2
    obtain ⟨_, _, -, -, -, z2⟩ := (hW.1.2 7 (kT 7, (.object RX3)) rfl).2
    exact Option.some.inj (z1.symm.trans z2)
  subst ec
  have hq : q ∉ L := va_pl_fresh2 (X := []) hD
  have e9 : cW kT L K R I A Q N ++ [(q, .inl (kT 7, n, .inr (.inr (.inr (.inr (fun _ => none))))))] = cW kT (L ++ [q]) (va_up K q 13) R I A (va_up Q q (fun _ => none)) (va_up N q n) := by
    rw [cW, va_pl_push hq, pN_13]; rfl
  rw [e9] at hP
  have hne : ∀ a ∈ L, a ≠ q := fun a ha z => hq (z ▸ ha)
  refine kk q (L ++ [q]) (va_up K q 13) R I A (va_up Q q (fun _ => none)) (va_up N q n) H1 (fun a ha => ⟨List.mem_append_left _ ha, va_up_ne _ _ (hne a ha), fun f => rfl, fun f => rfl, rfl, va_up_ne _ _ (hne a ha), va_up_ne _ _ (hne a ha)⟩) hq (List.mem_append_right _ (List.mem_singleton.mpr rfl)) (va_up_self _ _ _) (va_up_self _ _ _) (fun j => congrFun (va_up_self _ _ _) j) ⟨hW.1, hP, List.nodup_append.mpr ⟨hW.2.2.1, (by simp), fun a ha b hb => by rw [List.mem_singleton.mp hb]; exact hne a ha⟩, fun a ha => (List.mem_append.mp ha).elim (hW.2.2.2.1 a) (fun z => by rw [List.mem_singleton.mp z]; exact hD.2 (cW kT L K R I A Q N).length (q, .inl (kT 7, n, .inr (.inr (.inr (.inr (fun _ => none)))))) (by rw [List.getElem?_append_right (Nat.le_refl _), Nat.sub_self]; rfl)), hS⟩
theorem pN_14 {q n : Nat} : va_up (pC kT K R I A Q N) q (.inl (kT 8, n, .inr (.inr (.inr (.inr (fun _ => none)))))) = pC kT (va_up K q 14) R I A (va_up Q q (fun _ => none)) (va_up N q n) := by
  funext b
  by_cases hb : b = q
  · subst hb; simp [pC, va_up]
  · rw [va_up_ne _ _ hb]; simp [pC, va_up, hb]
theorem cna_14 (X : CallFix p m c cc nL s args Ts own) (hW : cH G kT L0 L K R I A Q N s H locs) {index : Nat} (hcl : (Cond.classLink own index RX4).before args s = true) (hao : va_AO RX4 s) {n : Nat} (hn : n < 100000) (hcells : cells + 1 ≤ Rm.cells) (hslots : slots + n ≤ Rm.slots) (hdg : decode cc pc = .ok (.anewarray index, 3))
    (kk : ∀ (b : Nat) (L1 : List Nat) (K1 : pN) (R1 : pR) (I1 : pI) (A1 : mD) (Q1 : pR) (N1 : pN) (H1 : Heap), pX L K R I A Q N L1 K1 R1 I1 A1 Q1 N1 → b ∉ L → b ∈ L1 → K1 b = 14 → N1 b = n → (∀ j, Q1 b j = none) → cH G kT L0 L1 K1 R1 I1 A1 Q1 N1 s H1 locs → W p l e Rm s m args below meth c H1 locs (cells + 1) (slots + n) Z (F0 m (pc + 3) ls (.ref b :: rest))) : W p l e Rm s m args below meth c H locs cells slots Z (F0 m pc ls (.int (nI n) :: rest)) := by
  have hn : n < 2 ^ 31 := by omega
  refine va_newq (C := RX4) (N' := n) X.1 X.2.1 X.2.2.2.1 hcl hao hW.1 hW.2.1 hW.D hW.2.2.2.2 (fun q h => Or.inr h) (nI_pos hn) (nI_clamp hn) (by omega) hcells hslots hdg (fun q cA H1 hK hP hD hS => ?_)
  have ec : cA = kT 8 := by
    obtain ⟨_, _, -, -, -, z1⟩ := (hK.2 11 (cA, (.object RX4)) rfl).2
    obtain ⟨_, _, -, -, -, z2⟩ := (hW.1.2 8 (kT 8, (.object RX4)) rfl).2
    exact Option.some.inj (z1.symm.trans z2)
  subst ec
  have hq : q ∉ L := va_pl_fresh2 (X := []) hD
  have e9 : cW kT L K R I A Q N ++ [(q, .inl (kT 8, n, .inr (.inr (.inr (.inr (fun _ => none))))))] = cW kT (L ++ [q]) (va_up K q 14) R I A (va_up Q q (fun _ => none)) (va_up N q n) := by
    rw [cW, va_pl_push hq, pN_14]; rfl
  rw [e9] at hP
  have hne : ∀ a ∈ L, a ≠ q := fun a ha z => hq (z ▸ ha)
  refine kk q (L ++ [q]) (va_up K q 14) R I A (va_up Q q (fun _ => none)) (va_up N q n) H1 (fun a ha => ⟨List.mem_append_left _ ha, va_up_ne _ _ (hne a ha), fun f => rfl, fun f => rfl, rfl, va_up_ne _ _ (hne a ha), va_up_ne _ _ (hne a ha)⟩) hq (List.mem_append_right _ (List.mem_singleton.mpr rfl)) (va_up_self _ _ _) (va_up_self _ _ _) (fun j => congrFun (va_up_self _ _ _) j) ⟨hW.1, hP, List.nodup_append.mpr ⟨hW.2.2.1, (by simp), fun a ha b hb => by rw [List.mem_singleton.mp hb]; exact hne a ha⟩, fun a ha => (List.mem_append.mp ha).elim (hW.2.2.2.1 a) (fun z => by rw [List.mem_singleton.mp z]; exact hD.2 (cW kT L K R I A Q N).length (q, .inl (kT 8, n, .inr (.inr (.inr (.inr (fun _ => none)))))) (by rw [List.getElem?_append_right (Nat.le_refl _), Nat.sub_self]; rfl)), hS⟩
theorem cpf_0_bytes (X : CallFix p m c cc nL s args Ts RX0) (hin : ∀ w ∈ wsX00, w ∈ Ts) (hni : meth.name = "<init>") (hW : cH G kT L0 L K R I A Q N s H locs) {a v : Nat} (ha : a ∈ L) (hk : K a = 0) {index : Nat} (hlink : (Cond.fieldLink RX0 index (TX0 0).1 (TX0 0).2.1 (TX0 0).2.2.1).before args s = true) (hdg : decode cc pc = .ok (.putfield index, 3)) (kk : ∀ (H1 : Heap) (locs1 : List Loc), cH G kT L0 L K (u2 R 0 a (some v)) I A Q N s H1 locs1 → W p l e Rm s m args below meth c H1 locs1 cells slots Z (F0 m (pc + 3) ls rest)) : W p l e Rm s m args below meth c H locs cells slots Z (F0 m pc ls (.ref v :: .ref a :: rest)) := by
  obtain ⟨k0, h0⟩ := cW_get ha (pC_0 (kT := kT) (R := R) (I := I) (A := A) (Q := Q) (N := N) hk)
  refine va_putF (D := G) (ci := 2) (v := .ref v) (ty := tyX0 0) (C := RX0) (T := TX0) (N := 1) (own := RX0) (ref := (TX0 0).1) X.1 X.2.1 X.2.2.2.2 hin tyX0 tyX0_ok nmX0 X.2.2.2.1 hW.1 hW.2.1 hW.D hW.2.2.2.2 k0 h0 rfl 0 (by decide) hlink (fun _ h9 => h9) rfl hni rfl (by decide +kernel) rfl rfl (Nat.le_of_ble_eq_true rfl) hdg (fun H1 locs1 hP hD hS => kk H1 locs1 ⟨hW.1, ?_, hW.2.2.1, hW.2.2.2.1, hS⟩)
  have e := cW_set hW.D ha h0 (pC_0 (kT := kT) (R := R) (I := I) (A := A) (Q := Q) (N := N) hk) (pU_0_bytes (kT := kT) (R := R) (I := I) (A := A) (Q := Q) (N := N) (v := v) hk)
  rw [← e]
  exact hP
theorem cpf_1_parts (X : CallFix p m c cc nL s args Ts RX1) (hin : ∀ w ∈ wsX10, w ∈ Ts) (hni : meth.name = "<init>") (hW : cH G kT L0 L K R I A Q N s H locs) {a v : Nat} (ha : a ∈ L) (hk : K a = 1) {index : Nat} (hlink : (Cond.fieldLink RX1 index (TX1 0).1 (TX1 0).2.1 (TX1 0).2.2.1).before args s = true) (hdg : decode cc pc = .ok (.putfield index, 3)) (kk : ∀ (H1 : Heap) (locs1 : List Loc), cH G kT L0 L K (u2 R 1 a (some v)) I A Q N s H1 locs1 → W p l e Rm s m args below meth c H1 locs1 cells slots Z (F0 m (pc + 3) ls rest)) : W p l e Rm s m args below meth c H locs cells slots Z (F0 m pc ls (.ref v :: .ref a :: rest)) := by
  obtain ⟨k0, h0⟩ := cW_get ha (pC_1 (kT := kT) (R := R) (I := I) (A := A) (Q := Q) (N := N) hk)
  refine va_putF (D := G) (ci := 3) (v := .ref v) (ty := tyX1 0) (C := RX1) (T := TX1) (N := 6) (own := RX1) (ref := (TX1 0).1) X.1 X.2.1 X.2.2.2.2 hin tyX1 tyX1_ok nmX1 X.2.2.2.1 hW.1 hW.2.1 hW.D hW.2.2.2.2 k0 h0 rfl 0 (by decide) hlink (fun _ h9 => h9) rfl hni rfl (by decide +kernel) rfl rfl (Nat.le_of_ble_eq_true rfl) hdg (fun H1 locs1 hP hD hS => kk H1 locs1 ⟨hW.1, ?_, hW.2.2.1, hW.2.2.2.1, hS⟩)
  have e := cW_set hW.D ha h0 (pC_1 (kT := kT) (R := R) (I := I) (A := A) (Q := Q) (N := N) hk) (pU_1_parts (kT := kT) (R := R) (I := I) (A := A) (Q := Q) (N := N) (v := v) hk)
  rw [← e]
  exact hP
theorem cpf_3_signs (X : CallFix p m c cc nL s args Ts RX3) (hin : ∀ w ∈ wsX30, w ∈ Ts) (hni : meth.name = "<init>") (hW : cH G kT L0 L K R I A Q N s H locs) {a v : Nat} (ha : a ∈ L) (hk : K a = 3) {index : Nat} (hlink : (Cond.fieldLink RX3 index (TX3 0).1 (TX3 0).2.1 (TX3 0).2.2.1).before args s = true) (hdg : decode cc pc = .ok (.putfield index, 3)) (kk : ∀ (H1 : Heap) (locs1 : List Loc), cH G kT L0 L K (u2 R 3 a (some v)) I A Q N s H1 locs1 → W p l e Rm s m args below meth c H1 locs1 cells slots Z (F0 m (pc + 3) ls rest)) : W p l e Rm s m args below meth c H locs cells slots Z (F0 m pc ls (.ref v :: .ref a :: rest)) := by
  obtain ⟨k0, h0⟩ := cW_get ha (pC_3 (kT := kT) (R := R) (I := I) (A := A) (Q := Q) (N := N) hk)
  refine va_putF (D := G) (ci := 5) (v := .ref v) (ty := tyX3 0) (C := RX3) (T := TX3) (N := 1) (own := RX3) (ref := (TX3 0).1) X.1 X.2.1 X.2.2.2.2 hin tyX3 tyX3_ok nmX3 X.2.2.2.1 hW.1 hW.2.1 hW.D hW.2.2.2.2 k0 h0 rfl 0 (by decide) hlink (fun _ h9 => h9) rfl hni rfl (by decide +kernel) rfl rfl (Nat.le_of_ble_eq_true rfl) hdg (fun H1 locs1 hP hD hS => kk H1 locs1 ⟨hW.1, ?_, hW.2.2.1, hW.2.2.2.1, hS⟩)
  have e := cW_set hW.D ha h0 (pC_3 (kT := kT) (R := R) (I := I) (A := A) (Q := Q) (N := N) hk) (pU_3_signs (kT := kT) (R := R) (I := I) (A := A) (Q := Q) (N := N) (v := v) hk)
  rw [← e]
  exact hP
theorem cpf_4_signs (X : CallFix p m c cc nL s args Ts RX4) (hin : ∀ w ∈ wsX40, w ∈ Ts) (hni : meth.name = "<init>") (hW : cH G kT L0 L K R I A Q N s H locs) {a v : Nat} (ha : a ∈ L) (hk : K a = 4) {index : Nat} (hlink : (Cond.fieldLink RX4 index (TX4 0).1 (TX4 0).2.1 (TX4 0).2.2.1).before args s = true) (hdg : decode cc pc = .ok (.putfield index, 3)) (kk : ∀ (H1 : Heap) (locs1 : List Loc), cH G kT L0 L K (u2 R 4 a (some v)) I A Q N s H1 locs1 → W p l e Rm s m args below meth c H1 locs1 cells slots Z (F0 m (pc + 3) ls rest)) : W p l e Rm s m args below meth c H locs cells slots Z (F0 m pc ls (.ref v :: .ref a :: rest)) := by
  obtain ⟨k0, h0⟩ := cW_get ha (pC_4 (kT := kT) (R := R) (I := I) (A := A) (Q := Q) (N := N) hk)
  refine va_putF (D := G) (ci := 6) (v := .ref v) (ty := tyX4 0) (C := RX4) (T := TX4) (N := 2) (own := RX4) (ref := (TX4 0).1) X.1 X.2.1 X.2.2.2.2 hin tyX4 tyX4_ok nmX4 X.2.2.2.1 hW.1 hW.2.1 hW.D hW.2.2.2.2 k0 h0 rfl 0 (by decide) hlink (fun _ h9 => h9) rfl hni rfl (by decide +kernel) rfl rfl (Nat.le_of_ble_eq_true rfl) hdg (fun H1 locs1 hP hD hS => kk H1 locs1 ⟨hW.1, ?_, hW.2.2.1, hW.2.2.2.1, hS⟩)
  have e := cW_set hW.D ha h0 (pC_4 (kT := kT) (R := R) (I := I) (A := A) (Q := Q) (N := N) hk) (pU_4_signs (kT := kT) (R := R) (I := I) (A := A) (Q := Q) (N := N) (v := v) hk)
  rw [← e]
  exact hP
theorem cpf_5_row (X : CallFix p m c cc nL s args Ts RX5) (hin : ∀ w ∈ wsX50, w ∈ Ts) (hni : meth.name = "<init>") (hW : cH G kT L0 L K R I A Q N s H locs) {a v : Nat} (ha : a ∈ L) (hk : K a = 5) {index : Nat} (hlink : (Cond.fieldLink RX5 index (TX5 0).1 (TX5 0).2.1 (TX5 0).2.2.1).before args s = true) (hdg : decode cc pc = .ok (.putfield index, 3)) (kk : ∀ (H1 : Heap) (locs1 : List Loc), cH G kT L0 L K (u2 R 5 a (some v)) I A Q N s H1 locs1 → W p l e Rm s m args below meth c H1 locs1 cells slots Z (F0 m (pc + 3) ls rest)) : W p l e Rm s m args below meth c H locs cells slots Z (F0 m pc ls (.ref v :: .ref a :: rest)) := by
  obtain ⟨k0, h0⟩ := cW_get ha (pC_5 (kT := kT) (R := R) (I := I) (A := A) (Q := Q) (N := N) hk)
  refine va_putF (D := G) (ci := 7) (v := .ref v) (ty := tyX5 0) (C := RX5) (T := TX5) (N := 8) (own := RX5) (ref := (TX5 0).1) X.1 X.2.1 X.2.2.2.2 hin tyX5 tyX5_ok nmX5 X.2.2.2.1 hW.1 hW.2.1 hW.D hW.2.2.2.2 k0 h0 rfl 0 (by decide) hlink (fun _ h9 => h9) rfl hni rfl (by decide +kernel) rfl rfl (Nat.le_of_ble_eq_true rfl) hdg (fun H1 locs1 hP hD hS => kk H1 locs1 ⟨hW.1, ?_, hW.2.2.1, hW.2.2.2.1, hS⟩)
  have e := cW_set hW.D ha h0 (pC_5 (kT := kT) (R := R) (I := I) (A := A) (Q := Q) (N := N) hk) (pU_5_row (kT := kT) (R := R) (I := I) (A := A) (Q := Q) (N := N) (v := v) hk)
  rw [← e]
  exact hP
theorem cpf_5_three (X : CallFix p m c cc nL s args Ts RX5) (hin : ∀ w ∈ wsX50, w ∈ Ts) (hni : meth.name = "<init>") (hW : cH G kT L0 L K R I A Q N s H locs) {a v : Nat} (ha : a ∈ L) (hk : K a = 5) {index : Nat} (hlink : (Cond.fieldLink RX5 index (TX5 1).1 (TX5 1).2.1 (TX5 1).2.2.1).before args s = true) (hdg : decode cc pc = .ok (.putfield index, 3)) (kk : ∀ (H1 : Heap) (locs1 : List Loc), cH G kT L0 L K (u2 R 6 a (some v)) I A Q N s H1 locs1 → W p l e Rm s m args below meth c H1 locs1 cells slots Z (F0 m (pc + 3) ls rest)) : W p l e Rm s m args below meth c H locs cells slots Z (F0 m pc ls (.ref v :: .ref a :: rest)) := by
  obtain ⟨k0, h0⟩ := cW_get ha (pC_5 (kT := kT) (R := R) (I := I) (A := A) (Q := Q) (N := N) hk)
  refine va_putF (D := G) (ci := 7) (v := .ref v) (ty := tyX5 1) (C := RX5) (T := TX5) (N := 8) (own := RX5) (ref := (TX5 1).1) X.1 X.2.1 X.2.2.2.2 hin tyX5 tyX5_ok nmX5 X.2.2.2.1 hW.1 hW.2.1 hW.D hW.2.2.2.2 k0 h0 rfl 1 (by decide) hlink (fun _ h9 => h9) rfl hni rfl (by decide +kernel) rfl rfl (Nat.le_of_ble_eq_true rfl) hdg (fun H1 locs1 hP hD hS => kk H1 locs1 ⟨hW.1, ?_, hW.2.2.1, hW.2.2.2.1, hS⟩)
  have e := cW_set hW.D ha h0 (pC_5 (kT := kT) (R := R) (I := I) (A := A) (Q := Q) (N := N) hk) (pU_5_three (kT := kT) (R := R) (I := I) (A := A) (Q := Q) (N := N) (v := v) hk)
  rw [← e]
  exact hP
theorem cpf_5_reader (X : CallFix p m c cc nL s args Ts RX5) (hin : ∀ w ∈ wsX50, w ∈ Ts) (hni : meth.name = "<init>") (hW : cH G kT L0 L K R I A Q N s H locs) {a v : Nat} (ha : a ∈ L) (hk : K a = 5) {index : Nat} (hlink : (Cond.fieldLink RX5 index (TX5 2).1 (TX5 2).2.1 (TX5 2).2.2.1).before args s = true) (hdg : decode cc pc = .ok (.putfield index, 3)) (kk : ∀ (H1 : Heap) (locs1 : List Loc), cH G kT L0 L K (u2 R 7 a (some v)) I A Q N s H1 locs1 → W p l e Rm s m args below meth c H1 locs1 cells slots Z (F0 m (pc + 3) ls rest)) : W p l e Rm s m args below meth c H locs cells slots Z (F0 m pc ls (.ref v :: .ref a :: rest)) := by
  obtain ⟨k0, h0⟩ := cW_get ha (pC_5 (kT := kT) (R := R) (I := I) (A := A) (Q := Q) (N := N) hk)
  refine va_putF (D := G) (ci := 7) (v := .ref v) (ty := tyX5 2) (C := RX5) (T := TX5) (N := 8) (own := RX5) (ref := (TX5 2).1) X.1 X.2.1 X.2.2.2.2 hin tyX5 tyX5_ok nmX5 X.2.2.2.1 hW.1 hW.2.1 hW.D hW.2.2.2.2 k0 h0 rfl 2 (by decide) hlink (fun _ h9 => h9) rfl hni rfl (by decide +kernel) rfl rfl (Nat.le_of_ble_eq_true rfl) hdg (fun H1 locs1 hP hD hS => kk H1 locs1 ⟨hW.1, ?_, hW.2.2.1, hW.2.2.2.1, hS⟩)
  have e := cW_set hW.D ha h0 (pC_5 (kT := kT) (R := R) (I := I) (A := A) (Q := Q) (N := N) hk) (pU_5_reader (kT := kT) (R := R) (I := I) (A := A) (Q := Q) (N := N) (v := v) hk)
  rw [← e]
  exact hP
theorem cpf_5_textWriter (X : CallFix p m c cc nL s args Ts RX5) (hin : ∀ w ∈ wsX50, w ∈ Ts) (hni : meth.name = "<init>") (hW : cH G kT L0 L K R I A Q N s H locs) {a v : Nat} (ha : a ∈ L) (hk : K a = 5) {index : Nat} (hlink : (Cond.fieldLink RX5 index (TX5 3).1 (TX5 3).2.1 (TX5 3).2.2.1).before args s = true) (hdg : decode cc pc = .ok (.putfield index, 3)) (kk : ∀ (H1 : Heap) (locs1 : List Loc), cH G kT L0 L K (u2 R 8 a (some v)) I A Q N s H1 locs1 → W p l e Rm s m args below meth c H1 locs1 cells slots Z (F0 m (pc + 3) ls rest)) : W p l e Rm s m args below meth c H locs cells slots Z (F0 m pc ls (.ref v :: .ref a :: rest)) := by
  obtain ⟨k0, h0⟩ := cW_get ha (pC_5 (kT := kT) (R := R) (I := I) (A := A) (Q := Q) (N := N) hk)
  refine va_putF (D := G) (ci := 7) (v := .ref v) (ty := tyX5 3) (C := RX5) (T := TX5) (N := 8) (own := RX5) (ref := (TX5 3).1) X.1 X.2.1 X.2.2.2.2 hin tyX5 tyX5_ok nmX5 X.2.2.2.1 hW.1 hW.2.1 hW.D hW.2.2.2.2 k0 h0 rfl 3 (by decide) hlink (fun _ h9 => h9) rfl hni rfl (by decide +kernel) rfl rfl (Nat.le_of_ble_eq_true rfl) hdg (fun H1 locs1 hP hD hS => kk H1 locs1 ⟨hW.1, ?_, hW.2.2.1, hW.2.2.2.1, hS⟩)
  have e := cW_set hW.D ha h0 (pC_5 (kT := kT) (R := R) (I := I) (A := A) (Q := Q) (N := N) hk) (pU_5_textWriter (kT := kT) (R := R) (I := I) (A := A) (Q := Q) (N := N) (v := v) hk)
  rw [← e]
  exact hP
theorem cpf_5_arrayWriter (X : CallFix p m c cc nL s args Ts RX5) (hin : ∀ w ∈ wsX50, w ∈ Ts) (hni : meth.name = "<init>") (hW : cH G kT L0 L K R I A Q N s H locs) {a v : Nat} (ha : a ∈ L) (hk : K a = 5) {index : Nat} (hlink : (Cond.fieldLink RX5 index (TX5 4).1 (TX5 4).2.1 (TX5 4).2.2.1).before args s = true) (hdg : decode cc pc = .ok (.putfield index, 3)) (kk : ∀ (H1 : Heap) (locs1 : List Loc), cH G kT L0 L K (u2 R 9 a (some v)) I A Q N s H1 locs1 → W p l e Rm s m args below meth c H1 locs1 cells slots Z (F0 m (pc + 3) ls rest)) : W p l e Rm s m args below meth c H locs cells slots Z (F0 m pc ls (.ref v :: .ref a :: rest)) := by
  obtain ⟨k0, h0⟩ := cW_get ha (pC_5 (kT := kT) (R := R) (I := I) (A := A) (Q := Q) (N := N) hk)
  refine va_putF (D := G) (ci := 7) (v := .ref v) (ty := tyX5 4) (C := RX5) (T := TX5) (N := 8) (own := RX5) (ref := (TX5 4).1) X.1 X.2.1 X.2.2.2.2 hin tyX5 tyX5_ok nmX5 X.2.2.2.1 hW.1 hW.2.1 hW.D hW.2.2.2.2 k0 h0 rfl 4 (by decide) hlink (fun _ h9 => h9) rfl hni rfl (by decide +kernel) rfl rfl (Nat.le_of_ble_eq_true rfl) hdg (fun H1 locs1 hP hD hS => kk H1 locs1 ⟨hW.1, ?_, hW.2.2.1, hW.2.2.2.1, hS⟩)
  have e := cW_set hW.D ha h0 (pC_5 (kT := kT) (R := R) (I := I) (A := A) (Q := Q) (N := N) hk) (pU_5_arrayWriter (kT := kT) (R := R) (I := I) (A := A) (Q := Q) (N := N) (v := v) hk)
  rw [← e]
  exact hP
theorem cpf_5_together (X : CallFix p m c cc nL s args Ts RX5) (hin : ∀ w ∈ wsX50, w ∈ Ts) (hni : meth.name = "<init>") (hW : cH G kT L0 L K R I A Q N s H locs) {a v : Nat} (ha : a ∈ L) (hk : K a = 5) {index : Nat} (hlink : (Cond.fieldLink RX5 index (TX5 5).1 (TX5 5).2.1 (TX5 5).2.2.1).before args s = true) (hdg : decode cc pc = .ok (.putfield index, 3)) (kk : ∀ (H1 : Heap) (locs1 : List Loc), cH G kT L0 L K (u2 R 10 a (some v)) I A Q N s H1 locs1 → W p l e Rm s m args below meth c H1 locs1 cells slots Z (F0 m (pc + 3) ls rest)) : W p l e Rm s m args below meth c H locs cells slots Z (F0 m pc ls (.ref v :: .ref a :: rest)) := by
  obtain ⟨k0, h0⟩ := cW_get ha (pC_5 (kT := kT) (R := R) (I := I) (A := A) (Q := Q) (N := N) hk)
  refine va_putF (D := G) (ci := 7) (v := .ref v) (ty := tyX5 5) (C := RX5) (T := TX5) (N := 8) (own := RX5) (ref := (TX5 5).1) X.1 X.2.1 X.2.2.2.2 hin tyX5 tyX5_ok nmX5 X.2.2.2.1 hW.1 hW.2.1 hW.D hW.2.2.2.2 k0 h0 rfl 5 (by decide) hlink (fun _ h9 => h9) rfl hni rfl (by decide +kernel) rfl rfl (Nat.le_of_ble_eq_true rfl) hdg (fun H1 locs1 hP hD hS => kk H1 locs1 ⟨hW.1, ?_, hW.2.2.1, hW.2.2.2.1, hS⟩)
  have e := cW_set hW.D ha h0 (pC_5 (kT := kT) (R := R) (I := I) (A := A) (Q := Q) (N := N) hk) (pU_5_together (kT := kT) (R := R) (I := I) (A := A) (Q := Q) (N := N) (v := v) hk)
  rw [← e]
  exact hP
theorem cpf_5_two (X : CallFix p m c cc nL s args Ts RX5) (hin : ∀ w ∈ wsX50, w ∈ Ts) (hni : meth.name = "<init>") (hW : cH G kT L0 L K R I A Q N s H locs) {a v : Nat} (ha : a ∈ L) (hk : K a = 5) {index : Nat} (hlink : (Cond.fieldLink RX5 index (TX5 6).1 (TX5 6).2.1 (TX5 6).2.2.1).before args s = true) (hdg : decode cc pc = .ok (.putfield index, 3)) (kk : ∀ (H1 : Heap) (locs1 : List Loc), cH G kT L0 L K (u2 R 11 a (some v)) I A Q N s H1 locs1 → W p l e Rm s m args below meth c H1 locs1 cells slots Z (F0 m (pc + 3) ls rest)) : W p l e Rm s m args below meth c H locs cells slots Z (F0 m pc ls (.ref v :: .ref a :: rest)) := by
  obtain ⟨k0, h0⟩ := cW_get ha (pC_5 (kT := kT) (R := R) (I := I) (A := A) (Q := Q) (N := N) hk)
  refine va_putF (D := G) (ci := 7) (v := .ref v) (ty := tyX5 6) (C := RX5) (T := TX5) (N := 8) (own := RX5) (ref := (TX5 6).1) X.1 X.2.1 X.2.2.2.2 hin tyX5 tyX5_ok nmX5 X.2.2.2.1 hW.1 hW.2.1 hW.D hW.2.2.2.2 k0 h0 rfl 6 (by decide) hlink (fun _ h9 => h9) rfl hni rfl (by decide +kernel) rfl rfl (Nat.le_of_ble_eq_true rfl) hdg (fun H1 locs1 hP hD hS => kk H1 locs1 ⟨hW.1, ?_, hW.2.2.1, hW.2.2.2.1, hS⟩)
  have e := cW_set hW.D ha h0 (pC_5 (kT := kT) (R := R) (I := I) (A := A) (Q := Q) (N := N) hk) (pU_5_two (kT := kT) (R := R) (I := I) (A := A) (Q := Q) (N := N) (v := v) hk)
  rw [← e]
  exact hP
theorem cpf_5_stream (X : CallFix p m c cc nL s args Ts RX5) (hin : ∀ w ∈ wsX50, w ∈ Ts) (hni : meth.name = "<init>") (hW : cH G kT L0 L K R I A Q N s H locs) {a v : Nat} (ha : a ∈ L) (hk : K a = 5) {index : Nat} (hlink : (Cond.fieldLink RX5 index (TX5 7).1 (TX5 7).2.1 (TX5 7).2.2.1).before args s = true) (hdg : decode cc pc = .ok (.putfield index, 3)) (kk : ∀ (H1 : Heap) (locs1 : List Loc), cH G kT L0 L K (u2 R 12 a (some v)) I A Q N s H1 locs1 → W p l e Rm s m args below meth c H1 locs1 cells slots Z (F0 m (pc + 3) ls rest)) : W p l e Rm s m args below meth c H locs cells slots Z (F0 m pc ls (.ref v :: .ref a :: rest)) := by
  obtain ⟨k0, h0⟩ := cW_get ha (pC_5 (kT := kT) (R := R) (I := I) (A := A) (Q := Q) (N := N) hk)
  refine va_putF (D := G) (ci := 7) (v := .ref v) (ty := tyX5 7) (C := RX5) (T := TX5) (N := 8) (own := RX5) (ref := (TX5 7).1) X.1 X.2.1 X.2.2.2.2 hin tyX5 tyX5_ok nmX5 X.2.2.2.1 hW.1 hW.2.1 hW.D hW.2.2.2.2 k0 h0 rfl 7 (by decide) hlink (fun _ h9 => h9) rfl hni rfl (by decide +kernel) rfl rfl (Nat.le_of_ble_eq_true rfl) hdg (fun H1 locs1 hP hD hS => kk H1 locs1 ⟨hW.1, ?_, hW.2.2.1, hW.2.2.2.1, hS⟩)
  have e := cW_set hW.D ha h0 (pC_5 (kT := kT) (R := R) (I := I) (A := A) (Q := Q) (N := N) hk) (pU_5_stream (kT := kT) (R := R) (I := I) (A := A) (Q := Q) (N := N) (v := v) hk)
  rw [← e]
  exact hP
theorem cpf_6_signRows (X : CallFix p m c cc nL s args Ts RX6) (hin : ∀ w ∈ wsX60, w ∈ Ts) (hni : meth.name = "<init>") (hW : cH G kT L0 L K R I A Q N s H locs) {a v : Nat} (ha : a ∈ L) (hk : K a = 6) {index : Nat} (hlink : (Cond.fieldLink RX6 index (TX6 0).1 (TX6 0).2.1 (TX6 0).2.2.1).before args s = true) (hdg : decode cc pc = .ok (.putfield index, 3)) (kk : ∀ (H1 : Heap) (locs1 : List Loc), cH G kT L0 L K (u2 R 13 a (some v)) I A Q N s H1 locs1 → W p l e Rm s m args below meth c H1 locs1 cells slots Z (F0 m (pc + 3) ls rest)) : W p l e Rm s m args below meth c H locs cells slots Z (F0 m pc ls (.ref v :: .ref a :: rest)) := by
  obtain ⟨k0, h0⟩ := cW_get ha (pC_6 (kT := kT) (R := R) (I := I) (A := A) (Q := Q) (N := N) hk)
  refine va_putF (D := G) (ci := 8) (v := .ref v) (ty := tyX6 0) (C := RX6) (T := TX6) (N := 7) (own := RX6) (ref := (TX6 0).1) X.1 X.2.1 X.2.2.2.2 hin tyX6 tyX6_ok nmX6 X.2.2.2.1 hW.1 hW.2.1 hW.D hW.2.2.2.2 k0 h0 rfl 0 (by decide) hlink (fun _ h9 => h9) rfl hni rfl (by decide +kernel) rfl rfl (Nat.le_of_ble_eq_true rfl) hdg (fun H1 locs1 hP hD hS => kk H1 locs1 ⟨hW.1, ?_, hW.2.2.1, hW.2.2.2.1, hS⟩)
  have e := cW_set hW.D ha h0 (pC_6 (kT := kT) (R := R) (I := I) (A := A) (Q := Q) (N := N) hk) (pU_6_signRows (kT := kT) (R := R) (I := I) (A := A) (Q := Q) (N := N) (v := v) hk)
  rw [← e]
  exact hP
theorem cpf_6_byteRows (X : CallFix p m c cc nL s args Ts RX6) (hin : ∀ w ∈ wsX60, w ∈ Ts) (hni : meth.name = "<init>") (hW : cH G kT L0 L K R I A Q N s H locs) {a v : Nat} (ha : a ∈ L) (hk : K a = 6) {index : Nat} (hlink : (Cond.fieldLink RX6 index (TX6 1).1 (TX6 1).2.1 (TX6 1).2.2.1).before args s = true) (hdg : decode cc pc = .ok (.putfield index, 3)) (kk : ∀ (H1 : Heap) (locs1 : List Loc), cH G kT L0 L K (u2 R 14 a (some v)) I A Q N s H1 locs1 → W p l e Rm s m args below meth c H1 locs1 cells slots Z (F0 m (pc + 3) ls rest)) : W p l e Rm s m args below meth c H locs cells slots Z (F0 m pc ls (.ref v :: .ref a :: rest)) := by
  obtain ⟨k0, h0⟩ := cW_get ha (pC_6 (kT := kT) (R := R) (I := I) (A := A) (Q := Q) (N := N) hk)
  refine va_putF (D := G) (ci := 8) (v := .ref v) (ty := tyX6 1) (C := RX6) (T := TX6) (N := 7) (own := RX6) (ref := (TX6 1).1) X.1 X.2.1 X.2.2.2.2 hin tyX6 tyX6_ok nmX6 X.2.2.2.1 hW.1 hW.2.1 hW.D hW.2.2.2.2 k0 h0 rfl 1 (by decide) hlink (fun _ h9 => h9) rfl hni rfl (by decide +kernel) rfl rfl (Nat.le_of_ble_eq_true rfl) hdg (fun H1 locs1 hP hD hS => kk H1 locs1 ⟨hW.1, ?_, hW.2.2.1, hW.2.2.2.1, hS⟩)
  have e := cW_set hW.D ha h0 (pC_6 (kT := kT) (R := R) (I := I) (A := A) (Q := Q) (N := N) hk) (pU_6_byteRows (kT := kT) (R := R) (I := I) (A := A) (Q := Q) (N := N) (v := v) hk)
  rw [← e]
  exact hP
theorem cpf_6_textWriters (X : CallFix p m c cc nL s args Ts RX6) (hin : ∀ w ∈ wsX60, w ∈ Ts) (hni : meth.name = "<init>") (hW : cH G kT L0 L K R I A Q N s H locs) {a v : Nat} (ha : a ∈ L) (hk : K a = 6) {index : Nat} (hlink : (Cond.fieldLink RX6 index (TX6 2).1 (TX6 2).2.1 (TX6 2).2.2.1).before args s = true) (hdg : decode cc pc = .ok (.putfield index, 3)) (kk : ∀ (H1 : Heap) (locs1 : List Loc), cH G kT L0 L K (u2 R 15 a (some v)) I A Q N s H1 locs1 → W p l e Rm s m args below meth c H1 locs1 cells slots Z (F0 m (pc + 3) ls rest)) : W p l e Rm s m args below meth c H locs cells slots Z (F0 m pc ls (.ref v :: .ref a :: rest)) := by
  obtain ⟨k0, h0⟩ := cW_get ha (pC_6 (kT := kT) (R := R) (I := I) (A := A) (Q := Q) (N := N) hk)
  refine va_putF (D := G) (ci := 8) (v := .ref v) (ty := tyX6 2) (C := RX6) (T := TX6) (N := 7) (own := RX6) (ref := (TX6 2).1) X.1 X.2.1 X.2.2.2.2 hin tyX6 tyX6_ok nmX6 X.2.2.2.1 hW.1 hW.2.1 hW.D hW.2.2.2.2 k0 h0 rfl 2 (by decide) hlink (fun _ h9 => h9) rfl hni rfl (by decide +kernel) rfl rfl (Nat.le_of_ble_eq_true rfl) hdg (fun H1 locs1 hP hD hS => kk H1 locs1 ⟨hW.1, ?_, hW.2.2.1, hW.2.2.2.1, hS⟩)
  have e := cW_set hW.D ha h0 (pC_6 (kT := kT) (R := R) (I := I) (A := A) (Q := Q) (N := N) hk) (pU_6_textWriters (kT := kT) (R := R) (I := I) (A := A) (Q := Q) (N := N) (v := v) hk)
  rw [← e]
  exact hP
theorem cpf_6_arrayWriters (X : CallFix p m c cc nL s args Ts RX6) (hin : ∀ w ∈ wsX60, w ∈ Ts) (hni : meth.name = "<init>") (hW : cH G kT L0 L K R I A Q N s H locs) {a v : Nat} (ha : a ∈ L) (hk : K a = 6) {index : Nat} (hlink : (Cond.fieldLink RX6 index (TX6 3).1 (TX6 3).2.1 (TX6 3).2.2.1).before args s = true) (hdg : decode cc pc = .ok (.putfield index, 3)) (kk : ∀ (H1 : Heap) (locs1 : List Loc), cH G kT L0 L K (u2 R 16 a (some v)) I A Q N s H1 locs1 → W p l e Rm s m args below meth c H1 locs1 cells slots Z (F0 m (pc + 3) ls rest)) : W p l e Rm s m args below meth c H locs cells slots Z (F0 m pc ls (.ref v :: .ref a :: rest)) := by
  obtain ⟨k0, h0⟩ := cW_get ha (pC_6 (kT := kT) (R := R) (I := I) (A := A) (Q := Q) (N := N) hk)
  refine va_putF (D := G) (ci := 8) (v := .ref v) (ty := tyX6 3) (C := RX6) (T := TX6) (N := 7) (own := RX6) (ref := (TX6 3).1) X.1 X.2.1 X.2.2.2.2 hin tyX6 tyX6_ok nmX6 X.2.2.2.1 hW.1 hW.2.1 hW.D hW.2.2.2.2 k0 h0 rfl 3 (by decide) hlink (fun _ h9 => h9) rfl hni rfl (by decide +kernel) rfl rfl (Nat.le_of_ble_eq_true rfl) hdg (fun H1 locs1 hP hD hS => kk H1 locs1 ⟨hW.1, ?_, hW.2.2.1, hW.2.2.2.1, hS⟩)
  have e := cW_set hW.D ha h0 (pC_6 (kT := kT) (R := R) (I := I) (A := A) (Q := Q) (N := N) hk) (pU_6_arrayWriters (kT := kT) (R := R) (I := I) (A := A) (Q := Q) (N := N) (v := v) hk)
  rw [← e]
  exact hP
theorem cpf_6_readers (X : CallFix p m c cc nL s args Ts RX6) (hin : ∀ w ∈ wsX60, w ∈ Ts) (hni : meth.name = "<init>") (hW : cH G kT L0 L K R I A Q N s H locs) {a v : Nat} (ha : a ∈ L) (hk : K a = 6) {index : Nat} (hlink : (Cond.fieldLink RX6 index (TX6 4).1 (TX6 4).2.1 (TX6 4).2.2.1).before args s = true) (hdg : decode cc pc = .ok (.putfield index, 3)) (kk : ∀ (H1 : Heap) (locs1 : List Loc), cH G kT L0 L K (u2 R 17 a (some v)) I A Q N s H1 locs1 → W p l e Rm s m args below meth c H1 locs1 cells slots Z (F0 m (pc + 3) ls rest)) : W p l e Rm s m args below meth c H locs cells slots Z (F0 m pc ls (.ref v :: .ref a :: rest)) := by
  obtain ⟨k0, h0⟩ := cW_get ha (pC_6 (kT := kT) (R := R) (I := I) (A := A) (Q := Q) (N := N) hk)
  refine va_putF (D := G) (ci := 8) (v := .ref v) (ty := tyX6 4) (C := RX6) (T := TX6) (N := 7) (own := RX6) (ref := (TX6 4).1) X.1 X.2.1 X.2.2.2.2 hin tyX6 tyX6_ok nmX6 X.2.2.2.1 hW.1 hW.2.1 hW.D hW.2.2.2.2 k0 h0 rfl 4 (by decide) hlink (fun _ h9 => h9) rfl hni rfl (by decide +kernel) rfl rfl (Nat.le_of_ble_eq_true rfl) hdg (fun H1 locs1 hP hD hS => kk H1 locs1 ⟨hW.1, ?_, hW.2.2.1, hW.2.2.2.1, hS⟩)
  have e := cW_set hW.D ha h0 (pC_6 (kT := kT) (R := R) (I := I) (A := A) (Q := Q) (N := N) hk) (pU_6_readers (kT := kT) (R := R) (I := I) (A := A) (Q := Q) (N := N) (v := v) hk)
  rw [← e]
  exact hP
theorem cpf_6_streams (X : CallFix p m c cc nL s args Ts RX6) (hin : ∀ w ∈ wsX60, w ∈ Ts) (hni : meth.name = "<init>") (hW : cH G kT L0 L K R I A Q N s H locs) {a v : Nat} (ha : a ∈ L) (hk : K a = 6) {index : Nat} (hlink : (Cond.fieldLink RX6 index (TX6 5).1 (TX6 5).2.1 (TX6 5).2.2.1).before args s = true) (hdg : decode cc pc = .ok (.putfield index, 3)) (kk : ∀ (H1 : Heap) (locs1 : List Loc), cH G kT L0 L K (u2 R 18 a (some v)) I A Q N s H1 locs1 → W p l e Rm s m args below meth c H1 locs1 cells slots Z (F0 m (pc + 3) ls rest)) : W p l e Rm s m args below meth c H locs cells slots Z (F0 m pc ls (.ref v :: .ref a :: rest)) := by
  obtain ⟨k0, h0⟩ := cW_get ha (pC_6 (kT := kT) (R := R) (I := I) (A := A) (Q := Q) (N := N) hk)
  refine va_putF (D := G) (ci := 8) (v := .ref v) (ty := tyX6 5) (C := RX6) (T := TX6) (N := 7) (own := RX6) (ref := (TX6 5).1) X.1 X.2.1 X.2.2.2.2 hin tyX6 tyX6_ok nmX6 X.2.2.2.1 hW.1 hW.2.1 hW.D hW.2.2.2.2 k0 h0 rfl 5 (by decide) hlink (fun _ h9 => h9) rfl hni rfl (by decide +kernel) rfl rfl (Nat.le_of_ble_eq_true rfl) hdg (fun H1 locs1 hP hD hS => kk H1 locs1 ⟨hW.1, ?_, hW.2.2.1, hW.2.2.2.1, hS⟩)
  have e := cW_set hW.D ha h0 (pC_6 (kT := kT) (R := R) (I := I) (A := A) (Q := Q) (N := N) hk) (pU_6_streams (kT := kT) (R := R) (I := I) (A := A) (Q := Q) (N := N) (v := v) hk)
  rw [← e]
  exact hP
theorem cpf_6_trial (X : CallFix p m c cc nL s args Ts RX6) (hin : ∀ w ∈ wsX60, w ∈ Ts) (hni : meth.name = "<init>") (hW : cH G kT L0 L K R I A Q N s H locs) {a v : Nat} (ha : a ∈ L) (hk : K a = 6) {index : Nat} (hlink : (Cond.fieldLink RX6 index (TX6 6).1 (TX6 6).2.1 (TX6 6).2.2.1).before args s = true) (hdg : decode cc pc = .ok (.putfield index, 3)) (kk : ∀ (H1 : Heap) (locs1 : List Loc), cH G kT L0 L K (u2 R 19 a (some v)) I A Q N s H1 locs1 → W p l e Rm s m args below meth c H1 locs1 cells slots Z (F0 m (pc + 3) ls rest)) : W p l e Rm s m args below meth c H locs cells slots Z (F0 m pc ls (.ref v :: .ref a :: rest)) := by
  obtain ⟨k0, h0⟩ := cW_get ha (pC_6 (kT := kT) (R := R) (I := I) (A := A) (Q := Q) (N := N) hk)
  refine va_putF (D := G) (ci := 8) (v := .ref v) (ty := tyX6 6) (C := RX6) (T := TX6) (N := 7) (own := RX6) (ref := (TX6 6).1) X.1 X.2.1 X.2.2.2.2 hin tyX6 tyX6_ok nmX6 X.2.2.2.1 hW.1 hW.2.1 hW.D hW.2.2.2.2 k0 h0 rfl 6 (by decide) hlink (fun _ h9 => h9) rfl hni rfl (by decide +kernel) rfl rfl (Nat.le_of_ble_eq_true rfl) hdg (fun H1 locs1 hP hD hS => kk H1 locs1 ⟨hW.1, ?_, hW.2.2.1, hW.2.2.2.1, hS⟩)
  have e := cW_set hW.D ha h0 (pC_6 (kT := kT) (R := R) (I := I) (A := A) (Q := Q) (N := N) hk) (pU_6_trial (kT := kT) (R := R) (I := I) (A := A) (Q := Q) (N := N) (v := v) hk)
  rw [← e]
  exact hP
end CN
