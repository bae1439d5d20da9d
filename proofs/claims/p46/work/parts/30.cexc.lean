/-! throws: what a method needs that throws, what it leaves -/
abbrev xRT : List String := ["java/lang/RuntimeException", "java/lang/Exception"]
def xW : List Cond := [.declares (Bundle.initS "java/lang/RuntimeException"), .declares (Bundle.initS "java/lang/Exception"), .declares (Bundle.initS Bundle.tN), .castable "java/lang/IndexOutOfBoundsException" "java/lang/IndexOutOfBoundsException", .castable "java/lang/IllegalArgumentException" "java/lang/IllegalArgumentException", .castable "java/lang/IllegalStateException" "java/lang/IllegalStateException", .castable "java/lang/UnsupportedOperationException" "java/lang/UnsupportedOperationException"]
def xT : List (Nat × String) := [(66, "the length is out of range"), (149, "the reader is not there"), (170, "the row is the very array that is read"), (181, "the limit is below 0"), (262, "there is no such row of signs"), (267, "there is no such text writer"), (269, "there is no such array writer"), (271, "there is no such reader"), (273, "the reader is not there, or was shut"), (279, "there is no such place"), (281, "not all of these places are there"), (283, "fewer than 1 are wanted"), (287, "the number is out of range"), (289, "the writer would have more than 256 signs")]
def xN : List (String × String) := [("java/lang/IndexOutOfBoundsException", "java/lang/IllegalArgumentException"), ("java/lang/IndexOutOfBoundsException", "java/lang/IllegalStateException"), ("java/lang/IndexOutOfBoundsException", "java/lang/UnsupportedOperationException"), ("java/lang/IllegalArgumentException", "java/lang/IndexOutOfBoundsException"), ("java/lang/IllegalArgumentException", "java/lang/IllegalStateException"), ("java/lang/IllegalArgumentException", "java/lang/UnsupportedOperationException"), ("java/lang/IllegalStateException", "java/lang/IndexOutOfBoundsException"), ("java/lang/IllegalStateException", "java/lang/IllegalArgumentException"), ("java/lang/IllegalStateException", "java/lang/UnsupportedOperationException"), ("java/lang/UnsupportedOperationException", "java/lang/IndexOutOfBoundsException"), ("java/lang/UnsupportedOperationException", "java/lang/IllegalArgumentException"), ("java/lang/UnsupportedOperationException", "java/lang/IllegalStateException")]
def cE (B : Nat → Prop) (U : State) (H : Heap) : Prop := vx_Zq Bundle.tN "UNASSIGNED_STACK" Bundle.steD B U H ∧ vx_Zq Bundle.tN "SUPPRESSED_SENTINEL" Bundle.listD B U H ∧ (∀ w ∈ xW, va_Nw w U) ∧ (∀ q ∈ xT, ∃ sa, vk_R RX6 q.1 q.2 sa U) ∧ ∀ q ∈ xN, va_Nc q.1 q.2 U
theorem xW_warm {s U : State} (hW : s.WarmedH U.vm) : ∀ w ∈ xW, va_Nw w s → va_Nw w U := by
  intro w hw h
  simp only [xW, List.mem_cons, List.not_mem_nil, or_false] at hw
  rcases hw with rfl | rfl | rfl | rfl | rfl | rfl | rfl
  · exact va_Nw.warmD hW h
  · exact va_Nw.warmD hW h
  · exact va_Nw.warmD hW h
  · exact va_Nw.warmC hW h
  · exact va_Nw.warmC hW h
  · exact va_Nw.warmC hW h
  · exact va_Nw.warmC hW h
theorem cE.warm {B : Nat → Prop} {s U : State} {H : Heap} (h : cE B s H) (hW : s.WarmedH U.vm) : cE B U H :=
  ⟨h.1.moved hW.alike, h.2.1.moved hW.alike, fun w hw => xW_warm hW w hw (h.2.2.1 w hw), fun q hq => by obtain ⟨sa, z⟩ := h.2.2.2.1 q hq; exact ⟨sa, vk_R.warm hW z⟩, fun q hq => (h.2.2.2.2 q hq).moved hW.alike⟩
theorem cE.kept {B : Nat → Prop} {U : State} {H H1 : Heap} (h : cE B U H) (hq : ∀ a : Nat, a < H.size → ¬ B a → H1[a]? = H[a]?) : cE B U H1 := ⟨h.1.kept hq, h.2.1.kept hq, h.2.2⟩
theorem cE.narrow {B B2 : Nat → Prop} {U : State} {H : Heap} (h : cE B U H) (hAB : ∀ q, B2 q → B q) : cE B2 U H := ⟨h.1.narrow hAB, h.2.1.narrow hAB, h.2.2⟩
theorem cE.calling {B : Nat → Prop} {U : State} {g : JFrame} {mk : MethodId} {a : Array Value} (h : cE B U U.heap) : cE B (U.calling g mk a) (U.calling g mk a).heap := h.warm (U := U.calling g mk a) (State.WarmedH.refl U)
def cMt (l : Launch) (y : MethodName) (ws : List Cond) (rm : Room) (G : va_G) (kT : Nat → ClassId) (as : List Value) (L : List Nat) (K : Nat → Nat) (R : pR) (I : pI) (A : mD) (Q : pR) (N : Nat → Nat) (E : String) : Prop := ∀ sz : Nat, vx_Met l y ws rm (va_Pc as (fun U => U.heap.size = sz ∧ va_K G vwCl (ctys kT) U ∧ va_P G vwCl (cW kT L K R I A Q N) U.heap ∧ L.Nodup ∧ cE (cA L sz) U U.heap)) (va_Qv (fun (_ : Unit) => False) (fun _ _ => True) (cA L sz)) (vx_X (fun (_ : Unit) => True) (fun E9 _ t => E9 = E ∧ va_K G vwCl (ctys kT) t ∧ va_P G vwCl (cW kT L K R I A Q N) t.heap) (cA L sz)) 1 6 (cA L sz)
def cZ (below : List Frame) (G : va_G) (kT : Nat → ClassId) (L : List Nat) (K : Nat → Nat) (R : pR) (I : pI) (A : mD) (Q : pR) (N : Nat → Nat) (E : String) (args : Array Value) (s : State) (sz : Nat) : State → Prop := vx_MQ below (va_Qv (fun (_ : Unit) => False) (fun _ _ => True) (cA L sz)) (vx_X (fun (_ : Unit) => True) (fun E9 _ t => E9 = E ∧ va_K G vwCl (ctys kT) t ∧ va_P G vwCl (cW kT L K R I A Q N) t.heap) (cA L sz)) args s 1 6 (cA L sz)
def cY (l : Launch) (G : va_G) (kT : Nat → ClassId) (L : List Nat) (K : Nat → Nat) (R : pR) (I : pI) (A : mD) (Q : pR) (N : Nat → Nat) (E : String) (s : State) (args : Array Value) (below : List Frame) (meth : Method) (c : Code) (Z : State → Prop) : Prop := l.stackTraces = false ∧ cE (cA L s.heap.size) s s.heap ∧ (∀ x ∈ c.exceptionTable.toList, False) ∧ meth.locks = false ∧ Z = cZ below G kT L K R I A Q N E args s s.heap.size
section CX
variable {p : Program} {l : Launch} {e : Env} {Rm : Room} {s : State} {m : MethodId} {args : Array Value} {below : List Frame} {meth : Method} {c : Code} {H : Heap} {locs : List Loc} {cells slots : Nat} {Z : State → Prop} {cc : ByteArray} {pc nL : Nat} {ls : Array Slot} {rest : List Value} {Ts : List Cond} {own : String}
variable {G : va_G} {kT : Nat → ClassId} {L0 L : List Nat} {K : Nat → Nat} {R : pR} {I : pI} {A : mD} {Q : pR} {N : Nat → Nat}
variable {y : MethodName} {ws ws2 : List Cond} {rm : Room} {as : List Value} {maxL index n : Nat} {ret : Option FieldType} {bytes : ByteArray} {E : String}
theorem cstt (hst : l.stackTraces = false) (hy : plainName y.cls = true) (hw : ws = Cond.code y cc maxL ret :: ws2) (hlen : (lg_sl as).length ≤ maxL) (body : ∀ (p : Program) (e : Env) (s : State) (m : MethodId) (args : Array Value) (below : List Frame) (meth : Method) (c : Code) (Z : State → Prop), cY l G kT L K R I A Q N E s args below meth c Z → CallFix p m c cc maxL s args ws y.cls → cH G kT L L K R I A Q N s s.heap [] → ∀ ls : Array Slot, lv_has ls maxL (lv_args 0 as) → W p l e rm s m args below meth c s.heap [] 0 0 Z (F0 m 0 ls [])) : cMt l y ws rm G kT as L K R I A Q N E := by
  intro sz
  refine vx_ofW (cc := cc) (maxL := maxL) (ret := ret) hy hw ?_
  intro p e s m args below meth c s₁ B hml hout hv
  obtain ⟨rfl, hsz, hK, hP, hnd, hE⟩ := hv
  subst hsz
  have hl := lv_entry as (n := maxL) hlen
  rw [lg_entry_eq]
  have X : CallFix p m c cc maxL s _ ws y.cls := ⟨B.exec, B.bytes, hml, findClass_of_methodNamed B.named, atoms_spec (ws := ws) B.pre⟩
  exact body p e s m _ below meth c _ ⟨hst, hE, hout, B.notSynchronized, rfl⟩ X ⟨hK, hP, hnd, fun a h => Or.inl h, va_S.rf⟩ _ hl
/-- the heap grew: the world stands -/
theorem cH.grown {H1 : Heap} (hW : cH G kT L0 L K R I A Q N s H locs) (h1 : H.size ≤ H1.size) (h2 : ∀ q : Nat, q < H.size → H1[q]? = H[q]?) : va_P G vwCl (cW kT L K R I A Q N) H1 :=
  hW.2.1.kept (fun k x hx => h2 x.1 ((hW.2.1 k x hx).lt))
theorem va_S.more {A : Nat → Prop} {H0 H H1 : Heap} {locs : List Loc} (h : va_S A H0 H locs) (h1 : H.size ≤ H1.size) (h2 : ∀ q : Nat, q < H.size → H1[q]? = H[q]?) : va_S A H0 H1 locs := ⟨Nat.le_trans h.1 h1, fun q g1 g2 => (h2 q (Nat.lt_of_lt_of_le g1 h.1)).trans (h.2.1 q g1 g2), h.2.2⟩
theorem xW_tab : ∀ w ∈ xW, w.onTables = true := by decide +kernel
theorem cTH (Y : cY l G kT L K R I A Q N E s args below meth c Z) (X : CallFix p m c cc nL s args Ts RX6) (hW : cH G kT L L K R I A Q N s H locs) {text : String} {ik is ic : Nat} (hcls : Bundle.fit E = true)
    (hk : Cond.classLink RX6 ik E ∈ Ts) (hini : Cond.initialized E ∈ Ts) (ht : (is, text) ∈ xT) (hat : ∀ w ∈ (vx_atS RX6 ic E xRT).filter goodWord, w ∈ Ts) (hbad : ∀ w ∈ (vx_atS RX6 ic E xRT).filter (fun w => !goodWord w), w ∈ xW) (hgood : ∀ w ∈ Cond.classLink RX6 ik E :: Cond.initialized E :: vx_atS RX6 ic E xRT, vx_ot w = true)
    (hs : ls.size = nL) (d0 : decode cc pc = .ok (.new ik, 3)) (d3 : decode cc (pc + 3) = .ok (.dup, 1)) (d4 : decode cc (pc + 4) = .ok (.ldc is, 2)) (d6 : decode cc (pc + 6) = .ok (.invokespecial ic, 3)) (d9 : decode cc (pc + 9) = .ok (.athrow, 1))
    (hfr : xRT.length + 3 < Rm.frames) (hlo : 90 + 0 ≤ Rm.locals) (hce : 1 ≤ Rm.cells) (hsl : 6 ≤ Rm.slots) : W p l e Rm s m args below meth c H locs 0 0 Z (F0 m pc ls []) := by
  obtain ⟨hst, ⟨hU, hN, hXW, hXT, -⟩, hout, hlk, rfl⟩ := Y
  obtain ⟨sa, hR⟩ := hXT _ ht
  refine vx_throwS (A := cA L s.heap.size) (names := xRT) X.1 X.2.1 hst X.2.2.2.1 hcls (by decide +kernel) (X.2.2.2.2 _ hk) (X.2.2.2.2 _ hini) hR (vx_hat (fun w hw => X.2.2.2.2 w (hat w hw)) hbad (fun w hw => va_Nw.use (xW_tab w hw) (hXW w hw))) hgood hU hN hW.2.2.2.2 (hs.trans X.2.2.1.symm) d0 d3 d4 d6 d9 (fun x hx => (hout x hx).elim) hfr (show 0 + (13 * (xRT.length + 1) + 43) ≤ Rm.locals from Nat.le_trans (by decide) hlo) (by omega) (by omega) hlk ?_ hW.2.2.2.2.2.2 (Nat.le_refl _) (Nat.le_refl _)
  intro t hvm h1 h2
  refine ⟨(), trivial, ⟨rfl, va_K.moved hvm hW.1, hW.grown h1 h2⟩, ?_⟩
  exact (hW.2.2.2.2.more h1 h2).F rfl
theorem cTHw (Y : cY l G kT L K R I A Q N E s args below meth c Z) (X : CallFix p m c cc nL s args Ts RX6) (hW : cH G kT L L K R I A Q N s H locs) {text : String} {ik is ic : Nat} (hcls : Bundle.fit E = true)
    (hk : Cond.classLink RX6 ik E ∈ Ts) (hini : Cond.initialized E ∈ Ts) (ht : (is, text) ∈ xT) (hat : ∀ w ∈ (vx_atS RX6 ic E xRT).filter goodWord, w ∈ Ts) (hbad : ∀ w ∈ (vx_atS RX6 ic E xRT).filter (fun w => !goodWord w), w ∈ xW) (hgood : ∀ w ∈ Cond.classLink RX6 ik E :: Cond.initialized E :: vx_atS RX6 ic E xRT, vx_ot w = true)
    (hs : ls.size = nL) (d0 : decode cc pc = .ok (.new ik, 3)) (d3 : decode cc (pc + 3) = .ok (.dup, 1)) (d4 : decode cc (pc + 4) = .ok (.ldc_w is, 3)) (d6 : decode cc (pc + 7) = .ok (.invokespecial ic, 3)) (d9 : decode cc (pc + 10) = .ok (.athrow, 1))
    (hfr : xRT.length + 3 < Rm.frames) (hlo : 90 + 0 ≤ Rm.locals) (hce : 1 ≤ Rm.cells) (hsl : 6 ≤ Rm.slots) : W p l e Rm s m args below meth c H locs 0 0 Z (F0 m pc ls []) := by
  obtain ⟨hst, ⟨hU, hN, hXW, hXT, -⟩, hout, hlk, rfl⟩ := Y
  obtain ⟨sa, hR⟩ := hXT _ ht
  refine vx_throwSW (A := cA L s.heap.size) (names := xRT) X.1 X.2.1 hst X.2.2.2.1 hcls (by decide +kernel) (X.2.2.2.2 _ hk) (X.2.2.2.2 _ hini) hR (vx_hat (fun w hw => X.2.2.2.2 w (hat w hw)) hbad (fun w hw => va_Nw.use (xW_tab w hw) (hXW w hw))) hgood hU hN hW.2.2.2.2 (hs.trans X.2.2.1.symm) d0 d3 d4 d6 d9 (fun x hx => (hout x hx).elim) hfr (show 0 + (13 * (xRT.length + 1) + 43) ≤ Rm.locals from Nat.le_trans (by decide) hlo) (by omega) (by omega) hlk ?_ hW.2.2.2.2.2.2 (Nat.le_refl _) (Nat.le_refl _)
  intro t hvm h1 h2
  refine ⟨(), trivial, ⟨rfl, va_K.moved hvm hW.1, hW.grown h1 h2⟩, ?_⟩
  exact (hW.2.2.2.2.more h1 h2).F rfl
theorem cXV (Y : cY l G kT L K R I A Q N E s args below meth c Z) (X : CallFix p m c cc nL s args Ts own) (hW : cH G kT L L K R I A Q N s H locs) {b ci : Nat} {q9 : vw_C} {fs : List Value} (hb : b ∈ L) (hrec : pC kT K R I A Q N b = .inr (ci, fs)) (hq : vwCl[ci]? = some q9) (hM : cMt l y ws rm G kT (.ref b :: as) L K R I A Q N E) (cw : CallW Rm s args own q9.1 index y bytes maxL ret ws rm 1 6 n) {st : List Value} (hst : st = as.reverse ++ .ref b :: rest) (hn : as.length = n) (hs : ls.size = nL) (hroom : (rest.map fun v => v.category).sum ≤ 8) (hdg : decode cc pc = .ok (.invokevirtual index, 3)) (hcs : 1 ≤ Rm.cells ∧ 6 ≤ Rm.slots) : W p l e Rm s m args below meth c H locs 0 0 Z (F0 m pc ls st) := by
  subst hst
  obtain ⟨k0, h0⟩ := cW_get hb hrec
  obtain ⟨hst, hE, hout, hlk, rfl⟩ := Y
  have hE1 : ∀ U : State, U.heap = H → s.WarmedH U.vm → cE (cA L H.size) U U.heap := fun U hU hWm => by rw [hU]; exact ((hE.kept hW.2.2.2.2.2.1).narrow (cA_up hW)).warm hWm
  refine vx_callv (vx_runV (g := F0 m pc ls _) (As := as) (rest := rest) X (hM H.size) cw ⟨fun a U g mk z => by obtain ⟨z0, z1, z2, z3, z4, z5⟩ := z; exact ⟨z0, z1, va_K.moved (u := U) (U := U.calling g mk a) (Vm.Alike.refl U.vm) z2, z3, z4, z5.calling⟩, va_recv hW.1 hW.2.1 (ci := ci) (q0 := k0) hq h0, fun U hU hWm => ⟨rfl, by rw [hU], va_K.moved hWm.alike hW.1, by rw [hU]; exact hW.2.1, hW.2.2.1, hE1 U hU hWm⟩⟩ rfl hn hs rfl (lv_room hroom) hdg (by simpa using hcs)) hW.2.2.2.2 (fun a _ h => cA_up hW a h) (cA_up hW) (fun a _ h => cA_up hW a h) (fun E9 ce q8 u t H1 locs1 ht hvm hp hB hsz hk hS hce hcv hcl => ?_) (fun u t H1 locs1 ht hvm hw => hw.elim)
  obtain ⟨rfl, hK9, hP9⟩ := hB
  rw [ht] at hP9
  exact vx_out (fun x hx => (hout x hx).elim) hlk hce hcv hcl (fun t2 ht2 hvm2 => ⟨(), trivial, ⟨rfl, va_K.moved hvm2 hW.1, by rw [ht2]; exact hP9⟩, hS.F ht2⟩) hS.2.2 (by omega) (by omega)
theorem cCV (hE : cE (cA L0 s.heap.size) s s.heap) (X : CallFix p m c cc nL s args Ts own) (hW : cH G kT L0 L K R I A Q N s H locs) {b ci : Nat} {q9 : vw_C} {fs : List Value} (hb : b ∈ L) (hrec : pC kT K R I A Q N b = .inr (ci, fs)) (hq : vwCl[ci]? = some q9) (hM : cMt l y ws rm G kT (.ref b :: as) L K R I A Q N E) (cw : CallW Rm s args own q9.1 index y bytes maxL ret ws rm 1 6 n) {st : List Value} (hst : st = as.reverse ++ .ref b :: rest) (hn : as.length = n) (hs : ls.size = nL) (hroom : (rest.map fun v => v.category).sum ≤ 8) (hdg : decode cc pc = .ok (.invokevirtual index, 3)) (hcs : cells + 1 ≤ Rm.cells ∧ slots + 6 ≤ Rm.slots) (kx : ∀ (H1 : Heap) (locs1 : List Loc) (q8 : Addr) (ce : Cell), cH G kT L0 L K R I A Q N s H1 locs1 → H.size ≤ H1.size → (∀ q : Nat, q < H.size → q ∉ L → H1[q]? = H[q]?) → H1[q8]? = some ce → ce.vm = .none → s.vm.findClass E = some ce.cls → vx_W p l e Rm s m args below meth c H1 locs1 (cells + 1) (slots + 6) Z (F0 m pc ls rest) q8) : W p l e Rm s m args below meth c H locs cells slots Z (F0 m pc ls st) := by
  subst hst
  obtain ⟨k0, h0⟩ := cW_get hb hrec
  have hE1 : ∀ U : State, U.heap = H → s.WarmedH U.vm → cE (cA L H.size) U U.heap := fun U hU hWm => by rw [hU]; exact ((hE.kept hW.2.2.2.2.2.1).narrow (cA_up hW)).warm hWm
  refine vx_callv (vx_runV (g := F0 m pc ls _) (As := as) (rest := rest) X (hM H.size) cw ⟨fun a U g mk z => by obtain ⟨z0, z1, z2, z3, z4, z5⟩ := z; exact ⟨z0, z1, va_K.moved (u := U) (U := U.calling g mk a) (Vm.Alike.refl U.vm) z2, z3, z4, z5.calling⟩, va_recv hW.1 hW.2.1 (ci := ci) (q0 := k0) hq h0, fun U hU hWm => ⟨rfl, by rw [hU], va_K.moved hWm.alike hW.1, by rw [hU]; exact hW.2.1, hW.2.2.1, hE1 U hU hWm⟩⟩ rfl hn hs rfl (lv_room hroom) hdg (by simpa using hcs)) hW.2.2.2.2 (fun a _ h => cA_up hW a h) (cA_up hW) (fun a _ h => cA_up hW a h) (fun E9 ce q8 u t H1 locs1 ht hvm hp hB hsz hk hS hce hcv hcl => ?_) (fun u t H1 locs1 ht hvm hw => hw.elim)
  obtain ⟨rfl, hK9, hP9⟩ := hB
  rw [ht] at hP9
  exact kx H1 locs1 q8 ce ⟨hW.1, hP9, hW.2.2.1, hW.2.2.2.1, hS⟩ hsz (fun q h1 h2 => hk q h1 (fun z => z.elim (fun z => h2 z) (fun z => absurd h1 (Nat.not_lt.mpr z)))) hce hcv hcl
theorem cXS (Y : cY l G kT L K R I A Q N E s args below meth c Z) (X : CallFix p m c cc nL s args Ts own) (hW : cH G kT L L K R I A Q N s H locs) (hM : cMt l y ws rm G kT (as) L K R I A Q N E) (cw : CallB Rm s args own index y bytes maxL ret ws rm 1 6 n ∧ (Cond.static y).before args s = true) {st : List Value} (hst : st = as.reverse ++ rest) (hn : as.length = n) (hs : ls.size = nL) (hroom : (rest.map fun v => v.category).sum ≤ 8) (hdg : decode cc pc = .ok (.invokestatic index, 3)) (hcs : 1 ≤ Rm.cells ∧ 6 ≤ Rm.slots) : W p l e Rm s m args below meth c H locs 0 0 Z (F0 m pc ls st) := by
  subst hst
  obtain ⟨hst, hE, hout, hlk, rfl⟩ := Y
  have hE1 : ∀ U : State, U.heap = H → s.WarmedH U.vm → cE (cA L H.size) U U.heap := fun U hU hWm => by rw [hU]; exact ((hE.kept hW.2.2.2.2.2.1).narrow (cA_up hW)).warm hWm
  refine vx_callv (vx_runS (g := F0 m pc ls _) (As := as) (rest := rest) X (hM H.size) cw ⟨fun a U g mk z => by obtain ⟨z0, z1, z2, z3, z4, z5⟩ := z; exact ⟨z0, z1, va_K.moved (u := U) (U := U.calling g mk a) (Vm.Alike.refl U.vm) z2, z3, z4, z5.calling⟩, fun U hU hWm => ⟨rfl, by rw [hU], va_K.moved hWm.alike hW.1, by rw [hU]; exact hW.2.1, hW.2.2.1, hE1 U hU hWm⟩⟩ rfl hn hs rfl (lv_room hroom) hdg (by simpa using hcs)) hW.2.2.2.2 (fun a _ h => cA_up hW a h) (cA_up hW) (fun a _ h => cA_up hW a h) (fun E9 ce q8 u t H1 locs1 ht hvm hp hB hsz hk hS hce hcv hcl => ?_) (fun u t H1 locs1 ht hvm hw => hw.elim)
  obtain ⟨rfl, hK9, hP9⟩ := hB
  rw [ht] at hP9
  exact vx_out (fun x hx => (hout x hx).elim) hlk hce hcv hcl (fun t2 ht2 hvm2 => ⟨(), trivial, ⟨rfl, va_K.moved hvm2 hW.1, by rw [ht2]; exact hP9⟩, hS.F ht2⟩) hS.2.2 (by omega) (by omega)
theorem cCS (hE : cE (cA L0 s.heap.size) s s.heap) (X : CallFix p m c cc nL s args Ts own) (hW : cH G kT L0 L K R I A Q N s H locs) (hM : cMt l y ws rm G kT (as) L K R I A Q N E) (cw : CallB Rm s args own index y bytes maxL ret ws rm 1 6 n ∧ (Cond.static y).before args s = true) {st : List Value} (hst : st = as.reverse ++ rest) (hn : as.length = n) (hs : ls.size = nL) (hroom : (rest.map fun v => v.category).sum ≤ 8) (hdg : decode cc pc = .ok (.invokestatic index, 3)) (hcs : cells + 1 ≤ Rm.cells ∧ slots + 6 ≤ Rm.slots) (kx : ∀ (H1 : Heap) (locs1 : List Loc) (q8 : Addr) (ce : Cell), cH G kT L0 L K R I A Q N s H1 locs1 → H.size ≤ H1.size → (∀ q : Nat, q < H.size → q ∉ L → H1[q]? = H[q]?) → H1[q8]? = some ce → ce.vm = .none → s.vm.findClass E = some ce.cls → vx_W p l e Rm s m args below meth c H1 locs1 (cells + 1) (slots + 6) Z (F0 m pc ls rest) q8) : W p l e Rm s m args below meth c H locs cells slots Z (F0 m pc ls st) := by
  subst hst
  have hE1 : ∀ U : State, U.heap = H → s.WarmedH U.vm → cE (cA L H.size) U U.heap := fun U hU hWm => by rw [hU]; exact ((hE.kept hW.2.2.2.2.2.1).narrow (cA_up hW)).warm hWm
  refine vx_callv (vx_runS (g := F0 m pc ls _) (As := as) (rest := rest) X (hM H.size) cw ⟨fun a U g mk z => by obtain ⟨z0, z1, z2, z3, z4, z5⟩ := z; exact ⟨z0, z1, va_K.moved (u := U) (U := U.calling g mk a) (Vm.Alike.refl U.vm) z2, z3, z4, z5.calling⟩, fun U hU hWm => ⟨rfl, by rw [hU], va_K.moved hWm.alike hW.1, by rw [hU]; exact hW.2.1, hW.2.2.1, hE1 U hU hWm⟩⟩ rfl hn hs rfl (lv_room hroom) hdg (by simpa using hcs)) hW.2.2.2.2 (fun a _ h => cA_up hW a h) (cA_up hW) (fun a _ h => cA_up hW a h) (fun E9 ce q8 u t H1 locs1 ht hvm hp hB hsz hk hS hce hcv hcl => ?_) (fun u t H1 locs1 ht hvm hw => hw.elim)
  obtain ⟨rfl, hK9, hP9⟩ := hB
  rw [ht] at hP9
  exact kx H1 locs1 q8 ce ⟨hW.1, hP9, hW.2.2.1, hW.2.2.2.1, hS⟩ hsz (fun q h1 h2 => hk q h1 (fun z => z.elim (fun z => h2 z) (fun z => absurd h1 (Nat.not_lt.mpr z)))) hce hcv hcl
end CX
