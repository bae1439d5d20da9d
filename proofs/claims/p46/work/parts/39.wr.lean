/-! the law's calls of the class, with an array of one for the answer -/
def oL (kT : Nat → ClassId) (c : Prop) (v : Int64) (e : va_E) : Prop := ∃ f : Nat → Int64, e = .inl (kT 9, 1, .inr (.inl f)) ∧ (c → f 0 = v)
def oD (kT : Nat → ClassId) (c : Prop) (v : UInt64) (e : va_E) : Prop := ∃ f : Nat → UInt64, e = .inl (kT 10, 1, .inr (.inr (.inr (.inl f)))) ∧ (c → f 0 = v)
theorem oK {G : va_G} {o : Nat} {e : va_E} {L : List Nat} {H H1 : Heap} (h : va_P G vwCl [(o, e)] H) (ho : o ∉ L) (hk : ∀ q : Nat, q < H.size → q ∉ L → H1[q]? = H[q]?) : va_P G vwCl [(o, e)] H1 :=
  h.kept (fun k x hx => by
    have hl := (h k x hx).lt
    have hz : k < 1 := (List.getElem?_eq_some_iff.mp hx).1
    obtain rfl : k = 0 := by omega
    cases hx
    exact hk o hl ho)
theorem oNew {G : va_G} {o : Nat} {e : va_E} {L L2 : List Nat} {H : Heap} (h : va_P G vwCl [(o, e)] H) (ho : o ∉ L) (h2 : ∀ a ∈ L2, cA L H.size a) : o ∉ L2 := fun z => by
  have hl := (h 0 (o, e) rfl).lt
  rcases h2 o z with y | y
  · exact ho y
  · exact absurd hl (Nat.not_lt.mpr y)
def wM (l : Launch) (y : MethodName) (ws : List Cond) (rm : Room) (G : va_G) (kT : Nat → ClassId) (h0 o : Nat) (as : List Value) (T : mT) (D : mD) (code : Nat) (T2 : mT) (D2 : mD) (P0 P : va_E → Prop) : Prop :=
  ∀ (ad : pD) (L : List Nat) (K : pN) (R : pR) (I : pI) (A : mD) (Q : pR) (N : pN) (e : va_E), Rep T D ad L K R I A Q N → ad 0 0 = h0 → o ∉ L → P0 e → ∀ sz : Nat,
    Met l y ws rm (va_Pc as (fun U => U.heap.size = sz ∧ va_K G vwCl (ctys kT) U ∧ va_P G vwCl (cW kT L K R I A Q N) U.heap ∧ L.Nodup ∧ va_P G vwCl [(o, e)] U.heap ∧ cE (cA (o :: L) sz) U U.heap)) (va_Qi (fun (v : Int32) (_ : Unit) => v = nI code) (fun _ t => ∃ (ad2 : pD)  (L2 : List Nat)  (K2 : pN)  (R2 : pR)  (I2 : pI)  (A2 : mD)  (Q2 : pR)  (N2 : pN)  (e2 : va_E), va_K G vwCl (ctys kT) t ∧ va_P G vwCl (cW kT L2 K2 R2 I2 A2 Q2 N2) t.heap ∧ L2.Nodup ∧ (∀ a ∈ L2, cA (o :: L) sz a) ∧ o ∉ L2 ∧ va_P G vwCl [(o, e2)] t.heap ∧ P e2 ∧ Rep T2 D2 ad2 L2 K2 R2 I2 A2 Q2 N2 ∧ ad2 0 0 = h0) (cA (o :: L) sz)) 2 260 (cA (o :: L) sz)
abbrev wO (l : Launch) (y : MethodName) (ws : List Cond) (rm : Room) (G : va_G) (kT : Nat → ClassId) (h0 o : Nat) (as : List Value) (T : mT) (D : mD) (r : mR) : Prop := wM l y ws rm G kT h0 o as T D r.1 r.2.2.1 r.2.2.2 (oL kT False 0) (oL kT (r.1 = 0) r.2.1.toInt64)
abbrev wOl (l : Launch) (y : MethodName) (ws : List Cond) (rm : Room) (G : va_G) (kT : Nat → ClassId) (h0 o : Nat) (as : List Value) (T : mT) (D : mD) (r : mRl) : Prop := wM l y ws rm G kT h0 o as T D r.1 r.2.2.1 r.2.2.2 (oL kT False 0) (oL kT (r.1 = 0) (lN r.2.1))
abbrev wOf (l : Launch) (y : MethodName) (ws : List Cond) (rm : Room) (G : va_G) (kT : Nat → ClassId) (h0 o : Nat) (as : List Value) (T : mT) (D : mD) (r : mRf) : Prop := wM l y ws rm G kT h0 o as T D r.1 r.2.2.1 r.2.2.2 (oD kT False 0) (oD kT (r.1 = 0) (FP.f2d r.2.1))
section WR
variable {p : Program} {l : Launch} {e : Env} {Rm : Room} {s : State} {m : MethodId} {args : Array Value} {below : List Frame} {meth : Method} {c : Code} {H : Heap} {locs : List Loc} {cells slots : Nat} {Z : State → Prop} {cc : ByteArray} {pc nL : Nat} {ls : Array Slot} {rest : List Value} {Ts : List Cond} {own : String}
variable {G : va_G} {kT : Nat → ClassId} {L0 L : List Nat} {K : Nat → Nat} {R : pR} {I : pI} {A : mD} {Q : pR} {N : Nat → Nat}
variable {R2 : pR} {I2 : pI} {A2 : mD} {Q2 : pR} {o h0 : Nat}
variable {y : MethodName} {ws ws2 : List Cond} {rm : Room} {as : List Value} {maxL index n mc ms : Nat} {ret : Option FieldType} {bytes : ByteArray} {cs : List cAx} {Φ : pΦ}
theorem cFi {r : Int32} {b ci : Nat} {q9 : vw_C} {fs : List Value} (X : CallFix p m c cc nL s args Ts own) (hW : cH G kT L0 L K R I A Q N s H locs) (hb : b ∈ L) (hrec : pC kT K R I A Q N b = .inr (ci, fs)) (hq : vwCl[ci]? = some q9) (hM : cMi l y ws rm G kT (.ref b :: as) L K R I A Q N r R2 I2 A2 Q2) (cw : CallW Rm s args own q9.1 index y bytes maxL ret ws rm 0 0 n) {st : List Value} (hst : st = as.reverse ++ .ref b :: rest) (hn : as.length = n) (hs : ls.size = nL) (hroom : (rest.map fun v => v.category).sum ≤ 8) (hdg : decode cc pc = .ok (.invokevirtual index, 3)) (hcs : cells ≤ Rm.cells ∧ slots ≤ Rm.slots)
    (kk : ∀ (H1 : Heap) (locs1 : List Loc), cH G kT L0 L K R2 I2 A2 Q2 N s H1 locs1 → H.size ≤ H1.size → (∀ q : Nat, q < H.size → q ∉ L → H1[q]? = H[q]?) → W p l e Rm s m args below meth c H1 locs1 cells slots Z (F0 m (pc + 3) ls (.int r :: rest))) : W p l e Rm s m args below meth c H locs cells slots Z (F0 m pc ls st) := by
  subst hst
  obtain ⟨k0, h0⟩ := cW_get hb hrec
  refine va_calli (va_runV (As := as) (rest := rest) X (hM H.size) cw ⟨fun a U g mk z => by obtain ⟨z0, z1, z2, z3, z4⟩ := z; exact ⟨z0, z1, va_K.moved (u := U) (U := U.calling g mk a) (Vm.Alike.refl U.vm) z2, z3, z4⟩, va_recv hW.1 hW.2.1 (ci := ci) (q0 := k0) hq h0, fun U hU hWm => ⟨rfl, by rw [hU], va_K.moved hWm.alike hW.1, by rw [hU]; exact hW.2.1, hW.2.2.1⟩⟩ rfl hn hs rfl (lv_room hroom) hdg hcs) hW.2.2.2.2 (fun a _ h => cA_up hW a h) (cA_up hW) (fun r u t H1 locs1 ht hvm hw hB hz1 hk1 hS => ?_)
  subst hw
  exact kk H1 locs1 (hW.back ht hvm hB hS) hz1 (fun q h1 h2 => hk1 q h1 (fun z => z.elim (fun z => h2 z) (fun z => absurd h1 (Nat.not_lt.mpr z))))
theorem cFl {r : Int64} {b ci : Nat} {q9 : vw_C} {fs : List Value} (X : CallFix p m c cc nL s args Ts own) (hW : cH G kT L0 L K R I A Q N s H locs) (hb : b ∈ L) (hrec : pC kT K R I A Q N b = .inr (ci, fs)) (hq : vwCl[ci]? = some q9) (hM : cMl l y ws rm G kT (.ref b :: as) L K R I A Q N r R2 I2 A2 Q2) (cw : CallW Rm s args own q9.1 index y bytes maxL ret ws rm 0 0 n) {st : List Value} (hst : st = as.reverse ++ .ref b :: rest) (hn : as.length = n) (hs : ls.size = nL) (hroom : (rest.map fun v => v.category).sum ≤ 8) (hdg : decode cc pc = .ok (.invokevirtual index, 3)) (hcs : cells ≤ Rm.cells ∧ slots ≤ Rm.slots)
    (kk : ∀ (H1 : Heap) (locs1 : List Loc), cH G kT L0 L K R2 I2 A2 Q2 N s H1 locs1 → H.size ≤ H1.size → (∀ q : Nat, q < H.size → q ∉ L → H1[q]? = H[q]?) → W p l e Rm s m args below meth c H1 locs1 cells slots Z (F0 m (pc + 3) ls (.long r :: rest))) : W p l e Rm s m args below meth c H locs cells slots Z (F0 m pc ls st) := by
  subst hst
  obtain ⟨k0, h0⟩ := cW_get hb hrec
  refine va_calll (va_runV (As := as) (rest := rest) X (hM H.size) cw ⟨fun a U g mk z => by obtain ⟨z0, z1, z2, z3, z4⟩ := z; exact ⟨z0, z1, va_K.moved (u := U) (U := U.calling g mk a) (Vm.Alike.refl U.vm) z2, z3, z4⟩, va_recv hW.1 hW.2.1 (ci := ci) (q0 := k0) hq h0, fun U hU hWm => ⟨rfl, by rw [hU], va_K.moved hWm.alike hW.1, by rw [hU]; exact hW.2.1, hW.2.2.1⟩⟩ rfl hn hs rfl (lv_room hroom) hdg hcs) hW.2.2.2.2 (fun a _ h => cA_up hW a h) (cA_up hW) (fun r u t H1 locs1 ht hvm hw hB hz1 hk1 hS => ?_)
  subst hw
  exact kk H1 locs1 (hW.back ht hvm hB hS) hz1 (fun q h1 h2 => hk1 q h1 (fun z => z.elim (fun z => h2 z) (fun z => absurd h1 (Nat.not_lt.mpr z))))
theorem cFf {r : UInt32} {b ci : Nat} {q9 : vw_C} {fs : List Value} (X : CallFix p m c cc nL s args Ts own) (hW : cH G kT L0 L K R I A Q N s H locs) (hb : b ∈ L) (hrec : pC kT K R I A Q N b = .inr (ci, fs)) (hq : vwCl[ci]? = some q9) (hM : cMf l y ws rm G kT (.ref b :: as) L K R I A Q N r R2 I2 A2 Q2) (cw : CallW Rm s args own q9.1 index y bytes maxL ret ws rm 0 0 n) {st : List Value} (hst : st = as.reverse ++ .ref b :: rest) (hn : as.length = n) (hs : ls.size = nL) (hroom : (rest.map fun v => v.category).sum ≤ 8) (hdg : decode cc pc = .ok (.invokevirtual index, 3)) (hcs : cells ≤ Rm.cells ∧ slots ≤ Rm.slots)
    (kk : ∀ (H1 : Heap) (locs1 : List Loc), cH G kT L0 L K R2 I2 A2 Q2 N s H1 locs1 → H.size ≤ H1.size → (∀ q : Nat, q < H.size → q ∉ L → H1[q]? = H[q]?) → W p l e Rm s m args below meth c H1 locs1 cells slots Z (F0 m (pc + 3) ls (.float r :: rest))) : W p l e Rm s m args below meth c H locs cells slots Z (F0 m pc ls st) := by
  subst hst
  obtain ⟨k0, h0⟩ := cW_get hb hrec
  refine va_callf (va_runV (As := as) (rest := rest) X (hM H.size) cw ⟨fun a U g mk z => by obtain ⟨z0, z1, z2, z3, z4⟩ := z; exact ⟨z0, z1, va_K.moved (u := U) (U := U.calling g mk a) (Vm.Alike.refl U.vm) z2, z3, z4⟩, va_recv hW.1 hW.2.1 (ci := ci) (q0 := k0) hq h0, fun U hU hWm => ⟨rfl, by rw [hU], va_K.moved hWm.alike hW.1, by rw [hU]; exact hW.2.1, hW.2.2.1⟩⟩ rfl hn hs rfl (lv_room hroom) hdg hcs) hW.2.2.2.2 (fun a _ h => cA_up hW a h) (cA_up hW) (fun r u t H1 locs1 ht hvm hw hB hz1 hk1 hS => ?_)
  subst hw
  exact kk H1 locs1 (hW.back ht hvm hB hS) hz1 (fun q h1 h2 => hk1 q h1 (fun z => z.elim (fun z => h2 z) (fun z => absurd h1 (Nat.not_lt.mpr z))))
theorem cFd {r : UInt64} {b ci : Nat} {q9 : vw_C} {fs : List Value} (X : CallFix p m c cc nL s args Ts own) (hW : cH G kT L0 L K R I A Q N s H locs) (hb : b ∈ L) (hrec : pC kT K R I A Q N b = .inr (ci, fs)) (hq : vwCl[ci]? = some q9) (hM : cMd l y ws rm G kT (.ref b :: as) L K R I A Q N r R2 I2 A2 Q2) (cw : CallW Rm s args own q9.1 index y bytes maxL ret ws rm 0 0 n) {st : List Value} (hst : st = as.reverse ++ .ref b :: rest) (hn : as.length = n) (hs : ls.size = nL) (hroom : (rest.map fun v => v.category).sum ≤ 8) (hdg : decode cc pc = .ok (.invokevirtual index, 3)) (hcs : cells ≤ Rm.cells ∧ slots ≤ Rm.slots)
    (kk : ∀ (H1 : Heap) (locs1 : List Loc), cH G kT L0 L K R2 I2 A2 Q2 N s H1 locs1 → H.size ≤ H1.size → (∀ q : Nat, q < H.size → q ∉ L → H1[q]? = H[q]?) → W p l e Rm s m args below meth c H1 locs1 cells slots Z (F0 m (pc + 3) ls (.double r :: rest))) : W p l e Rm s m args below meth c H locs cells slots Z (F0 m pc ls st) := by
  subst hst
  obtain ⟨k0, h0⟩ := cW_get hb hrec
  refine va_calld (va_runV (As := as) (rest := rest) X (hM H.size) cw ⟨fun a U g mk z => by obtain ⟨z0, z1, z2, z3, z4⟩ := z; exact ⟨z0, z1, va_K.moved (u := U) (U := U.calling g mk a) (Vm.Alike.refl U.vm) z2, z3, z4⟩, va_recv hW.1 hW.2.1 (ci := ci) (q0 := k0) hq h0, fun U hU hWm => ⟨rfl, by rw [hU], va_K.moved hWm.alike hW.1, by rw [hU]; exact hW.2.1, hW.2.2.1⟩⟩ rfl hn hs rfl (lv_room hroom) hdg hcs) hW.2.2.2.2 (fun a _ h => cA_up hW a h) (cA_up hW) (fun r u t H1 locs1 ht hvm hw hB hz1 hk1 hS => ?_)
  subst hw
  exact kk H1 locs1 (hW.back ht hvm hB hS) hz1 (fun q h1 h2 => hk1 q h1 (fun z => z.elim (fun z => h2 z) (fun z => absurd h1 (Nat.not_lt.mpr z))))
theorem cFN {r : Int32} {b ci : Nat} {q9 : vw_C} {fs : List Value} (X : CallFix p m c cc nL s args Ts own) (hW : cH G kT L0 L K R I A Q N s H locs) (hb : b ∈ L) (hrec : pC kT K R I A Q N b = .inr (ci, fs)) (hq : vwCl[ci]? = some q9) (hAO : ∀ C ∈ cs, cAe C s) (hM : cNi l y ws rm G kT (.ref b :: as) L K R I A Q N mc ms cs r Φ) (cw : CallW Rm s args own q9.1 index y bytes maxL ret ws rm mc ms n) {st : List Value} (hst : st = as.reverse ++ .ref b :: rest) (hn : as.length = n) (hs : ls.size = nL) (hroom : (rest.map fun v => v.category).sum ≤ 8) (hdg : decode cc pc = .ok (.invokevirtual index, 3)) (hcs : cells + mc ≤ Rm.cells ∧ slots + ms ≤ Rm.slots)
    (kk : ∀ (L2 : List Nat) (K2 : pN) (R2 : pR) (I2 : pI) (A2 : mD) (Q2 : pR) (N2 : pN) (H1 : Heap) (locs1 : List Loc), cH G kT L0 L2 K2 R2 I2 A2 Q2 N2 s H1 locs1 → Φ L2 K2 R2 I2 A2 Q2 N2 → H.size ≤ H1.size → (∀ q : Nat, q < H.size → q ∉ L → H1[q]? = H[q]?) → (∀ a ∈ L2, cA L H.size a) → W p l e Rm s m args below meth c H1 locs1 (cells + mc) (slots + ms) Z (F0 m (pc + 3) ls (.int r :: rest))) : W p l e Rm s m args below meth c H locs cells slots Z (F0 m pc ls st) := by
  subst hst
  obtain ⟨k0, h0⟩ := cW_get hb hrec
  refine va_calli (va_runV (As := as) (rest := rest) X (hM H.size) cw ⟨fun a U g mk z => by obtain ⟨z0, z1, z2, z3, z4, z5⟩ := z; exact ⟨z0, z1, va_K.moved (u := U) (U := U.calling g mk a) (Vm.Alike.refl U.vm) z2, z3, z4, fun C hC => (z5 C hC).warm (U := U.calling g mk a) (State.WarmedH.refl U)⟩, va_recv hW.1 hW.2.1 (ci := ci) (q0 := k0) hq h0, fun U hU hWm => ⟨rfl, by rw [hU], va_K.moved hWm.alike hW.1, by rw [hU]; exact hW.2.1, hW.2.2.1, fun C hC => (hAO C hC).warm hWm⟩⟩ rfl hn hs rfl (lv_room hroom) hdg hcs) hW.2.2.2.2 (fun a _ h => cA_up hW a h) (cA_up hW) (fun r u t H1 locs1 ht hvm hw hB hz1 hk1 hS => ?_)
  subst hw
  obtain ⟨L2, K2, R2, I2, A2, Q2, N2, g1, g2, g3, g4, g5⟩ := hB
  exact kk L2 K2 R2 I2 A2 Q2 N2 H1 locs1 ⟨va_K.moved hvm.symm g1, by rw [← ht]; exact g2, g3, fun a ha => cA_up hW a (g4 a ha), hS⟩ g5 hz1 (fun q h1 h2 => hk1 q h1 (fun z => z.elim (fun z => h2 z) (fun z => absurd h1 (Nat.not_lt.mpr z)))) g4
theorem wst {f : Nat → Int64} {v : Int64} (X : CallFix p m c cc nL s args Ts own) (hW : cH G kT (o :: L0) L K R I A Q N s H locs) (hO : va_P G vwCl [(o, .inl (kT 9, 1, .inr (.inl f)))] H) (ho : o ∉ L) (hdg : decode cc pc = .ok (.lastore, 1))
    (kk : ∀ (H1 : Heap) (locs1 : List Loc), cH G kT (o :: L0) L K R I A Q N s H1 locs1 → va_P G vwCl [(o, .inl (kT 9, 1, .inr (.inl (vp_updL f 0 v))))] H1 → W p l e Rm s m args below meth c H1 locs1 cells slots Z (F0 m (pc + 1) ls rest)) : W p l e Rm s m args below meth c H locs cells slots Z (F0 m pc ls (.long v :: .int (nI 0) :: .ref o :: rest)) := by
  have e9 : [(o, (.inl (kT 9, 1, .inr (.inl f)) : va_E))] ++ cW kT L K R I A Q N = va_pl (o :: L) (va_up (pC kT K R I A Q N) o (.inl (kT 9, 1, .inr (.inl f)))) := by
    show _ = (o, va_up (pC kT K R I A Q N) o (.inl (kT 9, 1, .inr (.inl f))) o) :: va_pl L (va_up (pC kT K R I A Q N) o (.inl (kT 9, 1, .inr (.inl f))))
    rw [va_up_self]
    show (o, (.inl (kT 9, 1, .inr (.inl f)) : va_E)) :: va_pl L (pC kT K R I A Q N) = _
    congr 1
    unfold va_pl
    exact List.map_congr_left (fun a ha => by have hne : a ≠ o := fun z => ho (z ▸ ha); rw [va_up_ne _ _ hne])
  have hD : va_D (cA (o :: L0) s.heap.size) ([(o, (.inl (kT 9, 1, .inr (.inl f)) : va_E))] ++ cW kT L K R I A Q N) := by
    rw [e9]
    exact cW_D (kT := kT) (List.nodup_cons.mpr ⟨ho, hW.2.2.1⟩) (fun a ha => (List.mem_cons.mp ha).elim (fun z => Or.inl (z ▸ List.mem_cons_self)) (fun z => hW.2.2.2.1 a z))
  refine va_last X.1 X.2.1 hW.1 (hO.app hW.2.1) hD hW.2.2.2.2 0 9 rfl rfl (fun z => by rcases z with z | z; exact nI_pos (by decide) z; rw [nI_clamp (by decide)] at z; omega) hdg (fun H1 locs1 hP hD hS => ?_)
  rw [nI_clamp (by decide)] at hP
  exact kk H1 locs1 ⟨hW.1, fun k x hx => hP (k + 1) x hx, hW.2.2.1, hW.2.2.2.1, hS⟩ (fun k x hx => by
    have hz : k < 1 := (List.getElem?_eq_some_iff.mp hx).1
    obtain rfl : k = 0 := by omega
    exact hP 0 x hx)
theorem wsd {f : Nat → UInt64} {v : UInt64} (X : CallFix p m c cc nL s args Ts own) (hW : cH G kT (o :: L0) L K R I A Q N s H locs) (hO : va_P G vwCl [(o, .inl (kT 10, 1, .inr (.inr (.inr (.inl f)))))] H) (ho : o ∉ L) (hdg : decode cc pc = .ok (.dastore, 1))
    (kk : ∀ (H1 : Heap) (locs1 : List Loc), cH G kT (o :: L0) L K R I A Q N s H1 locs1 → va_P G vwCl [(o, .inl (kT 10, 1, .inr (.inr (.inr (.inl (vf_upd f 0 v))))))] H1 → W p l e Rm s m args below meth c H1 locs1 cells slots Z (F0 m (pc + 1) ls rest)) : W p l e Rm s m args below meth c H locs cells slots Z (F0 m pc ls (.double v :: .int (nI 0) :: .ref o :: rest)) := by
  have e9 : [(o, (.inl (kT 10, 1, .inr (.inr (.inr (.inl f)))) : va_E))] ++ cW kT L K R I A Q N = va_pl (o :: L) (va_up (pC kT K R I A Q N) o (.inl (kT 10, 1, .inr (.inr (.inr (.inl f)))))) := by
    show _ = (o, va_up (pC kT K R I A Q N) o (.inl (kT 10, 1, .inr (.inr (.inr (.inl f))))) o) :: va_pl L (va_up (pC kT K R I A Q N) o (.inl (kT 10, 1, .inr (.inr (.inr (.inl f))))))
    rw [va_up_self]
    show (o, (.inl (kT 10, 1, .inr (.inr (.inr (.inl f)))) : va_E)) :: va_pl L (pC kT K R I A Q N) = _
    congr 1
    unfold va_pl
    exact List.map_congr_left (fun a ha => by have hne : a ≠ o := fun z => ho (z ▸ ha); rw [va_up_ne _ _ hne])
  have hD : va_D (cA (o :: L0) s.heap.size) ([(o, (.inl (kT 10, 1, .inr (.inr (.inr (.inl f)))) : va_E))] ++ cW kT L K R I A Q N) := by
    rw [e9]
    exact cW_D (kT := kT) (List.nodup_cons.mpr ⟨ho, hW.2.2.1⟩) (fun a ha => (List.mem_cons.mp ha).elim (fun z => Or.inl (z ▸ List.mem_cons_self)) (fun z => hW.2.2.2.1 a z))
  refine va_dast X.1 X.2.1 hW.1 (hO.app hW.2.1) hD hW.2.2.2.2 0 10 rfl rfl (fun z => by rcases z with z | z; exact nI_pos (by decide) z; rw [nI_clamp (by decide)] at z; omega) hdg (fun H1 locs1 hP hD hS => ?_)
  rw [nI_clamp (by decide)] at hP
  exact kk H1 locs1 ⟨hW.1, fun k x hx => hP (k + 1) x hx, hW.2.2.1, hW.2.2.2.1, hS⟩ (fun k x hx => by
    have hz : k < 1 := (List.getElem?_eq_some_iff.mp hx).1
    obtain rfl : k = 0 := by omega
    exact hP 0 x hx)
theorem wstart {hh : List (Nat × Nat × Nat × Nat)} {T : mT} {D : mD} {code : Nat} {T2 : mT} {D2 : mD} {P0 P : va_E → Prop} (hy : plainName y.cls = true) (hw : ws = Cond.codeWith y cc maxL (some .int) hh :: ws2) (hlen : (lg_sl as).length ≤ maxL)
    (body : ∀ (ad : pD) (L : List Nat) (K : pN) (R : pR) (I : pI) (A : mD) (Q : pR) (N : pN) (e0 : va_E), Rep T D ad L K R I A Q N → ad 0 0 = h0 → o ∉ L → P0 e0 → ∀ (p : Program) (e : Env) (s : State) (m : MethodId) (args : Array Value) (below : List Frame) (meth : Method) (c : Code) (Z : State → Prop),
      (∀ (H : Heap) (locs : List Loc) (pc : Nat) (ls : Array Slot) (cells slots : Nat) (v : Int32) (ad2 : pD) (L2 : List Nat) (K2 : pN) (R2 : pR) (I2 : pI) (A2 : mD) (Q2 : pR) (N2 : pN) (e2 : va_E), v = nI code → cells ≤ 2 → slots ≤ 260 → cH G kT (o :: L) L2 K2 R2 I2 A2 Q2 N2 s H locs → o ∉ L2 → va_P G vwCl [(o, e2)] H → P e2 → Rep T2 D2 ad2 L2 K2 R2 I2 A2 Q2 N2 → ad2 0 0 = h0 → decode cc pc = .ok (.ireturn, 1) → W p l e rm s m args below meth c H locs cells slots Z (F0 m pc ls [.int v])) →
      CallFix p m c cc maxL s args ws y.cls → c.exceptionTable.toList = tableOf hh → cE (cA (o :: L) s.heap.size) s s.heap → cH G kT (o :: L) L K R I A Q N s s.heap [] → va_P G vwCl [(o, e0)] s.heap → ∀ ls : Array Slot, lv_has ls maxL (lv_args 0 as) → W p l e rm s m args below meth c s.heap [] 0 0 Z (F0 m 0 ls [])) : wM l y ws rm G kT h0 o as T D code T2 D2 P0 P := by
  intro ad L K R I A Q N e0 HB h0 ho hP0 sz
  refine va_MetW (cc := cc) (maxL := maxL) (ret := some .int) hy hw ?_
  intro p e s m args below meth c s₁ B hml hv
  obtain ⟨rfl, hsz, hK, hP, hnd, hO, hE⟩ := hv
  subst hsz
  have hl := lv_entry as (n := maxL) hlen
  rw [lg_entry_eq]
  have hts := atoms_spec (ws := ws) B.pre
  have X : CallFix p m c cc maxL s _ ws y.cls := ⟨B.exec, B.bytes, hml, findClass_of_methodNamed B.named, hts⟩
  have hT : c.exceptionTable.toList = tableOf hh := vx_table (x := y) B (hts (Cond.codeWith y cc maxL (some .int) hh) (by rw [hw]; exact List.mem_cons_self))
  refine body ad L K R I A Q N e0 HB h0 ho hP0 p e s m _ below meth c _ (fun H locs pc ls cells slots v ad2 L2 K2 R2 I2 A2 Q2 N2 e2 hv hc hs hW ho2 hO2 hP2 HB2 h02 hdg => ?_) X hT hE ⟨hK, hP, hnd, fun a h => Or.inl (List.mem_cons_of_mem _ h), va_S.rf⟩ hO _ hl
  exact W.widen hc hs (W.zret (v := v) X.1 X.2.1 B.returns rfl (fun t ht hWm => ⟨⟨v, (), rfl, hv, ad2, L2, K2, R2, I2, A2, Q2, N2, e2, va_K.moved hWm.alike hW.1, by rw [ht]; exact hW.2.1, hW.2.2.1, hW.2.2.2.1, ho2, by rw [ht]; exact hO2, hP2, HB2, h02⟩, hW.2.2.2.2.F ht⟩) hW.2.2.2.2.2.2 hdg B.notSynchronized)
end WR
