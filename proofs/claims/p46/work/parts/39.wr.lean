theorem oK {G : va_G} {o : Nat} {e : va_E} {L : List Nat} {H H1 : Heap} (h : va_P G vwCl [(o, e)] H) (ho : o ∉ L) (hk : ∀ q : Nat, q < H.size → q ∉ L → H1[q]? = H[q]?) : va_P G vwCl [(o, e)] H1 :=
  h.kept (fun k x hx => by
    have hl := (h k x hx).lt
    have hz : k < 1 := (List.getElem?_eq_some_iff.mp hx).1
    obtain rfl : k = 0 := by omega
    cases hx
    exact hk o hl ho)
theorem oNew {G : va_G} {o : Nat} {e : va_E} {L L2 : List Nat} {H : Heap} (h : va_P G vwCl [(o, e)] H) (ho : o ∉ L) (h2 : ∀ a ∈ L2, cA L H.size a) : o ∉ L2 := fun z => by
  have hl := (h 0 (o, e) rfl).lt
  rcases h2 o z with y | y
  · exact ho y
  · exact absurd hl (Nat.not_lt.mpr y)
section WR
variable {p : Program} {l : Launch} {e : Env} {Rm : Room} {s : State} {m : MethodId} {args : Array Value} {below : List Frame} {meth : Method} {c : Code} {H : Heap} {locs : List Loc} {cells slots : Nat} {Z : State → Prop} {cc : ByteArray} {pc nL : Nat} {ls : Array Slot} {rest : List Value} {Ts : List Cond} {own : String}
variable {G : va_G} {kT : Nat → ClassId} {L0 L : List Nat} {K : Nat → Nat} {R : pR} {I : pI} {A : mD} {Q : pR} {N : Nat → Nat}
variable {R2 : pR} {I2 : pI} {A2 : mD} {Q2 : pR} {o h0 : Nat}
variable {y : MethodName} {ws ws2 : List Cond} {rm : Room} {as : List Value} {maxL index n mc ms : Nat} {ret : Option FieldType} {bytes : ByteArray} {cs : List cAx} {Φ : pΦ}
theorem cFi {r : Int32} {b ci : Nat} {q9 : vw_C} {fs : List Value} (X : CallFix p m c cc nL s args Ts own) (hW : cH G kT L0 L K R I A Q N s H locs) (hb : b ∈ L) (hrec : pC kT K R I A Q N b = .inr (ci, fs)) (hq : vwCl[ci]? = some q9) (hM : cMi l y ws rm G kT (.ref b :: as) L K R I A Q N r R2 I2 A2 Q2) (cw : CallW Rm s args own q9.1 index y bytes maxL ret ws rm 0 0 n) {st : List Value} (hst : st = as.reverse ++ .ref b :: rest) (hn : as.length = n) (hs : ls.size = nL) (hroom : (rest.map fun v => v.category).sum ≤ 8) (hdg : decode cc pc = .ok (.invokevirtual index, 3)) (hcs : cells ≤ Rm.cells ∧ slots ≤ Rm.slots)
    (kk : ∀ (H1 : Heap) (locs1 : List Loc), cH G kT L0 L K R2 I2 A2 Q2 N s H1 locs1 → H.size ≤ H1.size → (∀ q : Nat, q < H.size → q ∉ L → H1[q]? = H[q]?) → W p l e Rm s m args below meth c H1 locs1 cells slots Z (F0 m (pc + 3) ls (.int r :: rest))) : W p l e Rm s m args below meth c H locs cells slots Z (F0 m pc ls st) := by
  subst hst
  obtain ⟨k0, h0⟩ := cW_get hb hrec
  refine va_calli (va_runV (As := as) (rest := rest) X (hM H.size) cw ⟨fun a U g mk z => by obtain ⟨z0, z1, z2, z3, z4⟩ := z; exact ⟨z0, z1, va_K.moved (u := U) (U := U.calling g mk a) (Vm.Alike.refl U.vm) z2, z3, z4⟩, va_recv hW.1 hW.2.1 (ci := ci) (q0 := k0) hq h0, fun U hU hWm => ⟨rfl, by rw [hU], va_K.moved hWm.alike hW.1, by rw [hU]; exact hW.2.1, hW.2.2.1⟩⟩ rfl hn hs rfl (lv_room hroom) hdg hcs) hW.2.2.2.2 (fun a _ h => cA_up hW a h) (cA_up hW) (fun r u t H1 locs1 ht hvm hw hB hz1 hk1 hS => ?_)
  subst hw
  exact kk H1 locs1 (hW.back ht hvm hB hS) hz1 (fun q h1 h2 => hk1 q h1 (fun z => z.elim (fun z => h2 z) (fun z => absurd h1 (Nat.not_lt.mpr z))))
theorem cFl {r : Int64} {b ci : Nat} {q9 : vw_C} {fs : List Value} (X : CallFix p m c cc nL s args Ts own) (hW : cH G kT L0 L K R I A Q N s H locs) (hb : b ∈ L) (hrec : pC kT K R I A Q N b = .inr (ci, fs)) (hq : vwCl[ci]? = some q9) (hM : cMl l y ws rm G kT (.ref b :: as) L K R I A Q N r R2 I2 A2 Q2) (cw : CallW Rm s args own q9.1 index y bytes maxL ret ws rm 0 0 n) {st : List Value} (hst : st = as.reverse ++ .ref b :: rest) (hn : as.length = n) (hs : ls.size = nL) (hroom : (rest.map fun v => v.category).sum ≤ 8) (hdg : decode cc pc = .ok (.invokevirtual index, 3)) (hcs : cells ≤ Rm.cells ∧ slots ≤ Rm.slots)
    (kk : ∀ (H1 : Heap) (locs1 : List Loc), cH G kT L0 L K R2 I2 A2 Q2 N s H1 locs1 → H.size ≤ H1.size → (∀ q : Nat, q < H.size → q ∉ L → H1[q]? = H[q]?) → W p l e Rm s m args below meth c H1 locs1 cells slots Z (F0 m (pc + 3) ls (.long r :: rest))) : W p l e Rm s m args below meth c H locs cells slots Z (F0 m pc ls st) := by
  subst hst
  obtain ⟨k0, h0⟩ := cW_get hb hrec
  refine va_calll (va_runV (As := as) (rest := rest) X (hM H.size) cw ⟨fun a U g mk z => by obtain ⟨z0, z1, z2, z3, z4⟩ := z; exact ⟨z0, z1, va_K.moved (u := U) (U := U.calling g mk a) (Vm.Alike.refl U.vm) z2, z3, z4⟩, va_recv hW.1 hW.2.1 (ci := ci) (q0 := k0) hq h0, fun U hU hWm => ⟨rfl, by rw [hU], va_K.moved hWm.alike hW.1, by rw [hU]; exact hW.2.1, hW.2.2.1⟩⟩ rfl hn hs rfl (lv_room hroom) hdg hcs) hW.2.2.2.2 (fun a _ h => cA_up hW a h) (cA_up hW) (fun r u t H1 locs1 ht hvm hw hB hz1 hk1 hS => ?_)
  subst hw
  exact kk H1 locs1 (hW.back ht hvm hB hS) hz1 (fun q h1 h2 => hk1 q h1 (fun z => z.elim (fun z => h2 z) (fun z => absurd h1 (Nat.not_lt.mpr z))))
theorem cFN {r : Int32} {b ci : Nat} {q9 : vw_C} {fs : List Value} (X : CallFix p m c cc nL s args Ts own) (hW : cH G kT L0 L K R I A Q N s H locs) (hb : b ∈ L) (hrec : pC kT K R I A Q N b = .inr (ci, fs)) (hq : vwCl[ci]? = some q9) (hAO : ∀ C ∈ cs, cAe C s) (hM : cNi l y ws rm G kT (.ref b :: as) L K R I A Q N mc ms cs r Φ) (cw : CallW Rm s args own q9.1 index y bytes maxL ret ws rm mc ms n) {st : List Value} (hst : st = as.reverse ++ .ref b :: rest) (hn : as.length = n) (hs : ls.size = nL) (hroom : (rest.map fun v => v.category).sum ≤ 8) (hdg : decode cc pc = .ok (.invokevirtual index, 3)) (hcs : cells + mc ≤ Rm.cells ∧ slots + ms ≤ Rm.slots)
    (kk : ∀ (L2 : List Nat) (K2 : pN) (R2 : pR) (I2 : pI) (A2 : mD) (Q2 : pR) (N2 : pN) (H1 : Heap) (locs1 : List Loc), cH G kT L0 L2 K2 R2 I2 A2 Q2 N2 s H1 locs1 → Φ L2 K2 R2 I2 A2 Q2 N2 → H.size ≤ H1.size → (∀ q : Nat, q < H.size → q ∉ L → H1[q]? = H[q]?) → (∀ a ∈ L2, cA L H.size a) → W p l e Rm s m args below meth c H1 locs1 (cells + mc) (slots + ms) Z (F0 m (pc + 3) ls (.int r :: rest))) : W p l e Rm s m args below meth c H locs cells slots Z (F0 m pc ls st) := by
  subst hst
  obtain ⟨k0, h0⟩ := cW_get hb hrec
  refine va_calli (va_runV (As := as) (rest := rest) X (hM H.size) cw ⟨fun a U g mk z => by obtain ⟨z0, z1, z2, z3, z4, z5⟩ := z; exact ⟨z0, z1, va_K.moved (u := U) (U := U.calling g mk a) (Vm.Alike.refl U.vm) z2, z3, z4, fun C hC => (z5 C hC).warm (U := U.calling g mk a) (State.WarmedH.refl U)⟩, va_recv hW.1 hW.2.1 (ci := ci) (q0 := k0) hq h0, fun U hU hWm => ⟨rfl, by rw [hU], va_K.moved hWm.alike hW.1, by rw [hU]; exact hW.2.1, hW.2.2.1, fun C hC => (hAO C hC).warm hWm⟩⟩ rfl hn hs rfl (lv_room hroom) hdg hcs) hW.2.2.2.2 (fun a _ h => cA_up hW a h) (cA_up hW) (fun r u t H1 locs1 ht hvm hw hB hz1 hk1 hS => ?_)
  subst hw
  obtain ⟨L2, K2, R2, I2, A2, Q2, N2, g1, g2, g3, g4, g5⟩ := hB
  exact kk L2 K2 R2 I2 A2 Q2 N2 H1 locs1 ⟨va_K.moved hvm.symm g1, by rw [← ht]; exact g2, g3, fun a ha => cA_up hW a (g4 a ha), hS⟩ g5 hz1 (fun q h1 h2 => hk1 q h1 (fun z => z.elim (fun z => h2 z) (fun z => absurd h1 (Nat.not_lt.mpr z)))) g4
end WR
