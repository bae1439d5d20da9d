/-! the law: its world: the book's pool at T D, the arrays signs and written, the script -/
def lx_A (s : State) : Nat → Prop := fun a => s.heap.size ≤ a
def px_W (G : va_G) (kT : Nat → ClassId) (a0 o1 o2 : Nat) (T : mT) (D : mD) (f g : Nat → Int32) (s : State) (H : Heap) (locs : List Loc) : Prop :=
  ∃ (ad : pD) (L : List Nat) (K : pN) (R : pR) (I : pI) (A : mD) (Q : pR) (N : pN), va_P G vwCl (cW kT L K R I A Q N) H ∧ L.Nodup ∧ (∀ a ∈ L, lx_A s a ∧ a ≠ o1 ∧ a ≠ o2) ∧ Rep T D ad L K R I A Q N ∧ ad 0 0 = a0 ∧ va_P G vwCl [(o1, .inl (kT 2, 40, .inl f))] H ∧ va_P G vwCl [(o2, .inl (kT 2, 256, .inl g))] H ∧ va_S (lx_A s) s.heap H locs
def px_C (l : Launch) (p : Program) (s : State) (m : MethodId) (args : Array Value) (c : Code) (G : va_G) (kT : Nat → ClassId) (o1 o2 b n : Nat) (xs : Nat → Int32) : Prop :=
  CallFix p m c cL_law 16 s args wsL_law RL ∧ va_K G vwCl (ctys kT) s ∧ cE (lx_A s) s s.heap ∧ va_X b n xs s s.heap ∧ b < s.heap.size ∧ lx_A s o1 ∧ lx_A s o2 ∧ o1 ≠ o2 ∧ l.stackTraces = false ∧ n < 2 ^ 31
abbrev px_l (b a0 o1 o2 n en pl mk k : Nat) : List (Nat × Value) := [(0, .ref b), (1, .ref a0), (2, .ref o1), (3, .ref o2), (4, .int (nI n)), (6, .int (nI en)), (7, .int (nI pl)), (8, .int (nI mk)), (9, .int (nI k))]
theorem cW_mem {kT : Nat → ClassId} {L : List Nat} {K : pN} {R : pR} {I : pI} {A : mD} {Q : pR} {N : pN} {k : Nat} {x : Nat × va_E} (hx : (cW kT L K R I A Q N)[k]? = some x) : x.1 ∈ L := by
  simp only [cW, va_pl, List.getElem?_map] at hx
  cases h : L[k]? with
  | none => rw [h] at hx; cases hx
  | some b => rw [h] at hx; cases hx; exact List.mem_of_getElem? h
theorem lx_cmp0 (x : Int64) : lg_cmp x x = 0 := (lg_cmp_eq x x).mpr rfl
theorem px_W.IJ {G : va_G} {kT : Nat → ClassId} {a0 o1 o2 : Nat} {T : mT} {D : mD} {f g : Nat → Int32} {s : State} {H : Heap} {locs : List Loc} (h : px_W G kT a0 o1 o2 T D f g s H locs) : mI T ∧ mJD D := by
  obtain ⟨ad, L, K, R, I, A, Q, N, g1, g2, g3, g4, -⟩ := h
  exact ⟨g4.mi, g4.md⟩
theorem px_W.S {G : va_G} {kT : Nat → ClassId} {a0 o1 o2 : Nat} {T : mT} {D : mD} {f g : Nat → Int32} {s : State} {H : Heap} {locs : List Loc} (h : px_W G kT a0 o1 o2 T D f g s H locs) : va_S (lx_A s) s.heap H locs := by
  obtain ⟨ad, L, K, R, I, A, Q, N, g1, g2, g3, g4, g5, g6, g7, g8⟩ := h
  exact g8
theorem px_W.kept {G : va_G} {kT : Nat → ClassId} {a0 o1 o2 : Nat} {T : mT} {D : mD} {f g : Nat → Int32} {s : State} {H H1 : Heap} {locs locs1 : List Loc} (h : px_W G kT a0 o1 o2 T D f g s H locs) (hk : ∀ q : Nat, q < H.size → H1[q]? = H[q]?) (hS : va_S (lx_A s) s.heap H1 locs1) : px_W G kT a0 o1 o2 T D f g s H1 locs1 := by
  obtain ⟨ad, L, K, R, I, A, Q, N, g1, g2, g3, g4, g5, g6, g7, g8⟩ := h
  exact ⟨ad, L, K, R, I, A, Q, N, g1.kept (fun k x hx => hk _ ((g1 k x hx).lt)), g2, g3, g4, g5, g6.kept (fun k x hx => hk _ ((g6 k x hx).lt)), g7.kept (fun k x hx => hk _ ((g7 k x hx).lt)), hS⟩
section PX
variable {p : Program} {l : Launch} {e : Env} {Rm : Room} {s : State} {m : MethodId} {args : Array Value} {below : List Frame} {meth : Method} {c : Code} {H : Heap} {locs : List Loc} {cells slots : Nat} {Z : State → Prop} {pc : Nat} {ls : Array Slot} {rest : List Value}
variable {G : va_G} {kT : Nat → ClassId} {a0 o1 o2 b n : Nat} {xs : Nat → Int32} {T : mT} {D : mD} {f g : Nat → Int32}
variable {y : MethodName} {ws ws2 : List Cond} {rm : Room} {as : List Value} {maxL index n9 : Nat} {ret : Option FieldType} {bytes : ByteArray} {hh : List (Nat × Nat × Nat × Nat)}
theorem px_call (C : px_C l p s m args c G kT o1 o2 b n xs) (hW : px_W G kT a0 o1 o2 T D f g s H locs) {v9 : Int64} {T2 : mT} {D2 : mD} (hM : wL l y ws rm G kT a0 as T D v9 T2 D2) (cw : vx_CSW Rm s args RL index y bytes maxL ret hh ws rm 2 260 n9) {st : List Value} (hst : st = as.reverse ++ rest) (hn : as.length = n9) (hs : ls.size = 16) (hroom : (rest.map fun v => v.category).sum ≤ 8) (hdg : decode cL_law pc = .ok (.invokestatic index, 3)) (hcs : cells + 2 ≤ Rm.cells ∧ slots + 260 ≤ Rm.slots)
    (kk : ∀ (H1 : Heap) (locs1 : List Loc), px_W G kT a0 o1 o2 T2 D2 f g s H1 locs1 → W p l e Rm s m args below meth c H1 locs1 (cells + 2) (slots + 260) Z (F0 m (pc + 3) ls (.long v9 :: rest))) : W p l e Rm s m args below meth c H locs cells slots Z (F0 m pc ls st) := by
  subst hst
  obtain ⟨ad, L, K, R, I, A, Q, N, hP, hnd, hL, HB, h0, hO1, hO2, hS⟩ := hW
  obtain ⟨X, hK, hE, hX, hb, ho1, ho2, ho, hst9, -⟩ := C
  have hsz := hS.1
  have hfr : ∀ a : Nat, cA L H.size a → lx_A s a := fun a h => h.elim (fun z => (hL a z).1) (fun h => Nat.le_trans hsz h)
  have hE1 : ∀ U : State, U.heap = H → s.WarmedH U.vm → cE (cA L H.size) U U.heap := fun U hU hWm => by rw [hU]; exact ((hE.kept hS.2.1).narrow hfr).warm hWm
  refine va_calll (vx_runSW (g := F0 m pc ls _) (As := as) (rest := rest) X (hM ad L K R I A Q N HB h0 H.size) cw ⟨fun a U g mk z => by obtain ⟨z0, z1, z2, z3, z4, z5⟩ := z; exact ⟨z0, z1, va_K.moved (u := U) (U := U.calling g mk a) (Vm.Alike.refl U.vm) z2, z3, z4, z5.calling⟩, fun U hU hWm => ⟨rfl, by rw [hU], va_K.moved hWm.alike hK, by rw [hU]; exact hP, hnd, hE1 U hU hWm⟩⟩ rfl hn hs rfl (lv_room hroom) hdg hcs) hS (fun a _ h => hfr a h) hfr (fun r u t H1 locs1 ht hvm hw hB hz1 hk1 hS1 => ?_)
  subst hw
  obtain ⟨ad2, L2, K2, R2, I2, A2, Q2, N2, g1, g2, g3, g4, g5, g6⟩ := hB
  rw [ht] at g2
  refine kk H1 locs1 ⟨ad2, L2, K2, R2, I2, A2, Q2, N2, g2, g3, fun a ha => ?_, g5, g6, ?_, ?_, hS1⟩
  · rcases g4 a ha with h | h
    · exact hL a h
    · exact ⟨Nat.le_trans hsz h, fun z => absurd ((hO1 0 _ rfl).lt) (Nat.not_lt.mpr (by rw [← z]; exact h)), fun z => absurd ((hO2 0 _ rfl).lt) (Nat.not_lt.mpr (by rw [← z]; exact h))⟩
  · exact oK (L := L) hO1 (fun z => (hL o1 z).2.1 rfl) (fun r h1 h2 => hk1 r h1 (fun z => z.elim h2 (fun z => absurd h1 (Nat.not_lt.mpr z))))
  · exact oK (L := L) hO2 (fun z => (hL o2 z).2.2 rfl) (fun r h1 h2 => hk1 r h1 (fun z => z.elim h2 (fun z => absurd h1 (Nat.not_lt.mpr z))))
/-- .. of one without a table -/
theorem px_call0 (C : px_C l p s m args c G kT o1 o2 b n xs) (hW : px_W G kT a0 o1 o2 T D f g s H locs) {v9 : Int64} {T2 : mT} {D2 : mD} (hM : wL l y ws rm G kT a0 as T D v9 T2 D2) (cw : CallB Rm s args RL index y bytes maxL ret ws rm 2 260 n9 ∧ (Cond.static y).before args s = true) {st : List Value} (hst : st = as.reverse ++ rest) (hn : as.length = n9) (hs : ls.size = 16) (hroom : (rest.map fun v => v.category).sum ≤ 8) (hdg : decode cL_law pc = .ok (.invokestatic index, 3)) (hcs : cells + 2 ≤ Rm.cells ∧ slots + 260 ≤ Rm.slots)
    (kk : ∀ (H1 : Heap) (locs1 : List Loc), px_W G kT a0 o1 o2 T2 D2 f g s H1 locs1 → W p l e Rm s m args below meth c H1 locs1 (cells + 2) (slots + 260) Z (F0 m (pc + 3) ls (.long v9 :: rest))) : W p l e Rm s m args below meth c H locs cells slots Z (F0 m pc ls st) := by
  subst hst
  obtain ⟨ad, L, K, R, I, A, Q, N, hP, hnd, hL, HB, h0, hO1, hO2, hS⟩ := hW
  obtain ⟨X, hK, hE, hX, hb, ho1, ho2, ho, hst9, -⟩ := C
  have hsz := hS.1
  have hfr : ∀ a : Nat, cA L H.size a → lx_A s a := fun a h => h.elim (fun z => (hL a z).1) (fun h => Nat.le_trans hsz h)
  have hE1 : ∀ U : State, U.heap = H → s.WarmedH U.vm → cE (cA L H.size) U U.heap := fun U hU hWm => by rw [hU]; exact ((hE.kept hS.2.1).narrow hfr).warm hWm
  refine va_calll (va_runS (g := F0 m pc ls _) (As := as) (rest := rest) X (hM ad L K R I A Q N HB h0 H.size) cw ⟨fun a U g mk z => by obtain ⟨z0, z1, z2, z3, z4, z5⟩ := z; exact ⟨z0, z1, va_K.moved (u := U) (U := U.calling g mk a) (Vm.Alike.refl U.vm) z2, z3, z4, z5.calling⟩, fun U hU hWm => ⟨rfl, by rw [hU], va_K.moved hWm.alike hK, by rw [hU]; exact hP, hnd, hE1 U hU hWm⟩⟩ rfl hn hs rfl (lv_room hroom) hdg hcs) hS (fun a _ h => hfr a h) hfr (fun r u t H1 locs1 ht hvm hw hB hz1 hk1 hS1 => ?_)
  subst hw
  obtain ⟨ad2, L2, K2, R2, I2, A2, Q2, N2, g1, g2, g3, g4, g5, g6⟩ := hB
  rw [ht] at g2
  refine kk H1 locs1 ⟨ad2, L2, K2, R2, I2, A2, Q2, N2, g2, g3, fun a ha => ?_, g5, g6, ?_, ?_, hS1⟩
  · rcases g4 a ha with h | h
    · exact hL a h
    · exact ⟨Nat.le_trans hsz h, fun z => absurd ((hO1 0 _ rfl).lt) (Nat.not_lt.mpr (by rw [← z]; exact h)), fun z => absurd ((hO2 0 _ rfl).lt) (Nat.not_lt.mpr (by rw [← z]; exact h))⟩
  · exact oK (L := L) hO1 (fun z => (hL o1 z).2.1 rfl) (fun r h1 h2 => hk1 r h1 (fun z => z.elim h2 (fun z => absurd h1 (Nat.not_lt.mpr z))))
  · exact oK (L := L) hO2 (fun z => (hL o2 z).2.2 rfl) (fun r h1 h2 => hk1 r h1 (fun z => z.elim h2 (fun z => absurd h1 (Nat.not_lt.mpr z))))
/-- chosen, anywhere in the law -/
theorem px_chosen (X : CallFix p m c cL_law 16 s args wsL_law RL) (hS : va_S (lx_A s) s.heap H locs) {x : Int32} {d : Nat} (h0 : 0 < d) (hd : d < 2 ^ 31) (cw : CallB Rm s args RL index yL_chosen bytes maxL ret wsL_chosen ({ frames := 0, cells := 0, slots := 0, locals := 0 } : Room) 0 0 2 ∧ (Cond.static yL_chosen).before args s = true) (hs : ls.size = 16) (hroom : (rest.map fun v => v.category).sum ≤ 8) (hdg : decode cL_law pc = .ok (.invokestatic index, 3)) (hcs : cells ≤ Rm.cells ∧ slots ≤ Rm.slots)
    (kk : ∀ (j : Nat) (H1 : Heap) (locs1 : List Loc), j < d → H.size ≤ H1.size → (∀ q : Nat, q < H.size → H1[q]? = H[q]?) → va_S (lx_A s) s.heap H1 locs1 → W p l e Rm s m args below meth c H1 locs1 cells slots Z (F0 m (pc + 3) ls (.int (nI j) :: rest))) : W p l e Rm s m args below meth c H locs cells slots Z (F0 m pc ls (.int (nI d) :: .int x :: rest)) := by
  have hsz := hS.1
  refine va_calli (va_runS (g := F0 m pc ls _) (As := [.int x, .int (nI d)]) (rest := rest) X (w_chosen l h0 hd H.size) cw ⟨fun a U g mk z => by obtain ⟨z0, z1, z2⟩ := z; exact ⟨z0, z1, trivial⟩, fun U hU hWm => ⟨rfl, by rw [hU], trivial⟩⟩ rfl rfl hs rfl (lv_room hroom) hdg hcs) hS (fun a _ h => Nat.le_trans hsz h) (fun a h => Nat.le_trans hsz h) (fun r u t H1 locs1 ht hvm hw hB hz1 hk1 hS1 => ?_)
  obtain ⟨j, hj, rfl⟩ := hw
  exact kk j H1 locs1 hj hz1 (fun q hq => hk1 q hq (Nat.not_le.mpr hq)) hS1
theorem px_cell (X : CallFix p m c cL_law 16 s args wsL_law RL) (hX : va_X b n xs s s.heap) (hb : b < s.heap.size) (hn : n < 2 ^ 31) (hS : va_S (lx_A s) s.heap H locs) {k : Nat} (hk : k < 2 ^ 30) (cw : CallB Rm s args RL index yL_cell bytes maxL ret wsL_cell ({ frames := 0, cells := 0, slots := 0, locals := 0 } : Room) 0 0 2 ∧ (Cond.static yL_cell).before args s = true) (hs : ls.size = 16) (hroom : (rest.map fun v => v.category).sum ≤ 8) (hdg : decode cL_law pc = .ok (.invokestatic index, 3)) (hcs : cells ≤ Rm.cells ∧ slots ≤ Rm.slots)
    (kk : ∀ (x : Int32) (H1 : Heap) (locs1 : List Loc), H.size ≤ H1.size → (∀ q : Nat, q < H.size → H1[q]? = H[q]?) → va_S (lx_A s) s.heap H1 locs1 → W p l e Rm s m args below meth c H1 locs1 cells slots Z (F0 m (pc + 3) ls (.int x :: rest))) : W p l e Rm s m args below meth c H locs cells slots Z (F0 m pc ls (.int (nI k) :: .ref b :: rest)) := by
  have hsz := hS.1
  have hbe : H[b]? = s.heap[b]? := hS.2.1 b hb (Nat.not_le.mpr hb)
  refine va_calli (va_runS (g := F0 m pc ls _) (As := [.ref b, .int (nI k)]) (rest := rest) X (w_cell l (b := b) (n := n) (xs := xs) hk hn H.size) cw ⟨fun a U g mk z => by obtain ⟨z0, z1, z2, z3⟩ := z; exact ⟨z0, z1, va_X.moved (u := U) (U := U.calling g mk a) (Vm.Alike.refl U.vm) z2, z3⟩, fun U hU hWm => ⟨rfl, by rw [hU], by rw [hU]; exact va_X.moved hWm.alike (hX.kept hbe), by rw [hU]; exact Nat.lt_of_lt_of_le hb hsz⟩⟩ rfl rfl hs rfl (lv_room hroom) hdg hcs) hS (fun a _ h => Nat.le_trans hsz h) (fun a h => Nat.le_trans hsz h) (fun r u t H1 locs1 ht hvm hw hB hz1 hk1 hS1 => ?_)
  exact kk r H1 locs1 hz1 (fun q hq => hk1 q hq (Nat.not_le.mpr hq)) hS1
theorem px_ld1 (C : px_C l p s m args c G kT o1 o2 b n xs) (hW : px_W G kT a0 o1 o2 T D f g s H locs) {j : Nat} (hj : j < 40) (hdg : decode cL_law pc = .ok (.iaload, 1)) (kk : W p l e Rm s m args below meth c H locs cells slots Z (F0 m (pc + 1) ls (.int (f j) :: rest))) : W p l e Rm s m args below meth c H locs cells slots Z (F0 m pc ls (.int (nI j) :: .ref o1 :: rest)) := by
  obtain ⟨ad, L, K, R, I, A, Q, N, hP, hnd, hL, HB, h0, hO1, hO2, hS⟩ := hW
  have e9 : (nI j).toNatClampNeg = j := nI_clamp (by omega)
  refine va_iald C.1.1 C.1.2.1 C.2.1 hO1 0 2 rfl rfl (vp_in_nI hj (by decide)) hdg ?_
  rw [e9]; exact kk
theorem px_ld2 (C : px_C l p s m args c G kT o1 o2 b n xs) (hW : px_W G kT a0 o1 o2 T D f g s H locs) {j : Nat} (hj : j < 256) (hdg : decode cL_law pc = .ok (.iaload, 1)) (kk : W p l e Rm s m args below meth c H locs cells slots Z (F0 m (pc + 1) ls (.int (g j) :: rest))) : W p l e Rm s m args below meth c H locs cells slots Z (F0 m pc ls (.int (nI j) :: .ref o2 :: rest)) := by
  obtain ⟨ad, L, K, R, I, A, Q, N, hP, hnd, hL, HB, h0, hO1, hO2, hS⟩ := hW
  have e9 : (nI j).toNatClampNeg = j := nI_clamp (by omega)
  refine va_iald C.1.1 C.1.2.1 C.2.1 hO2 0 2 rfl rfl (vp_in_nI hj (by decide)) hdg ?_
  rw [e9]; exact kk
theorem px_D {L : List Nat} {K : pN} {R : pR} {I : pI} {A : mD} {Q : pR} {N : pN} {e1 e2 : va_E} (C : px_C l p s m args c G kT o1 o2 b n xs) (hnd : L.Nodup) (hL : ∀ a ∈ L, lx_A s a ∧ a ≠ o1 ∧ a ≠ o2) : va_D (lx_A s) ([(o1, e1), (o2, e2)] ++ cW kT L K R I A Q N) := by
  obtain ⟨X, hK, hE, hX, hb, ho1, ho2, ho, hst9, -⟩ := C
  have h2 : va_D (lx_A s) [(o1, e1), (o2, e2)] := by
    refine ⟨fun i j p q hi hj e => ?_, fun k q hk => ?_⟩
    · match i, j, hi, hj with
      | 0, 0, hi, hj => rfl
      | 1, 1, hi, hj => rfl
      | 0, 1, hi, hj => cases hi; cases hj; exact absurd e ho
      | 1, 0, hi, hj => cases hi; cases hj; exact absurd e.symm ho
      | i + 2, _, hi, hj => simp at hi
      | 0, j + 2, hi, hj => simp at hj
      | 1, j + 2, hi, hj => simp at hj
    · match k, hk with
      | 0, hk => cases hk; exact ho1
      | 1, hk => cases hk; exact ho2
      | k + 2, hk => simp at hk
  refine h2.app (cW_D (kT := kT) hnd (fun a ha => (hL a ha).1)) (fun i j p q hi hj e => ?_)
  have hq := cW_mem hj
  match i, hi with
  | 0, hi => cases hi; exact (hL _ hq).2.1 e.symm
  | 1, hi => cases hi; exact (hL _ hq).2.2 e.symm
  | i + 2, hi => simp at hi
theorem px_st1 (C : px_C l p s m args c G kT o1 o2 b n xs) (hW : px_W G kT a0 o1 o2 T D f g s H locs) {j : Nat} {x : Int32} (hj : j < 40) (hdg : decode cL_law pc = .ok (.iastore, 1)) (kk : ∀ (H1 : Heap) (locs1 : List Loc), px_W G kT a0 o1 o2 T D (upd f j x) g s H1 locs1 → W p l e Rm s m args below meth c H1 locs1 cells slots Z (F0 m (pc + 1) ls rest)) : W p l e Rm s m args below meth c H locs cells slots Z (F0 m pc ls (.int x :: .int (nI j) :: .ref o1 :: rest)) := by
  obtain ⟨ad, L, K, R, I, A, Q, N, hP, hnd, hL, HB, h0, hO1, hO2, hS⟩ := hW
  have e9 : (nI j).toNatClampNeg = j := nI_clamp (by omega)
  have hPP : va_P G vwCl ([(o1, .inl (kT 2, 40, .inl f)), (o2, .inl (kT 2, 256, .inl g))] ++ cW kT L K R I A Q N) H := (va_P.app hO1 hO2).app hP
  refine va_iast C.1.1 C.1.2.1 C.2.1 hPP (px_D C hnd hL) hS 0 2 rfl rfl (vp_in_nI hj (by decide)) hdg (fun H1 locs1 hP1 hD1 hS1 => ?_)
  rw [e9] at hP1
  refine kk H1 locs1 ⟨ad, L, K, R, I, A, Q, N, fun k x hx => hP1 (k + 2) x hx, hnd, hL, HB, h0, fun k x hx => ?_, fun k x hx => ?_, hS1⟩
  · have hz : k < 1 := (List.getElem?_eq_some_iff.mp hx).1
    obtain rfl : k = 0 := by omega
    exact hP1 0 x hx
  · have hz : k < 1 := (List.getElem?_eq_some_iff.mp hx).1
    obtain rfl : k = 0 := by omega
    exact hP1 1 x hx
theorem px_st2 (C : px_C l p s m args c G kT o1 o2 b n xs) (hW : px_W G kT a0 o1 o2 T D f g s H locs) {j : Nat} {x : Int32} (hj : j < 256) (hdg : decode cL_law pc = .ok (.iastore, 1)) (kk : ∀ (H1 : Heap) (locs1 : List Loc), px_W G kT a0 o1 o2 T D f (upd g j x) s H1 locs1 → W p l e Rm s m args below meth c H1 locs1 cells slots Z (F0 m (pc + 1) ls rest)) : W p l e Rm s m args below meth c H locs cells slots Z (F0 m pc ls (.int x :: .int (nI j) :: .ref o2 :: rest)) := by
  obtain ⟨ad, L, K, R, I, A, Q, N, hP, hnd, hL, HB, h0, hO1, hO2, hS⟩ := hW
  have e9 : (nI j).toNatClampNeg = j := nI_clamp (by omega)
  have hPP : va_P G vwCl ([(o1, .inl (kT 2, 40, .inl f)), (o2, .inl (kT 2, 256, .inl g))] ++ cW kT L K R I A Q N) H := (va_P.app hO1 hO2).app hP
  refine va_iast C.1.1 C.1.2.1 C.2.1 hPP (px_D C hnd hL) hS 1 2 rfl rfl (vp_in_nI hj (by decide)) hdg (fun H1 locs1 hP1 hD1 hS1 => ?_)
  rw [e9] at hP1
  refine kk H1 locs1 ⟨ad, L, K, R, I, A, Q, N, fun k x hx => hP1 (k + 2) x hx, hnd, hL, HB, h0, fun k x hx => ?_, fun k x hx => ?_, hS1⟩
  · have hz : k < 1 := (List.getElem?_eq_some_iff.mp hx).1
    obtain rfl : k = 0 := by omega
    exact hP1 0 x hx
  · have hz : k < 1 := (List.getElem?_eq_some_iff.mp hx).1
    obtain rfl : k = 0 := by omega
    exact hP1 1 x hx
end PX
theorem p_min {a b : Nat} (ha : a < 2 ^ 31) (hb : b < 2 ^ 31) : (if nI b < nI a then nI b else nI a) = nI (min a b) := by
  by_cases h : b < a
  · rw [if_pos ((nI_ltI hb ha).mpr h), Nat.min_eq_right (Nat.le_of_lt h)]
  · rw [if_neg (fun z => h ((nI_ltI hb ha).mp z)), Nat.min_eq_left (Nat.not_lt.mp h)]
theorem p_max0 {b : Nat} (hb : b < 2 ^ 31) : (if nI 0 < nI b then nI b else nI 0) = nI b := by
  by_cases h : 0 < b
  · rw [if_pos ((nI_ltI (by decide) hb).mpr h)]
  · obtain rfl : b = 0 := by omega
    rw [if_neg (fun z => h ((nI_ltI (by decide) (by decide)).mp z))]
theorem p_chr {w : Nat} (h : w < 65536) : ((nI w).toUInt32 % 65536).toInt32 = nI w := by
  rw [pk_char, pk_tn (by omega), Nat.mod_eq_of_lt h]
