/-! the law: its world: the book's pool at T D, the reference at U V with its mark, the two arrays for answers, the script -/
def lx_A (s : State) : Nat → Prop := fun a => s.heap.size ≤ a
def lx_W (G : va_G) (kT : Nat → ClassId) (q : Nat → Nat) (a0 o1 o2 : Nat) (T : mT) (D : mD) (U : mT) (V : mD) (th : Int32) (e1 e2 : va_E) (s : State) (H : Heap) (locs : List Loc) : Prop :=
  ∃ (ad : pD) (L : List Nat) (K : pN) (R : pR) (I : pI) (A : mD) (Q : pR) (N : pN), va_P G vwCl (cW kT L K R I A Q N) H ∧ L.Nodup ∧ (∀ a ∈ L, lx_A s a ∧ a ≠ o1 ∧ a ≠ o2 ∧ ∀ k, k < 21 → a ≠ q k) ∧ Rep T D ad L K R I A Q N ∧ ad 0 0 = a0 ∧ va_P G vwCl (mWl (kT 2) (kT 3) q U V th) H ∧ va_P G vwCl [(o1, e1)] H ∧ va_P G vwCl [(o2, e2)] H ∧ va_S (lx_A s) s.heap H locs
def lx_C (l : Launch) (p : Program) (s : State) (m : MethodId) (args : Array Value) (c : Code) (G : va_G) (kT : Nat → ClassId) (q : Nat → Nat) (o1 o2 b n : Nat) (xs : Nat → Int32) : Prop :=
  CallFix p m c cL_law 10 s args wsL_law RL ∧ va_K G vwCl (ctys kT) s ∧ cE (lx_A s) s s.heap ∧ va_X b n xs s s.heap ∧ b < s.heap.size ∧ mJ q ∧ (∀ k, k < 21 → lx_A s (q k) ∧ q k ≠ o1 ∧ q k ≠ o2) ∧ lx_A s o1 ∧ lx_A s o2 ∧ o1 ≠ o2 ∧ l.stackTraces = false
abbrev lx_l (b a0 q0 o1 o2 i : Nat) : List (Nat × Value) := [(0, .ref b), (1, .ref a0), (2, .ref q0), (3, .ref o1), (4, .ref o2), (5, .int (nI i))]
theorem mtys_of {G : va_G} {kT : Nat → ClassId} {s : State} (h : va_K G vwCl (ctys kT) s) : va_K G vwCl (mtys (kT 2) (kT 3)) s := ⟨h.1, fun k x hx => match k, hx with
  | 0, hx => (by cases hx; exact h.2 2 _ rfl)
  | 1, hx => (by cases hx; exact h.2 3 _ rfl)
  | k + 2, hx => (by simp at hx)⟩
theorem mW_lt {G : va_G} {cI cZ : ClassId} {q : Nat → Nat} {T : mT} {D : mD} {th : Int32} {H : Heap} (h : va_P G vwCl (mWl cI cZ q T D th) H) {k : Nat} (hk : k < 21) : q k < H.size := by
  have hk9 : k < (mWl cI cZ q T D th).length := hk
  have hx := List.getElem?_eq_getElem hk9
  rw [← (mW_at cI cZ q T D th k _ hx).2]
  exact (h k _ hx).lt
theorem cW_mem {kT : Nat → ClassId} {L : List Nat} {K : pN} {R : pR} {I : pI} {A : mD} {Q : pR} {N : pN} {k : Nat} {x : Nat × va_E} (hx : (cW kT L K R I A Q N)[k]? = some x) : x.1 ∈ L := by
  simp only [cW, va_pl, List.getElem?_map] at hx
  cases h : L[k]? with
  | none => rw [h] at hx; cases hx
  | some b => rw [h] at hx; cases hx; exact List.mem_of_getElem? h
theorem lx_C.swap {l : Launch} {p : Program} {s : State} {m : MethodId} {args : Array Value} {c : Code} {G : va_G} {kT : Nat → ClassId} {q : Nat → Nat} {o1 o2 b n : Nat} {xs : Nat → Int32} (C : lx_C l p s m args c G kT q o1 o2 b n xs) : lx_C l p s m args c G kT q o2 o1 b n xs := by
  obtain ⟨h1, h2, h3, h4, h5, h6, h7, h8, h9, h10, h11⟩ := C
  exact ⟨h1, h2, h3, h4, h5, h6, fun k hk => ⟨(h7 k hk).1, (h7 k hk).2.2, (h7 k hk).2.1⟩, h9, h8, fun z => h10 z.symm, h11⟩
theorem lx_W.swap {G : va_G} {kT : Nat → ClassId} {q : Nat → Nat} {a0 o1 o2 : Nat} {T U : mT} {D V : mD} {th : Int32} {e1 e2 : va_E} {s : State} {H : Heap} {locs : List Loc} (h : lx_W G kT q a0 o1 o2 T D U V th e1 e2 s H locs) : lx_W G kT q a0 o2 o1 T D U V th e2 e1 s H locs := by
  obtain ⟨ad, L, K, R, I, A, Q, N, g1, g2, g3, g4, g5, g6, g7, g8, g9⟩ := h
  exact ⟨ad, L, K, R, I, A, Q, N, g1, g2, fun a ha => ⟨(g3 a ha).1, (g3 a ha).2.2.1, (g3 a ha).2.1, (g3 a ha).2.2.2⟩, g4, g5, g6, g8, g7, g9⟩
theorem lx_W.IJ {G : va_G} {kT : Nat → ClassId} {q : Nat → Nat} {a0 o1 o2 : Nat} {T U : mT} {D V : mD} {th : Int32} {e1 e2 : va_E} {s : State} {H : Heap} {locs : List Loc} (h : lx_W G kT q a0 o1 o2 T D U V th e1 e2 s H locs) : mI T ∧ mJD D := by
  obtain ⟨ad, L, K, R, I, A, Q, N, g1, g2, g3, g4, g5, g6, g7, g8, g9⟩ := h
  exact ⟨g4.mi, g4.md⟩
theorem oL_w {kT : Nat → ClassId} {c : Prop} {v : Int64} {e : va_E} (h : oL kT c v e) : oL kT False 0 e := by
  obtain ⟨f, rfl, -⟩ := h
  exact ⟨f, rfl, fun z => z.elim⟩
theorem oD_w {kT : Nat → ClassId} {c : Prop} {v : UInt64} {e : va_E} (h : oD kT c v e) : oD kT False 0 e := by
  obtain ⟨f, rfl, -⟩ := h
  exact ⟨f, rfl, fun z => z.elim⟩
section LX
variable {p : Program} {l : Launch} {e : Env} {Rm : Room} {s : State} {m : MethodId} {args : Array Value} {below : List Frame} {meth : Method} {c : Code} {H : Heap} {locs : List Loc} {cells slots : Nat} {Z : State → Prop} {pc : Nat} {ls : Array Slot} {rest : List Value}
variable {G : va_G} {kT : Nat → ClassId} {q : Nat → Nat} {a0 o1 o2 b n : Nat} {xs : Nat → Int32} {T U : mT} {D V : mD} {th : Int32} {e1 e2 : va_E}
variable {y : MethodName} {ws ws2 : List Cond} {rm : Room} {as : List Value} {maxL index n9 : Nat} {ret : Option FieldType} {bytes : ByteArray} {hh : List (Nat × Nat × Nat × Nat)}
theorem lx_callw (C : lx_C l p s m args c G kT q o1 o2 b n xs) (hW : lx_W G kT q a0 o1 o2 T D U V th e1 e2 s H locs) {code : Nat} {T2 : mT} {D2 : mD} {P0 P : va_E → Prop} (hP0 : P0 e1) (hM : wM l y ws rm G kT a0 o1 as T D code T2 D2 P0 P) (cw : vx_CSW Rm s args RL index y bytes maxL ret hh ws rm 2 260 n9) {st : List Value} (hst : st = as.reverse ++ rest) (hn : as.length = n9) (hs : ls.size = 10) (hroom : (rest.map fun v => v.category).sum ≤ 8) (hdg : decode cL_law pc = .ok (.invokestatic index, 3)) (hcs : cells + 2 ≤ Rm.cells ∧ slots + 260 ≤ Rm.slots)
    (kk : ∀ (H1 : Heap) (locs1 : List Loc) (e9 : va_E), lx_W G kT q a0 o1 o2 T2 D2 U V th e9 e2 s H1 locs1 → P e9 → W p l e Rm s m args below meth c H1 locs1 (cells + 2) (slots + 260) Z (F0 m (pc + 3) ls (.int (nI code) :: rest))) : W p l e Rm s m args below meth c H locs cells slots Z (F0 m pc ls st) := by
  subst hst
  obtain ⟨ad, L, K, R, I, A, Q, N, hP, hnd, hL, HB, h0, hR, hO1, hO2, hS⟩ := hW
  obtain ⟨X, hK, hE, hX, hb, hq, hqo, ho1, ho2, ho, hst9⟩ := C
  have hsz := hS.1
  have ho1L : o1 ∉ L := fun z => (hL o1 z).2.1 rfl
  have hfr : ∀ a : Nat, cA (o1 :: L) H.size a → lx_A s a := fun a h => h.elim (fun h => (List.mem_cons.mp h).elim (fun z => z ▸ ho1) (fun z => (hL a z).1)) (fun h => Nat.le_trans hsz h)
  have hE1 : ∀ U : State, U.heap = H → s.WarmedH U.vm → cE (cA (o1 :: L) H.size) U U.heap := fun U hU hWm => by rw [hU]; exact ((hE.kept hS.2.1).narrow hfr).warm hWm
  refine va_calli (vx_runSW (g := F0 m pc ls _) (As := as) (rest := rest) X (hM ad L K R I A Q N e1 HB h0 ho1L hP0 H.size) cw ⟨fun a U g mk z => by obtain ⟨z0, z1, z2, z3, z4, z5, z6⟩ := z; exact ⟨z0, z1, va_K.moved (u := U) (U := U.calling g mk a) (Vm.Alike.refl U.vm) z2, z3, z4, z5, z6.calling⟩, fun U hU hWm => ⟨rfl, by rw [hU], va_K.moved hWm.alike hK, by rw [hU]; exact hP, hnd, by rw [hU]; exact hO1, hE1 U hU hWm⟩⟩ rfl hn hs rfl (lv_room hroom) hdg hcs) hS (fun a _ h => hfr a h) hfr (fun r u t H1 locs1 ht hvm hw hB hz1 hk1 hS1 => ?_)
  subst hw
  obtain ⟨ad2, L2, K2, R2, I2, A2, Q2, N2, e9, g1, g2, g3, g4, g5, g6, g7, g8, g9⟩ := hB
  rw [ht] at g2 g6
  refine kk H1 locs1 e9 ⟨ad2, L2, K2, R2, I2, A2, Q2, N2, g2, g3, fun a ha => ?_, g8, g9, hR.kept (fun k x hx => ?_), g6, ?_, hS1⟩ g7
  · rcases g4 a ha with h | h
    · rcases List.mem_cons.mp h with h | h
      · exact absurd (h ▸ ha) g5
      · exact hL a h
    · exact ⟨Nat.le_trans hsz h, fun z => g5 (z ▸ ha), fun z => absurd ((hO2 0 _ rfl).lt) (Nat.not_lt.mpr (by rw [← z]; exact h)), fun k hk z => absurd (mW_lt hR hk) (Nat.not_lt.mpr (by rw [← z]; exact h))⟩
  · obtain ⟨hk, ex⟩ := mW_at _ _ _ _ _ _ k x hx
    rw [ex]
    exact hk1 (q k) (mW_lt hR hk) (fun z => z.elim (fun z => (List.mem_cons.mp z).elim (fun z => (hqo k hk).2.1 z) (fun z => (hL _ z).2.2.2 k hk rfl)) (fun z => absurd (mW_lt hR hk) (Nat.not_lt.mpr z)))
  · exact oK (L := o1 :: L) hO2 (fun z => (List.mem_cons.mp z).elim (fun z => ho z.symm) (fun z => (hL o2 z).2.2.1 rfl)) (fun r h1 h2 => hk1 r h1 (fun z => z.elim h2 (fun z => absurd h1 (Nat.not_lt.mpr z))))
theorem lx_callmi (C : lx_C l p s m args c G kT q o1 o2 b n xs) (hW : lx_W G kT q a0 o1 o2 T D U V th e1 e2 s H locs) {r : Int32} {T2 : mT} {D2 : mD} {th2 : Int32} (hM : mMi l y ws rm G (kT 2) (kT 3) q as U V th r T2 D2 th2) (cw : CallW Rm s args RL RX7 index y bytes maxL ret ws rm 0 0 n9) {st : List Value} (hst : st = as.reverse ++ .ref (q 0) :: rest) (hn : as.length = n9) (hs : ls.size = 10) (hroom : (rest.map fun v => v.category).sum ≤ 8) (hdg : decode cL_law pc = .ok (.invokevirtual index, 3)) (hcs : cells ≤ Rm.cells ∧ slots ≤ Rm.slots)
    (kk : ∀ (H1 : Heap) (locs1 : List Loc), lx_W G kT q a0 o1 o2 T D T2 D2 th2 e1 e2 s H1 locs1 → W p l e Rm s m args below meth c H1 locs1 cells slots Z (F0 m (pc + 3) ls (.int r :: rest))) : W p l e Rm s m args below meth c H locs cells slots Z (F0 m pc ls st) := by
  subst hst
  obtain ⟨ad, L, K, R, I, A, Q, N, hP, hnd, hL, HB, h0, hR, hO1, hO2, hS⟩ := hW
  obtain ⟨X, hK, hE, hX, hb, hq, hqo, ho1, ho2, ho, hst9⟩ := C
  have hsz := hS.1
  have hfr : ∀ a : Nat, mA q H.size a → lx_A s a := fun a h => h.elim (fun h => by obtain ⟨k, hk, rfl⟩ := h; exact (hqo k hk).1) (fun h => Nat.le_trans hsz h)
  refine va_calli (va_runV (As := as) (rest := rest) X (hM H.size) cw ⟨fun a U g mk z => by obtain ⟨z0, z1, z2, z3⟩ := z; exact ⟨z0, z1, va_K.moved (u := U) (U := U.calling g mk a) (Vm.Alike.refl U.vm) z2, z3⟩, va_recv (mtys_of hK) hR (ci := 9) (q0 := 0) rfl rfl, fun U hU hWm => ⟨rfl, by rw [hU], va_K.moved hWm.alike (mtys_of hK), by rw [hU]; exact hR⟩⟩ rfl hn hs rfl (lv_room hroom) hdg hcs) hS (fun a _ h => hfr a h) hfr (fun r u t H1 locs1 ht hvm hw hB hz1 hk1 hS1 => ?_)
  subst hw
  have hnA : ∀ a : Nat, a < H.size → (∀ k, k < 21 → a ≠ q k) → ¬ mA q H.size a := fun a h1 h2 z => z.elim (fun z => by obtain ⟨k, hk, z⟩ := z; exact h2 k hk z) (fun z => absurd h1 (Nat.not_lt.mpr z))
  have hO1l := (hO1 0 _ rfl).lt
  have hO2l := (hO2 0 _ rfl).lt
  refine kk H1 locs1 ⟨ad, L, K, R, I, A, Q, N, hP.kept (fun k x hx => ?_), hnd, hL, HB, h0, by rw [← ht]; exact hB.2, ?_, ?_, hS1⟩
  · exact hk1 x.1 ((hP k x hx).lt) (hnA _ ((hP k x hx).lt) (hL _ (cW_mem hx)).2.2.2)
  · refine hO1.kept (fun k x hx => ?_)
    have hz : k < 1 := (List.getElem?_eq_some_iff.mp hx).1
    obtain rfl : k = 0 := by omega
    cases hx
    exact hk1 o1 hO1l (hnA o1 hO1l (fun k hk z => (hqo k hk).2.1 z.symm))
  · refine hO2.kept (fun k x hx => ?_)
    have hz : k < 1 := (List.getElem?_eq_some_iff.mp hx).1
    obtain rfl : k = 0 := by omega
    cases hx
    exact hk1 o2 hO2l (hnA o2 hO2l (fun k hk z => (hqo k hk).2.2 z.symm))
theorem lx_callml (C : lx_C l p s m args c G kT q o1 o2 b n xs) (hW : lx_W G kT q a0 o1 o2 T D U V th e1 e2 s H locs) {r : Int64} {T2 : mT} {D2 : mD} {th2 : Int32} (hM : mMl l y ws rm G (kT 2) (kT 3) q as U V th r T2 D2 th2) (cw : CallW Rm s args RL RX7 index y bytes maxL ret ws rm 0 0 n9) {st : List Value} (hst : st = as.reverse ++ .ref (q 0) :: rest) (hn : as.length = n9) (hs : ls.size = 10) (hroom : (rest.map fun v => v.category).sum ≤ 8) (hdg : decode cL_law pc = .ok (.invokevirtual index, 3)) (hcs : cells ≤ Rm.cells ∧ slots ≤ Rm.slots)
    (kk : ∀ (H1 : Heap) (locs1 : List Loc), lx_W G kT q a0 o1 o2 T D T2 D2 th2 e1 e2 s H1 locs1 → W p l e Rm s m args below meth c H1 locs1 cells slots Z (F0 m (pc + 3) ls (.long r :: rest))) : W p l e Rm s m args below meth c H locs cells slots Z (F0 m pc ls st) := by
  subst hst
  obtain ⟨ad, L, K, R, I, A, Q, N, hP, hnd, hL, HB, h0, hR, hO1, hO2, hS⟩ := hW
  obtain ⟨X, hK, hE, hX, hb, hq, hqo, ho1, ho2, ho, hst9⟩ := C
  have hsz := hS.1
  have hfr : ∀ a : Nat, mA q H.size a → lx_A s a := fun a h => h.elim (fun h => by obtain ⟨k, hk, rfl⟩ := h; exact (hqo k hk).1) (fun h => Nat.le_trans hsz h)
  refine va_calll (va_runV (As := as) (rest := rest) X (hM H.size) cw ⟨fun a U g mk z => by obtain ⟨z0, z1, z2, z3⟩ := z; exact ⟨z0, z1, va_K.moved (u := U) (U := U.calling g mk a) (Vm.Alike.refl U.vm) z2, z3⟩, va_recv (mtys_of hK) hR (ci := 9) (q0 := 0) rfl rfl, fun U hU hWm => ⟨rfl, by rw [hU], va_K.moved hWm.alike (mtys_of hK), by rw [hU]; exact hR⟩⟩ rfl hn hs rfl (lv_room hroom) hdg hcs) hS (fun a _ h => hfr a h) hfr (fun r u t H1 locs1 ht hvm hw hB hz1 hk1 hS1 => ?_)
  subst hw
  have hnA : ∀ a : Nat, a < H.size → (∀ k, k < 21 → a ≠ q k) → ¬ mA q H.size a := fun a h1 h2 z => z.elim (fun z => by obtain ⟨k, hk, z⟩ := z; exact h2 k hk z) (fun z => absurd h1 (Nat.not_lt.mpr z))
  have hO1l := (hO1 0 _ rfl).lt
  have hO2l := (hO2 0 _ rfl).lt
  refine kk H1 locs1 ⟨ad, L, K, R, I, A, Q, N, hP.kept (fun k x hx => ?_), hnd, hL, HB, h0, by rw [← ht]; exact hB.2, ?_, ?_, hS1⟩
  · exact hk1 x.1 ((hP k x hx).lt) (hnA _ ((hP k x hx).lt) (hL _ (cW_mem hx)).2.2.2)
  · refine hO1.kept (fun k x hx => ?_)
    have hz : k < 1 := (List.getElem?_eq_some_iff.mp hx).1
    obtain rfl : k = 0 := by omega
    cases hx
    exact hk1 o1 hO1l (hnA o1 hO1l (fun k hk z => (hqo k hk).2.1 z.symm))
  · refine hO2.kept (fun k x hx => ?_)
    have hz : k < 1 := (List.getElem?_eq_some_iff.mp hx).1
    obtain rfl : k = 0 := by omega
    cases hx
    exact hk1 o2 hO2l (hnA o2 hO2l (fun k hk z => (hqo k hk).2.2 z.symm))
theorem lx_callmf (C : lx_C l p s m args c G kT q o1 o2 b n xs) (hW : lx_W G kT q a0 o1 o2 T D U V th e1 e2 s H locs) {r : UInt32} {T2 : mT} {D2 : mD} {th2 : Int32} (hM : mMf l y ws rm G (kT 2) (kT 3) q as U V th r T2 D2 th2) (cw : CallW Rm s args RL RX7 index y bytes maxL ret ws rm 0 0 n9) {st : List Value} (hst : st = as.reverse ++ .ref (q 0) :: rest) (hn : as.length = n9) (hs : ls.size = 10) (hroom : (rest.map fun v => v.category).sum ≤ 8) (hdg : decode cL_law pc = .ok (.invokevirtual index, 3)) (hcs : cells ≤ Rm.cells ∧ slots ≤ Rm.slots)
    (kk : ∀ (H1 : Heap) (locs1 : List Loc), lx_W G kT q a0 o1 o2 T D T2 D2 th2 e1 e2 s H1 locs1 → W p l e Rm s m args below meth c H1 locs1 cells slots Z (F0 m (pc + 3) ls (.float r :: rest))) : W p l e Rm s m args below meth c H locs cells slots Z (F0 m pc ls st) := by
  subst hst
  obtain ⟨ad, L, K, R, I, A, Q, N, hP, hnd, hL, HB, h0, hR, hO1, hO2, hS⟩ := hW
  obtain ⟨X, hK, hE, hX, hb, hq, hqo, ho1, ho2, ho, hst9⟩ := C
  have hsz := hS.1
  have hfr : ∀ a : Nat, mA q H.size a → lx_A s a := fun a h => h.elim (fun h => by obtain ⟨k, hk, rfl⟩ := h; exact (hqo k hk).1) (fun h => Nat.le_trans hsz h)
  refine va_callf (va_runV (As := as) (rest := rest) X (hM H.size) cw ⟨fun a U g mk z => by obtain ⟨z0, z1, z2, z3⟩ := z; exact ⟨z0, z1, va_K.moved (u := U) (U := U.calling g mk a) (Vm.Alike.refl U.vm) z2, z3⟩, va_recv (mtys_of hK) hR (ci := 9) (q0 := 0) rfl rfl, fun U hU hWm => ⟨rfl, by rw [hU], va_K.moved hWm.alike (mtys_of hK), by rw [hU]; exact hR⟩⟩ rfl hn hs rfl (lv_room hroom) hdg hcs) hS (fun a _ h => hfr a h) hfr (fun r u t H1 locs1 ht hvm hw hB hz1 hk1 hS1 => ?_)
  subst hw
  have hnA : ∀ a : Nat, a < H.size → (∀ k, k < 21 → a ≠ q k) → ¬ mA q H.size a := fun a h1 h2 z => z.elim (fun z => by obtain ⟨k, hk, z⟩ := z; exact h2 k hk z) (fun z => absurd h1 (Nat.not_lt.mpr z))
  have hO1l := (hO1 0 _ rfl).lt
  have hO2l := (hO2 0 _ rfl).lt
  refine kk H1 locs1 ⟨ad, L, K, R, I, A, Q, N, hP.kept (fun k x hx => ?_), hnd, hL, HB, h0, by rw [← ht]; exact hB.2, ?_, ?_, hS1⟩
  · exact hk1 x.1 ((hP k x hx).lt) (hnA _ ((hP k x hx).lt) (hL _ (cW_mem hx)).2.2.2)
  · refine hO1.kept (fun k x hx => ?_)
    have hz : k < 1 := (List.getElem?_eq_some_iff.mp hx).1
    obtain rfl : k = 0 := by omega
    cases hx
    exact hk1 o1 hO1l (hnA o1 hO1l (fun k hk z => (hqo k hk).2.1 z.symm))
  · refine hO2.kept (fun k x hx => ?_)
    have hz : k < 1 := (List.getElem?_eq_some_iff.mp hx).1
    obtain rfl : k = 0 := by omega
    cases hx
    exact hk1 o2 hO2l (hnA o2 hO2l (fun k hk z => (hqo k hk).2.2 z.symm))
theorem lx_callmd (C : lx_C l p s m args c G kT q o1 o2 b n xs) (hW : lx_W G kT q a0 o1 o2 T D U V th e1 e2 s H locs) {r : UInt64} {T2 : mT} {D2 : mD} {th2 : Int32} (hM : mMd l y ws rm G (kT 2) (kT 3) q as U V th r T2 D2 th2) (cw : CallW Rm s args RL RX7 index y bytes maxL ret ws rm 0 0 n9) {st : List Value} (hst : st = as.reverse ++ .ref (q 0) :: rest) (hn : as.length = n9) (hs : ls.size = 10) (hroom : (rest.map fun v => v.category).sum ≤ 8) (hdg : decode cL_law pc = .ok (.invokevirtual index, 3)) (hcs : cells ≤ Rm.cells ∧ slots ≤ Rm.slots)
    (kk : ∀ (H1 : Heap) (locs1 : List Loc), lx_W G kT q a0 o1 o2 T D T2 D2 th2 e1 e2 s H1 locs1 → W p l e Rm s m args below meth c H1 locs1 cells slots Z (F0 m (pc + 3) ls (.double r :: rest))) : W p l e Rm s m args below meth c H locs cells slots Z (F0 m pc ls st) := by
  subst hst
  obtain ⟨ad, L, K, R, I, A, Q, N, hP, hnd, hL, HB, h0, hR, hO1, hO2, hS⟩ := hW
  obtain ⟨X, hK, hE, hX, hb, hq, hqo, ho1, ho2, ho, hst9⟩ := C
  have hsz := hS.1
  have hfr : ∀ a : Nat, mA q H.size a → lx_A s a := fun a h => h.elim (fun h => by obtain ⟨k, hk, rfl⟩ := h; exact (hqo k hk).1) (fun h => Nat.le_trans hsz h)
  refine va_calld (va_runV (As := as) (rest := rest) X (hM H.size) cw ⟨fun a U g mk z => by obtain ⟨z0, z1, z2, z3⟩ := z; exact ⟨z0, z1, va_K.moved (u := U) (U := U.calling g mk a) (Vm.Alike.refl U.vm) z2, z3⟩, va_recv (mtys_of hK) hR (ci := 9) (q0 := 0) rfl rfl, fun U hU hWm => ⟨rfl, by rw [hU], va_K.moved hWm.alike (mtys_of hK), by rw [hU]; exact hR⟩⟩ rfl hn hs rfl (lv_room hroom) hdg hcs) hS (fun a _ h => hfr a h) hfr (fun r u t H1 locs1 ht hvm hw hB hz1 hk1 hS1 => ?_)
  subst hw
  have hnA : ∀ a : Nat, a < H.size → (∀ k, k < 21 → a ≠ q k) → ¬ mA q H.size a := fun a h1 h2 z => z.elim (fun z => by obtain ⟨k, hk, z⟩ := z; exact h2 k hk z) (fun z => absurd h1 (Nat.not_lt.mpr z))
  have hO1l := (hO1 0 _ rfl).lt
  have hO2l := (hO2 0 _ rfl).lt
  refine kk H1 locs1 ⟨ad, L, K, R, I, A, Q, N, hP.kept (fun k x hx => ?_), hnd, hL, HB, h0, by rw [← ht]; exact hB.2, ?_, ?_, hS1⟩
  · exact hk1 x.1 ((hP k x hx).lt) (hnA _ ((hP k x hx).lt) (hL _ (cW_mem hx)).2.2.2)
  · refine hO1.kept (fun k x hx => ?_)
    have hz : k < 1 := (List.getElem?_eq_some_iff.mp hx).1
    obtain rfl : k = 0 := by omega
    cases hx
    exact hk1 o1 hO1l (hnA o1 hO1l (fun k hk z => (hqo k hk).2.1 z.symm))
  · refine hO2.kept (fun k x hx => ?_)
    have hz : k < 1 := (List.getElem?_eq_some_iff.mp hx).1
    obtain rfl : k = 0 := by omega
    cases hx
    exact hk1 o2 hO2l (hnA o2 hO2l (fun k hk z => (hqo k hk).2.2 z.symm))
theorem lx_callcd (C : lx_C l p s m args c G kT q o1 o2 b n xs) (hW : lx_W G kT q a0 o1 o2 T D U V th e1 e2 s H locs) {r : UInt64} (hM : ∀ (ad : pD) (L : List Nat) (K : pN) (R : pR) (I : pI) (A : mD) (Q : pR) (N : pN), Rep T D ad L K R I A Q N → cMd l y ws rm G kT [.ref (ad 0 0)] L K R I A Q N r R I A Q) (cw : CallW Rm s args RL RX6 index y bytes maxL ret ws rm 0 0 0) (hs : ls.size = 10) (hroom : (rest.map fun v => v.category).sum ≤ 8) (hdg : decode cL_law pc = .ok (.invokevirtual index, 3)) (hcs : cells ≤ Rm.cells ∧ slots ≤ Rm.slots)
    (kk : ∀ (H1 : Heap) (locs1 : List Loc), lx_W G kT q a0 o1 o2 T D U V th e1 e2 s H1 locs1 → W p l e Rm s m args below meth c H1 locs1 cells slots Z (F0 m (pc + 3) ls (.double r :: rest))) : W p l e Rm s m args below meth c H locs cells slots Z (F0 m pc ls (.ref a0 :: rest)) := by
  obtain ⟨ad, L, K, R, I, A, Q, N, hP, hnd, hL, HB, h0, hR, hO1, hO2, hS⟩ := hW
  obtain ⟨X, hK, hE, hX, hb, hq, hqo, ho1, ho2, ho, hst9⟩ := C
  have hsz := hS.1
  subst h0
  have hfr : ∀ a : Nat, cA L H.size a → lx_A s a := fun a h => h.elim (fun z => (hL a z).1) (fun h => Nat.le_trans hsz h)
  obtain ⟨k0, h9⟩ := cW_get (kT := kT) (R := R) (I := I) (A := A) (Q := Q) (N := N) (HB.mem lv_0) (pC_6 (HB.kn lv_0 rfl))
  refine va_calld (va_runV (As := []) (rest := rest) X (hM ad L K R I A Q N HB H.size) cw ⟨fun a U g mk z => by obtain ⟨z0, z1, z2, z3, z4⟩ := z; exact ⟨z0, z1, va_K.moved (u := U) (U := U.calling g mk a) (Vm.Alike.refl U.vm) z2, z3, z4⟩, va_recv hK hP (ci := 8) (q0 := k0) rfl h9, fun U hU hWm => ⟨rfl, by rw [hU], va_K.moved hWm.alike hK, by rw [hU]; exact hP, hnd⟩⟩ rfl rfl hs rfl (lv_room hroom) hdg hcs) hS (fun a _ h => hfr a h) hfr (fun r u t H1 locs1 ht hvm hw hB hz1 hk1 hS1 => ?_)
  subst hw
  refine kk H1 locs1 ⟨ad, L, K, R, I, A, Q, N, by rw [← ht]; exact hB.2, hnd, hL, HB, rfl, hR.kept (fun k x hx => ?_), ?_, ?_, hS1⟩
  · obtain ⟨hk, ex⟩ := mW_at _ _ _ _ _ _ k x hx
    rw [ex]
    exact hk1 (q k) (mW_lt hR hk) (fun z => z.elim (fun z => (hL _ z).2.2.2 k hk rfl) (fun z => absurd (mW_lt hR hk) (Nat.not_lt.mpr z)))
  · exact oK (L := L) hO1 (fun z => (hL o1 z).2.1 rfl) (fun r h1 h2 => hk1 r h1 (fun z => z.elim h2 (fun z => absurd h1 (Nat.not_lt.mpr z))))
  · exact oK (L := L) hO2 (fun z => (hL o2 z).2.2.1 rfl) (fun r h1 h2 => hk1 r h1 (fun z => z.elim h2 (fun z => absurd h1 (Nat.not_lt.mpr z))))
theorem lx_callcl (C : lx_C l p s m args c G kT q o1 o2 b n xs) (hW : lx_W G kT q a0 o1 o2 T D U V th e1 e2 s H locs) {r : Int64} (hM : ∀ (ad : pD) (L : List Nat) (K : pN) (R : pR) (I : pI) (A : mD) (Q : pR) (N : pN), Rep T D ad L K R I A Q N → cMl l y ws rm G kT [.ref (ad 0 0)] L K R I A Q N r R I A Q) (cw : CallW Rm s args RL RX6 index y bytes maxL ret ws rm 0 0 0) (hs : ls.size = 10) (hroom : (rest.map fun v => v.category).sum ≤ 8) (hdg : decode cL_law pc = .ok (.invokevirtual index, 3)) (hcs : cells ≤ Rm.cells ∧ slots ≤ Rm.slots)
    (kk : ∀ (H1 : Heap) (locs1 : List Loc), lx_W G kT q a0 o1 o2 T D U V th e1 e2 s H1 locs1 → W p l e Rm s m args below meth c H1 locs1 cells slots Z (F0 m (pc + 3) ls (.long r :: rest))) : W p l e Rm s m args below meth c H locs cells slots Z (F0 m pc ls (.ref a0 :: rest)) := by
  obtain ⟨ad, L, K, R, I, A, Q, N, hP, hnd, hL, HB, h0, hR, hO1, hO2, hS⟩ := hW
  obtain ⟨X, hK, hE, hX, hb, hq, hqo, ho1, ho2, ho, hst9⟩ := C
  have hsz := hS.1
  subst h0
  have hfr : ∀ a : Nat, cA L H.size a → lx_A s a := fun a h => h.elim (fun z => (hL a z).1) (fun h => Nat.le_trans hsz h)
  obtain ⟨k0, h9⟩ := cW_get (kT := kT) (R := R) (I := I) (A := A) (Q := Q) (N := N) (HB.mem lv_0) (pC_6 (HB.kn lv_0 rfl))
  refine va_calll (va_runV (As := []) (rest := rest) X (hM ad L K R I A Q N HB H.size) cw ⟨fun a U g mk z => by obtain ⟨z0, z1, z2, z3, z4⟩ := z; exact ⟨z0, z1, va_K.moved (u := U) (U := U.calling g mk a) (Vm.Alike.refl U.vm) z2, z3, z4⟩, va_recv hK hP (ci := 8) (q0 := k0) rfl h9, fun U hU hWm => ⟨rfl, by rw [hU], va_K.moved hWm.alike hK, by rw [hU]; exact hP, hnd⟩⟩ rfl rfl hs rfl (lv_room hroom) hdg hcs) hS (fun a _ h => hfr a h) hfr (fun r u t H1 locs1 ht hvm hw hB hz1 hk1 hS1 => ?_)
  subst hw
  refine kk H1 locs1 ⟨ad, L, K, R, I, A, Q, N, by rw [← ht]; exact hB.2, hnd, hL, HB, rfl, hR.kept (fun k x hx => ?_), ?_, ?_, hS1⟩
  · obtain ⟨hk, ex⟩ := mW_at _ _ _ _ _ _ k x hx
    rw [ex]
    exact hk1 (q k) (mW_lt hR hk) (fun z => z.elim (fun z => (hL _ z).2.2.2 k hk rfl) (fun z => absurd (mW_lt hR hk) (Nat.not_lt.mpr z)))
  · exact oK (L := L) hO1 (fun z => (hL o1 z).2.1 rfl) (fun r h1 h2 => hk1 r h1 (fun z => z.elim h2 (fun z => absurd h1 (Nat.not_lt.mpr z))))
  · exact oK (L := L) hO2 (fun z => (hL o2 z).2.2.1 rfl) (fun r h1 h2 => hk1 r h1 (fun z => z.elim h2 (fun z => absurd h1 (Nat.not_lt.mpr z))))
theorem lx_callt (C : lx_C l p s m args c G kT q o1 o2 b n xs) (hW : lx_W G kT q a0 o1 o2 T D U V th e1 e2 s H locs) (cw : CallW Rm s args RL RX6 index yX6_isTrue bytes maxL ret wsX6_isTrue rm 0 0 0) (hrm : ∀ (ad : pD) (L : List Nat) (K : pN) (R : pR) (I : pI) (A : mD) (Q : pR) (N : pN), Rep T D ad L K R I A Q N → cNi l yX6_isTrue wsX6_isTrue rm G kT [.ref (ad 0 0)] L K R I A Q N 0 0 [] (nI 1) (ΦR T D ad L K N)) (hs : ls.size = 10) (hroom : (rest.map fun v => v.category).sum ≤ 8) (hdg : decode cL_law pc = .ok (.invokevirtual index, 3)) (hcs : cells ≤ Rm.cells ∧ slots ≤ Rm.slots)
    (kk : ∀ (H1 : Heap) (locs1 : List Loc), lx_W G kT q a0 o1 o2 T D U V th e1 e2 s H1 locs1 → W p l e Rm s m args below meth c H1 locs1 cells slots Z (F0 m (pc + 3) ls (.int (nI 1) :: rest))) : W p l e Rm s m args below meth c H locs cells slots Z (F0 m pc ls (.ref a0 :: rest)) := by
  obtain ⟨ad, L, K, R, I, A, Q, N, hP, hnd, hL, HB, h0, hR, hO1, hO2, hS⟩ := hW
  obtain ⟨X, hK, hE, hX, hb, hq, hqo, ho1, ho2, ho, hst9⟩ := C
  have hsz := hS.1
  subst h0
  have hfr : ∀ a : Nat, cA L H.size a → lx_A s a := fun a h => h.elim (fun z => (hL a z).1) (fun h => Nat.le_trans hsz h)
  obtain ⟨k0, h9⟩ := cW_get (kT := kT) (R := R) (I := I) (A := A) (Q := Q) (N := N) (HB.mem lv_0) (pC_6 (HB.kn lv_0 rfl))
  refine va_calli (va_runV (As := []) (rest := rest) X (hrm ad L K R I A Q N HB H.size) cw ⟨fun a U g mk z => by obtain ⟨z0, z1, z2, z3, z4, z5⟩ := z; exact ⟨z0, z1, va_K.moved (u := U) (U := U.calling g mk a) (Vm.Alike.refl U.vm) z2, z3, z4, fun C h => absurd h List.not_mem_nil⟩, va_recv hK hP (ci := 8) (q0 := k0) rfl h9, fun U hU hWm => ⟨rfl, by rw [hU], va_K.moved hWm.alike hK, by rw [hU]; exact hP, hnd, fun C h => absurd h List.not_mem_nil⟩⟩ rfl rfl hs rfl (lv_room hroom) hdg hcs) hS (fun a _ h => hfr a h) hfr (fun r u t H1 locs1 ht hvm hw hB hz1 hk1 hS1 => ?_)
  subst hw
  obtain ⟨L2, K2, R2, I2, A2, Q2, N2, g1, g2, g3, g4, g5⟩ := hB
  obtain ⟨rfl, rfl, rfl, HB2⟩ := g5
  refine kk H1 locs1 ⟨ad, L, K, R2, I2, A2, Q2, N, by rw [← ht]; exact g2, hnd, hL, HB2, rfl, hR.kept (fun k x hx => ?_), ?_, ?_, hS1⟩
  · obtain ⟨hk, ex⟩ := mW_at _ _ _ _ _ _ k x hx
    rw [ex]
    exact hk1 (q k) (mW_lt hR hk) (fun z => z.elim (fun z => (hL _ z).2.2.2 k hk rfl) (fun z => absurd (mW_lt hR hk) (Nat.not_lt.mpr z)))
  · exact oK (L := L) hO1 (fun z => (hL o1 z).2.1 rfl) (fun r h1 h2 => hk1 r h1 (fun z => z.elim h2 (fun z => absurd h1 (Nat.not_lt.mpr z))))
  · exact oK (L := L) hO2 (fun z => (hL o2 z).2.2.1 rfl) (fun r h1 h2 => hk1 r h1 (fun z => z.elim h2 (fun z => absurd h1 (Nat.not_lt.mpr z))))
theorem lx_sld (C : lx_C l p s m args c G kT q o1 o2 b n xs) (hS : va_S (lx_A s) s.heap H locs) {j : Nat} (hj : j < n) (hj2 : n < 2 ^ 31) (hdg : decode cL_law pc = .ok (.iaload, 1)) (kk : W p l e Rm s m args below meth c H locs cells slots Z (F0 m (pc + 1) ls (.int (xs j) :: rest))) : W p l e Rm s m args below meth c H locs cells slots Z (F0 m pc ls (.int (nI j) :: .ref b :: rest)) := by
  obtain ⟨X, hK, hE, hX, hb, hq, hqo, ho1, ho2, ho, hst9⟩ := C
  have e9 : (nI j).toNatClampNeg = j := nI_clamp (by omega)
  refine va_sld X.1 X.2.1 hX hb (Nat.not_le.mpr hb) hS (vp_in_nI hj (by omega)) hdg ?_
  rw [e9]; exact kk
theorem lx_lld (C : lx_C l p s m args c G kT q o1 o2 b n xs) {f : Nat → Int64} (hW : lx_W G kT q a0 o1 o2 T D U V th (.inl (kT 9, 1, .inr (.inl f))) e2 s H locs) (hdg : decode cL_law pc = .ok (.laload, 1)) (kk : W p l e Rm s m args below meth c H locs cells slots Z (F0 m (pc + 1) ls (.long (f 0) :: rest))) : W p l e Rm s m args below meth c H locs cells slots Z (F0 m pc ls (.int (nI 0) :: .ref o1 :: rest)) := by
  obtain ⟨ad, L, K, R, I, A, Q, N, hP, hnd, hL, HB, h0, hR, hO1, hO2, hS⟩ := hW
  have e9 : (nI 0).toNatClampNeg = 0 := nI_clamp (by decide)
  refine va_lald C.1.1 C.1.2.1 C.2.1 hO1 0 9 rfl rfl (vp_in_nI (by decide) (by decide)) hdg ?_
  rw [e9]; exact kk
theorem lx_dld (C : lx_C l p s m args c G kT q o1 o2 b n xs) {f : Nat → UInt64} (hW : lx_W G kT q a0 o1 o2 T D U V th e1 (.inl (kT 10, 1, .inr (.inr (.inr (.inl f))))) s H locs) (hdg : decode cL_law pc = .ok (.daload, 1)) (kk : W p l e Rm s m args below meth c H locs cells slots Z (F0 m (pc + 1) ls (.double (f 0) :: rest))) : W p l e Rm s m args below meth c H locs cells slots Z (F0 m pc ls (.int (nI 0) :: .ref o2 :: rest)) := by
  obtain ⟨ad, L, K, R, I, A, Q, N, hP, hnd, hL, HB, h0, hR, hO1, hO2, hS⟩ := hW
  have e9 : (nI 0).toNatClampNeg = 0 := nI_clamp (by decide)
  refine va_dald C.1.1 C.1.2.1 C.2.1 hO2 0 10 rfl rfl (vp_in_nI (by decide) (by decide)) hdg ?_
  rw [e9]; exact kk
theorem lx_W.S (h : lx_W G kT q a0 o1 o2 T D U V th e1 e2 s H locs) : va_S (lx_A s) s.heap H locs := by
  obtain ⟨ad, L, K, R, I, A, Q, N, hP, hnd, hL, HB, h0, hR, hO1, hO2, hS⟩ := h
  exact hS
theorem lx_cmp0 (x : Int64) : lg_cmp x x = 0 := (lg_cmp_eq x x).mpr rfl
/-- what follows a call's case: the loop's step -/
def lx_K (p : Program) (l : Launch) (e : Env) (s : State) (m : MethodId) (args : Array Value) (below : List Frame) (meth : Method) (c : Code) (Z : State → Prop) (G : va_G) (kT : Nat → ClassId) (q : Nat → Nat) (a0 o1 o2 b cells slots i : Nat) : Prop :=
  ∀ (H : Heap) (locs : List Loc) (cells1 slots1 : Nat) (T : mT) (D : mD) (th : Int32) (e1 e2 : va_E), lx_W G kT q a0 o1 o2 T D T D th e1 e2 s H locs → oL kT False 0 e1 → oD kT False 0 e2 → cells1 ≤ cells + 2 → slots1 ≤ slots + 260 → ∀ ls : Array Slot, lv_has ls 10 (lx_l b a0 (q 0) o1 o2 i) → W p l e room_1 s m args below meth c H locs cells1 slots1 Z (F0 m 3303 ls [])
end LX
theorem sp_make_c (T : mT) (D : mD) (x1 x2 x3 x4 x5 : Int32) (m1 : Int64) (k1 k2 : Nat) : (sp_make T D x1 x2).1 ≤ 4 := by
  unfold sp_make
  (repeat' split) <;> first | exact Nat.le_of_ble_eq_true rfl | (unfold sk_make; (repeat' split) <;> exact Nat.le_of_ble_eq_true rfl)
theorem sp_put_c (T : mT) (D : mD) (x1 x2 x3 x4 x5 : Int32) (m1 : Int64) (k1 k2 : Nat) : (sp_put T D x1 x2 x3).1 ≤ 4 := by
  unfold sp_put
  (repeat' split) <;> first | exact Nat.le_of_ble_eq_true rfl | (unfold sk_put; (repeat' split) <;> exact Nat.le_of_ble_eq_true rfl)
theorem sp_fill_c (T : mT) (D : mD) (x1 x2 x3 x4 x5 : Int32) (m1 : Int64) (k1 k2 : Nat) : (sp_fill T D x1 x2 x3 x4 x5).1 ≤ 4 := by
  unfold sp_fill
  (repeat' split) <;> first | exact Nat.le_of_ble_eq_true rfl | (unfold sk_fill; (repeat' split) <;> exact Nat.le_of_ble_eq_true rfl)
theorem sp_get_c (T : mT) (D : mD) (x1 x2 x3 x4 x5 : Int32) (m1 : Int64) (k1 k2 : Nat) : (sp_get T D x1 x2).1 ≤ 4 := by
  unfold sp_get
  (repeat' split) <;> first | exact Nat.le_of_ble_eq_true rfl | (unfold sk_get; (repeat' split) <;> exact Nat.le_of_ble_eq_true rfl)
theorem sp_length_c (T : mT) (D : mD) (x1 x2 x3 x4 x5 : Int32) (m1 : Int64) (k1 k2 : Nat) : (sp_length T D x1).1 ≤ 4 := by
  unfold sp_length
  (repeat' split) <;> first | exact Nat.le_of_ble_eq_true rfl | (unfold sk_length; (repeat' split) <;> exact Nat.le_of_ble_eq_true rfl)
theorem sp_makeBytes_c (T : mT) (D : mD) (x1 x2 x3 x4 x5 : Int32) (m1 : Int64) (k1 k2 : Nat) : (sp_makeBytes T D x1 x2 x3 x4).1 ≤ 4 := by
  unfold sp_makeBytes
  (repeat' split) <;> first | exact Nat.le_of_ble_eq_true rfl | (unfold sk_makeBytes; (repeat' split) <;> exact Nat.le_of_ble_eq_true rfl)
theorem sp_putByte_c (T : mT) (D : mD) (x1 x2 x3 x4 x5 : Int32) (m1 : Int64) (k1 k2 : Nat) : (sp_putByte T D x1 x2 x3).1 ≤ 4 := by
  unfold sp_putByte
  (repeat' split) <;> first | exact Nat.le_of_ble_eq_true rfl | (unfold sk_putByte; (repeat' split) <;> exact Nat.le_of_ble_eq_true rfl)
theorem sp_getByte_c (T : mT) (D : mD) (x1 x2 x3 x4 x5 : Int32) (m1 : Int64) (k1 k2 : Nat) : (sp_getByte T D x1 x2).1 ≤ 4 := by
  unfold sp_getByte
  (repeat' split) <;> first | exact Nat.le_of_ble_eq_true rfl | (unfold sk_getByte; (repeat' split) <;> exact Nat.le_of_ble_eq_true rfl)
theorem sp_one_c (T : mT) (D : mD) (x1 x2 x3 x4 x5 : Int32) (m1 : Int64) (k1 k2 : Nat) : (sp_one T D k1 k2 x1 x2).1 ≤ 4 := by
  unfold sp_one
  (repeat' split) <;> first | exact Nat.le_of_ble_eq_true rfl | (unfold sk_one; (repeat' split) <;> exact Nat.le_of_ble_eq_true rfl)
theorem sp_part_c (T : mT) (D : mD) (x1 x2 x3 x4 x5 : Int32) (m1 : Int64) (k1 k2 : Nat) : (sp_part T D k1 x1 x2 x3 x4).1 ≤ 4 := by
  unfold sp_part
  (repeat' split) <;> first | exact Nat.le_of_ble_eq_true rfl | (unfold sk_part; (repeat' split) <;> exact Nat.le_of_ble_eq_true rfl)
theorem sp_taken_c (T : mT) (D : mD) (x1 x2 x3 x4 x5 : Int32) (m1 : Int64) (k1 k2 : Nat) : (sp_taken T D k1 x1 x2).1 ≤ 4 := by
  unfold sp_taken
  (repeat' split) <;> first | exact Nat.le_of_ble_eq_true rfl | (unfold sk_taken; (repeat' split) <;> exact Nat.le_of_ble_eq_true rfl)
theorem sp_size_c (T : mT) (D : mD) (x1 x2 x3 x4 x5 : Int32) (m1 : Int64) (k1 k2 : Nat) : (sp_size T D k1 x1).1 ≤ 4 := by
  unfold sp_size
  (repeat' split) <;> first | exact Nat.le_of_ble_eq_true rfl | (unfold sk_size; (repeat' split) <;> exact Nat.le_of_ble_eq_true rfl)
theorem sp_begin_c (T : mT) (D : mD) (x1 x2 x3 x4 x5 : Int32) (m1 : Int64) (k1 k2 : Nat) : (sp_begin T D k1 x1).1 ≤ 4 := by
  unfold sp_begin
  (repeat' split) <;> first | exact Nat.le_of_ble_eq_true rfl | (unfold sk_begin; (repeat' split) <;> exact Nat.le_of_ble_eq_true rfl)
theorem sp_pour_c (T : mT) (D : mD) (x1 x2 x3 x4 x5 : Int32) (m1 : Int64) (k1 k2 : Nat) : (sp_pour T D x1 x2).1 ≤ 4 := by
  unfold sp_pour
  (repeat' split) <;> first | exact Nat.le_of_ble_eq_true rfl | (unfold sk_pour; (repeat' split) <;> exact Nat.le_of_ble_eq_true rfl)
theorem sp_pourOver_c (T : mT) (D : mD) (x1 x2 x3 x4 x5 : Int32) (m1 : Int64) (k1 k2 : Nat) : (sp_pourOver T D x1 x2).1 ≤ 4 := by
  unfold sp_pourOver
  (repeat' split) <;> first | exact Nat.le_of_ble_eq_true rfl | (unfold sk_pourOver; (repeat' split) <;> exact Nat.le_of_ble_eq_true rfl)
theorem sp_areLike_c (T : mT) (D : mD) (x1 x2 x3 x4 x5 : Int32) (m1 : Int64) (k1 k2 : Nat) : (sp_areLike T D x1 x2).1 ≤ 4 := by
  unfold sp_areLike
  (repeat' split) <;> first | exact Nat.le_of_ble_eq_true rfl | (unfold sk_areLike; (repeat' split) <;> exact Nat.le_of_ble_eq_true rfl)
theorem sp_open_c (T : mT) (D : mD) (x1 x2 x3 x4 x5 : Int32) (m1 : Int64) (k1 k2 : Nat) : (sp_open T D x1 x2 x3 x4).1 ≤ 4 := by
  unfold sp_open
  (repeat' split) <;> first | exact Nat.le_of_ble_eq_true rfl | (unfold sk_open; (repeat' split) <;> exact Nat.le_of_ble_eq_true rfl)
theorem sp_openAll_c (T : mT) (D : mD) (x1 x2 x3 x4 x5 : Int32) (m1 : Int64) (k1 k2 : Nat) : (sp_openAll T D x1 x2).1 ≤ 4 := by
  unfold sp_openAll
  (repeat' split) <;> first | exact Nat.le_of_ble_eq_true rfl | (unfold sk_openAll; (repeat' split) <;> exact Nat.le_of_ble_eq_true rfl)
theorem sp_shut_c (T : mT) (D : mD) (x1 x2 x3 x4 x5 : Int32) (m1 : Int64) (k1 k2 : Nat) : (sp_shut T D x1).1 ≤ 4 := by
  unfold sp_shut
  (repeat' split) <;> first | exact Nat.le_of_ble_eq_true rfl | (unfold sk_shut; (repeat' split) <;> exact Nat.le_of_ble_eq_true rfl)
theorem sp_read_c (T : mT) (D : mD) (x1 x2 x3 x4 x5 : Int32) (m1 : Int64) (k1 k2 : Nat) : (sp_read T D x1).1 ≤ 4 := by
  unfold sp_read
  (repeat' split) <;> first | exact Nat.le_of_ble_eq_true rfl | (unfold sk_read; (repeat' split) <;> exact Nat.le_of_ble_eq_true rfl)
theorem sp_readPart_c (T : mT) (D : mD) (x1 x2 x3 x4 x5 : Int32) (m1 : Int64) (k1 k2 : Nat) : (sp_readPart T D x1 x2 x3 x4).1 ≤ 4 := by
  unfold sp_readPart
  (repeat' split) <;> first | exact Nat.le_of_ble_eq_true rfl | (unfold sk_readPart; (repeat' split) <;> exact Nat.le_of_ble_eq_true rfl)
theorem sp_skip_c (T : mT) (D : mD) (x1 x2 x3 x4 x5 : Int32) (m1 : Int64) (k1 k2 : Nat) : (sp_skip T D x1 m1).1 ≤ 4 := by
  unfold sp_skip
  (repeat' split) <;> first | exact Nat.le_of_ble_eq_true rfl | (unfold sk_skip; (repeat' split) <;> exact Nat.le_of_ble_eq_true rfl)
theorem sp_mark_c (T : mT) (D : mD) (x1 x2 x3 x4 x5 : Int32) (m1 : Int64) (k1 k2 : Nat) : (sp_mark T D x1 x2).1 ≤ 4 := by
  unfold sp_mark
  (repeat' split) <;> first | exact Nat.le_of_ble_eq_true rfl | (unfold sk_mark; (repeat' split) <;> exact Nat.le_of_ble_eq_true rfl)
theorem sp_back_c (T : mT) (D : mD) (x1 x2 x3 x4 x5 : Int32) (m1 : Int64) (k1 k2 : Nat) : (sp_back T D x1).1 ≤ 4 := by
  unfold sp_back
  (repeat' split) <;> first | exact Nat.le_of_ble_eq_true rfl | (unfold sk_back; (repeat' split) <;> exact Nat.le_of_ble_eq_true rfl)
theorem sp_join_c (T : mT) (D : mD) (x1 x2 x3 x4 x5 : Int32) (m1 : Int64) (k1 k2 : Nat) : (sp_join T D x1 x2 x3).1 ≤ 4 := by
  unfold sp_join
  (repeat' split) <;> first | exact Nat.le_of_ble_eq_true rfl | (unfold sk_join; (repeat' split) <;> exact Nat.le_of_ble_eq_true rfl)
theorem sp_joinThree_c (T : mT) (D : mD) (x1 x2 x3 x4 x5 : Int32) (m1 : Int64) (k1 k2 : Nat) : (sp_joinThree T D x1 x2 x3 x4).1 ≤ 4 := by
  unfold sp_joinThree
  (repeat' split) <;> first | exact Nat.le_of_ble_eq_true rfl | (unfold sk_joinThree; (repeat' split) <;> exact Nat.le_of_ble_eq_true rfl)
theorem sp_next_c (T : mT) (D : mD) (x1 x2 x3 x4 x5 : Int32) (m1 : Int64) (k1 k2 : Nat) : (sp_next T D x1).1 ≤ 4 := by
  unfold sp_next
  (repeat' split) <;> first | exact Nat.le_of_ble_eq_true rfl | (unfold sk_next; (repeat' split) <;> exact Nat.le_of_ble_eq_true rfl)
theorem sp_left_c (T : mT) (D : mD) (x1 x2 x3 x4 x5 : Int32) (m1 : Int64) (k1 k2 : Nat) : (sp_left T D x1).1 ≤ 4 := by
  unfold sp_left
  (repeat' split) <;> first | exact Nat.le_of_ble_eq_true rfl | (unfold sk_left; (repeat' split) <;> exact Nat.le_of_ble_eq_true rfl)
theorem sp_nextPart_c (T : mT) (D : mD) (x1 x2 x3 x4 x5 : Int32) (m1 : Int64) (k1 k2 : Nat) : (sp_nextPart T D x1 x2 x3 x4).1 ≤ 4 := by
  unfold sp_nextPart
  (repeat' split) <;> first | exact Nat.le_of_ble_eq_true rfl | (unfold sk_nextPart; (repeat' split) <;> exact Nat.le_of_ble_eq_true rfl)
theorem sp_pass_c (T : mT) (D : mD) (x1 x2 x3 x4 x5 : Int32) (m1 : Int64) (k1 k2 : Nat) : (sp_pass T D x1 m1).1 ≤ 4 := by
  unfold sp_pass
  (repeat' split) <;> first | exact Nat.le_of_ble_eq_true rfl | (unfold sk_pass; (repeat' split) <;> exact Nat.le_of_ble_eq_true rfl)
theorem sp_share_c (T : mT) (D : mD) (x1 x2 x3 x4 x5 : Int32) (m1 : Int64) (k1 k2 : Nat) : (sp_share T D x1).1 ≤ 4 := by
  unfold sp_share
  (repeat' split) <;> first | exact Nat.le_of_ble_eq_true rfl | (unfold sk_share; (repeat' split) <;> exact Nat.le_of_ble_eq_true rfl)
