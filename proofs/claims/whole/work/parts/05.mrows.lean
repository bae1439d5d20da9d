/-! the reference: its object and its 20 arrays; rows of signs, bytes and texts as they are (D), all else as numbers (T; those that may be -1 one higher) -/
def mWl (cI cZ : ClassId) (q : Nat → Nat) (T : mT) (D : mD) (th : Int32) : va_W := [(q 0, .inr (9, [.ref (q 1), .ref (q 2), .ref (q 3), .ref (q 4), .ref (q 5), .ref (q 6), .ref (q 7), .ref (q 8), .ref (q 9), .ref (q 10), .ref (q 11), .ref (q 12), .ref (q 13), .ref (q 14), .ref (q 15), .ref (q 16), .ref (q 17), .ref (q 18), .ref (q 19), .ref (q 20), .int th])), (q 1, .inl (cI, 2048, .inl (D 0))), (q 2, .inl (cI, 8, .inl (fun b => nI (T 1 b)))), (q 3, .inl (cI, 4, .inl (fun b => nI (T 2 b)))), (q 4, .inl (cI, 704, .inl (D 3))), (q 5, .inl (cI, 11, .inl (fun b => nI (T 4 b)))), (q 6, .inl (cI, 4, .inl (fun b => nI (T 5 b)))), (q 7, .inl (cI, 1536, .inl (D 6))), (q 8, .inl (cI, 6, .inl (fun b => nI (T 7 b)))), (q 9, .inl (cI, 3, .inl (fun b => nI (T 8 b) - 1))), (q 10, .inl (cI, 3, .inl (fun b => nI (T 9 b)))), (q 11, .inl (cI, 3, .inl (fun b => nI (T 10 b)))), (q 12, .inl (cI, 3, .inl (fun b => nI (T 11 b)))), (q 13, .inl (cZ, 3, .inl (fun b => nI (T 12 b)))), (q 14, .inl (cI, 2, .inl (fun b => nI (T 13 b)))), (q 15, .inl (cI, 6, .inl (fun b => nI (T 14 b) - 1))), (q 16, .inl (cI, 6, .inl (fun b => nI (T 15 b)))), (q 17, .inl (cI, 2, .inl (fun b => nI (T 16 b)))), (q 18, .inl (cI, 2, .inl (fun b => nI (T 17 b)))), (q 19, .inl (cI, 2, .inl (fun b => nI (T 18 b)))), (q 20, .inl (cI, 256, .inl (D 19)))]
abbrev mtys (cI cZ : ClassId) : List (ClassId × FieldType) := [(cI, .int), (cZ, .boolean)]
def mA (q : Nat → Nat) (sz : Nat) : Nat → Prop := fun a => (∃ k, k < 21 ∧ a = q k) ∨ sz ≤ a
abbrev mJ (q : Nat → Nat) : Prop := ∀ i j, i < 21 → j < 21 → q i = q j → i = j
theorem mW_at (cI cZ : ClassId) (q : Nat → Nat) (T : mT) (D : mD) (th : Int32) (k : Nat) (x : Nat × va_E) (h : (mWl cI cZ q T D th)[k]? = some x) : k < 21 ∧ x.1 = q k := by
  have hk : k < 21 := (List.getElem?_eq_some_iff.mp h).1
  refine ⟨hk, ?_⟩
  have h9 : ((mWl cI cZ q T D th).map (fun y => y.1))[k]? = some x.1 := by rw [List.getElem?_map, h]; rfl
  have h8 : (mWl cI cZ q T D th).map (fun y => y.1) = (List.range 21).map q := rfl
  rw [h8, List.getElem?_map, List.getElem?_range hk] at h9
  exact (Option.some.inj h9).symm
theorem mW_D {cI cZ : ClassId} {q : Nat → Nat} (hq : mJ q) (T : mT) (D : mD) (th : Int32) (sz : Nat) : va_D (mA q sz) (mWl cI cZ q T D th) := by
  refine ⟨fun i j x y hx hy hxy => ?_, fun k x hx => ?_⟩
  · obtain ⟨hi, ex⟩ := mW_at _ _ _ _ _ _ i x hx
    obtain ⟨hj, ey⟩ := mW_at _ _ _ _ _ _ j y hy
    exact hq i j hi hj (by rw [← ex, ← ey]; exact hxy)
  · obtain ⟨hi, ex⟩ := mW_at _ _ _ _ _ _ k x hx
    exact Or.inl ⟨k, hi, ex⟩
def mH (G : va_G) (cI cZ : ClassId) (q : Nat → Nat) (T : mT) (D : mD) (th : Int32) (s : State) (H : Heap) (locs : List Loc) : Prop := va_K G vwCl (mtys cI cZ) s ∧ va_P G vwCl (mWl cI cZ q T D th) H ∧ va_S (mA q s.heap.size) s.heap H locs
theorem mH.eq {G : va_G} {cI cZ : ClassId} {q : Nat → Nat} {T T2 : mT} {D D2 : mD} {th th2 : Int32} {s : State} {H : Heap} {locs : List Loc} (h : mH G cI cZ q T D th s H locs) (e1 : T = T2) (e2 : D = D2) (e3 : th = th2) : mH G cI cZ q T2 D2 th2 s H locs := by subst e1; subst e2; subst e3; exact h
section MR
variable {p : Program} {l : Launch} {e : Env} {R : Room} {s : State} {m : MethodId} {args : Array Value} {below : List Frame} {meth : Method} {c : Code} {H : Heap} {locs : List Loc} {cells slots : Nat} {Q : State → Prop} {cc : ByteArray} {pc nL : Nat} {ls : Array Slot} {rest : List Value} {Ts : List Cond} {own : String}
variable {G : va_G} {cI cZ : ClassId} {q : Nat → Nat} {T : mT} {D : mD} {th : Int32}

theorem mget (k : Nat) (hk : k < 21) {v : Value} (hv : ([.ref (q 1), .ref (q 2), .ref (q 3), .ref (q 4), .ref (q 5), .ref (q 6), .ref (q 7), .ref (q 8), .ref (q 9), .ref (q 10), .ref (q 11), .ref (q 12), .ref (q 13), .ref (q 14), .ref (q 15), .ref (q 16), .ref (q 17), .ref (q 18), .ref (q 19), .ref (q 20), .int th] : List Value)[k]? = some v) (X : CallFix p m c cc nL s args Ts RX7) (hin : ∀ w ∈ wsX70, w ∈ Ts) (hW : mH G cI cZ q T D th s H locs) {index : Nat} (hlink : (Cond.fieldLink RX7 index (TX7 k).1 (TX7 k).2.1 (TX7 k).2.2.1).before args s = true) (hdg : decode cc pc = .ok (.getfield index, 3)) (kk : W p l e R s m args below meth c H locs cells slots Q (F0 m (pc + 3) ls (v :: rest))) : W p l e R s m args below meth c H locs cells slots Q (F0 m pc ls (.ref (q 0) :: rest)) :=
  va_get (D := G) (ci := 9) (C := RX7) (T := TX7) (N := 21) (own := RX7) (ref := (TX7 k).1) X.1 X.2.1 X.2.2.2.2 hin X.2.2.2.1 hW.1 hW.2.1 0 rfl rfl k hk hlink (fun _ h9 => h9) hv hdg kk
theorem mputth (hq : mJ q) (X : CallFix p m c cc nL s args Ts RX7) (hin : ∀ w ∈ wsX70, w ∈ Ts) (hW : mH G cI cZ q T D th s H locs) {index : Nat} {x : Int32} (hlink : (Cond.fieldLink RX7 index (TX7 20).1 (TX7 20).2.1 (TX7 20).2.2.1).before args s = true) (hdg : decode cc pc = .ok (.putfield index, 3)) (kk : ∀ (H1 : Heap) (locs1 : List Loc), mH G cI cZ q T D x s H1 locs1 → W p l e R s m args below meth c H1 locs1 cells slots Q (F0 m (pc + 3) ls rest)) : W p l e R s m args below meth c H locs cells slots Q (F0 m pc ls (.int x :: .ref (q 0) :: rest)) :=
  va_put (D := G) (ci := 9) (v := .int x) (ty := .int) (C := RX7) (T := TX7) (N := 21) (own := RX7) (ref := (TX7 20).1) X.1 X.2.1 X.2.2.2.2 hin tyX7 tyX7_ok nmX7 X.2.2.2.1 hW.1 hW.2.1 (mW_D hq T D th _) hW.2.2 0 rfl rfl 20 (by decide) hlink (fun _ h9 => h9) rfl (by decide +kernel) rfl rfl (Nat.le_of_ble_eq_true rfl) hdg (fun H1 locs1 hP hD hS => kk H1 locs1 ⟨hW.1, hP, hS⟩)
theorem mld0 (X : CallFix p m c cc nL s args Ts own) (hW : mH G cI cZ q T D th s H locs) {j : Nat} (hj : j < 2048) (hdg : decode cc pc = .ok (.iaload, 1)) (kk : W p l e R s m args below meth c H locs cells slots Q (F0 m (pc + 1) ls (.int (D 0 j) :: rest))) : W p l e R s m args below meth c H locs cells slots Q (F0 m pc ls (.int (nI j) :: .ref (q 1) :: rest)) := by
  refine va_iald X.1 X.2.1 hW.1 hW.2.1 1 0 rfl rfl (vp_in_nI hj (by omega)) hdg ?_
  have e9 : (nI j).toNatClampNeg = j := nI_clamp (by omega)
  have e8 : D 0 (nI j).toNatClampNeg = D 0 j := by
    rw [e9]
  rw [e8]
  exact kk
theorem mst0 (hq : mJ q) (X : CallFix p m c cc nL s args Ts own) (hW : mH G cI cZ q T D th s H locs) {j : Nat} {x : Int32} (hj : j < 2048) (hdg : decode cc pc = .ok (.iastore, 1)) (kk : ∀ (H1 : Heap) (locs1 : List Loc), mH G cI cZ q (T) (u2 D 0 j x) th s H1 locs1 → W p l e R s m args below meth c H1 locs1 cells slots Q (F0 m (pc + 1) ls rest)) : W p l e R s m args below meth c H locs cells slots Q (F0 m pc ls (.int (x) :: .int (nI j) :: .ref (q 1) :: rest)) := by
  refine va_iast X.1 X.2.1 hW.1 hW.2.1 (mW_D hq T D th _) hW.2.2 1 0 rfl rfl (vp_in_nI hj (by omega)) hdg (fun H1 locs1 hP hD hS => kk H1 locs1 ⟨hW.1, ?_, hS⟩)
  have e9 : (nI j).toNatClampNeg = j := nI_clamp (by omega)
  have e8 : upd (D 0) j (x) = (u2 D 0 j x 0) := by
    funext b
    simp only [upd, u2, if_true]
  rw [e9, e8] at hP
  exact hP
theorem mld1 (X : CallFix p m c cc nL s args Ts own) (hW : mH G cI cZ q T D th s H locs) {j : Nat} (hj : j < 8) (hdg : decode cc pc = .ok (.iaload, 1)) (kk : W p l e R s m args below meth c H locs cells slots Q (F0 m (pc + 1) ls (.int (nI (T 1 j)) :: rest))) : W p l e R s m args below meth c H locs cells slots Q (F0 m pc ls (.int (nI j) :: .ref (q 2) :: rest)) := by
  refine va_iald X.1 X.2.1 hW.1 hW.2.1 2 0 rfl rfl (vp_in_nI hj (by omega)) hdg ?_
  have e9 : (nI j).toNatClampNeg = j := nI_clamp (by omega)
  have e8 : nI (T 1 (nI j).toNatClampNeg) = nI (T 1 j) := by
    rw [e9]
  rw [e8]
  exact kk
theorem mst1 (hq : mJ q) (X : CallFix p m c cc nL s args Ts own) (hW : mH G cI cZ q T D th s H locs) {j : Nat} {v : Nat} (hj : j < 8) (hdg : decode cc pc = .ok (.iastore, 1)) (kk : ∀ (H1 : Heap) (locs1 : List Loc), mH G cI cZ q (u2 T 1 j v) (D) th s H1 locs1 → W p l e R s m args below meth c H1 locs1 cells slots Q (F0 m (pc + 1) ls rest)) : W p l e R s m args below meth c H locs cells slots Q (F0 m pc ls (.int (nI v) :: .int (nI j) :: .ref (q 2) :: rest)) := by
  refine va_iast X.1 X.2.1 hW.1 hW.2.1 (mW_D hq T D th _) hW.2.2 2 0 rfl rfl (vp_in_nI hj (by omega)) hdg (fun H1 locs1 hP hD hS => kk H1 locs1 ⟨hW.1, ?_, hS⟩)
  have e9 : (nI j).toNatClampNeg = j := nI_clamp (by omega)
  have e8 : upd (fun b => nI (T 1 b)) j (nI v) = (fun b => nI (u2 T 1 j v 1 b)) := by
    funext b
    simp only [upd, u2, if_true]
    by_cases g : b = j
    · simp only [if_pos g]
    · simp only [if_neg g]
  rw [e9, e8] at hP
  exact hP
theorem mld2 (X : CallFix p m c cc nL s args Ts own) (hW : mH G cI cZ q T D th s H locs) {j : Nat} (hj : j < 4) (hdg : decode cc pc = .ok (.iaload, 1)) (kk : W p l e R s m args below meth c H locs cells slots Q (F0 m (pc + 1) ls (.int (nI (T 2 j)) :: rest))) : W p l e R s m args below meth c H locs cells slots Q (F0 m pc ls (.int (nI j) :: .ref (q 3) :: rest)) := by
  refine va_iald X.1 X.2.1 hW.1 hW.2.1 3 0 rfl rfl (vp_in_nI hj (by omega)) hdg ?_
  have e9 : (nI j).toNatClampNeg = j := nI_clamp (by omega)
  have e8 : nI (T 2 (nI j).toNatClampNeg) = nI (T 2 j) := by
    rw [e9]
  rw [e8]
  exact kk
theorem mst2 (hq : mJ q) (X : CallFix p m c cc nL s args Ts own) (hW : mH G cI cZ q T D th s H locs) {j : Nat} {v : Nat} (hj : j < 4) (hdg : decode cc pc = .ok (.iastore, 1)) (kk : ∀ (H1 : Heap) (locs1 : List Loc), mH G cI cZ q (u2 T 2 j v) (D) th s H1 locs1 → W p l e R s m args below meth c H1 locs1 cells slots Q (F0 m (pc + 1) ls rest)) : W p l e R s m args below meth c H locs cells slots Q (F0 m pc ls (.int (nI v) :: .int (nI j) :: .ref (q 3) :: rest)) := by
  refine va_iast X.1 X.2.1 hW.1 hW.2.1 (mW_D hq T D th _) hW.2.2 3 0 rfl rfl (vp_in_nI hj (by omega)) hdg (fun H1 locs1 hP hD hS => kk H1 locs1 ⟨hW.1, ?_, hS⟩)
  have e9 : (nI j).toNatClampNeg = j := nI_clamp (by omega)
  have e8 : upd (fun b => nI (T 2 b)) j (nI v) = (fun b => nI (u2 T 2 j v 2 b)) := by
    funext b
    simp only [upd, u2, if_true]
    by_cases g : b = j
    · simp only [if_pos g]
    · simp only [if_neg g]
  rw [e9, e8] at hP
  exact hP
theorem mld3 (X : CallFix p m c cc nL s args Ts own) (hW : mH G cI cZ q T D th s H locs) {j : Nat} (hj : j < 704) (hdg : decode cc pc = .ok (.iaload, 1)) (kk : W p l e R s m args below meth c H locs cells slots Q (F0 m (pc + 1) ls (.int (D 3 j) :: rest))) : W p l e R s m args below meth c H locs cells slots Q (F0 m pc ls (.int (nI j) :: .ref (q 4) :: rest)) := by
  refine va_iald X.1 X.2.1 hW.1 hW.2.1 4 0 rfl rfl (vp_in_nI hj (by omega)) hdg ?_
  have e9 : (nI j).toNatClampNeg = j := nI_clamp (by omega)
  have e8 : D 3 (nI j).toNatClampNeg = D 3 j := by
    rw [e9]
  rw [e8]
  exact kk
theorem mst3 (hq : mJ q) (X : CallFix p m c cc nL s args Ts own) (hW : mH G cI cZ q T D th s H locs) {j : Nat} {x : Int32} (hj : j < 704) (hdg : decode cc pc = .ok (.iastore, 1)) (kk : ∀ (H1 : Heap) (locs1 : List Loc), mH G cI cZ q (T) (u2 D 3 j x) th s H1 locs1 → W p l e R s m args below meth c H1 locs1 cells slots Q (F0 m (pc + 1) ls rest)) : W p l e R s m args below meth c H locs cells slots Q (F0 m pc ls (.int (x) :: .int (nI j) :: .ref (q 4) :: rest)) := by
  refine va_iast X.1 X.2.1 hW.1 hW.2.1 (mW_D hq T D th _) hW.2.2 4 0 rfl rfl (vp_in_nI hj (by omega)) hdg (fun H1 locs1 hP hD hS => kk H1 locs1 ⟨hW.1, ?_, hS⟩)
  have e9 : (nI j).toNatClampNeg = j := nI_clamp (by omega)
  have e8 : upd (D 3) j (x) = (u2 D 3 j x 3) := by
    funext b
    simp only [upd, u2, if_true]
  rw [e9, e8] at hP
  exact hP
theorem mld4 (X : CallFix p m c cc nL s args Ts own) (hW : mH G cI cZ q T D th s H locs) {j : Nat} (hj : j < 11) (hdg : decode cc pc = .ok (.iaload, 1)) (kk : W p l e R s m args below meth c H locs cells slots Q (F0 m (pc + 1) ls (.int (nI (T 4 j)) :: rest))) : W p l e R s m args below meth c H locs cells slots Q (F0 m pc ls (.int (nI j) :: .ref (q 5) :: rest)) := by
  refine va_iald X.1 X.2.1 hW.1 hW.2.1 5 0 rfl rfl (vp_in_nI hj (by omega)) hdg ?_
  have e9 : (nI j).toNatClampNeg = j := nI_clamp (by omega)
  have e8 : nI (T 4 (nI j).toNatClampNeg) = nI (T 4 j) := by
    rw [e9]
  rw [e8]
  exact kk
theorem mst4 (hq : mJ q) (X : CallFix p m c cc nL s args Ts own) (hW : mH G cI cZ q T D th s H locs) {j : Nat} {v : Nat} (hj : j < 11) (hdg : decode cc pc = .ok (.iastore, 1)) (kk : ∀ (H1 : Heap) (locs1 : List Loc), mH G cI cZ q (u2 T 4 j v) (D) th s H1 locs1 → W p l e R s m args below meth c H1 locs1 cells slots Q (F0 m (pc + 1) ls rest)) : W p l e R s m args below meth c H locs cells slots Q (F0 m pc ls (.int (nI v) :: .int (nI j) :: .ref (q 5) :: rest)) := by
  refine va_iast X.1 X.2.1 hW.1 hW.2.1 (mW_D hq T D th _) hW.2.2 5 0 rfl rfl (vp_in_nI hj (by omega)) hdg (fun H1 locs1 hP hD hS => kk H1 locs1 ⟨hW.1, ?_, hS⟩)
  have e9 : (nI j).toNatClampNeg = j := nI_clamp (by omega)
  have e8 : upd (fun b => nI (T 4 b)) j (nI v) = (fun b => nI (u2 T 4 j v 4 b)) := by
    funext b
    simp only [upd, u2, if_true]
    by_cases g : b = j
    · simp only [if_pos g]
    · simp only [if_neg g]
  rw [e9, e8] at hP
  exact hP
theorem mld5 (X : CallFix p m c cc nL s args Ts own) (hW : mH G cI cZ q T D th s H locs) {j : Nat} (hj : j < 4) (hdg : decode cc pc = .ok (.iaload, 1)) (kk : W p l e R s m args below meth c H locs cells slots Q (F0 m (pc + 1) ls (.int (nI (T 5 j)) :: rest))) : W p l e R s m args below meth c H locs cells slots Q (F0 m pc ls (.int (nI j) :: .ref (q 6) :: rest)) := by
  refine va_iald X.1 X.2.1 hW.1 hW.2.1 6 0 rfl rfl (vp_in_nI hj (by omega)) hdg ?_
  have e9 : (nI j).toNatClampNeg = j := nI_clamp (by omega)
  have e8 : nI (T 5 (nI j).toNatClampNeg) = nI (T 5 j) := by
    rw [e9]
  rw [e8]
  exact kk
theorem mst5 (hq : mJ q) (X : CallFix p m c cc nL s args Ts own) (hW : mH G cI cZ q T D th s H locs) {j : Nat} {v : Nat} (hj : j < 4) (hdg : decode cc pc = .ok (.iastore, 1)) (kk : ∀ (H1 : Heap) (locs1 : List Loc), mH G cI cZ q (u2 T 5 j v) (D) th s H1 locs1 → W p l e R s m args below meth c H1 locs1 cells slots Q (F0 m (pc + 1) ls rest)) : W p l e R s m args below meth c H locs cells slots Q (F0 m pc ls (.int (nI v) :: .int (nI j) :: .ref (q 6) :: rest)) := by
  refine va_iast X.1 X.2.1 hW.1 hW.2.1 (mW_D hq T D th _) hW.2.2 6 0 rfl rfl (vp_in_nI hj (by omega)) hdg (fun H1 locs1 hP hD hS => kk H1 locs1 ⟨hW.1, ?_, hS⟩)
  have e9 : (nI j).toNatClampNeg = j := nI_clamp (by omega)
  have e8 : upd (fun b => nI (T 5 b)) j (nI v) = (fun b => nI (u2 T 5 j v 5 b)) := by
    funext b
    simp only [upd, u2, if_true]
    by_cases g : b = j
    · simp only [if_pos g]
    · simp only [if_neg g]
  rw [e9, e8] at hP
  exact hP
theorem mld6 (X : CallFix p m c cc nL s args Ts own) (hW : mH G cI cZ q T D th s H locs) {j : Nat} (hj : j < 1536) (hdg : decode cc pc = .ok (.iaload, 1)) (kk : W p l e R s m args below meth c H locs cells slots Q (F0 m (pc + 1) ls (.int (D 6 j) :: rest))) : W p l e R s m args below meth c H locs cells slots Q (F0 m pc ls (.int (nI j) :: .ref (q 7) :: rest)) := by
  refine va_iald X.1 X.2.1 hW.1 hW.2.1 7 0 rfl rfl (vp_in_nI hj (by omega)) hdg ?_
  have e9 : (nI j).toNatClampNeg = j := nI_clamp (by omega)
  have e8 : D 6 (nI j).toNatClampNeg = D 6 j := by
    rw [e9]
  rw [e8]
  exact kk
theorem mst6 (hq : mJ q) (X : CallFix p m c cc nL s args Ts own) (hW : mH G cI cZ q T D th s H locs) {j : Nat} {x : Int32} (hj : j < 1536) (hdg : decode cc pc = .ok (.iastore, 1)) (kk : ∀ (H1 : Heap) (locs1 : List Loc), mH G cI cZ q (T) (u2 D 6 j x) th s H1 locs1 → W p l e R s m args below meth c H1 locs1 cells slots Q (F0 m (pc + 1) ls rest)) : W p l e R s m args below meth c H locs cells slots Q (F0 m pc ls (.int (x) :: .int (nI j) :: .ref (q 7) :: rest)) := by
  refine va_iast X.1 X.2.1 hW.1 hW.2.1 (mW_D hq T D th _) hW.2.2 7 0 rfl rfl (vp_in_nI hj (by omega)) hdg (fun H1 locs1 hP hD hS => kk H1 locs1 ⟨hW.1, ?_, hS⟩)
  have e9 : (nI j).toNatClampNeg = j := nI_clamp (by omega)
  have e8 : upd (D 6) j (x) = (u2 D 6 j x 6) := by
    funext b
    simp only [upd, u2, if_true]
  rw [e9, e8] at hP
  exact hP
theorem mld7 (X : CallFix p m c cc nL s args Ts own) (hW : mH G cI cZ q T D th s H locs) {j : Nat} (hj : j < 6) (hdg : decode cc pc = .ok (.iaload, 1)) (kk : W p l e R s m args below meth c H locs cells slots Q (F0 m (pc + 1) ls (.int (nI (T 7 j)) :: rest))) : W p l e R s m args below meth c H locs cells slots Q (F0 m pc ls (.int (nI j) :: .ref (q 8) :: rest)) := by
  refine va_iald X.1 X.2.1 hW.1 hW.2.1 8 0 rfl rfl (vp_in_nI hj (by omega)) hdg ?_
  have e9 : (nI j).toNatClampNeg = j := nI_clamp (by omega)
  have e8 : nI (T 7 (nI j).toNatClampNeg) = nI (T 7 j) := by
    rw [e9]
  rw [e8]
  exact kk
theorem mst7 (hq : mJ q) (X : CallFix p m c cc nL s args Ts own) (hW : mH G cI cZ q T D th s H locs) {j : Nat} {v : Nat} (hj : j < 6) (hdg : decode cc pc = .ok (.iastore, 1)) (kk : ∀ (H1 : Heap) (locs1 : List Loc), mH G cI cZ q (u2 T 7 j v) (D) th s H1 locs1 → W p l e R s m args below meth c H1 locs1 cells slots Q (F0 m (pc + 1) ls rest)) : W p l e R s m args below meth c H locs cells slots Q (F0 m pc ls (.int (nI v) :: .int (nI j) :: .ref (q 8) :: rest)) := by
  refine va_iast X.1 X.2.1 hW.1 hW.2.1 (mW_D hq T D th _) hW.2.2 8 0 rfl rfl (vp_in_nI hj (by omega)) hdg (fun H1 locs1 hP hD hS => kk H1 locs1 ⟨hW.1, ?_, hS⟩)
  have e9 : (nI j).toNatClampNeg = j := nI_clamp (by omega)
  have e8 : upd (fun b => nI (T 7 b)) j (nI v) = (fun b => nI (u2 T 7 j v 7 b)) := by
    funext b
    simp only [upd, u2, if_true]
    by_cases g : b = j
    · simp only [if_pos g]
    · simp only [if_neg g]
  rw [e9, e8] at hP
  exact hP
theorem mld8_0 (X : CallFix p m c cc nL s args Ts own) (hW : mH G cI cZ q T D th s H locs) {j : Nat} (hj : j < 3) (hz : T 8 j = 0) (hdg : decode cc pc = .ok (.iaload, 1)) (kk : W p l e R s m args below meth c H locs cells slots Q (F0 m (pc + 1) ls (.int (-1) :: rest))) : W p l e R s m args below meth c H locs cells slots Q (F0 m pc ls (.int (nI j) :: .ref (q 9) :: rest)) := by
  refine va_iald X.1 X.2.1 hW.1 hW.2.1 9 0 rfl rfl (vp_in_nI hj (by omega)) hdg ?_
  have e9 : (nI j).toNatClampNeg = j := nI_clamp (by omega)
  have e8 : nI (T 8 (nI j).toNatClampNeg) - 1 = -1 := by
    rw [e9]
    show nI (T 8 j) - 1 = -1
    rw [hz]; rfl
  rw [e8]
  exact kk
theorem mld8_s (X : CallFix p m c cc nL s args Ts own) (hW : mH G cI cZ q T D th s H locs) {j : Nat} (hj : j < 3) {z : Nat} (hz : T 8 j = z + 1) (hdg : decode cc pc = .ok (.iaload, 1)) (kk : W p l e R s m args below meth c H locs cells slots Q (F0 m (pc + 1) ls (.int (nI z) :: rest))) : W p l e R s m args below meth c H locs cells slots Q (F0 m pc ls (.int (nI j) :: .ref (q 9) :: rest)) := by
  refine va_iald X.1 X.2.1 hW.1 hW.2.1 9 0 rfl rfl (vp_in_nI hj (by omega)) hdg ?_
  have e9 : (nI j).toNatClampNeg = j := nI_clamp (by omega)
  have e8 : nI (T 8 (nI j).toNatClampNeg) - 1 = nI z := by
    rw [e9]
    show nI (T 8 j) - 1 = nI z
    rw [hz]; exact nI_pred z
  rw [e8]
  exact kk
theorem mst8_0 (hq : mJ q) (X : CallFix p m c cc nL s args Ts own) (hW : mH G cI cZ q T D th s H locs) {j : Nat} (hj : j < 3) (hdg : decode cc pc = .ok (.iastore, 1)) (kk : ∀ (H1 : Heap) (locs1 : List Loc), mH G cI cZ q (u2 T 8 j 0) (D) th s H1 locs1 → W p l e R s m args below meth c H1 locs1 cells slots Q (F0 m (pc + 1) ls rest)) : W p l e R s m args below meth c H locs cells slots Q (F0 m pc ls (.int (-1) :: .int (nI j) :: .ref (q 9) :: rest)) := by
  refine va_iast X.1 X.2.1 hW.1 hW.2.1 (mW_D hq T D th _) hW.2.2 9 0 rfl rfl (vp_in_nI hj (by omega)) hdg (fun H1 locs1 hP hD hS => kk H1 locs1 ⟨hW.1, ?_, hS⟩)
  have e9 : (nI j).toNatClampNeg = j := nI_clamp (by omega)
  have e8 : upd (fun b => nI (T 8 b) - 1) j (-1) = (fun b => nI (u2 T 8 j 0 8 b) - 1) := by
    funext b
    simp only [upd, u2, if_true]
    by_cases g : b = j
    · simp only [if_pos g]
      rfl
    · simp only [if_neg g]
  rw [e9, e8] at hP
  exact hP
theorem mst8_s (hq : mJ q) (X : CallFix p m c cc nL s args Ts own) (hW : mH G cI cZ q T D th s H locs) {j : Nat} {z : Nat} (hj : j < 3) (hdg : decode cc pc = .ok (.iastore, 1)) (kk : ∀ (H1 : Heap) (locs1 : List Loc), mH G cI cZ q (u2 T 8 j (z + 1)) (D) th s H1 locs1 → W p l e R s m args below meth c H1 locs1 cells slots Q (F0 m (pc + 1) ls rest)) : W p l e R s m args below meth c H locs cells slots Q (F0 m pc ls (.int (nI z) :: .int (nI j) :: .ref (q 9) :: rest)) := by
  refine va_iast X.1 X.2.1 hW.1 hW.2.1 (mW_D hq T D th _) hW.2.2 9 0 rfl rfl (vp_in_nI hj (by omega)) hdg (fun H1 locs1 hP hD hS => kk H1 locs1 ⟨hW.1, ?_, hS⟩)
  have e9 : (nI j).toNatClampNeg = j := nI_clamp (by omega)
  have e8 : upd (fun b => nI (T 8 b) - 1) j (nI z) = (fun b => nI (u2 T 8 j (z + 1) 8 b) - 1) := by
    funext b
    simp only [upd, u2, if_true]
    by_cases g : b = j
    · simp only [if_pos g]
      exact (nI_pred z).symm
    · simp only [if_neg g]
  rw [e9, e8] at hP
  exact hP
theorem mld9 (X : CallFix p m c cc nL s args Ts own) (hW : mH G cI cZ q T D th s H locs) {j : Nat} (hj : j < 3) (hdg : decode cc pc = .ok (.iaload, 1)) (kk : W p l e R s m args below meth c H locs cells slots Q (F0 m (pc + 1) ls (.int (nI (T 9 j)) :: rest))) : W p l e R s m args below meth c H locs cells slots Q (F0 m pc ls (.int (nI j) :: .ref (q 10) :: rest)) := by
  refine va_iald X.1 X.2.1 hW.1 hW.2.1 10 0 rfl rfl (vp_in_nI hj (by omega)) hdg ?_
  have e9 : (nI j).toNatClampNeg = j := nI_clamp (by omega)
  have e8 : nI (T 9 (nI j).toNatClampNeg) = nI (T 9 j) := by
    rw [e9]
  rw [e8]
  exact kk
theorem mst9 (hq : mJ q) (X : CallFix p m c cc nL s args Ts own) (hW : mH G cI cZ q T D th s H locs) {j : Nat} {v : Nat} (hj : j < 3) (hdg : decode cc pc = .ok (.iastore, 1)) (kk : ∀ (H1 : Heap) (locs1 : List Loc), mH G cI cZ q (u2 T 9 j v) (D) th s H1 locs1 → W p l e R s m args below meth c H1 locs1 cells slots Q (F0 m (pc + 1) ls rest)) : W p l e R s m args below meth c H locs cells slots Q (F0 m pc ls (.int (nI v) :: .int (nI j) :: .ref (q 10) :: rest)) := by
  refine va_iast X.1 X.2.1 hW.1 hW.2.1 (mW_D hq T D th _) hW.2.2 10 0 rfl rfl (vp_in_nI hj (by omega)) hdg (fun H1 locs1 hP hD hS => kk H1 locs1 ⟨hW.1, ?_, hS⟩)
  have e9 : (nI j).toNatClampNeg = j := nI_clamp (by omega)
  have e8 : upd (fun b => nI (T 9 b)) j (nI v) = (fun b => nI (u2 T 9 j v 9 b)) := by
    funext b
    simp only [upd, u2, if_true]
    by_cases g : b = j
    · simp only [if_pos g]
    · simp only [if_neg g]
  rw [e9, e8] at hP
  exact hP
theorem mld10 (X : CallFix p m c cc nL s args Ts own) (hW : mH G cI cZ q T D th s H locs) {j : Nat} (hj : j < 3) (hdg : decode cc pc = .ok (.iaload, 1)) (kk : W p l e R s m args below meth c H locs cells slots Q (F0 m (pc + 1) ls (.int (nI (T 10 j)) :: rest))) : W p l e R s m args below meth c H locs cells slots Q (F0 m pc ls (.int (nI j) :: .ref (q 11) :: rest)) := by
  refine va_iald X.1 X.2.1 hW.1 hW.2.1 11 0 rfl rfl (vp_in_nI hj (by omega)) hdg ?_
  have e9 : (nI j).toNatClampNeg = j := nI_clamp (by omega)
  have e8 : nI (T 10 (nI j).toNatClampNeg) = nI (T 10 j) := by
    rw [e9]
  rw [e8]
  exact kk
theorem mst10 (hq : mJ q) (X : CallFix p m c cc nL s args Ts own) (hW : mH G cI cZ q T D th s H locs) {j : Nat} {v : Nat} (hj : j < 3) (hdg : decode cc pc = .ok (.iastore, 1)) (kk : ∀ (H1 : Heap) (locs1 : List Loc), mH G cI cZ q (u2 T 10 j v) (D) th s H1 locs1 → W p l e R s m args below meth c H1 locs1 cells slots Q (F0 m (pc + 1) ls rest)) : W p l e R s m args below meth c H locs cells slots Q (F0 m pc ls (.int (nI v) :: .int (nI j) :: .ref (q 11) :: rest)) := by
  refine va_iast X.1 X.2.1 hW.1 hW.2.1 (mW_D hq T D th _) hW.2.2 11 0 rfl rfl (vp_in_nI hj (by omega)) hdg (fun H1 locs1 hP hD hS => kk H1 locs1 ⟨hW.1, ?_, hS⟩)
  have e9 : (nI j).toNatClampNeg = j := nI_clamp (by omega)
  have e8 : upd (fun b => nI (T 10 b)) j (nI v) = (fun b => nI (u2 T 10 j v 10 b)) := by
    funext b
    simp only [upd, u2, if_true]
    by_cases g : b = j
    · simp only [if_pos g]
    · simp only [if_neg g]
  rw [e9, e8] at hP
  exact hP
theorem mld11 (X : CallFix p m c cc nL s args Ts own) (hW : mH G cI cZ q T D th s H locs) {j : Nat} (hj : j < 3) (hdg : decode cc pc = .ok (.iaload, 1)) (kk : W p l e R s m args below meth c H locs cells slots Q (F0 m (pc + 1) ls (.int (nI (T 11 j)) :: rest))) : W p l e R s m args below meth c H locs cells slots Q (F0 m pc ls (.int (nI j) :: .ref (q 12) :: rest)) := by
  refine va_iald X.1 X.2.1 hW.1 hW.2.1 12 0 rfl rfl (vp_in_nI hj (by omega)) hdg ?_
  have e9 : (nI j).toNatClampNeg = j := nI_clamp (by omega)
  have e8 : nI (T 11 (nI j).toNatClampNeg) = nI (T 11 j) := by
    rw [e9]
  rw [e8]
  exact kk
theorem mst11 (hq : mJ q) (X : CallFix p m c cc nL s args Ts own) (hW : mH G cI cZ q T D th s H locs) {j : Nat} {v : Nat} (hj : j < 3) (hdg : decode cc pc = .ok (.iastore, 1)) (kk : ∀ (H1 : Heap) (locs1 : List Loc), mH G cI cZ q (u2 T 11 j v) (D) th s H1 locs1 → W p l e R s m args below meth c H1 locs1 cells slots Q (F0 m (pc + 1) ls rest)) : W p l e R s m args below meth c H locs cells slots Q (F0 m pc ls (.int (nI v) :: .int (nI j) :: .ref (q 12) :: rest)) := by
  refine va_iast X.1 X.2.1 hW.1 hW.2.1 (mW_D hq T D th _) hW.2.2 12 0 rfl rfl (vp_in_nI hj (by omega)) hdg (fun H1 locs1 hP hD hS => kk H1 locs1 ⟨hW.1, ?_, hS⟩)
  have e9 : (nI j).toNatClampNeg = j := nI_clamp (by omega)
  have e8 : upd (fun b => nI (T 11 b)) j (nI v) = (fun b => nI (u2 T 11 j v 11 b)) := by
    funext b
    simp only [upd, u2, if_true]
    by_cases g : b = j
    · simp only [if_pos g]
    · simp only [if_neg g]
  rw [e9, e8] at hP
  exact hP
theorem mld12 (X : CallFix p m c cc nL s args Ts own) (hW : mH G cI cZ q T D th s H locs) {j : Nat} (hj : j < 3) (hdg : decode cc pc = .ok (.baload, 1)) (kk : W p l e R s m args below meth c H locs cells slots Q (F0 m (pc + 1) ls (.int (nI (T 12 j)) :: rest))) : W p l e R s m args below meth c H locs cells slots Q (F0 m pc ls (.int (nI j) :: .ref (q 13) :: rest)) := by
  refine va_zald X.1 X.2.1 hW.1 hW.2.1 13 1 rfl rfl (vp_in_nI hj (by omega)) hdg ?_
  have e9 : (nI j).toNatClampNeg = j := nI_clamp (by omega)
  have e8 : nI (T 12 (nI j).toNatClampNeg) = nI (T 12 j) := by
    rw [e9]
  rw [e8]
  exact kk
theorem mst12 (hq : mJ q) (X : CallFix p m c cc nL s args Ts own) (hW : mH G cI cZ q T D th s H locs) {j : Nat} {v : Nat} (hv : v ≤ 1) (hj : j < 3) (hdg : decode cc pc = .ok (.bastore, 1)) (kk : ∀ (H1 : Heap) (locs1 : List Loc), mH G cI cZ q (u2 T 12 j v) (D) th s H1 locs1 → W p l e R s m args below meth c H1 locs1 cells slots Q (F0 m (pc + 1) ls rest)) : W p l e R s m args below meth c H locs cells slots Q (F0 m pc ls (.int (nI v) :: .int (nI j) :: .ref (q 13) :: rest)) := by
  refine va_zast X.1 X.2.1 hW.1 hW.2.1 (mW_D hq T D th _) hW.2.2 13 1 rfl rfl (vp_in_nI hj (by omega)) hdg (fun H1 locs1 hP hD hS => kk H1 locs1 ⟨hW.1, ?_, hS⟩)
  have e9 : (nI j).toNatClampNeg = j := nI_clamp (by omega)
  have e8 : upd (fun b => nI (T 12 b)) j (nI v) = (fun b => nI (u2 T 12 j v 12 b)) := by
    funext b
    simp only [upd, u2, if_true]
    by_cases g : b = j
    · simp only [if_pos g]
    · simp only [if_neg g]
  rw [e9, nI_nz hv, e8] at hP
  exact hP
theorem mld13 (X : CallFix p m c cc nL s args Ts own) (hW : mH G cI cZ q T D th s H locs) {j : Nat} (hj : j < 2) (hdg : decode cc pc = .ok (.iaload, 1)) (kk : W p l e R s m args below meth c H locs cells slots Q (F0 m (pc + 1) ls (.int (nI (T 13 j)) :: rest))) : W p l e R s m args below meth c H locs cells slots Q (F0 m pc ls (.int (nI j) :: .ref (q 14) :: rest)) := by
  refine va_iald X.1 X.2.1 hW.1 hW.2.1 14 0 rfl rfl (vp_in_nI hj (by omega)) hdg ?_
  have e9 : (nI j).toNatClampNeg = j := nI_clamp (by omega)
  have e8 : nI (T 13 (nI j).toNatClampNeg) = nI (T 13 j) := by
    rw [e9]
  rw [e8]
  exact kk
theorem mst13 (hq : mJ q) (X : CallFix p m c cc nL s args Ts own) (hW : mH G cI cZ q T D th s H locs) {j : Nat} {v : Nat} (hj : j < 2) (hdg : decode cc pc = .ok (.iastore, 1)) (kk : ∀ (H1 : Heap) (locs1 : List Loc), mH G cI cZ q (u2 T 13 j v) (D) th s H1 locs1 → W p l e R s m args below meth c H1 locs1 cells slots Q (F0 m (pc + 1) ls rest)) : W p l e R s m args below meth c H locs cells slots Q (F0 m pc ls (.int (nI v) :: .int (nI j) :: .ref (q 14) :: rest)) := by
  refine va_iast X.1 X.2.1 hW.1 hW.2.1 (mW_D hq T D th _) hW.2.2 14 0 rfl rfl (vp_in_nI hj (by omega)) hdg (fun H1 locs1 hP hD hS => kk H1 locs1 ⟨hW.1, ?_, hS⟩)
  have e9 : (nI j).toNatClampNeg = j := nI_clamp (by omega)
  have e8 : upd (fun b => nI (T 13 b)) j (nI v) = (fun b => nI (u2 T 13 j v 13 b)) := by
    funext b
    simp only [upd, u2, if_true]
    by_cases g : b = j
    · simp only [if_pos g]
    · simp only [if_neg g]
  rw [e9, e8] at hP
  exact hP
theorem mld14_0 (X : CallFix p m c cc nL s args Ts own) (hW : mH G cI cZ q T D th s H locs) {j : Nat} (hj : j < 6) (hz : T 14 j = 0) (hdg : decode cc pc = .ok (.iaload, 1)) (kk : W p l e R s m args below meth c H locs cells slots Q (F0 m (pc + 1) ls (.int (-1) :: rest))) : W p l e R s m args below meth c H locs cells slots Q (F0 m pc ls (.int (nI j) :: .ref (q 15) :: rest)) := by
  refine va_iald X.1 X.2.1 hW.1 hW.2.1 15 0 rfl rfl (vp_in_nI hj (by omega)) hdg ?_
  have e9 : (nI j).toNatClampNeg = j := nI_clamp (by omega)
  have e8 : nI (T 14 (nI j).toNatClampNeg) - 1 = -1 := by
    rw [e9]
    show nI (T 14 j) - 1 = -1
    rw [hz]; rfl
  rw [e8]
  exact kk
theorem mld14_s (X : CallFix p m c cc nL s args Ts own) (hW : mH G cI cZ q T D th s H locs) {j : Nat} (hj : j < 6) {z : Nat} (hz : T 14 j = z + 1) (hdg : decode cc pc = .ok (.iaload, 1)) (kk : W p l e R s m args below meth c H locs cells slots Q (F0 m (pc + 1) ls (.int (nI z) :: rest))) : W p l e R s m args below meth c H locs cells slots Q (F0 m pc ls (.int (nI j) :: .ref (q 15) :: rest)) := by
  refine va_iald X.1 X.2.1 hW.1 hW.2.1 15 0 rfl rfl (vp_in_nI hj (by omega)) hdg ?_
  have e9 : (nI j).toNatClampNeg = j := nI_clamp (by omega)
  have e8 : nI (T 14 (nI j).toNatClampNeg) - 1 = nI z := by
    rw [e9]
    show nI (T 14 j) - 1 = nI z
    rw [hz]; exact nI_pred z
  rw [e8]
  exact kk
theorem mst14_0 (hq : mJ q) (X : CallFix p m c cc nL s args Ts own) (hW : mH G cI cZ q T D th s H locs) {j : Nat} (hj : j < 6) (hdg : decode cc pc = .ok (.iastore, 1)) (kk : ∀ (H1 : Heap) (locs1 : List Loc), mH G cI cZ q (u2 T 14 j 0) (D) th s H1 locs1 → W p l e R s m args below meth c H1 locs1 cells slots Q (F0 m (pc + 1) ls rest)) : W p l e R s m args below meth c H locs cells slots Q (F0 m pc ls (.int (-1) :: .int (nI j) :: .ref (q 15) :: rest)) := by
  refine va_iast X.1 X.2.1 hW.1 hW.2.1 (mW_D hq T D th _) hW.2.2 15 0 rfl rfl (vp_in_nI hj (by omega)) hdg (fun H1 locs1 hP hD hS => kk H1 locs1 ⟨hW.1, ?_, hS⟩)
  have e9 : (nI j).toNatClampNeg = j := nI_clamp (by omega)
  have e8 : upd (fun b => nI (T 14 b) - 1) j (-1) = (fun b => nI (u2 T 14 j 0 14 b) - 1) := by
    funext b
    simp only [upd, u2, if_true]
    by_cases g : b = j
    · simp only [if_pos g]
      rfl
    · simp only [if_neg g]
  rw [e9, e8] at hP
  exact hP
theorem mst14_s (hq : mJ q) (X : CallFix p m c cc nL s args Ts own) (hW : mH G cI cZ q T D th s H locs) {j : Nat} {z : Nat} (hj : j < 6) (hdg : decode cc pc = .ok (.iastore, 1)) (kk : ∀ (H1 : Heap) (locs1 : List Loc), mH G cI cZ q (u2 T 14 j (z + 1)) (D) th s H1 locs1 → W p l e R s m args below meth c H1 locs1 cells slots Q (F0 m (pc + 1) ls rest)) : W p l e R s m args below meth c H locs cells slots Q (F0 m pc ls (.int (nI z) :: .int (nI j) :: .ref (q 15) :: rest)) := by
  refine va_iast X.1 X.2.1 hW.1 hW.2.1 (mW_D hq T D th _) hW.2.2 15 0 rfl rfl (vp_in_nI hj (by omega)) hdg (fun H1 locs1 hP hD hS => kk H1 locs1 ⟨hW.1, ?_, hS⟩)
  have e9 : (nI j).toNatClampNeg = j := nI_clamp (by omega)
  have e8 : upd (fun b => nI (T 14 b) - 1) j (nI z) = (fun b => nI (u2 T 14 j (z + 1) 14 b) - 1) := by
    funext b
    simp only [upd, u2, if_true]
    by_cases g : b = j
    · simp only [if_pos g]
      exact (nI_pred z).symm
    · simp only [if_neg g]
  rw [e9, e8] at hP
  exact hP
theorem mld15 (X : CallFix p m c cc nL s args Ts own) (hW : mH G cI cZ q T D th s H locs) {j : Nat} (hj : j < 6) (hdg : decode cc pc = .ok (.iaload, 1)) (kk : W p l e R s m args below meth c H locs cells slots Q (F0 m (pc + 1) ls (.int (nI (T 15 j)) :: rest))) : W p l e R s m args below meth c H locs cells slots Q (F0 m pc ls (.int (nI j) :: .ref (q 16) :: rest)) := by
  refine va_iald X.1 X.2.1 hW.1 hW.2.1 16 0 rfl rfl (vp_in_nI hj (by omega)) hdg ?_
  have e9 : (nI j).toNatClampNeg = j := nI_clamp (by omega)
  have e8 : nI (T 15 (nI j).toNatClampNeg) = nI (T 15 j) := by
    rw [e9]
  rw [e8]
  exact kk
theorem mst15 (hq : mJ q) (X : CallFix p m c cc nL s args Ts own) (hW : mH G cI cZ q T D th s H locs) {j : Nat} {v : Nat} (hj : j < 6) (hdg : decode cc pc = .ok (.iastore, 1)) (kk : ∀ (H1 : Heap) (locs1 : List Loc), mH G cI cZ q (u2 T 15 j v) (D) th s H1 locs1 → W p l e R s m args below meth c H1 locs1 cells slots Q (F0 m (pc + 1) ls rest)) : W p l e R s m args below meth c H locs cells slots Q (F0 m pc ls (.int (nI v) :: .int (nI j) :: .ref (q 16) :: rest)) := by
  refine va_iast X.1 X.2.1 hW.1 hW.2.1 (mW_D hq T D th _) hW.2.2 16 0 rfl rfl (vp_in_nI hj (by omega)) hdg (fun H1 locs1 hP hD hS => kk H1 locs1 ⟨hW.1, ?_, hS⟩)
  have e9 : (nI j).toNatClampNeg = j := nI_clamp (by omega)
  have e8 : upd (fun b => nI (T 15 b)) j (nI v) = (fun b => nI (u2 T 15 j v 15 b)) := by
    funext b
    simp only [upd, u2, if_true]
    by_cases g : b = j
    · simp only [if_pos g]
    · simp only [if_neg g]
  rw [e9, e8] at hP
  exact hP
theorem mld16 (X : CallFix p m c cc nL s args Ts own) (hW : mH G cI cZ q T D th s H locs) {j : Nat} (hj : j < 2) (hdg : decode cc pc = .ok (.iaload, 1)) (kk : W p l e R s m args below meth c H locs cells slots Q (F0 m (pc + 1) ls (.int (nI (T 16 j)) :: rest))) : W p l e R s m args below meth c H locs cells slots Q (F0 m pc ls (.int (nI j) :: .ref (q 17) :: rest)) := by
  refine va_iald X.1 X.2.1 hW.1 hW.2.1 17 0 rfl rfl (vp_in_nI hj (by omega)) hdg ?_
  have e9 : (nI j).toNatClampNeg = j := nI_clamp (by omega)
  have e8 : nI (T 16 (nI j).toNatClampNeg) = nI (T 16 j) := by
    rw [e9]
  rw [e8]
  exact kk
theorem mst16 (hq : mJ q) (X : CallFix p m c cc nL s args Ts own) (hW : mH G cI cZ q T D th s H locs) {j : Nat} {v : Nat} (hj : j < 2) (hdg : decode cc pc = .ok (.iastore, 1)) (kk : ∀ (H1 : Heap) (locs1 : List Loc), mH G cI cZ q (u2 T 16 j v) (D) th s H1 locs1 → W p l e R s m args below meth c H1 locs1 cells slots Q (F0 m (pc + 1) ls rest)) : W p l e R s m args below meth c H locs cells slots Q (F0 m pc ls (.int (nI v) :: .int (nI j) :: .ref (q 17) :: rest)) := by
  refine va_iast X.1 X.2.1 hW.1 hW.2.1 (mW_D hq T D th _) hW.2.2 17 0 rfl rfl (vp_in_nI hj (by omega)) hdg (fun H1 locs1 hP hD hS => kk H1 locs1 ⟨hW.1, ?_, hS⟩)
  have e9 : (nI j).toNatClampNeg = j := nI_clamp (by omega)
  have e8 : upd (fun b => nI (T 16 b)) j (nI v) = (fun b => nI (u2 T 16 j v 16 b)) := by
    funext b
    simp only [upd, u2, if_true]
    by_cases g : b = j
    · simp only [if_pos g]
    · simp only [if_neg g]
  rw [e9, e8] at hP
  exact hP
theorem mld17 (X : CallFix p m c cc nL s args Ts own) (hW : mH G cI cZ q T D th s H locs) {j : Nat} (hj : j < 2) (hdg : decode cc pc = .ok (.iaload, 1)) (kk : W p l e R s m args below meth c H locs cells slots Q (F0 m (pc + 1) ls (.int (nI (T 17 j)) :: rest))) : W p l e R s m args below meth c H locs cells slots Q (F0 m pc ls (.int (nI j) :: .ref (q 18) :: rest)) := by
  refine va_iald X.1 X.2.1 hW.1 hW.2.1 18 0 rfl rfl (vp_in_nI hj (by omega)) hdg ?_
  have e9 : (nI j).toNatClampNeg = j := nI_clamp (by omega)
  have e8 : nI (T 17 (nI j).toNatClampNeg) = nI (T 17 j) := by
    rw [e9]
  rw [e8]
  exact kk
theorem mst17 (hq : mJ q) (X : CallFix p m c cc nL s args Ts own) (hW : mH G cI cZ q T D th s H locs) {j : Nat} {v : Nat} (hj : j < 2) (hdg : decode cc pc = .ok (.iastore, 1)) (kk : ∀ (H1 : Heap) (locs1 : List Loc), mH G cI cZ q (u2 T 17 j v) (D) th s H1 locs1 → W p l e R s m args below meth c H1 locs1 cells slots Q (F0 m (pc + 1) ls rest)) : W p l e R s m args below meth c H locs cells slots Q (F0 m pc ls (.int (nI v) :: .int (nI j) :: .ref (q 18) :: rest)) := by
  refine va_iast X.1 X.2.1 hW.1 hW.2.1 (mW_D hq T D th _) hW.2.2 18 0 rfl rfl (vp_in_nI hj (by omega)) hdg (fun H1 locs1 hP hD hS => kk H1 locs1 ⟨hW.1, ?_, hS⟩)
  have e9 : (nI j).toNatClampNeg = j := nI_clamp (by omega)
  have e8 : upd (fun b => nI (T 17 b)) j (nI v) = (fun b => nI (u2 T 17 j v 17 b)) := by
    funext b
    simp only [upd, u2, if_true]
    by_cases g : b = j
    · simp only [if_pos g]
    · simp only [if_neg g]
  rw [e9, e8] at hP
  exact hP
theorem mld18 (X : CallFix p m c cc nL s args Ts own) (hW : mH G cI cZ q T D th s H locs) {j : Nat} (hj : j < 2) (hdg : decode cc pc = .ok (.iaload, 1)) (kk : W p l e R s m args below meth c H locs cells slots Q (F0 m (pc + 1) ls (.int (nI (T 18 j)) :: rest))) : W p l e R s m args below meth c H locs cells slots Q (F0 m pc ls (.int (nI j) :: .ref (q 19) :: rest)) := by
  refine va_iald X.1 X.2.1 hW.1 hW.2.1 19 0 rfl rfl (vp_in_nI hj (by omega)) hdg ?_
  have e9 : (nI j).toNatClampNeg = j := nI_clamp (by omega)
  have e8 : nI (T 18 (nI j).toNatClampNeg) = nI (T 18 j) := by
    rw [e9]
  rw [e8]
  exact kk
theorem mst18 (hq : mJ q) (X : CallFix p m c cc nL s args Ts own) (hW : mH G cI cZ q T D th s H locs) {j : Nat} {v : Nat} (hj : j < 2) (hdg : decode cc pc = .ok (.iastore, 1)) (kk : ∀ (H1 : Heap) (locs1 : List Loc), mH G cI cZ q (u2 T 18 j v) (D) th s H1 locs1 → W p l e R s m args below meth c H1 locs1 cells slots Q (F0 m (pc + 1) ls rest)) : W p l e R s m args below meth c H locs cells slots Q (F0 m pc ls (.int (nI v) :: .int (nI j) :: .ref (q 19) :: rest)) := by
  refine va_iast X.1 X.2.1 hW.1 hW.2.1 (mW_D hq T D th _) hW.2.2 19 0 rfl rfl (vp_in_nI hj (by omega)) hdg (fun H1 locs1 hP hD hS => kk H1 locs1 ⟨hW.1, ?_, hS⟩)
  have e9 : (nI j).toNatClampNeg = j := nI_clamp (by omega)
  have e8 : upd (fun b => nI (T 18 b)) j (nI v) = (fun b => nI (u2 T 18 j v 18 b)) := by
    funext b
    simp only [upd, u2, if_true]
    by_cases g : b = j
    · simp only [if_pos g]
    · simp only [if_neg g]
  rw [e9, e8] at hP
  exact hP
theorem mld19 (X : CallFix p m c cc nL s args Ts own) (hW : mH G cI cZ q T D th s H locs) {j : Nat} (hj : j < 256) (hdg : decode cc pc = .ok (.iaload, 1)) (kk : W p l e R s m args below meth c H locs cells slots Q (F0 m (pc + 1) ls (.int (D 19 j) :: rest))) : W p l e R s m args below meth c H locs cells slots Q (F0 m pc ls (.int (nI j) :: .ref (q 20) :: rest)) := by
  refine va_iald X.1 X.2.1 hW.1 hW.2.1 20 0 rfl rfl (vp_in_nI hj (by omega)) hdg ?_
  have e9 : (nI j).toNatClampNeg = j := nI_clamp (by omega)
  have e8 : D 19 (nI j).toNatClampNeg = D 19 j := by
    rw [e9]
  rw [e8]
  exact kk
theorem mst19 (hq : mJ q) (X : CallFix p m c cc nL s args Ts own) (hW : mH G cI cZ q T D th s H locs) {j : Nat} {x : Int32} (hj : j < 256) (hdg : decode cc pc = .ok (.iastore, 1)) (kk : ∀ (H1 : Heap) (locs1 : List Loc), mH G cI cZ q (T) (u2 D 19 j x) th s H1 locs1 → W p l e R s m args below meth c H1 locs1 cells slots Q (F0 m (pc + 1) ls rest)) : W p l e R s m args below meth c H locs cells slots Q (F0 m pc ls (.int (x) :: .int (nI j) :: .ref (q 20) :: rest)) := by
  refine va_iast X.1 X.2.1 hW.1 hW.2.1 (mW_D hq T D th _) hW.2.2 20 0 rfl rfl (vp_in_nI hj (by omega)) hdg (fun H1 locs1 hP hD hS => kk H1 locs1 ⟨hW.1, ?_, hS⟩)
  have e9 : (nI j).toNatClampNeg = j := nI_clamp (by omega)
  have e8 : upd (D 19) j (x) = (u2 D 19 j x 19) := by
    funext b
    simp only [upd, u2, if_true]
  rw [e9, e8] at hP
  exact hP
end MR
/-- a method of the reference that makes nothing: its answer, the world behind it -/
def mMi (l : Launch) (y : MethodName) (ws : List Cond) (rm : Room) (G : va_G) (cI cZ : ClassId) (q : Nat → Nat) (as : List Value) (T : mT) (D : mD) (th : Int32) (r : Int32) (T2 : mT) (D2 : mD) (th2 : Int32) : Prop := ∀ sz : Nat, Met l y ws rm (va_Pc (.ref (q 0) :: as) (fun U => U.heap.size = sz ∧ va_K G vwCl (mtys cI cZ) U ∧ va_P G vwCl (mWl cI cZ q T D th) U.heap)) (va_Qi (fun (v : Int32) (_ : Unit) => v = r) (fun _ t => va_K G vwCl (mtys cI cZ) t ∧ va_P G vwCl (mWl cI cZ q T2 D2 th2) t.heap) (mA q sz)) 0 0 (mA q sz)
/-- a method of the reference that makes nothing: its answer, the world behind it -/
def mMl (l : Launch) (y : MethodName) (ws : List Cond) (rm : Room) (G : va_G) (cI cZ : ClassId) (q : Nat → Nat) (as : List Value) (T : mT) (D : mD) (th : Int32) (r : Int64) (T2 : mT) (D2 : mD) (th2 : Int32) : Prop := ∀ sz : Nat, Met l y ws rm (va_Pc (.ref (q 0) :: as) (fun U => U.heap.size = sz ∧ va_K G vwCl (mtys cI cZ) U ∧ va_P G vwCl (mWl cI cZ q T D th) U.heap)) (va_Ql (fun (v : Int64) (_ : Unit) => v = r) (fun _ t => va_K G vwCl (mtys cI cZ) t ∧ va_P G vwCl (mWl cI cZ q T2 D2 th2) t.heap) (mA q sz)) 0 0 (mA q sz)
/-- a method of the reference that makes nothing: its answer, the world behind it -/
def mMf (l : Launch) (y : MethodName) (ws : List Cond) (rm : Room) (G : va_G) (cI cZ : ClassId) (q : Nat → Nat) (as : List Value) (T : mT) (D : mD) (th : Int32) (r : UInt32) (T2 : mT) (D2 : mD) (th2 : Int32) : Prop := ∀ sz : Nat, Met l y ws rm (va_Pc (.ref (q 0) :: as) (fun U => U.heap.size = sz ∧ va_K G vwCl (mtys cI cZ) U ∧ va_P G vwCl (mWl cI cZ q T D th) U.heap)) (va_Qf (fun (v : UInt32) (_ : Unit) => v = r) (fun _ t => va_K G vwCl (mtys cI cZ) t ∧ va_P G vwCl (mWl cI cZ q T2 D2 th2) t.heap) (mA q sz)) 0 0 (mA q sz)
/-- a method of the reference that makes nothing: its answer, the world behind it -/
def mMd (l : Launch) (y : MethodName) (ws : List Cond) (rm : Room) (G : va_G) (cI cZ : ClassId) (q : Nat → Nat) (as : List Value) (T : mT) (D : mD) (th : Int32) (r : UInt64) (T2 : mT) (D2 : mD) (th2 : Int32) : Prop := ∀ sz : Nat, Met l y ws rm (va_Pc (.ref (q 0) :: as) (fun U => U.heap.size = sz ∧ va_K G vwCl (mtys cI cZ) U ∧ va_P G vwCl (mWl cI cZ q T D th) U.heap)) (va_Qd (fun (v : UInt64) (_ : Unit) => v = r) (fun _ t => va_K G vwCl (mtys cI cZ) t ∧ va_P G vwCl (mWl cI cZ q T2 D2 th2) t.heap) (mA q sz)) 0 0 (mA q sz)
/-- a method of the reference that makes nothing: its answer, the world behind it -/
def mMv (l : Launch) (y : MethodName) (ws : List Cond) (rm : Room) (G : va_G) (cI cZ : ClassId) (q : Nat → Nat) (as : List Value) (T : mT) (D : mD) (th : Int32) (T2 : mT) (D2 : mD) (th2 : Int32) : Prop := ∀ sz : Nat, Met l y ws rm (va_Pc (.ref (q 0) :: as) (fun U => U.heap.size = sz ∧ va_K G vwCl (mtys cI cZ) U ∧ va_P G vwCl (mWl cI cZ q T D th) U.heap)) (va_Qv (fun (_ : Unit) => True) (fun _ t => va_K G vwCl (mtys cI cZ) t ∧ va_P G vwCl (mWl cI cZ q T2 D2 th2) t.heap) (mA q sz)) 0 0 (mA q sz)
section MC
variable {p : Program} {l : Launch} {e : Env} {R : Room} {s : State} {m : MethodId} {args : Array Value} {below : List Frame} {meth : Method} {c : Code} {H : Heap} {locs : List Loc} {cells slots : Nat} {Q : State → Prop} {cc : ByteArray} {pc nL : Nat} {ls : Array Slot} {rest : List Value} {Ts : List Cond} {own : String}
variable {G : va_G} {cI cZ : ClassId} {q : Nat → Nat} {T : mT} {D : mD} {th : Int32}
variable {y : MethodName} {ws ws2 : List Cond} {rm : Room} {as : List Value} {T2 : mT} {D2 : mD} {th2 : Int32} {maxL index n : Nat} {ret : Option FieldType} {bytes : ByteArray}

theorem mcalli {r : Int32} (hq : mJ q) (X : CallFix p m c cc nL s args Ts own) (hW : mH G cI cZ q T D th s H locs) (hM : mMi l y ws rm G cI cZ q as T D th r T2 D2 th2) (cw : CallW R s args own RX7 index y bytes maxL ret ws rm 0 0 n) {st : List Value} (hst : st = as.reverse ++ .ref (q 0) :: rest) (hn : as.length = n) (hs : ls.size = nL) (hroom : (rest.map fun v => v.category).sum ≤ 8) (hdg : decode cc pc = .ok (.invokevirtual index, 3)) (hcs : cells ≤ R.cells ∧ slots ≤ R.slots)
    (kk : ∀ (H1 : Heap) (locs1 : List Loc), mH G cI cZ q T2 D2 th2 s H1 locs1 → W p l e R s m args below meth c H1 locs1 cells slots Q (F0 m (pc + 3) ls (.int r :: rest))) : W p l e R s m args below meth c H locs cells slots Q (F0 m pc ls st) := by
  subst hst
  have hsz : s.heap.size ≤ H.size := hW.2.2.1
  have hfr : ∀ a : Nat, mA q H.size a → mA q s.heap.size a := fun a h => h.elim Or.inl (fun h => Or.inr (Nat.le_trans hsz h))
  refine va_calli (va_runV (As := as) (rest := rest) X (hM H.size) cw ⟨fun a U g mk z => by obtain ⟨z0, z1, z2, z3⟩ := z; exact ⟨z0, z1, va_K.moved (u := U) (U := U.calling g mk a) (Vm.Alike.refl U.vm) z2, z3⟩, va_recv hW.1 hW.2.1 (ci := 9) (q0 := 0) rfl rfl, fun U hU hWm => ⟨rfl, by rw [hU], va_K.moved hWm.alike hW.1, by rw [hU]; exact hW.2.1⟩⟩ rfl hn hs rfl (lv_room hroom) hdg hcs) hW.2.2 (fun a _ h => hfr a h) hfr (fun r u t H1 locs1 ht hvm hw hB hz1 hk1 hS => ?_)
  subst hw
  exact kk H1 locs1 ⟨va_K.moved hvm.symm hB.1, by rw [← ht]; exact hB.2, hS⟩
theorem mcalll {r : Int64} (hq : mJ q) (X : CallFix p m c cc nL s args Ts own) (hW : mH G cI cZ q T D th s H locs) (hM : mMl l y ws rm G cI cZ q as T D th r T2 D2 th2) (cw : CallW R s args own RX7 index y bytes maxL ret ws rm 0 0 n) {st : List Value} (hst : st = as.reverse ++ .ref (q 0) :: rest) (hn : as.length = n) (hs : ls.size = nL) (hroom : (rest.map fun v => v.category).sum ≤ 8) (hdg : decode cc pc = .ok (.invokevirtual index, 3)) (hcs : cells ≤ R.cells ∧ slots ≤ R.slots)
    (kk : ∀ (H1 : Heap) (locs1 : List Loc), mH G cI cZ q T2 D2 th2 s H1 locs1 → W p l e R s m args below meth c H1 locs1 cells slots Q (F0 m (pc + 3) ls (.long r :: rest))) : W p l e R s m args below meth c H locs cells slots Q (F0 m pc ls st) := by
  subst hst
  have hsz : s.heap.size ≤ H.size := hW.2.2.1
  have hfr : ∀ a : Nat, mA q H.size a → mA q s.heap.size a := fun a h => h.elim Or.inl (fun h => Or.inr (Nat.le_trans hsz h))
  refine va_calll (va_runV (As := as) (rest := rest) X (hM H.size) cw ⟨fun a U g mk z => by obtain ⟨z0, z1, z2, z3⟩ := z; exact ⟨z0, z1, va_K.moved (u := U) (U := U.calling g mk a) (Vm.Alike.refl U.vm) z2, z3⟩, va_recv hW.1 hW.2.1 (ci := 9) (q0 := 0) rfl rfl, fun U hU hWm => ⟨rfl, by rw [hU], va_K.moved hWm.alike hW.1, by rw [hU]; exact hW.2.1⟩⟩ rfl hn hs rfl (lv_room hroom) hdg hcs) hW.2.2 (fun a _ h => hfr a h) hfr (fun r u t H1 locs1 ht hvm hw hB hz1 hk1 hS => ?_)
  subst hw
  exact kk H1 locs1 ⟨va_K.moved hvm.symm hB.1, by rw [← ht]; exact hB.2, hS⟩
theorem mcallf {r : UInt32} (hq : mJ q) (X : CallFix p m c cc nL s args Ts own) (hW : mH G cI cZ q T D th s H locs) (hM : mMf l y ws rm G cI cZ q as T D th r T2 D2 th2) (cw : CallW R s args own RX7 index y bytes maxL ret ws rm 0 0 n) {st : List Value} (hst : st = as.reverse ++ .ref (q 0) :: rest) (hn : as.length = n) (hs : ls.size = nL) (hroom : (rest.map fun v => v.category).sum ≤ 8) (hdg : decode cc pc = .ok (.invokevirtual index, 3)) (hcs : cells ≤ R.cells ∧ slots ≤ R.slots)
    (kk : ∀ (H1 : Heap) (locs1 : List Loc), mH G cI cZ q T2 D2 th2 s H1 locs1 → W p l e R s m args below meth c H1 locs1 cells slots Q (F0 m (pc + 3) ls (.float r :: rest))) : W p l e R s m args below meth c H locs cells slots Q (F0 m pc ls st) := by
  subst hst
  have hsz : s.heap.size ≤ H.size := hW.2.2.1
  have hfr : ∀ a : Nat, mA q H.size a → mA q s.heap.size a := fun a h => h.elim Or.inl (fun h => Or.inr (Nat.le_trans hsz h))
  refine va_callf (va_runV (As := as) (rest := rest) X (hM H.size) cw ⟨fun a U g mk z => by obtain ⟨z0, z1, z2, z3⟩ := z; exact ⟨z0, z1, va_K.moved (u := U) (U := U.calling g mk a) (Vm.Alike.refl U.vm) z2, z3⟩, va_recv hW.1 hW.2.1 (ci := 9) (q0 := 0) rfl rfl, fun U hU hWm => ⟨rfl, by rw [hU], va_K.moved hWm.alike hW.1, by rw [hU]; exact hW.2.1⟩⟩ rfl hn hs rfl (lv_room hroom) hdg hcs) hW.2.2 (fun a _ h => hfr a h) hfr (fun r u t H1 locs1 ht hvm hw hB hz1 hk1 hS => ?_)
  subst hw
  exact kk H1 locs1 ⟨va_K.moved hvm.symm hB.1, by rw [← ht]; exact hB.2, hS⟩
theorem mcalld {r : UInt64} (hq : mJ q) (X : CallFix p m c cc nL s args Ts own) (hW : mH G cI cZ q T D th s H locs) (hM : mMd l y ws rm G cI cZ q as T D th r T2 D2 th2) (cw : CallW R s args own RX7 index y bytes maxL ret ws rm 0 0 n) {st : List Value} (hst : st = as.reverse ++ .ref (q 0) :: rest) (hn : as.length = n) (hs : ls.size = nL) (hroom : (rest.map fun v => v.category).sum ≤ 8) (hdg : decode cc pc = .ok (.invokevirtual index, 3)) (hcs : cells ≤ R.cells ∧ slots ≤ R.slots)
    (kk : ∀ (H1 : Heap) (locs1 : List Loc), mH G cI cZ q T2 D2 th2 s H1 locs1 → W p l e R s m args below meth c H1 locs1 cells slots Q (F0 m (pc + 3) ls (.double r :: rest))) : W p l e R s m args below meth c H locs cells slots Q (F0 m pc ls st) := by
  subst hst
  have hsz : s.heap.size ≤ H.size := hW.2.2.1
  have hfr : ∀ a : Nat, mA q H.size a → mA q s.heap.size a := fun a h => h.elim Or.inl (fun h => Or.inr (Nat.le_trans hsz h))
  refine va_calld (va_runV (As := as) (rest := rest) X (hM H.size) cw ⟨fun a U g mk z => by obtain ⟨z0, z1, z2, z3⟩ := z; exact ⟨z0, z1, va_K.moved (u := U) (U := U.calling g mk a) (Vm.Alike.refl U.vm) z2, z3⟩, va_recv hW.1 hW.2.1 (ci := 9) (q0 := 0) rfl rfl, fun U hU hWm => ⟨rfl, by rw [hU], va_K.moved hWm.alike hW.1, by rw [hU]; exact hW.2.1⟩⟩ rfl hn hs rfl (lv_room hroom) hdg hcs) hW.2.2 (fun a _ h => hfr a h) hfr (fun r u t H1 locs1 ht hvm hw hB hz1 hk1 hS => ?_)
  subst hw
  exact kk H1 locs1 ⟨va_K.moved hvm.symm hB.1, by rw [← ht]; exact hB.2, hS⟩
theorem mcallv (hq : mJ q) (X : CallFix p m c cc nL s args Ts own) (hW : mH G cI cZ q T D th s H locs) (hM : mMv l y ws rm G cI cZ q as T D th T2 D2 th2) (cw : CallW R s args own RX7 index y bytes maxL ret ws rm 0 0 n) {st : List Value} (hst : st = as.reverse ++ .ref (q 0) :: rest) (hn : as.length = n) (hs : ls.size = nL) (hroom : (rest.map fun v => v.category).sum ≤ 8) (hdg : decode cc pc = .ok (.invokevirtual index, 3)) (hcs : cells ≤ R.cells ∧ slots ≤ R.slots)
    (kk : ∀ (H1 : Heap) (locs1 : List Loc), mH G cI cZ q T2 D2 th2 s H1 locs1 → W p l e R s m args below meth c H1 locs1 cells slots Q (F0 m (pc + 3) ls (rest))) : W p l e R s m args below meth c H locs cells slots Q (F0 m pc ls st) := by
  subst hst
  have hsz : s.heap.size ≤ H.size := hW.2.2.1
  have hfr : ∀ a : Nat, mA q H.size a → mA q s.heap.size a := fun a h => h.elim Or.inl (fun h => Or.inr (Nat.le_trans hsz h))
  refine va_callv (va_runV (As := as) (rest := rest) X (hM H.size) cw ⟨fun a U g mk z => by obtain ⟨z0, z1, z2, z3⟩ := z; exact ⟨z0, z1, va_K.moved (u := U) (U := U.calling g mk a) (Vm.Alike.refl U.vm) z2, z3⟩, va_recv hW.1 hW.2.1 (ci := 9) (q0 := 0) rfl rfl, fun U hU hWm => ⟨rfl, by rw [hU], va_K.moved hWm.alike hW.1, by rw [hU]; exact hW.2.1⟩⟩ rfl hn hs rfl (lv_room hroom) hdg hcs) hW.2.2 (fun a _ h => hfr a h) hfr (fun u t H1 locs1 ht hvm hw hB hz1 hk1 hS => ?_)
  
  exact kk H1 locs1 ⟨va_K.moved hvm.symm hB.1, by rw [← ht]; exact hB.2, hS⟩
theorem mendi {r v : Int32} {ty : FieldType} (X : CallFix p m c cc nL s args Ts own) (hr : meth.sig.returnType = some ty) (hlk : meth.locks = false) (hW : mH G cI cZ q T D th s H locs) (hv : v = r) (hn : narrow ty (.int v) = .int v) (hdg : decode cc pc = .ok (.ireturn, 1)) : W p l e R s m args below meth c H locs cells slots (MQ below (va_Qi (fun (v : Int32) (_ : Unit) => v = r) (fun _ t => va_K G vwCl (mtys cI cZ) t ∧ va_P G vwCl (mWl cI cZ q T D th) t.heap) (mA q s.heap.size)) args s cells slots (mA q s.heap.size)) (F0 m pc ls [.int v]) :=
  W.zret (v := v) X.1 X.2.1 hr hn (fun t ht hWm => ⟨⟨v, (), rfl, hv, va_K.moved hWm.alike hW.1, by rw [ht]; exact hW.2.1⟩, hW.2.2.F ht⟩) hW.2.2.2.2 hdg hlk
theorem mendv (X : CallFix p m c cc nL s args Ts own) (hr : meth.sig.returnType = none) (hlk : meth.locks = false) (hW : mH G cI cZ q T D th s H locs) (hdg : decode cc pc = .ok (.return_, 1)) : W p l e R s m args below meth c H locs cells slots (MQ below (va_Qv (fun (_ : Unit) => True) (fun _ t => va_K G vwCl (mtys cI cZ) t ∧ va_P G vwCl (mWl cI cZ q T D th) t.heap) (mA q s.heap.size)) args s cells slots (mA q s.heap.size)) (F0 m pc ls []) :=
  W.vret X.1 X.2.1 hr (fun t ht hWm => ⟨⟨(), rfl, trivial, va_K.moved hWm.alike hW.1, by rw [ht]; exact hW.2.1⟩, hW.2.2.F ht⟩) hW.2.2.2.2 hdg hlk
theorem mendl {r v : Int64} (X : CallFix p m c cc nL s args Ts own) (hr : meth.sig.returnType = some .long) (hlk : meth.locks = false) (hW : mH G cI cZ q T D th s H locs) (hv : v = r) (hdg : decode cc pc = .ok (.lreturn, 1)) : W p l e R s m args below meth c H locs cells slots (MQ below (va_Ql (fun (v : Int64) (_ : Unit) => v = r) (fun _ t => va_K G vwCl (mtys cI cZ) t ∧ va_P G vwCl (mWl cI cZ q T D th) t.heap) (mA q s.heap.size)) args s cells slots (mA q s.heap.size)) (F0 m pc ls [.long v]) :=
  W.lret (v := v) X.1 X.2.1 hr (fun t ht hWm => ⟨⟨v, (), rfl, hv, va_K.moved hWm.alike hW.1, by rw [ht]; exact hW.2.1⟩, hW.2.2.F ht⟩) hW.2.2.2.2 hdg hlk
theorem mendf {r v : UInt32} (X : CallFix p m c cc nL s args Ts own) (hr : meth.sig.returnType = some .float) (hlk : meth.locks = false) (hW : mH G cI cZ q T D th s H locs) (hv : v = r) (hdg : decode cc pc = .ok (.freturn, 1)) : W p l e R s m args below meth c H locs cells slots (MQ below (va_Qf (fun (v : UInt32) (_ : Unit) => v = r) (fun _ t => va_K G vwCl (mtys cI cZ) t ∧ va_P G vwCl (mWl cI cZ q T D th) t.heap) (mA q s.heap.size)) args s cells slots (mA q s.heap.size)) (F0 m pc ls [.float v]) :=
  W.fret (v := v) X.1 X.2.1 hr (fun t ht hWm => ⟨⟨v, (), rfl, hv, va_K.moved hWm.alike hW.1, by rw [ht]; exact hW.2.1⟩, hW.2.2.F ht⟩) hW.2.2.2.2 hdg hlk
theorem mendd {r v : UInt64} (X : CallFix p m c cc nL s args Ts own) (hr : meth.sig.returnType = some .double) (hlk : meth.locks = false) (hW : mH G cI cZ q T D th s H locs) (hv : v = r) (hdg : decode cc pc = .ok (.dreturn, 1)) : W p l e R s m args below meth c H locs cells slots (MQ below (va_Qd (fun (v : UInt64) (_ : Unit) => v = r) (fun _ t => va_K G vwCl (mtys cI cZ) t ∧ va_P G vwCl (mWl cI cZ q T D th) t.heap) (mA q s.heap.size)) args s cells slots (mA q s.heap.size)) (F0 m pc ls [.double v]) :=
  W.dret (v := v) X.1 X.2.1 hr (fun t ht hWm => ⟨⟨v, (), rfl, hv, va_K.moved hWm.alike hW.1, by rw [ht]; exact hW.2.1⟩, hW.2.2.F ht⟩) hW.2.2.2.2 hdg hlk
theorem mstarti {r : Int32} (hy : plainName y.cls = true) (hcls : y.cls = RX7) (hw : ws = Cond.code y cc maxL ret :: ws2) (hret : ∃ ty : FieldType, ret = some ty) (hlen : (lg_sl (.ref (q 0) :: as)).length ≤ maxL) (body : ∀ (p : Program) (e : Env) (s : State) (m : MethodId) (args : Array Value) (below : List Frame) (meth : Method) (c : Code) (Q : State → Prop), (∀ (H : Heap) (locs : List Loc) (pc : Nat) (ls : Array Slot) (v : Int32) , v = r → (∀ ty : FieldType, ret = some ty → narrow ty (.int v) = .int v) → mH G cI cZ q T2 D2 th2 s H locs → decode cc pc = .ok (.ireturn, 1) → W p l e rm s m args below meth c H locs 0 0 Q (F0 m pc ls [.int v])) → CallFix p m c cc maxL s args ws RX7 → mH G cI cZ q T D th s s.heap [] → ∀ ls : Array Slot, lv_has ls maxL (lv_args 0 (.ref (q 0) :: as)) → W p l e rm s m args below meth c s.heap [] 0 0 Q (F0 m 0 ls [])) : mMi l y ws rm G cI cZ q as T D th r T2 D2 th2 := by
  intro sz
  refine Met.ofW (cc := cc) (maxL := maxL) (ret := ret) hy hw ?_
  intro p e s m args below meth c s₁ B hml hv
  obtain ⟨rfl, hsz, hK, hP⟩ := hv
  subst hsz
  have hl := lv_entry (.ref (q 0) :: as) (n := maxL) hlen
  rw [lg_entry_eq]
  have X : CallFix p m c cc maxL s _ ws RX7 := ⟨B.exec, B.bytes, hml, by rw [← hcls]; exact findClass_of_methodNamed B.named, atoms_spec (ws := ws) B.pre⟩
  refine body p e s m _ below meth c _ (fun H locs pc ls v hv hn hW hdg => ?_) X ⟨hK, hP, va_S.rf⟩ _ hl
  obtain ⟨ty, hty⟩ := hret
  exact mendi X (B.returns.trans hty) B.notSynchronized hW hv (hn ty hty) hdg
theorem mstartl {r : Int64} (hy : plainName y.cls = true) (hcls : y.cls = RX7) (hw : ws = Cond.code y cc maxL ret :: ws2) (hret : ret = some .long) (hlen : (lg_sl (.ref (q 0) :: as)).length ≤ maxL) (body : ∀ (p : Program) (e : Env) (s : State) (m : MethodId) (args : Array Value) (below : List Frame) (meth : Method) (c : Code) (Q : State → Prop), (∀ (H : Heap) (locs : List Loc) (pc : Nat) (ls : Array Slot) (v : Int64) , v = r → mH G cI cZ q T2 D2 th2 s H locs → decode cc pc = .ok (.lreturn, 1) → W p l e rm s m args below meth c H locs 0 0 Q (F0 m pc ls [.long v])) → CallFix p m c cc maxL s args ws RX7 → mH G cI cZ q T D th s s.heap [] → ∀ ls : Array Slot, lv_has ls maxL (lv_args 0 (.ref (q 0) :: as)) → W p l e rm s m args below meth c s.heap [] 0 0 Q (F0 m 0 ls [])) : mMl l y ws rm G cI cZ q as T D th r T2 D2 th2 := by
  intro sz
  refine Met.ofW (cc := cc) (maxL := maxL) (ret := ret) hy hw ?_
  intro p e s m args below meth c s₁ B hml hv
  obtain ⟨rfl, hsz, hK, hP⟩ := hv
  subst hsz
  have hl := lv_entry (.ref (q 0) :: as) (n := maxL) hlen
  rw [lg_entry_eq]
  have X : CallFix p m c cc maxL s _ ws RX7 := ⟨B.exec, B.bytes, hml, by rw [← hcls]; exact findClass_of_methodNamed B.named, atoms_spec (ws := ws) B.pre⟩
  refine body p e s m _ below meth c _ (fun H locs pc ls v hv hW hdg => ?_) X ⟨hK, hP, va_S.rf⟩ _ hl
  skip
  exact mendl X (B.returns.trans hret) B.notSynchronized hW hv hdg
theorem mstartf {r : UInt32} (hy : plainName y.cls = true) (hcls : y.cls = RX7) (hw : ws = Cond.code y cc maxL ret :: ws2) (hret : ret = some .float) (hlen : (lg_sl (.ref (q 0) :: as)).length ≤ maxL) (body : ∀ (p : Program) (e : Env) (s : State) (m : MethodId) (args : Array Value) (below : List Frame) (meth : Method) (c : Code) (Q : State → Prop), (∀ (H : Heap) (locs : List Loc) (pc : Nat) (ls : Array Slot) (v : UInt32) , v = r → mH G cI cZ q T2 D2 th2 s H locs → decode cc pc = .ok (.freturn, 1) → W p l e rm s m args below meth c H locs 0 0 Q (F0 m pc ls [.float v])) → CallFix p m c cc maxL s args ws RX7 → mH G cI cZ q T D th s s.heap [] → ∀ ls : Array Slot, lv_has ls maxL (lv_args 0 (.ref (q 0) :: as)) → W p l e rm s m args below meth c s.heap [] 0 0 Q (F0 m 0 ls [])) : mMf l y ws rm G cI cZ q as T D th r T2 D2 th2 := by
  intro sz
  refine Met.ofW (cc := cc) (maxL := maxL) (ret := ret) hy hw ?_
  intro p e s m args below meth c s₁ B hml hv
  obtain ⟨rfl, hsz, hK, hP⟩ := hv
  subst hsz
  have hl := lv_entry (.ref (q 0) :: as) (n := maxL) hlen
  rw [lg_entry_eq]
  have X : CallFix p m c cc maxL s _ ws RX7 := ⟨B.exec, B.bytes, hml, by rw [← hcls]; exact findClass_of_methodNamed B.named, atoms_spec (ws := ws) B.pre⟩
  refine body p e s m _ below meth c _ (fun H locs pc ls v hv hW hdg => ?_) X ⟨hK, hP, va_S.rf⟩ _ hl
  skip
  exact mendf X (B.returns.trans hret) B.notSynchronized hW hv hdg
theorem mstartd {r : UInt64} (hy : plainName y.cls = true) (hcls : y.cls = RX7) (hw : ws = Cond.code y cc maxL ret :: ws2) (hret : ret = some .double) (hlen : (lg_sl (.ref (q 0) :: as)).length ≤ maxL) (body : ∀ (p : Program) (e : Env) (s : State) (m : MethodId) (args : Array Value) (below : List Frame) (meth : Method) (c : Code) (Q : State → Prop), (∀ (H : Heap) (locs : List Loc) (pc : Nat) (ls : Array Slot) (v : UInt64) , v = r → mH G cI cZ q T2 D2 th2 s H locs → decode cc pc = .ok (.dreturn, 1) → W p l e rm s m args below meth c H locs 0 0 Q (F0 m pc ls [.double v])) → CallFix p m c cc maxL s args ws RX7 → mH G cI cZ q T D th s s.heap [] → ∀ ls : Array Slot, lv_has ls maxL (lv_args 0 (.ref (q 0) :: as)) → W p l e rm s m args below meth c s.heap [] 0 0 Q (F0 m 0 ls [])) : mMd l y ws rm G cI cZ q as T D th r T2 D2 th2 := by
  intro sz
  refine Met.ofW (cc := cc) (maxL := maxL) (ret := ret) hy hw ?_
  intro p e s m args below meth c s₁ B hml hv
  obtain ⟨rfl, hsz, hK, hP⟩ := hv
  subst hsz
  have hl := lv_entry (.ref (q 0) :: as) (n := maxL) hlen
  rw [lg_entry_eq]
  have X : CallFix p m c cc maxL s _ ws RX7 := ⟨B.exec, B.bytes, hml, by rw [← hcls]; exact findClass_of_methodNamed B.named, atoms_spec (ws := ws) B.pre⟩
  refine body p e s m _ below meth c _ (fun H locs pc ls v hv hW hdg => ?_) X ⟨hK, hP, va_S.rf⟩ _ hl
  skip
  exact mendd X (B.returns.trans hret) B.notSynchronized hW hv hdg
theorem mstartv (hy : plainName y.cls = true) (hcls : y.cls = RX7) (hw : ws = Cond.code y cc maxL ret :: ws2) (hret : ret = none) (hlen : (lg_sl (.ref (q 0) :: as)).length ≤ maxL) (body : ∀ (p : Program) (e : Env) (s : State) (m : MethodId) (args : Array Value) (below : List Frame) (meth : Method) (c : Code) (Q : State → Prop), (∀ (H : Heap) (locs : List Loc) (pc : Nat) (ls : Array Slot) , mH G cI cZ q T2 D2 th2 s H locs → decode cc pc = .ok (.return_, 1) → W p l e rm s m args below meth c H locs 0 0 Q (F0 m pc ls [])) → CallFix p m c cc maxL s args ws RX7 → mH G cI cZ q T D th s s.heap [] → ∀ ls : Array Slot, lv_has ls maxL (lv_args 0 (.ref (q 0) :: as)) → W p l e rm s m args below meth c s.heap [] 0 0 Q (F0 m 0 ls [])) : mMv l y ws rm G cI cZ q as T D th T2 D2 th2 := by
  intro sz
  refine Met.ofW (cc := cc) (maxL := maxL) (ret := ret) hy hw ?_
  intro p e s m args below meth c s₁ B hml hv
  obtain ⟨rfl, hsz, hK, hP⟩ := hv
  subst hsz
  have hl := lv_entry (.ref (q 0) :: as) (n := maxL) hlen
  rw [lg_entry_eq]
  have X : CallFix p m c cc maxL s _ ws RX7 := ⟨B.exec, B.bytes, hml, by rw [← hcls]; exact findClass_of_methodNamed B.named, atoms_spec (ws := ws) B.pre⟩
  refine body p e s m _ below meth c _ (fun H locs pc ls hW hdg => ?_) X ⟨hK, hP, va_S.rf⟩ _ hl
  skip
  exact mendv X (B.returns.trans hret) B.notSynchronized hW hdg
end MC
