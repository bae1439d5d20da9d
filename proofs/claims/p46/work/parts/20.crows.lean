/-! the class: a pool of cells by their addresses: K the kind of each, R and I the fields by their numbers, A and Q the rows, N their lengths -/
abbrev pR : Type := Nat → Nat → Option Nat
abbrev pI : Type := Nat → Nat → Int32
def pC (kT : Nat → ClassId) (K : Nat → Nat) (R : pR) (I : pI) (A : mD) (Q : pR) (N : Nat → Nat) : Nat → va_E := fun a => if K a = 0 then .inr (2, [va_rf (R 0 a)]) else if K a = 1 then .inr (3, [va_rf (R 1 a), .int (I 0 a), .int (I 1 a), .int (I 2 a), .int (I 3 a), .int (I 4 a)]) else if K a = 2 then .inr (4, [va_rf (R 2 a), .int (I 5 a), .int (I 6 a), .int (I 7 a), .int (I 8 a), .int (I 9 a)]) else if K a = 3 then .inr (5, [va_rf (R 3 a)]) else if K a = 4 then .inr (6, [va_rf (R 4 a), .int (I 10 a)]) else if K a = 5 then .inr (7, [va_rf (R 5 a), va_rf (R 6 a), va_rf (R 7 a), va_rf (R 8 a), va_rf (R 9 a), va_rf (R 10 a), va_rf (R 11 a), va_rf (R 12 a)]) else if K a = 6 then .inr (8, [va_rf (R 13 a), va_rf (R 14 a), va_rf (R 15 a), va_rf (R 16 a), va_rf (R 17 a), va_rf (R 18 a), va_rf (R 19 a)]) else if K a = 7 then .inl (kT 0, N a, .inl (A a)) else if K a = 8 then .inl (kT 1, N a, .inl (A a)) else if K a = 10 then .inl (kT 4, N a, .inr (.inr (.inr (.inr (Q a))))) else if K a = 11 then .inl (kT 5, N a, .inr (.inr (.inr (.inr (Q a))))) else if K a = 12 then .inl (kT 6, N a, .inr (.inr (.inr (.inr (Q a))))) else if K a = 13 then .inl (kT 7, N a, .inr (.inr (.inr (.inr (Q a))))) else if K a = 14 then .inl (kT 8, N a, .inr (.inr (.inr (.inr (Q a))))) else .inl (kT 0, 0, .inl (fun _ => 0))
abbrev ctys (kT : Nat → ClassId) : List (ClassId × FieldType) := [(kT 0, .byte), (kT 1, .char), (kT 2, .int), (kT 3, .int), (kT 4, .object RX0), (kT 5, .object RX1), (kT 6, .object RX2), (kT 7, .object RX3), (kT 8, .object RX4), (kT 9, .int), (kT 10, .int)]
def cA (L0 : List Nat) (sz : Nat) : Nat → Prop := fun a => a ∈ L0 ∨ sz ≤ a
def cW (kT : Nat → ClassId) (L : List Nat) (K : Nat → Nat) (R : pR) (I : pI) (A : mD) (Q : pR) (N : Nat → Nat) : va_W := va_pl L (pC kT K R I A Q N)
theorem cW_D {kT : Nat → ClassId} {L : List Nat} {f : Nat → va_E} {B : Nat → Prop} (hn : L.Nodup) (hB : ∀ a ∈ L, B a) : va_D B (va_pl L f) := by
  have key : ∀ (i : Nat) (x : Nat × va_E), (va_pl L f)[i]? = some x → L[i]? = some x.1 := by
    intro i x hx
    simp only [va_pl, List.getElem?_map] at hx
    cases h : L[i]? with
    | none => rw [h] at hx; cases hx
    | some b => rw [h] at hx; cases hx; rfl
  refine ⟨fun i j x y hx hy hxy => ?_, fun k x hx => hB _ (List.mem_of_getElem? (key k x hx))⟩
  have h1 := key i x hx
  have h2 := key j y hy
  rw [hxy] at h1
  have hi : i < L.length := (List.getElem?_eq_some_iff.mp h1).1
  exact (List.getElem?_inj hi hn).mp (h1.trans h2.symm)
def cH (G : va_G) (kT : Nat → ClassId) (L0 L : List Nat) (K : Nat → Nat) (R : pR) (I : pI) (A : mD) (Q : pR) (N : Nat → Nat) (s : State) (H : Heap) (locs : List Loc) : Prop :=
  va_K G vwCl (ctys kT) s ∧ va_P G vwCl (cW kT L K R I A Q N) H ∧ L.Nodup ∧ (∀ a ∈ L, cA L0 s.heap.size a) ∧ va_S (cA L0 s.heap.size) s.heap H locs
theorem cH.D {G : va_G} {kT : Nat → ClassId} {L0 L : List Nat} {K : Nat → Nat} {R : pR} {I : pI} {A : mD} {Q : pR} {N : Nat → Nat} {s : State} {H : Heap} {locs : List Loc} (h : cH G kT L0 L K R I A Q N s H locs) : va_D (cA L0 s.heap.size) (cW kT L K R I A Q N) := cW_D (kT := kT) h.2.2.1 h.2.2.2.1
theorem cH.eq {G : va_G} {kT : Nat → ClassId} {L0 L : List Nat} {K : Nat → Nat} {R R2 : pR} {I I2 : pI} {A A2 : mD} {Q Q2 : pR} {N : Nat → Nat} {s : State} {H : Heap} {locs : List Loc} (h : cH G kT L0 L K R I A Q N s H locs) (e1 : R = R2) (e2 : I = I2) (e3 : A = A2) (e4 : Q = Q2) : cH G kT L0 L K R2 I2 A2 Q2 N s H locs := by subst e1; subst e2; subst e3; subst e4; exact h
theorem cW_get {kT : Nat → ClassId} {L : List Nat} {K : Nat → Nat} {R : pR} {I : pI} {A : mD} {Q : pR} {N : Nat → Nat} {a : Nat} {e : va_E} (h : a ∈ L) (he : pC kT K R I A Q N a = e) : ∃ k : Nat, (cW kT L K R I A Q N)[k]? = some (a, e) := by
  obtain ⟨k, hk⟩ := va_pl_get (X := []) (f := pC kT K R I A Q N) h
  exact ⟨k, by rw [← he]; exact hk⟩
theorem cW_set {kT : Nat → ClassId} {L : List Nat} {K : Nat → Nat} {R R2 : pR} {I I2 : pI} {A A2 : mD} {Q Q2 : pR} {N : Nat → Nat} {a k : Nat} {e e0 : va_E} {B : Nat → Prop} (hD : va_D B (cW kT L K R I A Q N)) (h : a ∈ L) (hk : (cW kT L K R I A Q N)[k]? = some (a, e0)) (he0 : pC kT K R I A Q N a = e0) (he : va_up (pC kT K R I A Q N) a e = pC kT K R2 I2 A2 Q2 N) : (cW kT L K R I A Q N).set k (a, e) = cW kT L K R2 I2 A2 Q2 N := by
  subst he0
  have h1 := va_pl_set (X := []) (e := e) hD h hk
  rw [he] at h1
  exact h1
section CR
variable {p : Program} {l : Launch} {e : Env} {Rm : Room} {s : State} {m : MethodId} {args : Array Value} {below : List Frame} {meth : Method} {c : Code} {H : Heap} {locs : List Loc} {cells slots : Nat} {Z : State → Prop} {cc : ByteArray} {pc nL : Nat} {ls : Array Slot} {rest : List Value} {Ts : List Cond} {own : String}
variable {G : va_G} {kT : Nat → ClassId} {L0 L : List Nat} {K : Nat → Nat} {R : pR} {I : pI} {A : mD} {Q : pR} {N : Nat → Nat}
theorem pC_0 {a : Nat} (h : K a = 0) : pC kT K R I A Q N a = .inr (2, [va_rf (R 0 a)]) := by simp [pC, h]
theorem pC_1 {a : Nat} (h : K a = 1) : pC kT K R I A Q N a = .inr (3, [va_rf (R 1 a), .int (I 0 a), .int (I 1 a), .int (I 2 a), .int (I 3 a), .int (I 4 a)]) := by simp [pC, h]
theorem pC_2 {a : Nat} (h : K a = 2) : pC kT K R I A Q N a = .inr (4, [va_rf (R 2 a), .int (I 5 a), .int (I 6 a), .int (I 7 a), .int (I 8 a), .int (I 9 a)]) := by simp [pC, h]
theorem pC_3 {a : Nat} (h : K a = 3) : pC kT K R I A Q N a = .inr (5, [va_rf (R 3 a)]) := by simp [pC, h]
theorem pC_4 {a : Nat} (h : K a = 4) : pC kT K R I A Q N a = .inr (6, [va_rf (R 4 a), .int (I 10 a)]) := by simp [pC, h]
theorem pC_5 {a : Nat} (h : K a = 5) : pC kT K R I A Q N a = .inr (7, [va_rf (R 5 a), va_rf (R 6 a), va_rf (R 7 a), va_rf (R 8 a), va_rf (R 9 a), va_rf (R 10 a), va_rf (R 11 a), va_rf (R 12 a)]) := by simp [pC, h]
theorem pC_6 {a : Nat} (h : K a = 6) : pC kT K R I A Q N a = .inr (8, [va_rf (R 13 a), va_rf (R 14 a), va_rf (R 15 a), va_rf (R 16 a), va_rf (R 17 a), va_rf (R 18 a), va_rf (R 19 a)]) := by simp [pC, h]
theorem pC_7 {a : Nat} (h : K a = 7) : pC kT K R I A Q N a = .inl (kT 0, N a, .inl (A a)) := by simp [pC, h]
theorem pC_8 {a : Nat} (h : K a = 8) : pC kT K R I A Q N a = .inl (kT 1, N a, .inl (A a)) := by simp [pC, h]
theorem pC_10 {a : Nat} (h : K a = 10) : pC kT K R I A Q N a = .inl (kT 4, N a, .inr (.inr (.inr (.inr (Q a))))) := by simp [pC, h]
theorem pC_11 {a : Nat} (h : K a = 11) : pC kT K R I A Q N a = .inl (kT 5, N a, .inr (.inr (.inr (.inr (Q a))))) := by simp [pC, h]
theorem pC_12 {a : Nat} (h : K a = 12) : pC kT K R I A Q N a = .inl (kT 6, N a, .inr (.inr (.inr (.inr (Q a))))) := by simp [pC, h]
theorem pC_13 {a : Nat} (h : K a = 13) : pC kT K R I A Q N a = .inl (kT 7, N a, .inr (.inr (.inr (.inr (Q a))))) := by simp [pC, h]
theorem pC_14 {a : Nat} (h : K a = 14) : pC kT K R I A Q N a = .inl (kT 8, N a, .inr (.inr (.inr (.inr (Q a))))) := by simp [pC, h]
theorem pU_0_bytes {a : Nat} {v : Nat} (h : K a = 0) : va_up (pC kT K R I A Q N) a (.inr (2, [.ref v])) = pC kT K (u2 R 0 a (some v)) I A Q N := by
  funext b
  by_cases hb : b = a
  · subst hb; simp [pC, va_up, u2, h, va_rf]
  · rw [va_up_ne _ _ hb]; simp [pC, u2, hb]
theorem pU_1_parts {a : Nat} {v : Nat} (h : K a = 1) : va_up (pC kT K R I A Q N) a (.inr (3, [.ref v, .int (I 0 a), .int (I 1 a), .int (I 2 a), .int (I 3 a), .int (I 4 a)])) = pC kT K (u2 R 1 a (some v)) I A Q N := by
  funext b
  by_cases hb : b = a
  · subst hb; simp [pC, va_up, u2, h, va_rf]
  · rw [va_up_ne _ _ hb]; simp [pC, u2, hb]
theorem pU_1_partCount {a : Nat} {v : Int32} (h : K a = 1) : va_up (pC kT K R I A Q N) a (.inr (3, [va_rf (R 1 a), .int v, .int (I 1 a), .int (I 2 a), .int (I 3 a), .int (I 4 a)])) = pC kT K R (u2 I 0 a v) A Q N := by
  funext b
  by_cases hb : b = a
  · subst hb; simp [pC, va_up, u2, h, va_rf]
  · rw [va_up_ne _ _ hb]; simp [pC, u2, hb]
theorem pU_1_part {a : Nat} {v : Int32} (h : K a = 1) : va_up (pC kT K R I A Q N) a (.inr (3, [va_rf (R 1 a), .int (I 0 a), .int v, .int (I 2 a), .int (I 3 a), .int (I 4 a)])) = pC kT K R (u2 I 1 a v) A Q N := by
  funext b
  by_cases hb : b = a
  · subst hb; simp [pC, va_up, u2, h, va_rf]
  · rw [va_up_ne _ _ hb]; simp [pC, u2, hb]
theorem pU_1_place {a : Nat} {v : Int32} (h : K a = 1) : va_up (pC kT K R I A Q N) a (.inr (3, [va_rf (R 1 a), .int (I 0 a), .int (I 1 a), .int v, .int (I 3 a), .int (I 4 a)])) = pC kT K R (u2 I 2 a v) A Q N := by
  funext b
  by_cases hb : b = a
  · subst hb; simp [pC, va_up, u2, h, va_rf]
  · rw [va_up_ne _ _ hb]; simp [pC, u2, hb]
theorem pU_1_passed {a : Nat} {v : Int32} (h : K a = 1) : va_up (pC kT K R I A Q N) a (.inr (3, [va_rf (R 1 a), .int (I 0 a), .int (I 1 a), .int (I 2 a), .int v, .int (I 4 a)])) = pC kT K R (u2 I 3 a v) A Q N := by
  funext b
  by_cases hb : b = a
  · subst hb; simp [pC, va_up, u2, h, va_rf]
  · rw [va_up_ne _ _ hb]; simp [pC, u2, hb]
theorem pU_1_total {a : Nat} {v : Int32} (h : K a = 1) : va_up (pC kT K R I A Q N) a (.inr (3, [va_rf (R 1 a), .int (I 0 a), .int (I 1 a), .int (I 2 a), .int (I 3 a), .int v])) = pC kT K R (u2 I 4 a v) A Q N := by
  funext b
  by_cases hb : b = a
  · subst hb; simp [pC, va_up, u2, h, va_rf]
  · rw [va_up_ne _ _ hb]; simp [pC, u2, hb]
theorem pU_2_row {a : Nat} {v : Nat} (h : K a = 2) : va_up (pC kT K R I A Q N) a (.inr (4, [.ref v, .int (I 5 a), .int (I 6 a), .int (I 7 a), .int (I 8 a), .int (I 9 a)])) = pC kT K (u2 R 2 a (some v)) I A Q N := by
  funext b
  by_cases hb : b = a
  · subst hb; simp [pC, va_up, u2, h, va_rf]
  · rw [va_up_ne _ _ hb]; simp [pC, u2, hb]
theorem pU_2_place {a : Nat} {v : Int32} (h : K a = 2) : va_up (pC kT K R I A Q N) a (.inr (4, [va_rf (R 2 a), .int v, .int (I 6 a), .int (I 7 a), .int (I 8 a), .int (I 9 a)])) = pC kT K R (u2 I 5 a v) A Q N := by
  funext b
  by_cases hb : b = a
  · subst hb; simp [pC, va_up, u2, h, va_rf]
  · rw [va_up_ne _ _ hb]; simp [pC, u2, hb]
theorem pU_2_end {a : Nat} {v : Int32} (h : K a = 2) : va_up (pC kT K R I A Q N) a (.inr (4, [va_rf (R 2 a), .int (I 5 a), .int v, .int (I 7 a), .int (I 8 a), .int (I 9 a)])) = pC kT K R (u2 I 6 a v) A Q N := by
  funext b
  by_cases hb : b = a
  · subst hb; simp [pC, va_up, u2, h, va_rf]
  · rw [va_up_ne _ _ hb]; simp [pC, u2, hb]
theorem pU_2_marked {a : Nat} {v : Int32} (h : K a = 2) : va_up (pC kT K R I A Q N) a (.inr (4, [va_rf (R 2 a), .int (I 5 a), .int (I 6 a), .int v, .int (I 8 a), .int (I 9 a)])) = pC kT K R (u2 I 7 a v) A Q N := by
  funext b
  by_cases hb : b = a
  · subst hb; simp [pC, va_up, u2, h, va_rf]
  · rw [va_up_ne _ _ hb]; simp [pC, u2, hb]
theorem pU_2_isThere {a : Nat} {v : Int32} (h : K a = 2) : va_up (pC kT K R I A Q N) a (.inr (4, [va_rf (R 2 a), .int (I 5 a), .int (I 6 a), .int (I 7 a), .int v, .int (I 9 a)])) = pC kT K R (u2 I 8 a v) A Q N := by
  funext b
  by_cases hb : b = a
  · subst hb; simp [pC, va_up, u2, h, va_rf]
  · rw [va_up_ne _ _ hb]; simp [pC, u2, hb]
theorem pU_2_isShut {a : Nat} {v : Int32} (h : K a = 2) : va_up (pC kT K R I A Q N) a (.inr (4, [va_rf (R 2 a), .int (I 5 a), .int (I 6 a), .int (I 7 a), .int (I 8 a), .int v])) = pC kT K R (u2 I 9 a v) A Q N := by
  funext b
  by_cases hb : b = a
  · subst hb; simp [pC, va_up, u2, h, va_rf]
  · rw [va_up_ne _ _ hb]; simp [pC, u2, hb]
theorem pU_3_signs {a : Nat} {v : Nat} (h : K a = 3) : va_up (pC kT K R I A Q N) a (.inr (5, [.ref v])) = pC kT K (u2 R 3 a (some v)) I A Q N := by
  funext b
  by_cases hb : b = a
  · subst hb; simp [pC, va_up, u2, h, va_rf]
  · rw [va_up_ne _ _ hb]; simp [pC, u2, hb]
theorem pU_4_signs {a : Nat} {v : Nat} (h : K a = 4) : va_up (pC kT K R I A Q N) a (.inr (6, [.ref v, .int (I 10 a)])) = pC kT K (u2 R 4 a (some v)) I A Q N := by
  funext b
  by_cases hb : b = a
  · subst hb; simp [pC, va_up, u2, h, va_rf]
  · rw [va_up_ne _ _ hb]; simp [pC, u2, hb]
theorem pU_4_count {a : Nat} {v : Int32} (h : K a = 4) : va_up (pC kT K R I A Q N) a (.inr (6, [va_rf (R 4 a), .int v])) = pC kT K R (u2 I 10 a v) A Q N := by
  funext b
  by_cases hb : b = a
  · subst hb; simp [pC, va_up, u2, h, va_rf]
  · rw [va_up_ne _ _ hb]; simp [pC, u2, hb]
theorem pU_5_row {a : Nat} {v : Nat} (h : K a = 5) : va_up (pC kT K R I A Q N) a (.inr (7, [.ref v, va_rf (R 6 a), va_rf (R 7 a), va_rf (R 8 a), va_rf (R 9 a), va_rf (R 10 a), va_rf (R 11 a), va_rf (R 12 a)])) = pC kT K (u2 R 5 a (some v)) I A Q N := by
  funext b
  by_cases hb : b = a
  · subst hb; simp [pC, va_up, u2, h, va_rf]
  · rw [va_up_ne _ _ hb]; simp [pC, u2, hb]
theorem pU_5_three {a : Nat} {v : Nat} (h : K a = 5) : va_up (pC kT K R I A Q N) a (.inr (7, [va_rf (R 5 a), .ref v, va_rf (R 7 a), va_rf (R 8 a), va_rf (R 9 a), va_rf (R 10 a), va_rf (R 11 a), va_rf (R 12 a)])) = pC kT K (u2 R 6 a (some v)) I A Q N := by
  funext b
  by_cases hb : b = a
  · subst hb; simp [pC, va_up, u2, h, va_rf]
  · rw [va_up_ne _ _ hb]; simp [pC, u2, hb]
theorem pU_5_reader {a : Nat} {v : Nat} (h : K a = 5) : va_up (pC kT K R I A Q N) a (.inr (7, [va_rf (R 5 a), va_rf (R 6 a), .ref v, va_rf (R 8 a), va_rf (R 9 a), va_rf (R 10 a), va_rf (R 11 a), va_rf (R 12 a)])) = pC kT K (u2 R 7 a (some v)) I A Q N := by
  funext b
  by_cases hb : b = a
  · subst hb; simp [pC, va_up, u2, h, va_rf]
  · rw [va_up_ne _ _ hb]; simp [pC, u2, hb]
theorem pU_5_textWriter {a : Nat} {v : Nat} (h : K a = 5) : va_up (pC kT K R I A Q N) a (.inr (7, [va_rf (R 5 a), va_rf (R 6 a), va_rf (R 7 a), .ref v, va_rf (R 9 a), va_rf (R 10 a), va_rf (R 11 a), va_rf (R 12 a)])) = pC kT K (u2 R 8 a (some v)) I A Q N := by
  funext b
  by_cases hb : b = a
  · subst hb; simp [pC, va_up, u2, h, va_rf]
  · rw [va_up_ne _ _ hb]; simp [pC, u2, hb]
theorem pU_5_arrayWriter {a : Nat} {v : Nat} (h : K a = 5) : va_up (pC kT K R I A Q N) a (.inr (7, [va_rf (R 5 a), va_rf (R 6 a), va_rf (R 7 a), va_rf (R 8 a), .ref v, va_rf (R 10 a), va_rf (R 11 a), va_rf (R 12 a)])) = pC kT K (u2 R 9 a (some v)) I A Q N := by
  funext b
  by_cases hb : b = a
  · subst hb; simp [pC, va_up, u2, h, va_rf]
  · rw [va_up_ne _ _ hb]; simp [pC, u2, hb]
theorem pU_5_together {a : Nat} {v : Nat} (h : K a = 5) : va_up (pC kT K R I A Q N) a (.inr (7, [va_rf (R 5 a), va_rf (R 6 a), va_rf (R 7 a), va_rf (R 8 a), va_rf (R 9 a), .ref v, va_rf (R 11 a), va_rf (R 12 a)])) = pC kT K (u2 R 10 a (some v)) I A Q N := by
  funext b
  by_cases hb : b = a
  · subst hb; simp [pC, va_up, u2, h, va_rf]
  · rw [va_up_ne _ _ hb]; simp [pC, u2, hb]
theorem pU_5_two {a : Nat} {v : Nat} (h : K a = 5) : va_up (pC kT K R I A Q N) a (.inr (7, [va_rf (R 5 a), va_rf (R 6 a), va_rf (R 7 a), va_rf (R 8 a), va_rf (R 9 a), va_rf (R 10 a), .ref v, va_rf (R 12 a)])) = pC kT K (u2 R 11 a (some v)) I A Q N := by
  funext b
  by_cases hb : b = a
  · subst hb; simp [pC, va_up, u2, h, va_rf]
  · rw [va_up_ne _ _ hb]; simp [pC, u2, hb]
theorem pU_5_stream {a : Nat} {v : Nat} (h : K a = 5) : va_up (pC kT K R I A Q N) a (.inr (7, [va_rf (R 5 a), va_rf (R 6 a), va_rf (R 7 a), va_rf (R 8 a), va_rf (R 9 a), va_rf (R 10 a), va_rf (R 11 a), .ref v])) = pC kT K (u2 R 12 a (some v)) I A Q N := by
  funext b
  by_cases hb : b = a
  · subst hb; simp [pC, va_up, u2, h, va_rf]
  · rw [va_up_ne _ _ hb]; simp [pC, u2, hb]
theorem pU_6_signRows {a : Nat} {v : Nat} (h : K a = 6) : va_up (pC kT K R I A Q N) a (.inr (8, [.ref v, va_rf (R 14 a), va_rf (R 15 a), va_rf (R 16 a), va_rf (R 17 a), va_rf (R 18 a), va_rf (R 19 a)])) = pC kT K (u2 R 13 a (some v)) I A Q N := by
  funext b
  by_cases hb : b = a
  · subst hb; simp [pC, va_up, u2, h, va_rf]
  · rw [va_up_ne _ _ hb]; simp [pC, u2, hb]
theorem pU_6_byteRows {a : Nat} {v : Nat} (h : K a = 6) : va_up (pC kT K R I A Q N) a (.inr (8, [va_rf (R 13 a), .ref v, va_rf (R 15 a), va_rf (R 16 a), va_rf (R 17 a), va_rf (R 18 a), va_rf (R 19 a)])) = pC kT K (u2 R 14 a (some v)) I A Q N := by
  funext b
  by_cases hb : b = a
  · subst hb; simp [pC, va_up, u2, h, va_rf]
  · rw [va_up_ne _ _ hb]; simp [pC, u2, hb]
theorem pU_6_textWriters {a : Nat} {v : Nat} (h : K a = 6) : va_up (pC kT K R I A Q N) a (.inr (8, [va_rf (R 13 a), va_rf (R 14 a), .ref v, va_rf (R 16 a), va_rf (R 17 a), va_rf (R 18 a), va_rf (R 19 a)])) = pC kT K (u2 R 15 a (some v)) I A Q N := by
  funext b
  by_cases hb : b = a
  · subst hb; simp [pC, va_up, u2, h, va_rf]
  · rw [va_up_ne _ _ hb]; simp [pC, u2, hb]
theorem pU_6_arrayWriters {a : Nat} {v : Nat} (h : K a = 6) : va_up (pC kT K R I A Q N) a (.inr (8, [va_rf (R 13 a), va_rf (R 14 a), va_rf (R 15 a), .ref v, va_rf (R 17 a), va_rf (R 18 a), va_rf (R 19 a)])) = pC kT K (u2 R 16 a (some v)) I A Q N := by
  funext b
  by_cases hb : b = a
  · subst hb; simp [pC, va_up, u2, h, va_rf]
  · rw [va_up_ne _ _ hb]; simp [pC, u2, hb]
theorem pU_6_readers {a : Nat} {v : Nat} (h : K a = 6) : va_up (pC kT K R I A Q N) a (.inr (8, [va_rf (R 13 a), va_rf (R 14 a), va_rf (R 15 a), va_rf (R 16 a), .ref v, va_rf (R 18 a), va_rf (R 19 a)])) = pC kT K (u2 R 17 a (some v)) I A Q N := by
  funext b
  by_cases hb : b = a
  · subst hb; simp [pC, va_up, u2, h, va_rf]
  · rw [va_up_ne _ _ hb]; simp [pC, u2, hb]
theorem pU_6_streams {a : Nat} {v : Nat} (h : K a = 6) : va_up (pC kT K R I A Q N) a (.inr (8, [va_rf (R 13 a), va_rf (R 14 a), va_rf (R 15 a), va_rf (R 16 a), va_rf (R 17 a), .ref v, va_rf (R 19 a)])) = pC kT K (u2 R 18 a (some v)) I A Q N := by
  funext b
  by_cases hb : b = a
  · subst hb; simp [pC, va_up, u2, h, va_rf]
  · rw [va_up_ne _ _ hb]; simp [pC, u2, hb]
theorem pU_6_trial {a : Nat} {v : Nat} (h : K a = 6) : va_up (pC kT K R I A Q N) a (.inr (8, [va_rf (R 13 a), va_rf (R 14 a), va_rf (R 15 a), va_rf (R 16 a), va_rf (R 17 a), va_rf (R 18 a), .ref v])) = pC kT K (u2 R 19 a (some v)) I A Q N := by
  funext b
  by_cases hb : b = a
  · subst hb; simp [pC, va_up, u2, h, va_rf]
  · rw [va_up_ne _ _ hb]; simp [pC, u2, hb]
theorem pU_7 {a j : Nat} {v : Int32} (h : K a = 7) : va_up (pC kT K R I A Q N) a (.inl (kT 0, N a, .inl (upd (A a) j v))) = pC kT K R I (u2 A a j v) Q N := by
  funext b
  by_cases hb : b = a
  · subst hb
    have e : upd (A b) j v = u2 A b j v b := by funext i; simp [upd, u2]
    simp [pC, va_up, h, e]
  · rw [va_up_ne _ _ hb]
    have e : u2 A a j v b = A b := u2_ne hb
    simp [pC, e]
theorem pU_8 {a j : Nat} {v : Int32} (h : K a = 8) : va_up (pC kT K R I A Q N) a (.inl (kT 1, N a, .inl (upd (A a) j v))) = pC kT K R I (u2 A a j v) Q N := by
  funext b
  by_cases hb : b = a
  · subst hb
    have e : upd (A b) j v = u2 A b j v b := by funext i; simp [upd, u2]
    simp [pC, va_up, h, e]
  · rw [va_up_ne _ _ hb]
    have e : u2 A a j v b = A b := u2_ne hb
    simp [pC, e]
theorem pU_10 {a j v : Nat} (h : K a = 10) : va_up (pC kT K R I A Q N) a (.inl (kT 4, N a, .inr (.inr (.inr (.inr (va_up (Q a) j (some v))))))) = pC kT K R I A (u2 Q a j (some v)) N := by
  funext b
  by_cases hb : b = a
  · subst hb
    have e : va_up (Q b) j (some v) = u2 Q b j (some v) b := by funext i; simp [va_up, u2]
    simp [pC, va_up, h, ← e]
  · rw [va_up_ne _ _ hb]
    have e : u2 Q a j (some v) b = Q b := u2_ne hb
    simp [pC, e]
theorem pU_11 {a j v : Nat} (h : K a = 11) : va_up (pC kT K R I A Q N) a (.inl (kT 5, N a, .inr (.inr (.inr (.inr (va_up (Q a) j (some v))))))) = pC kT K R I A (u2 Q a j (some v)) N := by
  funext b
  by_cases hb : b = a
  · subst hb
    have e : va_up (Q b) j (some v) = u2 Q b j (some v) b := by funext i; simp [va_up, u2]
    simp [pC, va_up, h, ← e]
  · rw [va_up_ne _ _ hb]
    have e : u2 Q a j (some v) b = Q b := u2_ne hb
    simp [pC, e]
theorem pU_12 {a j v : Nat} (h : K a = 12) : va_up (pC kT K R I A Q N) a (.inl (kT 6, N a, .inr (.inr (.inr (.inr (va_up (Q a) j (some v))))))) = pC kT K R I A (u2 Q a j (some v)) N := by
  funext b
  by_cases hb : b = a
  · subst hb
    have e : va_up (Q b) j (some v) = u2 Q b j (some v) b := by funext i; simp [va_up, u2]
    simp [pC, va_up, h, ← e]
  · rw [va_up_ne _ _ hb]
    have e : u2 Q a j (some v) b = Q b := u2_ne hb
    simp [pC, e]
theorem pU_13 {a j v : Nat} (h : K a = 13) : va_up (pC kT K R I A Q N) a (.inl (kT 7, N a, .inr (.inr (.inr (.inr (va_up (Q a) j (some v))))))) = pC kT K R I A (u2 Q a j (some v)) N := by
  funext b
  by_cases hb : b = a
  · subst hb
    have e : va_up (Q b) j (some v) = u2 Q b j (some v) b := by funext i; simp [va_up, u2]
    simp [pC, va_up, h, ← e]
  · rw [va_up_ne _ _ hb]
    have e : u2 Q a j (some v) b = Q b := u2_ne hb
    simp [pC, e]
theorem pU_14 {a j v : Nat} (h : K a = 14) : va_up (pC kT K R I A Q N) a (.inl (kT 8, N a, .inr (.inr (.inr (.inr (va_up (Q a) j (some v))))))) = pC kT K R I A (u2 Q a j (some v)) N := by
  funext b
  by_cases hb : b = a
  · subst hb
    have e : va_up (Q b) j (some v) = u2 Q b j (some v) b := by funext i; simp [va_up, u2]
    simp [pC, va_up, h, ← e]
  · rw [va_up_ne _ _ hb]
    have e : u2 Q a j (some v) b = Q b := u2_ne hb
    simp [pC, e]
theorem cg_0_bytes (X : CallFix p m c cc nL s args Ts own) (hin : ∀ w ∈ wsX00, w ∈ Ts) (hW : cH G kT L0 L K R I A Q N s H locs) {a : Nat} {v : Nat} (ha : a ∈ L) (hk : K a = 0) (hv : R 0 a = some v) {index : Nat} (hlink : (Cond.fieldLink own index (TX0 0).1 (TX0 0).2.1 (TX0 0).2.2.1).before args s = true) (hdg : decode cc pc = .ok (.getfield index, 3)) (kk : W p l e Rm s m args below meth c H locs cells slots Z (F0 m (pc + 3) ls (.ref v :: rest))) : W p l e Rm s m args below meth c H locs cells slots Z (F0 m pc ls (.ref a :: rest)) := by
  obtain ⟨k0, h0⟩ := cW_get ha (pC_0 (kT := kT) (R := R) (I := I) (A := A) (Q := Q) (N := N) hk)
  refine va_get (D := G) (ci := 2) (C := RX0) (T := TX0) (N := 1) (own := own) (ref := (TX0 0).1) X.1 X.2.1 X.2.2.2.2 hin X.2.2.2.1 hW.1 hW.2.1 k0 h0 rfl 0 (by decide) hlink (fun _ h9 => h9) rfl hdg ?_
  rw [hv]
  exact kk
theorem cg_1_parts (X : CallFix p m c cc nL s args Ts own) (hin : ∀ w ∈ wsX10, w ∈ Ts) (hW : cH G kT L0 L K R I A Q N s H locs) {a : Nat} {v : Nat} (ha : a ∈ L) (hk : K a = 1) (hv : R 1 a = some v) {index : Nat} (hlink : (Cond.fieldLink own index (TX1 0).1 (TX1 0).2.1 (TX1 0).2.2.1).before args s = true) (hdg : decode cc pc = .ok (.getfield index, 3)) (kk : W p l e Rm s m args below meth c H locs cells slots Z (F0 m (pc + 3) ls (.ref v :: rest))) : W p l e Rm s m args below meth c H locs cells slots Z (F0 m pc ls (.ref a :: rest)) := by
  obtain ⟨k0, h0⟩ := cW_get ha (pC_1 (kT := kT) (R := R) (I := I) (A := A) (Q := Q) (N := N) hk)
  refine va_get (D := G) (ci := 3) (C := RX1) (T := TX1) (N := 6) (own := own) (ref := (TX1 0).1) X.1 X.2.1 X.2.2.2.2 hin X.2.2.2.1 hW.1 hW.2.1 k0 h0 rfl 0 (by decide) hlink (fun _ h9 => h9) rfl hdg ?_
  rw [hv]
  exact kk
theorem cg_1_partCount (X : CallFix p m c cc nL s args Ts own) (hin : ∀ w ∈ wsX10, w ∈ Ts) (hW : cH G kT L0 L K R I A Q N s H locs) {a : Nat} {v : Int32} (ha : a ∈ L) (hk : K a = 1) (hv : I 0 a = v) {index : Nat} (hlink : (Cond.fieldLink own index (TX1 1).1 (TX1 1).2.1 (TX1 1).2.2.1).before args s = true) (hdg : decode cc pc = .ok (.getfield index, 3)) (kk : W p l e Rm s m args below meth c H locs cells slots Z (F0 m (pc + 3) ls (.int v :: rest))) : W p l e Rm s m args below meth c H locs cells slots Z (F0 m pc ls (.ref a :: rest)) := by
  obtain ⟨k0, h0⟩ := cW_get ha (pC_1 (kT := kT) (R := R) (I := I) (A := A) (Q := Q) (N := N) hk)
  refine va_get (D := G) (ci := 3) (C := RX1) (T := TX1) (N := 6) (own := own) (ref := (TX1 1).1) X.1 X.2.1 X.2.2.2.2 hin X.2.2.2.1 hW.1 hW.2.1 k0 h0 rfl 1 (by decide) hlink (fun _ h9 => h9) rfl hdg ?_
  rw [hv]
  exact kk
theorem cp_1_partCount (X : CallFix p m c cc nL s args Ts own) (hin : ∀ w ∈ wsX10, w ∈ Ts) (hW : cH G kT L0 L K R I A Q N s H locs) {a : Nat} {v : Int32} (ha : a ∈ L) (hk : K a = 1) {index : Nat} (hlink : (Cond.fieldLink own index (TX1 1).1 (TX1 1).2.1 (TX1 1).2.2.1).before args s = true) (hdg : decode cc pc = .ok (.putfield index, 3)) (kk : ∀ (H1 : Heap) (locs1 : List Loc), cH G kT L0 L K R (u2 I 0 a v) A Q N s H1 locs1 → W p l e Rm s m args below meth c H1 locs1 cells slots Z (F0 m (pc + 3) ls rest)) : W p l e Rm s m args below meth c H locs cells slots Z (F0 m pc ls (.int v :: .ref a :: rest)) := by
  obtain ⟨k0, h0⟩ := cW_get ha (pC_1 (kT := kT) (R := R) (I := I) (A := A) (Q := Q) (N := N) hk)
  refine va_put (D := G) (ci := 3) (v := .int v) (ty := .int) (C := RX1) (T := TX1) (N := 6) (own := own) (ref := (TX1 1).1) X.1 X.2.1 X.2.2.2.2 hin tyX1 tyX1_ok nmX1 X.2.2.2.1 hW.1 hW.2.1 hW.D hW.2.2.2.2 k0 h0 rfl 1 (by decide) hlink (fun _ h9 => h9) rfl (by decide +kernel) rfl rfl (Nat.le_of_ble_eq_true rfl) hdg (fun H1 locs1 hP hD hS => kk H1 locs1 ⟨hW.1, ?_, hW.2.2.1, hW.2.2.2.1, hS⟩)
  have e := cW_set hW.D ha h0 (pC_1 (kT := kT) (R := R) (I := I) (A := A) (Q := Q) (N := N) hk) (pU_1_partCount (kT := kT) (R := R) (I := I) (A := A) (Q := Q) (N := N) (v := v) hk)
  rw [← e]
  exact hP
theorem cg_1_part (X : CallFix p m c cc nL s args Ts own) (hin : ∀ w ∈ wsX10, w ∈ Ts) (hW : cH G kT L0 L K R I A Q N s H locs) {a : Nat} {v : Int32} (ha : a ∈ L) (hk : K a = 1) (hv : I 1 a = v) {index : Nat} (hlink : (Cond.fieldLink own index (TX1 2).1 (TX1 2).2.1 (TX1 2).2.2.1).before args s = true) (hdg : decode cc pc = .ok (.getfield index, 3)) (kk : W p l e Rm s m args below meth c H locs cells slots Z (F0 m (pc + 3) ls (.int v :: rest))) : W p l e Rm s m args below meth c H locs cells slots Z (F0 m pc ls (.ref a :: rest)) := by
  obtain ⟨k0, h0⟩ := cW_get ha (pC_1 (kT := kT) (R := R) (I := I) (A := A) (Q := Q) (N := N) hk)
  refine va_get (D := G) (ci := 3) (C := RX1) (T := TX1) (N := 6) (own := own) (ref := (TX1 2).1) X.1 X.2.1 X.2.2.2.2 hin X.2.2.2.1 hW.1 hW.2.1 k0 h0 rfl 2 (by decide) hlink (fun _ h9 => h9) rfl hdg ?_
  rw [hv]
  exact kk
theorem cp_1_part (X : CallFix p m c cc nL s args Ts own) (hin : ∀ w ∈ wsX10, w ∈ Ts) (hW : cH G kT L0 L K R I A Q N s H locs) {a : Nat} {v : Int32} (ha : a ∈ L) (hk : K a = 1) {index : Nat} (hlink : (Cond.fieldLink own index (TX1 2).1 (TX1 2).2.1 (TX1 2).2.2.1).before args s = true) (hdg : decode cc pc = .ok (.putfield index, 3)) (kk : ∀ (H1 : Heap) (locs1 : List Loc), cH G kT L0 L K R (u2 I 1 a v) A Q N s H1 locs1 → W p l e Rm s m args below meth c H1 locs1 cells slots Z (F0 m (pc + 3) ls rest)) : W p l e Rm s m args below meth c H locs cells slots Z (F0 m pc ls (.int v :: .ref a :: rest)) := by
  obtain ⟨k0, h0⟩ := cW_get ha (pC_1 (kT := kT) (R := R) (I := I) (A := A) (Q := Q) (N := N) hk)
  refine va_put (D := G) (ci := 3) (v := .int v) (ty := .int) (C := RX1) (T := TX1) (N := 6) (own := own) (ref := (TX1 2).1) X.1 X.2.1 X.2.2.2.2 hin tyX1 tyX1_ok nmX1 X.2.2.2.1 hW.1 hW.2.1 hW.D hW.2.2.2.2 k0 h0 rfl 2 (by decide) hlink (fun _ h9 => h9) rfl (by decide +kernel) rfl rfl (Nat.le_of_ble_eq_true rfl) hdg (fun H1 locs1 hP hD hS => kk H1 locs1 ⟨hW.1, ?_, hW.2.2.1, hW.2.2.2.1, hS⟩)
  have e := cW_set hW.D ha h0 (pC_1 (kT := kT) (R := R) (I := I) (A := A) (Q := Q) (N := N) hk) (pU_1_part (kT := kT) (R := R) (I := I) (A := A) (Q := Q) (N := N) (v := v) hk)
  rw [← e]
  exact hP
theorem cg_1_place (X : CallFix p m c cc nL s args Ts own) (hin : ∀ w ∈ wsX10, w ∈ Ts) (hW : cH G kT L0 L K R I A Q N s H locs) {a : Nat} {v : Int32} (ha : a ∈ L) (hk : K a = 1) (hv : I 2 a = v) {index : Nat} (hlink : (Cond.fieldLink own index (TX1 3).1 (TX1 3).2.1 (TX1 3).2.2.1).before args s = true) (hdg : decode cc pc = .ok (.getfield index, 3)) (kk : W p l e Rm s m args below meth c H locs cells slots Z (F0 m (pc + 3) ls (.int v :: rest))) : W p l e Rm s m args below meth c H locs cells slots Z (F0 m pc ls (.ref a :: rest)) := by
  obtain ⟨k0, h0⟩ := cW_get ha (pC_1 (kT := kT) (R := R) (I := I) (A := A) (Q := Q) (N := N) hk)
  refine va_get (D := G) (ci := 3) (C := RX1) (T := TX1) (N := 6) (own := own) (ref := (TX1 3).1) X.1 X.2.1 X.2.2.2.2 hin X.2.2.2.1 hW.1 hW.2.1 k0 h0 rfl 3 (by decide) hlink (fun _ h9 => h9) rfl hdg ?_
  rw [hv]
  exact kk
theorem cp_1_place (X : CallFix p m c cc nL s args Ts own) (hin : ∀ w ∈ wsX10, w ∈ Ts) (hW : cH G kT L0 L K R I A Q N s H locs) {a : Nat} {v : Int32} (ha : a ∈ L) (hk : K a = 1) {index : Nat} (hlink : (Cond.fieldLink own index (TX1 3).1 (TX1 3).2.1 (TX1 3).2.2.1).before args s = true) (hdg : decode cc pc = .ok (.putfield index, 3)) (kk : ∀ (H1 : Heap) (locs1 : List Loc), cH G kT L0 L K R (u2 I 2 a v) A Q N s H1 locs1 → W p l e Rm s m args below meth c H1 locs1 cells slots Z (F0 m (pc + 3) ls rest)) : W p l e Rm s m args below meth c H locs cells slots Z (F0 m pc ls (.int v :: .ref a :: rest)) := by
  obtain ⟨k0, h0⟩ := cW_get ha (pC_1 (kT := kT) (R := R) (I := I) (A := A) (Q := Q) (N := N) hk)
  refine va_put (D := G) (ci := 3) (v := .int v) (ty := .int) (C := RX1) (T := TX1) (N := 6) (own := own) (ref := (TX1 3).1) X.1 X.2.1 X.2.2.2.2 hin tyX1 tyX1_ok nmX1 X.2.2.2.1 hW.1 hW.2.1 hW.D hW.2.2.2.2 k0 h0 rfl 3 (by decide) hlink (fun _ h9 => h9) rfl (by decide +kernel) rfl rfl (Nat.le_of_ble_eq_true rfl) hdg (fun H1 locs1 hP hD hS => kk H1 locs1 ⟨hW.1, ?_, hW.2.2.1, hW.2.2.2.1, hS⟩)
  have e := cW_set hW.D ha h0 (pC_1 (kT := kT) (R := R) (I := I) (A := A) (Q := Q) (N := N) hk) (pU_1_place (kT := kT) (R := R) (I := I) (A := A) (Q := Q) (N := N) (v := v) hk)
  rw [← e]
  exact hP
theorem cg_1_passed (X : CallFix p m c cc nL s args Ts own) (hin : ∀ w ∈ wsX10, w ∈ Ts) (hW : cH G kT L0 L K R I A Q N s H locs) {a : Nat} {v : Int32} (ha : a ∈ L) (hk : K a = 1) (hv : I 3 a = v) {index : Nat} (hlink : (Cond.fieldLink own index (TX1 4).1 (TX1 4).2.1 (TX1 4).2.2.1).before args s = true) (hdg : decode cc pc = .ok (.getfield index, 3)) (kk : W p l e Rm s m args below meth c H locs cells slots Z (F0 m (pc + 3) ls (.int v :: rest))) : W p l e Rm s m args below meth c H locs cells slots Z (F0 m pc ls (.ref a :: rest)) := by
  obtain ⟨k0, h0⟩ := cW_get ha (pC_1 (kT := kT) (R := R) (I := I) (A := A) (Q := Q) (N := N) hk)
  refine va_get (D := G) (ci := 3) (C := RX1) (T := TX1) (N := 6) (own := own) (ref := (TX1 4).1) X.1 X.2.1 X.2.2.2.2 hin X.2.2.2.1 hW.1 hW.2.1 k0 h0 rfl 4 (by decide) hlink (fun _ h9 => h9) rfl hdg ?_
  rw [hv]
  exact kk
theorem cp_1_passed (X : CallFix p m c cc nL s args Ts own) (hin : ∀ w ∈ wsX10, w ∈ Ts) (hW : cH G kT L0 L K R I A Q N s H locs) {a : Nat} {v : Int32} (ha : a ∈ L) (hk : K a = 1) {index : Nat} (hlink : (Cond.fieldLink own index (TX1 4).1 (TX1 4).2.1 (TX1 4).2.2.1).before args s = true) (hdg : decode cc pc = .ok (.putfield index, 3)) (kk : ∀ (H1 : Heap) (locs1 : List Loc), cH G kT L0 L K R (u2 I 3 a v) A Q N s H1 locs1 → W p l e Rm s m args below meth c H1 locs1 cells slots Z (F0 m (pc + 3) ls rest)) : W p l e Rm s m args below meth c H locs cells slots Z (F0 m pc ls (.int v :: .ref a :: rest)) := by
  obtain ⟨k0, h0⟩ := cW_get ha (pC_1 (kT := kT) (R := R) (I := I) (A := A) (Q := Q) (N := N) hk)
  refine va_put (D := G) (ci := 3) (v := .int v) (ty := .int) (C := RX1) (T := TX1) (N := 6) (own := own) (ref := (TX1 4).1) X.1 X.2.1 X.2.2.2.2 hin tyX1 tyX1_ok nmX1 X.2.2.2.1 hW.1 hW.2.1 hW.D hW.2.2.2.2 k0 h0 rfl 4 (by decide) hlink (fun _ h9 => h9) rfl (by decide +kernel) rfl rfl (Nat.le_of_ble_eq_true rfl) hdg (fun H1 locs1 hP hD hS => kk H1 locs1 ⟨hW.1, ?_, hW.2.2.1, hW.2.2.2.1, hS⟩)
  have e := cW_set hW.D ha h0 (pC_1 (kT := kT) (R := R) (I := I) (A := A) (Q := Q) (N := N) hk) (pU_1_passed (kT := kT) (R := R) (I := I) (A := A) (Q := Q) (N := N) (v := v) hk)
  rw [← e]
  exact hP
theorem cg_1_total (X : CallFix p m c cc nL s args Ts own) (hin : ∀ w ∈ wsX10, w ∈ Ts) (hW : cH G kT L0 L K R I A Q N s H locs) {a : Nat} {v : Int32} (ha : a ∈ L) (hk : K a = 1) (hv : I 4 a = v) {index : Nat} (hlink : (Cond.fieldLink own index (TX1 5).1 (TX1 5).2.1 (TX1 5).2.2.1).before args s = true) (hdg : decode cc pc = .ok (.getfield index, 3)) (kk : W p l e Rm s m args below meth c H locs cells slots Z (F0 m (pc + 3) ls (.int v :: rest))) : W p l e Rm s m args below meth c H locs cells slots Z (F0 m pc ls (.ref a :: rest)) := by
  obtain ⟨k0, h0⟩ := cW_get ha (pC_1 (kT := kT) (R := R) (I := I) (A := A) (Q := Q) (N := N) hk)
  refine va_get (D := G) (ci := 3) (C := RX1) (T := TX1) (N := 6) (own := own) (ref := (TX1 5).1) X.1 X.2.1 X.2.2.2.2 hin X.2.2.2.1 hW.1 hW.2.1 k0 h0 rfl 5 (by decide) hlink (fun _ h9 => h9) rfl hdg ?_
  rw [hv]
  exact kk
theorem cp_1_total (X : CallFix p m c cc nL s args Ts own) (hin : ∀ w ∈ wsX10, w ∈ Ts) (hW : cH G kT L0 L K R I A Q N s H locs) {a : Nat} {v : Int32} (ha : a ∈ L) (hk : K a = 1) {index : Nat} (hlink : (Cond.fieldLink own index (TX1 5).1 (TX1 5).2.1 (TX1 5).2.2.1).before args s = true) (hdg : decode cc pc = .ok (.putfield index, 3)) (kk : ∀ (H1 : Heap) (locs1 : List Loc), cH G kT L0 L K R (u2 I 4 a v) A Q N s H1 locs1 → W p l e Rm s m args below meth c H1 locs1 cells slots Z (F0 m (pc + 3) ls rest)) : W p l e Rm s m args below meth c H locs cells slots Z (F0 m pc ls (.int v :: .ref a :: rest)) := by
  obtain ⟨k0, h0⟩ := cW_get ha (pC_1 (kT := kT) (R := R) (I := I) (A := A) (Q := Q) (N := N) hk)
  refine va_put (D := G) (ci := 3) (v := .int v) (ty := .int) (C := RX1) (T := TX1) (N := 6) (own := own) (ref := (TX1 5).1) X.1 X.2.1 X.2.2.2.2 hin tyX1 tyX1_ok nmX1 X.2.2.2.1 hW.1 hW.2.1 hW.D hW.2.2.2.2 k0 h0 rfl 5 (by decide) hlink (fun _ h9 => h9) rfl (by decide +kernel) rfl rfl (Nat.le_of_ble_eq_true rfl) hdg (fun H1 locs1 hP hD hS => kk H1 locs1 ⟨hW.1, ?_, hW.2.2.1, hW.2.2.2.1, hS⟩)
  have e := cW_set hW.D ha h0 (pC_1 (kT := kT) (R := R) (I := I) (A := A) (Q := Q) (N := N) hk) (pU_1_total (kT := kT) (R := R) (I := I) (A := A) (Q := Q) (N := N) (v := v) hk)
  rw [← e]
  exact hP
theorem cg_2_row (X : CallFix p m c cc nL s args Ts own) (hin : ∀ w ∈ wsX20, w ∈ Ts) (hW : cH G kT L0 L K R I A Q N s H locs) {a : Nat} {v : Nat} (ha : a ∈ L) (hk : K a = 2) (hv : R 2 a = some v) {index : Nat} (hlink : (Cond.fieldLink own index (TX2 0).1 (TX2 0).2.1 (TX2 0).2.2.1).before args s = true) (hdg : decode cc pc = .ok (.getfield index, 3)) (kk : W p l e Rm s m args below meth c H locs cells slots Z (F0 m (pc + 3) ls (.ref v :: rest))) : W p l e Rm s m args below meth c H locs cells slots Z (F0 m pc ls (.ref a :: rest)) := by
  obtain ⟨k0, h0⟩ := cW_get ha (pC_2 (kT := kT) (R := R) (I := I) (A := A) (Q := Q) (N := N) hk)
  refine va_get (D := G) (ci := 4) (C := RX2) (T := TX2) (N := 6) (own := own) (ref := (TX2 0).1) X.1 X.2.1 X.2.2.2.2 hin X.2.2.2.1 hW.1 hW.2.1 k0 h0 rfl 0 (by decide) hlink (fun _ h9 => h9) rfl hdg ?_
  rw [hv]
  exact kk
theorem cp_2_row (X : CallFix p m c cc nL s args Ts own) (hin : ∀ w ∈ wsX20, w ∈ Ts) (hW : cH G kT L0 L K R I A Q N s H locs) {a : Nat} {v : Nat} (ha : a ∈ L) (hk : K a = 2) {index : Nat} (hlink : (Cond.fieldLink own index (TX2 0).1 (TX2 0).2.1 (TX2 0).2.2.1).before args s = true) (hdg : decode cc pc = .ok (.putfield index, 3)) (kk : ∀ (H1 : Heap) (locs1 : List Loc), cH G kT L0 L K (u2 R 2 a (some v)) I A Q N s H1 locs1 → W p l e Rm s m args below meth c H1 locs1 cells slots Z (F0 m (pc + 3) ls rest)) : W p l e Rm s m args below meth c H locs cells slots Z (F0 m pc ls (.ref v :: .ref a :: rest)) := by
  obtain ⟨k0, h0⟩ := cW_get ha (pC_2 (kT := kT) (R := R) (I := I) (A := A) (Q := Q) (N := N) hk)
  refine va_put (D := G) (ci := 4) (v := .ref v) (ty := (.object "Strandbook$SignRow")) (C := RX2) (T := TX2) (N := 6) (own := own) (ref := (TX2 0).1) X.1 X.2.1 X.2.2.2.2 hin tyX2 tyX2_ok nmX2 X.2.2.2.1 hW.1 hW.2.1 hW.D hW.2.2.2.2 k0 h0 rfl 0 (by decide) hlink (fun _ h9 => h9) rfl (by decide +kernel) rfl rfl (Nat.le_of_ble_eq_true rfl) hdg (fun H1 locs1 hP hD hS => kk H1 locs1 ⟨hW.1, ?_, hW.2.2.1, hW.2.2.2.1, hS⟩)
  have e := cW_set hW.D ha h0 (pC_2 (kT := kT) (R := R) (I := I) (A := A) (Q := Q) (N := N) hk) (pU_2_row (kT := kT) (R := R) (I := I) (A := A) (Q := Q) (N := N) (v := v) hk)
  rw [← e]
  exact hP
theorem cg_2_place (X : CallFix p m c cc nL s args Ts own) (hin : ∀ w ∈ wsX20, w ∈ Ts) (hW : cH G kT L0 L K R I A Q N s H locs) {a : Nat} {v : Int32} (ha : a ∈ L) (hk : K a = 2) (hv : I 5 a = v) {index : Nat} (hlink : (Cond.fieldLink own index (TX2 1).1 (TX2 1).2.1 (TX2 1).2.2.1).before args s = true) (hdg : decode cc pc = .ok (.getfield index, 3)) (kk : W p l e Rm s m args below meth c H locs cells slots Z (F0 m (pc + 3) ls (.int v :: rest))) : W p l e Rm s m args below meth c H locs cells slots Z (F0 m pc ls (.ref a :: rest)) := by
  obtain ⟨k0, h0⟩ := cW_get ha (pC_2 (kT := kT) (R := R) (I := I) (A := A) (Q := Q) (N := N) hk)
  refine va_get (D := G) (ci := 4) (C := RX2) (T := TX2) (N := 6) (own := own) (ref := (TX2 1).1) X.1 X.2.1 X.2.2.2.2 hin X.2.2.2.1 hW.1 hW.2.1 k0 h0 rfl 1 (by decide) hlink (fun _ h9 => h9) rfl hdg ?_
  rw [hv]
  exact kk
theorem cp_2_place (X : CallFix p m c cc nL s args Ts own) (hin : ∀ w ∈ wsX20, w ∈ Ts) (hW : cH G kT L0 L K R I A Q N s H locs) {a : Nat} {v : Int32} (ha : a ∈ L) (hk : K a = 2) {index : Nat} (hlink : (Cond.fieldLink own index (TX2 1).1 (TX2 1).2.1 (TX2 1).2.2.1).before args s = true) (hdg : decode cc pc = .ok (.putfield index, 3)) (kk : ∀ (H1 : Heap) (locs1 : List Loc), cH G kT L0 L K R (u2 I 5 a v) A Q N s H1 locs1 → W p l e Rm s m args below meth c H1 locs1 cells slots Z (F0 m (pc + 3) ls rest)) : W p l e Rm s m args below meth c H locs cells slots Z (F0 m pc ls (.int v :: .ref a :: rest)) := by
  obtain ⟨k0, h0⟩ := cW_get ha (pC_2 (kT := kT) (R := R) (I := I) (A := A) (Q := Q) (N := N) hk)
  refine va_put (D := G) (ci := 4) (v := .int v) (ty := .int) (C := RX2) (T := TX2) (N := 6) (own := own) (ref := (TX2 1).1) X.1 X.2.1 X.2.2.2.2 hin tyX2 tyX2_ok nmX2 X.2.2.2.1 hW.1 hW.2.1 hW.D hW.2.2.2.2 k0 h0 rfl 1 (by decide) hlink (fun _ h9 => h9) rfl (by decide +kernel) rfl rfl (Nat.le_of_ble_eq_true rfl) hdg (fun H1 locs1 hP hD hS => kk H1 locs1 ⟨hW.1, ?_, hW.2.2.1, hW.2.2.2.1, hS⟩)
  have e := cW_set hW.D ha h0 (pC_2 (kT := kT) (R := R) (I := I) (A := A) (Q := Q) (N := N) hk) (pU_2_place (kT := kT) (R := R) (I := I) (A := A) (Q := Q) (N := N) (v := v) hk)
  rw [← e]
  exact hP
theorem cg_2_end (X : CallFix p m c cc nL s args Ts own) (hin : ∀ w ∈ wsX20, w ∈ Ts) (hW : cH G kT L0 L K R I A Q N s H locs) {a : Nat} {v : Int32} (ha : a ∈ L) (hk : K a = 2) (hv : I 6 a = v) {index : Nat} (hlink : (Cond.fieldLink own index (TX2 2).1 (TX2 2).2.1 (TX2 2).2.2.1).before args s = true) (hdg : decode cc pc = .ok (.getfield index, 3)) (kk : W p l e Rm s m args below meth c H locs cells slots Z (F0 m (pc + 3) ls (.int v :: rest))) : W p l e Rm s m args below meth c H locs cells slots Z (F0 m pc ls (.ref a :: rest)) := by
  obtain ⟨k0, h0⟩ := cW_get ha (pC_2 (kT := kT) (R := R) (I := I) (A := A) (Q := Q) (N := N) hk)
  refine va_get (D := G) (ci := 4) (C := RX2) (T := TX2) (N := 6) (own := own) (ref := (TX2 2).1) X.1 X.2.1 X.2.2.2.2 hin X.2.2.2.1 hW.1 hW.2.1 k0 h0 rfl 2 (by decide) hlink (fun _ h9 => h9) rfl hdg ?_
  rw [hv]
  exact kk
theorem cp_2_end (X : CallFix p m c cc nL s args Ts own) (hin : ∀ w ∈ wsX20, w ∈ Ts) (hW : cH G kT L0 L K R I A Q N s H locs) {a : Nat} {v : Int32} (ha : a ∈ L) (hk : K a = 2) {index : Nat} (hlink : (Cond.fieldLink own index (TX2 2).1 (TX2 2).2.1 (TX2 2).2.2.1).before args s = true) (hdg : decode cc pc = .ok (.putfield index, 3)) (kk : ∀ (H1 : Heap) (locs1 : List Loc), cH G kT L0 L K R (u2 I 6 a v) A Q N s H1 locs1 → W p l e Rm s m args below meth c H1 locs1 cells slots Z (F0 m (pc + 3) ls rest)) : W p l e Rm s m args below meth c H locs cells slots Z (F0 m pc ls (.int v :: .ref a :: rest)) := by
  obtain ⟨k0, h0⟩ := cW_get ha (pC_2 (kT := kT) (R := R) (I := I) (A := A) (Q := Q) (N := N) hk)
  refine va_put (D := G) (ci := 4) (v := .int v) (ty := .int) (C := RX2) (T := TX2) (N := 6) (own := own) (ref := (TX2 2).1) X.1 X.2.1 X.2.2.2.2 hin tyX2 tyX2_ok nmX2 X.2.2.2.1 hW.1 hW.2.1 hW.D hW.2.2.2.2 k0 h0 rfl 2 (by decide) hlink (fun _ h9 => h9) rfl (by decide +kernel) rfl rfl (Nat.le_of_ble_eq_true rfl) hdg (fun H1 locs1 hP hD hS => kk H1 locs1 ⟨hW.1, ?_, hW.2.2.1, hW.2.2.2.1, hS⟩)
  have e := cW_set hW.D ha h0 (pC_2 (kT := kT) (R := R) (I := I) (A := A) (Q := Q) (N := N) hk) (pU_2_end (kT := kT) (R := R) (I := I) (A := A) (Q := Q) (N := N) (v := v) hk)
  rw [← e]
  exact hP
theorem cg_2_marked (X : CallFix p m c cc nL s args Ts own) (hin : ∀ w ∈ wsX20, w ∈ Ts) (hW : cH G kT L0 L K R I A Q N s H locs) {a : Nat} {v : Int32} (ha : a ∈ L) (hk : K a = 2) (hv : I 7 a = v) {index : Nat} (hlink : (Cond.fieldLink own index (TX2 3).1 (TX2 3).2.1 (TX2 3).2.2.1).before args s = true) (hdg : decode cc pc = .ok (.getfield index, 3)) (kk : W p l e Rm s m args below meth c H locs cells slots Z (F0 m (pc + 3) ls (.int v :: rest))) : W p l e Rm s m args below meth c H locs cells slots Z (F0 m pc ls (.ref a :: rest)) := by
  obtain ⟨k0, h0⟩ := cW_get ha (pC_2 (kT := kT) (R := R) (I := I) (A := A) (Q := Q) (N := N) hk)
  refine va_get (D := G) (ci := 4) (C := RX2) (T := TX2) (N := 6) (own := own) (ref := (TX2 3).1) X.1 X.2.1 X.2.2.2.2 hin X.2.2.2.1 hW.1 hW.2.1 k0 h0 rfl 3 (by decide) hlink (fun _ h9 => h9) rfl hdg ?_
  rw [hv]
  exact kk
theorem cp_2_marked (X : CallFix p m c cc nL s args Ts own) (hin : ∀ w ∈ wsX20, w ∈ Ts) (hW : cH G kT L0 L K R I A Q N s H locs) {a : Nat} {v : Int32} (ha : a ∈ L) (hk : K a = 2) {index : Nat} (hlink : (Cond.fieldLink own index (TX2 3).1 (TX2 3).2.1 (TX2 3).2.2.1).before args s = true) (hdg : decode cc pc = .ok (.putfield index, 3)) (kk : ∀ (H1 : Heap) (locs1 : List Loc), cH G kT L0 L K R (u2 I 7 a v) A Q N s H1 locs1 → W p l e Rm s m args below meth c H1 locs1 cells slots Z (F0 m (pc + 3) ls rest)) : W p l e Rm s m args below meth c H locs cells slots Z (F0 m pc ls (.int v :: .ref a :: rest)) := by
  obtain ⟨k0, h0⟩ := cW_get ha (pC_2 (kT := kT) (R := R) (I := I) (A := A) (Q := Q) (N := N) hk)
  refine va_put (D := G) (ci := 4) (v := .int v) (ty := .int) (C := RX2) (T := TX2) (N := 6) (own := own) (ref := (TX2 3).1) X.1 X.2.1 X.2.2.2.2 hin tyX2 tyX2_ok nmX2 X.2.2.2.1 hW.1 hW.2.1 hW.D hW.2.2.2.2 k0 h0 rfl 3 (by decide) hlink (fun _ h9 => h9) rfl (by decide +kernel) rfl rfl (Nat.le_of_ble_eq_true rfl) hdg (fun H1 locs1 hP hD hS => kk H1 locs1 ⟨hW.1, ?_, hW.2.2.1, hW.2.2.2.1, hS⟩)
  have e := cW_set hW.D ha h0 (pC_2 (kT := kT) (R := R) (I := I) (A := A) (Q := Q) (N := N) hk) (pU_2_marked (kT := kT) (R := R) (I := I) (A := A) (Q := Q) (N := N) (v := v) hk)
  rw [← e]
  exact hP
theorem cg_2_isThere (X : CallFix p m c cc nL s args Ts own) (hin : ∀ w ∈ wsX20, w ∈ Ts) (hW : cH G kT L0 L K R I A Q N s H locs) {a : Nat} {v : Int32} (ha : a ∈ L) (hk : K a = 2) (hv : I 8 a = v) {index : Nat} (hlink : (Cond.fieldLink own index (TX2 4).1 (TX2 4).2.1 (TX2 4).2.2.1).before args s = true) (hdg : decode cc pc = .ok (.getfield index, 3)) (kk : W p l e Rm s m args below meth c H locs cells slots Z (F0 m (pc + 3) ls (.int v :: rest))) : W p l e Rm s m args below meth c H locs cells slots Z (F0 m pc ls (.ref a :: rest)) := by
  obtain ⟨k0, h0⟩ := cW_get ha (pC_2 (kT := kT) (R := R) (I := I) (A := A) (Q := Q) (N := N) hk)
  refine va_get (D := G) (ci := 4) (C := RX2) (T := TX2) (N := 6) (own := own) (ref := (TX2 4).1) X.1 X.2.1 X.2.2.2.2 hin X.2.2.2.1 hW.1 hW.2.1 k0 h0 rfl 4 (by decide) hlink (fun _ h9 => h9) rfl hdg ?_
  rw [hv]
  exact kk
theorem cp_2_isThere (X : CallFix p m c cc nL s args Ts own) (hin : ∀ w ∈ wsX20, w ∈ Ts) (hW : cH G kT L0 L K R I A Q N s H locs) {a : Nat} {v : Int32} (hn : narrow .boolean (.int v) = .int v) (hf : fits .boolean (.int v) = true) (ha : a ∈ L) (hk : K a = 2) {index : Nat} (hlink : (Cond.fieldLink own index (TX2 4).1 (TX2 4).2.1 (TX2 4).2.2.1).before args s = true) (hdg : decode cc pc = .ok (.putfield index, 3)) (kk : ∀ (H1 : Heap) (locs1 : List Loc), cH G kT L0 L K R (u2 I 8 a v) A Q N s H1 locs1 → W p l e Rm s m args below meth c H1 locs1 cells slots Z (F0 m (pc + 3) ls rest)) : W p l e Rm s m args below meth c H locs cells slots Z (F0 m pc ls (.int v :: .ref a :: rest)) := by
  obtain ⟨k0, h0⟩ := cW_get ha (pC_2 (kT := kT) (R := R) (I := I) (A := A) (Q := Q) (N := N) hk)
  refine va_put (D := G) (ci := 4) (v := .int v) (ty := .boolean) (C := RX2) (T := TX2) (N := 6) (own := own) (ref := (TX2 4).1) X.1 X.2.1 X.2.2.2.2 hin tyX2 tyX2_ok nmX2 X.2.2.2.1 hW.1 hW.2.1 hW.D hW.2.2.2.2 k0 h0 rfl 4 (by decide) hlink (fun _ h9 => h9) rfl (by decide +kernel) hn hf (Nat.le_of_ble_eq_true rfl) hdg (fun H1 locs1 hP hD hS => kk H1 locs1 ⟨hW.1, ?_, hW.2.2.1, hW.2.2.2.1, hS⟩)
  have e := cW_set hW.D ha h0 (pC_2 (kT := kT) (R := R) (I := I) (A := A) (Q := Q) (N := N) hk) (pU_2_isThere (kT := kT) (R := R) (I := I) (A := A) (Q := Q) (N := N) (v := v) hk)
  rw [← e]
  exact hP
theorem cg_2_isShut (X : CallFix p m c cc nL s args Ts own) (hin : ∀ w ∈ wsX20, w ∈ Ts) (hW : cH G kT L0 L K R I A Q N s H locs) {a : Nat} {v : Int32} (ha : a ∈ L) (hk : K a = 2) (hv : I 9 a = v) {index : Nat} (hlink : (Cond.fieldLink own index (TX2 5).1 (TX2 5).2.1 (TX2 5).2.2.1).before args s = true) (hdg : decode cc pc = .ok (.getfield index, 3)) (kk : W p l e Rm s m args below meth c H locs cells slots Z (F0 m (pc + 3) ls (.int v :: rest))) : W p l e Rm s m args below meth c H locs cells slots Z (F0 m pc ls (.ref a :: rest)) := by
  obtain ⟨k0, h0⟩ := cW_get ha (pC_2 (kT := kT) (R := R) (I := I) (A := A) (Q := Q) (N := N) hk)
  refine va_get (D := G) (ci := 4) (C := RX2) (T := TX2) (N := 6) (own := own) (ref := (TX2 5).1) X.1 X.2.1 X.2.2.2.2 hin X.2.2.2.1 hW.1 hW.2.1 k0 h0 rfl 5 (by decide) hlink (fun _ h9 => h9) rfl hdg ?_
  rw [hv]
  exact kk
theorem cp_2_isShut (X : CallFix p m c cc nL s args Ts own) (hin : ∀ w ∈ wsX20, w ∈ Ts) (hW : cH G kT L0 L K R I A Q N s H locs) {a : Nat} {v : Int32} (hn : narrow .boolean (.int v) = .int v) (hf : fits .boolean (.int v) = true) (ha : a ∈ L) (hk : K a = 2) {index : Nat} (hlink : (Cond.fieldLink own index (TX2 5).1 (TX2 5).2.1 (TX2 5).2.2.1).before args s = true) (hdg : decode cc pc = .ok (.putfield index, 3)) (kk : ∀ (H1 : Heap) (locs1 : List Loc), cH G kT L0 L K R (u2 I 9 a v) A Q N s H1 locs1 → W p l e Rm s m args below meth c H1 locs1 cells slots Z (F0 m (pc + 3) ls rest)) : W p l e Rm s m args below meth c H locs cells slots Z (F0 m pc ls (.int v :: .ref a :: rest)) := by
  obtain ⟨k0, h0⟩ := cW_get ha (pC_2 (kT := kT) (R := R) (I := I) (A := A) (Q := Q) (N := N) hk)
  refine va_put (D := G) (ci := 4) (v := .int v) (ty := .boolean) (C := RX2) (T := TX2) (N := 6) (own := own) (ref := (TX2 5).1) X.1 X.2.1 X.2.2.2.2 hin tyX2 tyX2_ok nmX2 X.2.2.2.1 hW.1 hW.2.1 hW.D hW.2.2.2.2 k0 h0 rfl 5 (by decide) hlink (fun _ h9 => h9) rfl (by decide +kernel) hn hf (Nat.le_of_ble_eq_true rfl) hdg (fun H1 locs1 hP hD hS => kk H1 locs1 ⟨hW.1, ?_, hW.2.2.1, hW.2.2.2.1, hS⟩)
  have e := cW_set hW.D ha h0 (pC_2 (kT := kT) (R := R) (I := I) (A := A) (Q := Q) (N := N) hk) (pU_2_isShut (kT := kT) (R := R) (I := I) (A := A) (Q := Q) (N := N) (v := v) hk)
  rw [← e]
  exact hP
theorem cg_3_signs (X : CallFix p m c cc nL s args Ts own) (hin : ∀ w ∈ wsX30, w ∈ Ts) (hW : cH G kT L0 L K R I A Q N s H locs) {a : Nat} {v : Nat} (ha : a ∈ L) (hk : K a = 3) (hv : R 3 a = some v) {index : Nat} (hlink : (Cond.fieldLink own index (TX3 0).1 (TX3 0).2.1 (TX3 0).2.2.1).before args s = true) (hdg : decode cc pc = .ok (.getfield index, 3)) (kk : W p l e Rm s m args below meth c H locs cells slots Z (F0 m (pc + 3) ls (.ref v :: rest))) : W p l e Rm s m args below meth c H locs cells slots Z (F0 m pc ls (.ref a :: rest)) := by
  obtain ⟨k0, h0⟩ := cW_get ha (pC_3 (kT := kT) (R := R) (I := I) (A := A) (Q := Q) (N := N) hk)
  refine va_get (D := G) (ci := 5) (C := RX3) (T := TX3) (N := 1) (own := own) (ref := (TX3 0).1) X.1 X.2.1 X.2.2.2.2 hin X.2.2.2.1 hW.1 hW.2.1 k0 h0 rfl 0 (by decide) hlink (fun _ h9 => h9) rfl hdg ?_
  rw [hv]
  exact kk
theorem cg_4_signs (X : CallFix p m c cc nL s args Ts own) (hin : ∀ w ∈ wsX40, w ∈ Ts) (hW : cH G kT L0 L K R I A Q N s H locs) {a : Nat} {v : Nat} (ha : a ∈ L) (hk : K a = 4) (hv : R 4 a = some v) {index : Nat} (hlink : (Cond.fieldLink own index (TX4 0).1 (TX4 0).2.1 (TX4 0).2.2.1).before args s = true) (hdg : decode cc pc = .ok (.getfield index, 3)) (kk : W p l e Rm s m args below meth c H locs cells slots Z (F0 m (pc + 3) ls (.ref v :: rest))) : W p l e Rm s m args below meth c H locs cells slots Z (F0 m pc ls (.ref a :: rest)) := by
  obtain ⟨k0, h0⟩ := cW_get ha (pC_4 (kT := kT) (R := R) (I := I) (A := A) (Q := Q) (N := N) hk)
  refine va_get (D := G) (ci := 6) (C := RX4) (T := TX4) (N := 2) (own := own) (ref := (TX4 0).1) X.1 X.2.1 X.2.2.2.2 hin X.2.2.2.1 hW.1 hW.2.1 k0 h0 rfl 0 (by decide) hlink (fun _ h9 => h9) rfl hdg ?_
  rw [hv]
  exact kk
theorem cg_4_count (X : CallFix p m c cc nL s args Ts own) (hin : ∀ w ∈ wsX40, w ∈ Ts) (hW : cH G kT L0 L K R I A Q N s H locs) {a : Nat} {v : Int32} (ha : a ∈ L) (hk : K a = 4) (hv : I 10 a = v) {index : Nat} (hlink : (Cond.fieldLink own index (TX4 1).1 (TX4 1).2.1 (TX4 1).2.2.1).before args s = true) (hdg : decode cc pc = .ok (.getfield index, 3)) (kk : W p l e Rm s m args below meth c H locs cells slots Z (F0 m (pc + 3) ls (.int v :: rest))) : W p l e Rm s m args below meth c H locs cells slots Z (F0 m pc ls (.ref a :: rest)) := by
  obtain ⟨k0, h0⟩ := cW_get ha (pC_4 (kT := kT) (R := R) (I := I) (A := A) (Q := Q) (N := N) hk)
  refine va_get (D := G) (ci := 6) (C := RX4) (T := TX4) (N := 2) (own := own) (ref := (TX4 1).1) X.1 X.2.1 X.2.2.2.2 hin X.2.2.2.1 hW.1 hW.2.1 k0 h0 rfl 1 (by decide) hlink (fun _ h9 => h9) rfl hdg ?_
  rw [hv]
  exact kk
theorem cp_4_count (X : CallFix p m c cc nL s args Ts own) (hin : ∀ w ∈ wsX40, w ∈ Ts) (hW : cH G kT L0 L K R I A Q N s H locs) {a : Nat} {v : Int32} (ha : a ∈ L) (hk : K a = 4) {index : Nat} (hlink : (Cond.fieldLink own index (TX4 1).1 (TX4 1).2.1 (TX4 1).2.2.1).before args s = true) (hdg : decode cc pc = .ok (.putfield index, 3)) (kk : ∀ (H1 : Heap) (locs1 : List Loc), cH G kT L0 L K R (u2 I 10 a v) A Q N s H1 locs1 → W p l e Rm s m args below meth c H1 locs1 cells slots Z (F0 m (pc + 3) ls rest)) : W p l e Rm s m args below meth c H locs cells slots Z (F0 m pc ls (.int v :: .ref a :: rest)) := by
  obtain ⟨k0, h0⟩ := cW_get ha (pC_4 (kT := kT) (R := R) (I := I) (A := A) (Q := Q) (N := N) hk)
  refine va_put (D := G) (ci := 6) (v := .int v) (ty := .int) (C := RX4) (T := TX4) (N := 2) (own := own) (ref := (TX4 1).1) X.1 X.2.1 X.2.2.2.2 hin tyX4 tyX4_ok nmX4 X.2.2.2.1 hW.1 hW.2.1 hW.D hW.2.2.2.2 k0 h0 rfl 1 (by decide) hlink (fun _ h9 => h9) rfl (by decide +kernel) rfl rfl (Nat.le_of_ble_eq_true rfl) hdg (fun H1 locs1 hP hD hS => kk H1 locs1 ⟨hW.1, ?_, hW.2.2.1, hW.2.2.2.1, hS⟩)
  have e := cW_set hW.D ha h0 (pC_4 (kT := kT) (R := R) (I := I) (A := A) (Q := Q) (N := N) hk) (pU_4_count (kT := kT) (R := R) (I := I) (A := A) (Q := Q) (N := N) (v := v) hk)
  rw [← e]
  exact hP
theorem cg_5_row (X : CallFix p m c cc nL s args Ts own) (hin : ∀ w ∈ wsX50, w ∈ Ts) (hW : cH G kT L0 L K R I A Q N s H locs) {a : Nat} {v : Nat} (ha : a ∈ L) (hk : K a = 5) (hv : R 5 a = some v) {index : Nat} (hlink : (Cond.fieldLink own index (TX5 0).1 (TX5 0).2.1 (TX5 0).2.2.1).before args s = true) (hdg : decode cc pc = .ok (.getfield index, 3)) (kk : W p l e Rm s m args below meth c H locs cells slots Z (F0 m (pc + 3) ls (.ref v :: rest))) : W p l e Rm s m args below meth c H locs cells slots Z (F0 m pc ls (.ref a :: rest)) := by
  obtain ⟨k0, h0⟩ := cW_get ha (pC_5 (kT := kT) (R := R) (I := I) (A := A) (Q := Q) (N := N) hk)
  refine va_get (D := G) (ci := 7) (C := RX5) (T := TX5) (N := 8) (own := own) (ref := (TX5 0).1) X.1 X.2.1 X.2.2.2.2 hin X.2.2.2.1 hW.1 hW.2.1 k0 h0 rfl 0 (by decide) hlink (fun _ h9 => h9) rfl hdg ?_
  rw [hv]
  exact kk
theorem cg_5_three (X : CallFix p m c cc nL s args Ts own) (hin : ∀ w ∈ wsX50, w ∈ Ts) (hW : cH G kT L0 L K R I A Q N s H locs) {a : Nat} {v : Nat} (ha : a ∈ L) (hk : K a = 5) (hv : R 6 a = some v) {index : Nat} (hlink : (Cond.fieldLink own index (TX5 1).1 (TX5 1).2.1 (TX5 1).2.2.1).before args s = true) (hdg : decode cc pc = .ok (.getfield index, 3)) (kk : W p l e Rm s m args below meth c H locs cells slots Z (F0 m (pc + 3) ls (.ref v :: rest))) : W p l e Rm s m args below meth c H locs cells slots Z (F0 m pc ls (.ref a :: rest)) := by
  obtain ⟨k0, h0⟩ := cW_get ha (pC_5 (kT := kT) (R := R) (I := I) (A := A) (Q := Q) (N := N) hk)
  refine va_get (D := G) (ci := 7) (C := RX5) (T := TX5) (N := 8) (own := own) (ref := (TX5 1).1) X.1 X.2.1 X.2.2.2.2 hin X.2.2.2.1 hW.1 hW.2.1 k0 h0 rfl 1 (by decide) hlink (fun _ h9 => h9) rfl hdg ?_
  rw [hv]
  exact kk
theorem cg_5_reader (X : CallFix p m c cc nL s args Ts own) (hin : ∀ w ∈ wsX50, w ∈ Ts) (hW : cH G kT L0 L K R I A Q N s H locs) {a : Nat} {v : Nat} (ha : a ∈ L) (hk : K a = 5) (hv : R 7 a = some v) {index : Nat} (hlink : (Cond.fieldLink own index (TX5 2).1 (TX5 2).2.1 (TX5 2).2.2.1).before args s = true) (hdg : decode cc pc = .ok (.getfield index, 3)) (kk : W p l e Rm s m args below meth c H locs cells slots Z (F0 m (pc + 3) ls (.ref v :: rest))) : W p l e Rm s m args below meth c H locs cells slots Z (F0 m pc ls (.ref a :: rest)) := by
  obtain ⟨k0, h0⟩ := cW_get ha (pC_5 (kT := kT) (R := R) (I := I) (A := A) (Q := Q) (N := N) hk)
  refine va_get (D := G) (ci := 7) (C := RX5) (T := TX5) (N := 8) (own := own) (ref := (TX5 2).1) X.1 X.2.1 X.2.2.2.2 hin X.2.2.2.1 hW.1 hW.2.1 k0 h0 rfl 2 (by decide) hlink (fun _ h9 => h9) rfl hdg ?_
  rw [hv]
  exact kk
theorem cg_5_textWriter (X : CallFix p m c cc nL s args Ts own) (hin : ∀ w ∈ wsX50, w ∈ Ts) (hW : cH G kT L0 L K R I A Q N s H locs) {a : Nat} {v : Nat} (ha : a ∈ L) (hk : K a = 5) (hv : R 8 a = some v) {index : Nat} (hlink : (Cond.fieldLink own index (TX5 3).1 (TX5 3).2.1 (TX5 3).2.2.1).before args s = true) (hdg : decode cc pc = .ok (.getfield index, 3)) (kk : W p l e Rm s m args below meth c H locs cells slots Z (F0 m (pc + 3) ls (.ref v :: rest))) : W p l e Rm s m args below meth c H locs cells slots Z (F0 m pc ls (.ref a :: rest)) := by
  obtain ⟨k0, h0⟩ := cW_get ha (pC_5 (kT := kT) (R := R) (I := I) (A := A) (Q := Q) (N := N) hk)
  refine va_get (D := G) (ci := 7) (C := RX5) (T := TX5) (N := 8) (own := own) (ref := (TX5 3).1) X.1 X.2.1 X.2.2.2.2 hin X.2.2.2.1 hW.1 hW.2.1 k0 h0 rfl 3 (by decide) hlink (fun _ h9 => h9) rfl hdg ?_
  rw [hv]
  exact kk
theorem cg_5_arrayWriter (X : CallFix p m c cc nL s args Ts own) (hin : ∀ w ∈ wsX50, w ∈ Ts) (hW : cH G kT L0 L K R I A Q N s H locs) {a : Nat} {v : Nat} (ha : a ∈ L) (hk : K a = 5) (hv : R 9 a = some v) {index : Nat} (hlink : (Cond.fieldLink own index (TX5 4).1 (TX5 4).2.1 (TX5 4).2.2.1).before args s = true) (hdg : decode cc pc = .ok (.getfield index, 3)) (kk : W p l e Rm s m args below meth c H locs cells slots Z (F0 m (pc + 3) ls (.ref v :: rest))) : W p l e Rm s m args below meth c H locs cells slots Z (F0 m pc ls (.ref a :: rest)) := by
  obtain ⟨k0, h0⟩ := cW_get ha (pC_5 (kT := kT) (R := R) (I := I) (A := A) (Q := Q) (N := N) hk)
  refine va_get (D := G) (ci := 7) (C := RX5) (T := TX5) (N := 8) (own := own) (ref := (TX5 4).1) X.1 X.2.1 X.2.2.2.2 hin X.2.2.2.1 hW.1 hW.2.1 k0 h0 rfl 4 (by decide) hlink (fun _ h9 => h9) rfl hdg ?_
  rw [hv]
  exact kk
theorem cg_5_together (X : CallFix p m c cc nL s args Ts own) (hin : ∀ w ∈ wsX50, w ∈ Ts) (hW : cH G kT L0 L K R I A Q N s H locs) {a : Nat} {v : Nat} (ha : a ∈ L) (hk : K a = 5) (hv : R 10 a = some v) {index : Nat} (hlink : (Cond.fieldLink own index (TX5 5).1 (TX5 5).2.1 (TX5 5).2.2.1).before args s = true) (hdg : decode cc pc = .ok (.getfield index, 3)) (kk : W p l e Rm s m args below meth c H locs cells slots Z (F0 m (pc + 3) ls (.ref v :: rest))) : W p l e Rm s m args below meth c H locs cells slots Z (F0 m pc ls (.ref a :: rest)) := by
  obtain ⟨k0, h0⟩ := cW_get ha (pC_5 (kT := kT) (R := R) (I := I) (A := A) (Q := Q) (N := N) hk)
  refine va_get (D := G) (ci := 7) (C := RX5) (T := TX5) (N := 8) (own := own) (ref := (TX5 5).1) X.1 X.2.1 X.2.2.2.2 hin X.2.2.2.1 hW.1 hW.2.1 k0 h0 rfl 5 (by decide) hlink (fun _ h9 => h9) rfl hdg ?_
  rw [hv]
  exact kk
theorem cg_5_two (X : CallFix p m c cc nL s args Ts own) (hin : ∀ w ∈ wsX50, w ∈ Ts) (hW : cH G kT L0 L K R I A Q N s H locs) {a : Nat} {v : Nat} (ha : a ∈ L) (hk : K a = 5) (hv : R 11 a = some v) {index : Nat} (hlink : (Cond.fieldLink own index (TX5 6).1 (TX5 6).2.1 (TX5 6).2.2.1).before args s = true) (hdg : decode cc pc = .ok (.getfield index, 3)) (kk : W p l e Rm s m args below meth c H locs cells slots Z (F0 m (pc + 3) ls (.ref v :: rest))) : W p l e Rm s m args below meth c H locs cells slots Z (F0 m pc ls (.ref a :: rest)) := by
  obtain ⟨k0, h0⟩ := cW_get ha (pC_5 (kT := kT) (R := R) (I := I) (A := A) (Q := Q) (N := N) hk)
  refine va_get (D := G) (ci := 7) (C := RX5) (T := TX5) (N := 8) (own := own) (ref := (TX5 6).1) X.1 X.2.1 X.2.2.2.2 hin X.2.2.2.1 hW.1 hW.2.1 k0 h0 rfl 6 (by decide) hlink (fun _ h9 => h9) rfl hdg ?_
  rw [hv]
  exact kk
theorem cg_5_stream (X : CallFix p m c cc nL s args Ts own) (hin : ∀ w ∈ wsX50, w ∈ Ts) (hW : cH G kT L0 L K R I A Q N s H locs) {a : Nat} {v : Nat} (ha : a ∈ L) (hk : K a = 5) (hv : R 12 a = some v) {index : Nat} (hlink : (Cond.fieldLink own index (TX5 7).1 (TX5 7).2.1 (TX5 7).2.2.1).before args s = true) (hdg : decode cc pc = .ok (.getfield index, 3)) (kk : W p l e Rm s m args below meth c H locs cells slots Z (F0 m (pc + 3) ls (.ref v :: rest))) : W p l e Rm s m args below meth c H locs cells slots Z (F0 m pc ls (.ref a :: rest)) := by
  obtain ⟨k0, h0⟩ := cW_get ha (pC_5 (kT := kT) (R := R) (I := I) (A := A) (Q := Q) (N := N) hk)
  refine va_get (D := G) (ci := 7) (C := RX5) (T := TX5) (N := 8) (own := own) (ref := (TX5 7).1) X.1 X.2.1 X.2.2.2.2 hin X.2.2.2.1 hW.1 hW.2.1 k0 h0 rfl 7 (by decide) hlink (fun _ h9 => h9) rfl hdg ?_
  rw [hv]
  exact kk
theorem cg_6_signRows (X : CallFix p m c cc nL s args Ts own) (hin : ∀ w ∈ wsX60, w ∈ Ts) (hW : cH G kT L0 L K R I A Q N s H locs) {a : Nat} {v : Nat} (ha : a ∈ L) (hk : K a = 6) (hv : R 13 a = some v) {index : Nat} (hlink : (Cond.fieldLink own index (TX6 0).1 (TX6 0).2.1 (TX6 0).2.2.1).before args s = true) (hdg : decode cc pc = .ok (.getfield index, 3)) (kk : W p l e Rm s m args below meth c H locs cells slots Z (F0 m (pc + 3) ls (.ref v :: rest))) : W p l e Rm s m args below meth c H locs cells slots Z (F0 m pc ls (.ref a :: rest)) := by
  obtain ⟨k0, h0⟩ := cW_get ha (pC_6 (kT := kT) (R := R) (I := I) (A := A) (Q := Q) (N := N) hk)
  refine va_get (D := G) (ci := 8) (C := RX6) (T := TX6) (N := 7) (own := own) (ref := (TX6 0).1) X.1 X.2.1 X.2.2.2.2 hin X.2.2.2.1 hW.1 hW.2.1 k0 h0 rfl 0 (by decide) hlink (fun _ h9 => h9) rfl hdg ?_
  rw [hv]
  exact kk
theorem cg_6_byteRows (X : CallFix p m c cc nL s args Ts own) (hin : ∀ w ∈ wsX60, w ∈ Ts) (hW : cH G kT L0 L K R I A Q N s H locs) {a : Nat} {v : Nat} (ha : a ∈ L) (hk : K a = 6) (hv : R 14 a = some v) {index : Nat} (hlink : (Cond.fieldLink own index (TX6 1).1 (TX6 1).2.1 (TX6 1).2.2.1).before args s = true) (hdg : decode cc pc = .ok (.getfield index, 3)) (kk : W p l e Rm s m args below meth c H locs cells slots Z (F0 m (pc + 3) ls (.ref v :: rest))) : W p l e Rm s m args below meth c H locs cells slots Z (F0 m pc ls (.ref a :: rest)) := by
  obtain ⟨k0, h0⟩ := cW_get ha (pC_6 (kT := kT) (R := R) (I := I) (A := A) (Q := Q) (N := N) hk)
  refine va_get (D := G) (ci := 8) (C := RX6) (T := TX6) (N := 7) (own := own) (ref := (TX6 1).1) X.1 X.2.1 X.2.2.2.2 hin X.2.2.2.1 hW.1 hW.2.1 k0 h0 rfl 1 (by decide) hlink (fun _ h9 => h9) rfl hdg ?_
  rw [hv]
  exact kk
theorem cg_6_textWriters (X : CallFix p m c cc nL s args Ts own) (hin : ∀ w ∈ wsX60, w ∈ Ts) (hW : cH G kT L0 L K R I A Q N s H locs) {a : Nat} {v : Nat} (ha : a ∈ L) (hk : K a = 6) (hv : R 15 a = some v) {index : Nat} (hlink : (Cond.fieldLink own index (TX6 2).1 (TX6 2).2.1 (TX6 2).2.2.1).before args s = true) (hdg : decode cc pc = .ok (.getfield index, 3)) (kk : W p l e Rm s m args below meth c H locs cells slots Z (F0 m (pc + 3) ls (.ref v :: rest))) : W p l e Rm s m args below meth c H locs cells slots Z (F0 m pc ls (.ref a :: rest)) := by
  obtain ⟨k0, h0⟩ := cW_get ha (pC_6 (kT := kT) (R := R) (I := I) (A := A) (Q := Q) (N := N) hk)
  refine va_get (D := G) (ci := 8) (C := RX6) (T := TX6) (N := 7) (own := own) (ref := (TX6 2).1) X.1 X.2.1 X.2.2.2.2 hin X.2.2.2.1 hW.1 hW.2.1 k0 h0 rfl 2 (by decide) hlink (fun _ h9 => h9) rfl hdg ?_
  rw [hv]
  exact kk
theorem cg_6_arrayWriters (X : CallFix p m c cc nL s args Ts own) (hin : ∀ w ∈ wsX60, w ∈ Ts) (hW : cH G kT L0 L K R I A Q N s H locs) {a : Nat} {v : Nat} (ha : a ∈ L) (hk : K a = 6) (hv : R 16 a = some v) {index : Nat} (hlink : (Cond.fieldLink own index (TX6 3).1 (TX6 3).2.1 (TX6 3).2.2.1).before args s = true) (hdg : decode cc pc = .ok (.getfield index, 3)) (kk : W p l e Rm s m args below meth c H locs cells slots Z (F0 m (pc + 3) ls (.ref v :: rest))) : W p l e Rm s m args below meth c H locs cells slots Z (F0 m pc ls (.ref a :: rest)) := by
  obtain ⟨k0, h0⟩ := cW_get ha (pC_6 (kT := kT) (R := R) (I := I) (A := A) (Q := Q) (N := N) hk)
  refine va_get (D := G) (ci := 8) (C := RX6) (T := TX6) (N := 7) (own := own) (ref := (TX6 3).1) X.1 X.2.1 X.2.2.2.2 hin X.2.2.2.1 hW.1 hW.2.1 k0 h0 rfl 3 (by decide) hlink (fun _ h9 => h9) rfl hdg ?_
  rw [hv]
  exact kk
theorem cg_6_readers (X : CallFix p m c cc nL s args Ts own) (hin : ∀ w ∈ wsX60, w ∈ Ts) (hW : cH G kT L0 L K R I A Q N s H locs) {a : Nat} {v : Nat} (ha : a ∈ L) (hk : K a = 6) (hv : R 17 a = some v) {index : Nat} (hlink : (Cond.fieldLink own index (TX6 4).1 (TX6 4).2.1 (TX6 4).2.2.1).before args s = true) (hdg : decode cc pc = .ok (.getfield index, 3)) (kk : W p l e Rm s m args below meth c H locs cells slots Z (F0 m (pc + 3) ls (.ref v :: rest))) : W p l e Rm s m args below meth c H locs cells slots Z (F0 m pc ls (.ref a :: rest)) := by
  obtain ⟨k0, h0⟩ := cW_get ha (pC_6 (kT := kT) (R := R) (I := I) (A := A) (Q := Q) (N := N) hk)
  refine va_get (D := G) (ci := 8) (C := RX6) (T := TX6) (N := 7) (own := own) (ref := (TX6 4).1) X.1 X.2.1 X.2.2.2.2 hin X.2.2.2.1 hW.1 hW.2.1 k0 h0 rfl 4 (by decide) hlink (fun _ h9 => h9) rfl hdg ?_
  rw [hv]
  exact kk
theorem cg_6_streams (X : CallFix p m c cc nL s args Ts own) (hin : ∀ w ∈ wsX60, w ∈ Ts) (hW : cH G kT L0 L K R I A Q N s H locs) {a : Nat} {v : Nat} (ha : a ∈ L) (hk : K a = 6) (hv : R 18 a = some v) {index : Nat} (hlink : (Cond.fieldLink own index (TX6 5).1 (TX6 5).2.1 (TX6 5).2.2.1).before args s = true) (hdg : decode cc pc = .ok (.getfield index, 3)) (kk : W p l e Rm s m args below meth c H locs cells slots Z (F0 m (pc + 3) ls (.ref v :: rest))) : W p l e Rm s m args below meth c H locs cells slots Z (F0 m pc ls (.ref a :: rest)) := by
  obtain ⟨k0, h0⟩ := cW_get ha (pC_6 (kT := kT) (R := R) (I := I) (A := A) (Q := Q) (N := N) hk)
  refine va_get (D := G) (ci := 8) (C := RX6) (T := TX6) (N := 7) (own := own) (ref := (TX6 5).1) X.1 X.2.1 X.2.2.2.2 hin X.2.2.2.1 hW.1 hW.2.1 k0 h0 rfl 5 (by decide) hlink (fun _ h9 => h9) rfl hdg ?_
  rw [hv]
  exact kk
theorem cg_6_trial (X : CallFix p m c cc nL s args Ts own) (hin : ∀ w ∈ wsX60, w ∈ Ts) (hW : cH G kT L0 L K R I A Q N s H locs) {a : Nat} {v : Nat} (ha : a ∈ L) (hk : K a = 6) (hv : R 19 a = some v) {index : Nat} (hlink : (Cond.fieldLink own index (TX6 6).1 (TX6 6).2.1 (TX6 6).2.2.1).before args s = true) (hdg : decode cc pc = .ok (.getfield index, 3)) (kk : W p l e Rm s m args below meth c H locs cells slots Z (F0 m (pc + 3) ls (.ref v :: rest))) : W p l e Rm s m args below meth c H locs cells slots Z (F0 m pc ls (.ref a :: rest)) := by
  obtain ⟨k0, h0⟩ := cW_get ha (pC_6 (kT := kT) (R := R) (I := I) (A := A) (Q := Q) (N := N) hk)
  refine va_get (D := G) (ci := 8) (C := RX6) (T := TX6) (N := 7) (own := own) (ref := (TX6 6).1) X.1 X.2.1 X.2.2.2.2 hin X.2.2.2.1 hW.1 hW.2.1 k0 h0 rfl 6 (by decide) hlink (fun _ h9 => h9) rfl hdg ?_
  rw [hv]
  exact kk
theorem cld_7 (X : CallFix p m c cc nL s args Ts own) (hW : cH G kT L0 L K R I A Q N s H locs) {a j : Nat} {v : Int32} (ha : a ∈ L) (hk : K a = 7) (hj : j < N a) (hj2 : j < 2 ^ 31) (hv : A a j = v) (hdg : decode cc pc = .ok (.baload, 1)) (kk : W p l e Rm s m args below meth c H locs cells slots Z (F0 m (pc + 1) ls (.int v :: rest))) : W p l e Rm s m args below meth c H locs cells slots Z (F0 m pc ls (.int (nI j) :: .ref a :: rest)) := by
  obtain ⟨k0, h0⟩ := cW_get ha (pC_7 (kT := kT) (R := R) (I := I) (A := A) (Q := Q) (N := N) hk)
  have e9 : (nI j).toNatClampNeg = j := nI_clamp hj2
  refine va_bald X.1 X.2.1 hW.1 hW.2.1 k0 0 h0 rfl (fun z => by rcases z with z | z; exact nI_pos hj2 z; rw [e9] at z; omega) hdg ?_
  rw [e9, hv]
  exact kk
theorem cst_7 (X : CallFix p m c cc nL s args Ts own) (hW : cH G kT L0 L K R I A Q N s H locs) {a j : Nat} {v : Int32} (ha : a ∈ L) (hk : K a = 7) (hj : j < N a) (hj2 : j < 2 ^ 31) (hn : vp_nar .byte v = v) (hdg : decode cc pc = .ok (.bastore, 1)) (kk : ∀ (H1 : Heap) (locs1 : List Loc), cH G kT L0 L K R I (u2 A a j v) Q N s H1 locs1 → W p l e Rm s m args below meth c H1 locs1 cells slots Z (F0 m (pc + 1) ls rest)) : W p l e Rm s m args below meth c H locs cells slots Z (F0 m pc ls (.int v :: .int (nI j) :: .ref a :: rest)) := by
  obtain ⟨k0, h0⟩ := cW_get ha (pC_7 (kT := kT) (R := R) (I := I) (A := A) (Q := Q) (N := N) hk)
  have e9 : (nI j).toNatClampNeg = j := nI_clamp hj2
  refine va_bast X.1 X.2.1 hW.1 hW.2.1 hW.D hW.2.2.2.2 k0 0 h0 rfl (fun z => by rcases z with z | z; exact nI_pos hj2 z; rw [e9] at z; omega) hdg (fun H1 locs1 hP hD hS => kk H1 locs1 ⟨hW.1, ?_, hW.2.2.1, hW.2.2.2.1, hS⟩)
  have e := cW_set hW.D ha h0 (pC_7 (kT := kT) (R := R) (I := I) (A := A) (Q := Q) (N := N) hk) (pU_7 (kT := kT) (R := R) (I := I) (A := A) (Q := Q) (N := N) (j := j) (v := v) hk)
  rw [← e]
  rw [e9, hn] at hP
  exact hP
theorem cln_7 (X : CallFix p m c cc nL s args Ts own) (hW : cH G kT L0 L K R I A Q N s H locs) {a : Nat} (ha : a ∈ L) (hk : K a = 7) {v : Nat} (hv : N a = v) (hdg : decode cc pc = .ok (.arraylength, 1)) (kk : W p l e Rm s m args below meth c H locs cells slots Z (F0 m (pc + 1) ls (.int (nI v) :: rest))) : W p l e Rm s m args below meth c H locs cells slots Z (F0 m pc ls (.ref a :: rest)) := by
  obtain ⟨k0, h0⟩ := cW_get ha (pC_7 (kT := kT) (R := R) (I := I) (A := A) (Q := Q) (N := N) hk)
  subst hv
  exact va_alen X.1 X.2.1 hW.1 hW.2.1 k0 0 h0 rfl rfl hdg kk
theorem cld_8 (X : CallFix p m c cc nL s args Ts own) (hW : cH G kT L0 L K R I A Q N s H locs) {a j : Nat} {v : Int32} (ha : a ∈ L) (hk : K a = 8) (hj : j < N a) (hj2 : j < 2 ^ 31) (hv : A a j = v) (hdg : decode cc pc = .ok (.caload, 1)) (kk : W p l e Rm s m args below meth c H locs cells slots Z (F0 m (pc + 1) ls (.int v :: rest))) : W p l e Rm s m args below meth c H locs cells slots Z (F0 m pc ls (.int (nI j) :: .ref a :: rest)) := by
  obtain ⟨k0, h0⟩ := cW_get ha (pC_8 (kT := kT) (R := R) (I := I) (A := A) (Q := Q) (N := N) hk)
  have e9 : (nI j).toNatClampNeg = j := nI_clamp hj2
  refine va_cald X.1 X.2.1 hW.1 hW.2.1 k0 1 h0 rfl (fun z => by rcases z with z | z; exact nI_pos hj2 z; rw [e9] at z; omega) hdg ?_
  rw [e9, hv]
  exact kk
theorem cst_8 (X : CallFix p m c cc nL s args Ts own) (hW : cH G kT L0 L K R I A Q N s H locs) {a j : Nat} {v : Int32} (ha : a ∈ L) (hk : K a = 8) (hj : j < N a) (hj2 : j < 2 ^ 31) (hn : vp_nar .char v = v) (hdg : decode cc pc = .ok (.castore, 1)) (kk : ∀ (H1 : Heap) (locs1 : List Loc), cH G kT L0 L K R I (u2 A a j v) Q N s H1 locs1 → W p l e Rm s m args below meth c H1 locs1 cells slots Z (F0 m (pc + 1) ls rest)) : W p l e Rm s m args below meth c H locs cells slots Z (F0 m pc ls (.int v :: .int (nI j) :: .ref a :: rest)) := by
  obtain ⟨k0, h0⟩ := cW_get ha (pC_8 (kT := kT) (R := R) (I := I) (A := A) (Q := Q) (N := N) hk)
  have e9 : (nI j).toNatClampNeg = j := nI_clamp hj2
  refine va_cast X.1 X.2.1 hW.1 hW.2.1 hW.D hW.2.2.2.2 k0 1 h0 rfl (fun z => by rcases z with z | z; exact nI_pos hj2 z; rw [e9] at z; omega) hdg (fun H1 locs1 hP hD hS => kk H1 locs1 ⟨hW.1, ?_, hW.2.2.1, hW.2.2.2.1, hS⟩)
  have e := cW_set hW.D ha h0 (pC_8 (kT := kT) (R := R) (I := I) (A := A) (Q := Q) (N := N) hk) (pU_8 (kT := kT) (R := R) (I := I) (A := A) (Q := Q) (N := N) (j := j) (v := v) hk)
  rw [← e]
  rw [e9, hn] at hP
  exact hP
theorem cln_8 (X : CallFix p m c cc nL s args Ts own) (hW : cH G kT L0 L K R I A Q N s H locs) {a : Nat} (ha : a ∈ L) (hk : K a = 8) {v : Nat} (hv : N a = v) (hdg : decode cc pc = .ok (.arraylength, 1)) (kk : W p l e Rm s m args below meth c H locs cells slots Z (F0 m (pc + 1) ls (.int (nI v) :: rest))) : W p l e Rm s m args below meth c H locs cells slots Z (F0 m pc ls (.ref a :: rest)) := by
  obtain ⟨k0, h0⟩ := cW_get ha (pC_8 (kT := kT) (R := R) (I := I) (A := A) (Q := Q) (N := N) hk)
  subst hv
  exact va_alen X.1 X.2.1 hW.1 hW.2.1 k0 1 h0 rfl rfl hdg kk
theorem cld_10 (X : CallFix p m c cc nL s args Ts own) (hW : cH G kT L0 L K R I A Q N s H locs) {a j v : Nat} (ha : a ∈ L) (hk : K a = 10) (hj : j < N a) (hj2 : j < 2 ^ 31) (hv : Q a j = some v) (hdg : decode cc pc = .ok (.aaload, 1)) (kk : W p l e Rm s m args below meth c H locs cells slots Z (F0 m (pc + 1) ls (.ref v :: rest))) : W p l e Rm s m args below meth c H locs cells slots Z (F0 m pc ls (.int (nI j) :: .ref a :: rest)) := by
  obtain ⟨k0, h0⟩ := cW_get ha (pC_10 (kT := kT) (R := R) (I := I) (A := A) (Q := Q) (N := N) hk)
  have e9 : (nI j).toNatClampNeg = j := nI_clamp hj2
  refine va_aldq (C := RX0) X.1 X.2.1 hW.1 hW.2.1 k0 4 h0 rfl (fun z => by rcases z with z | z; exact nI_pos hj2 z; rw [e9] at z; omega) hdg ?_
  rw [e9, hv]
  exact kk
theorem cst_10 (X : CallFix p m c cc nL s args Ts own) (hW : cH G kT L0 L K R I A Q N s H locs) {a j v : Nat} (ha : a ∈ L) (hk : K a = 10) (hv : v ∈ L) (hkv : K v = 0) (hj : j < N a) (hj2 : j < 2 ^ 31) (hdg : decode cc pc = .ok (.aastore, 1)) (kk : ∀ (H1 : Heap) (locs1 : List Loc), cH G kT L0 L K R I A (u2 Q a j (some v)) N s H1 locs1 → W p l e Rm s m args below meth c H1 locs1 cells slots Z (F0 m (pc + 1) ls rest)) : W p l e Rm s m args below meth c H locs cells slots Z (F0 m pc ls (.ref v :: .int (nI j) :: .ref a :: rest)) := by
  obtain ⟨k0, h0⟩ := cW_get ha (pC_10 (kT := kT) (R := R) (I := I) (A := A) (Q := Q) (N := N) hk)
  obtain ⟨k1, h1⟩ := cW_get hv (pC_0 (kT := kT) (R := R) (I := I) (A := A) (Q := Q) (N := N) hkv)
  have e9 : (nI j).toNatClampNeg = j := nI_clamp hj2
  refine va_astq (r := (RX0, TX0, 1)) X.1 X.2.1 hW.1 hW.2.1 hW.D hW.2.2.2.2 k0 4 k1 2 h0 rfl h1 rfl (fun z => by rcases z with z | z; exact nI_pos hj2 z; rw [e9] at z; omega) hdg (fun H1 locs1 hP hD hS => kk H1 locs1 ⟨hW.1, ?_, hW.2.2.1, hW.2.2.2.1, hS⟩)
  have e := cW_set hW.D ha h0 (pC_10 (kT := kT) (R := R) (I := I) (A := A) (Q := Q) (N := N) hk) (pU_10 (kT := kT) (R := R) (I := I) (A := A) (Q := Q) (N := N) (j := j) (v := v) hk)
  rw [← e]
  rw [e9] at hP
  exact hP
theorem cln_10 (X : CallFix p m c cc nL s args Ts own) (hW : cH G kT L0 L K R I A Q N s H locs) {a : Nat} (ha : a ∈ L) (hk : K a = 10) {v : Nat} (hv : N a = v) (hdg : decode cc pc = .ok (.arraylength, 1)) (kk : W p l e Rm s m args below meth c H locs cells slots Z (F0 m (pc + 1) ls (.int (nI v) :: rest))) : W p l e Rm s m args below meth c H locs cells slots Z (F0 m pc ls (.ref a :: rest)) := by
  obtain ⟨k0, h0⟩ := cW_get ha (pC_10 (kT := kT) (R := R) (I := I) (A := A) (Q := Q) (N := N) hk)
  subst hv
  exact va_alen X.1 X.2.1 hW.1 hW.2.1 k0 4 h0 rfl rfl hdg kk
theorem cld_11 (X : CallFix p m c cc nL s args Ts own) (hW : cH G kT L0 L K R I A Q N s H locs) {a j v : Nat} (ha : a ∈ L) (hk : K a = 11) (hj : j < N a) (hj2 : j < 2 ^ 31) (hv : Q a j = some v) (hdg : decode cc pc = .ok (.aaload, 1)) (kk : W p l e Rm s m args below meth c H locs cells slots Z (F0 m (pc + 1) ls (.ref v :: rest))) : W p l e Rm s m args below meth c H locs cells slots Z (F0 m pc ls (.int (nI j) :: .ref a :: rest)) := by
  obtain ⟨k0, h0⟩ := cW_get ha (pC_11 (kT := kT) (R := R) (I := I) (A := A) (Q := Q) (N := N) hk)
  have e9 : (nI j).toNatClampNeg = j := nI_clamp hj2
  refine va_aldq (C := RX1) X.1 X.2.1 hW.1 hW.2.1 k0 5 h0 rfl (fun z => by rcases z with z | z; exact nI_pos hj2 z; rw [e9] at z; omega) hdg ?_
  rw [e9, hv]
  exact kk
theorem cst_11 (X : CallFix p m c cc nL s args Ts own) (hW : cH G kT L0 L K R I A Q N s H locs) {a j v : Nat} (ha : a ∈ L) (hk : K a = 11) (hv : v ∈ L) (hkv : K v = 1) (hj : j < N a) (hj2 : j < 2 ^ 31) (hdg : decode cc pc = .ok (.aastore, 1)) (kk : ∀ (H1 : Heap) (locs1 : List Loc), cH G kT L0 L K R I A (u2 Q a j (some v)) N s H1 locs1 → W p l e Rm s m args below meth c H1 locs1 cells slots Z (F0 m (pc + 1) ls rest)) : W p l e Rm s m args below meth c H locs cells slots Z (F0 m pc ls (.ref v :: .int (nI j) :: .ref a :: rest)) := by
  obtain ⟨k0, h0⟩ := cW_get ha (pC_11 (kT := kT) (R := R) (I := I) (A := A) (Q := Q) (N := N) hk)
  obtain ⟨k1, h1⟩ := cW_get hv (pC_1 (kT := kT) (R := R) (I := I) (A := A) (Q := Q) (N := N) hkv)
  have e9 : (nI j).toNatClampNeg = j := nI_clamp hj2
  refine va_astq (r := (RX1, TX1, 6)) X.1 X.2.1 hW.1 hW.2.1 hW.D hW.2.2.2.2 k0 5 k1 3 h0 rfl h1 rfl (fun z => by rcases z with z | z; exact nI_pos hj2 z; rw [e9] at z; omega) hdg (fun H1 locs1 hP hD hS => kk H1 locs1 ⟨hW.1, ?_, hW.2.2.1, hW.2.2.2.1, hS⟩)
  have e := cW_set hW.D ha h0 (pC_11 (kT := kT) (R := R) (I := I) (A := A) (Q := Q) (N := N) hk) (pU_11 (kT := kT) (R := R) (I := I) (A := A) (Q := Q) (N := N) (j := j) (v := v) hk)
  rw [← e]
  rw [e9] at hP
  exact hP
theorem cln_11 (X : CallFix p m c cc nL s args Ts own) (hW : cH G kT L0 L K R I A Q N s H locs) {a : Nat} (ha : a ∈ L) (hk : K a = 11) {v : Nat} (hv : N a = v) (hdg : decode cc pc = .ok (.arraylength, 1)) (kk : W p l e Rm s m args below meth c H locs cells slots Z (F0 m (pc + 1) ls (.int (nI v) :: rest))) : W p l e Rm s m args below meth c H locs cells slots Z (F0 m pc ls (.ref a :: rest)) := by
  obtain ⟨k0, h0⟩ := cW_get ha (pC_11 (kT := kT) (R := R) (I := I) (A := A) (Q := Q) (N := N) hk)
  subst hv
  exact va_alen X.1 X.2.1 hW.1 hW.2.1 k0 5 h0 rfl rfl hdg kk
theorem cld_12 (X : CallFix p m c cc nL s args Ts own) (hW : cH G kT L0 L K R I A Q N s H locs) {a j v : Nat} (ha : a ∈ L) (hk : K a = 12) (hj : j < N a) (hj2 : j < 2 ^ 31) (hv : Q a j = some v) (hdg : decode cc pc = .ok (.aaload, 1)) (kk : W p l e Rm s m args below meth c H locs cells slots Z (F0 m (pc + 1) ls (.ref v :: rest))) : W p l e Rm s m args below meth c H locs cells slots Z (F0 m pc ls (.int (nI j) :: .ref a :: rest)) := by
  obtain ⟨k0, h0⟩ := cW_get ha (pC_12 (kT := kT) (R := R) (I := I) (A := A) (Q := Q) (N := N) hk)
  have e9 : (nI j).toNatClampNeg = j := nI_clamp hj2
  refine va_aldq (C := RX2) X.1 X.2.1 hW.1 hW.2.1 k0 6 h0 rfl (fun z => by rcases z with z | z; exact nI_pos hj2 z; rw [e9] at z; omega) hdg ?_
  rw [e9, hv]
  exact kk
theorem cst_12 (X : CallFix p m c cc nL s args Ts own) (hW : cH G kT L0 L K R I A Q N s H locs) {a j v : Nat} (ha : a ∈ L) (hk : K a = 12) (hv : v ∈ L) (hkv : K v = 2) (hj : j < N a) (hj2 : j < 2 ^ 31) (hdg : decode cc pc = .ok (.aastore, 1)) (kk : ∀ (H1 : Heap) (locs1 : List Loc), cH G kT L0 L K R I A (u2 Q a j (some v)) N s H1 locs1 → W p l e Rm s m args below meth c H1 locs1 cells slots Z (F0 m (pc + 1) ls rest)) : W p l e Rm s m args below meth c H locs cells slots Z (F0 m pc ls (.ref v :: .int (nI j) :: .ref a :: rest)) := by
  obtain ⟨k0, h0⟩ := cW_get ha (pC_12 (kT := kT) (R := R) (I := I) (A := A) (Q := Q) (N := N) hk)
  obtain ⟨k1, h1⟩ := cW_get hv (pC_2 (kT := kT) (R := R) (I := I) (A := A) (Q := Q) (N := N) hkv)
  have e9 : (nI j).toNatClampNeg = j := nI_clamp hj2
  refine va_astq (r := (RX2, TX2, 6)) X.1 X.2.1 hW.1 hW.2.1 hW.D hW.2.2.2.2 k0 6 k1 4 h0 rfl h1 rfl (fun z => by rcases z with z | z; exact nI_pos hj2 z; rw [e9] at z; omega) hdg (fun H1 locs1 hP hD hS => kk H1 locs1 ⟨hW.1, ?_, hW.2.2.1, hW.2.2.2.1, hS⟩)
  have e := cW_set hW.D ha h0 (pC_12 (kT := kT) (R := R) (I := I) (A := A) (Q := Q) (N := N) hk) (pU_12 (kT := kT) (R := R) (I := I) (A := A) (Q := Q) (N := N) (j := j) (v := v) hk)
  rw [← e]
  rw [e9] at hP
  exact hP
theorem cln_12 (X : CallFix p m c cc nL s args Ts own) (hW : cH G kT L0 L K R I A Q N s H locs) {a : Nat} (ha : a ∈ L) (hk : K a = 12) {v : Nat} (hv : N a = v) (hdg : decode cc pc = .ok (.arraylength, 1)) (kk : W p l e Rm s m args below meth c H locs cells slots Z (F0 m (pc + 1) ls (.int (nI v) :: rest))) : W p l e Rm s m args below meth c H locs cells slots Z (F0 m pc ls (.ref a :: rest)) := by
  obtain ⟨k0, h0⟩ := cW_get ha (pC_12 (kT := kT) (R := R) (I := I) (A := A) (Q := Q) (N := N) hk)
  subst hv
  exact va_alen X.1 X.2.1 hW.1 hW.2.1 k0 6 h0 rfl rfl hdg kk
theorem cld_13 (X : CallFix p m c cc nL s args Ts own) (hW : cH G kT L0 L K R I A Q N s H locs) {a j v : Nat} (ha : a ∈ L) (hk : K a = 13) (hj : j < N a) (hj2 : j < 2 ^ 31) (hv : Q a j = some v) (hdg : decode cc pc = .ok (.aaload, 1)) (kk : W p l e Rm s m args below meth c H locs cells slots Z (F0 m (pc + 1) ls (.ref v :: rest))) : W p l e Rm s m args below meth c H locs cells slots Z (F0 m pc ls (.int (nI j) :: .ref a :: rest)) := by
  obtain ⟨k0, h0⟩ := cW_get ha (pC_13 (kT := kT) (R := R) (I := I) (A := A) (Q := Q) (N := N) hk)
  have e9 : (nI j).toNatClampNeg = j := nI_clamp hj2
  refine va_aldq (C := RX3) X.1 X.2.1 hW.1 hW.2.1 k0 7 h0 rfl (fun z => by rcases z with z | z; exact nI_pos hj2 z; rw [e9] at z; omega) hdg ?_
  rw [e9, hv]
  exact kk
theorem cst_13 (X : CallFix p m c cc nL s args Ts own) (hW : cH G kT L0 L K R I A Q N s H locs) {a j v : Nat} (ha : a ∈ L) (hk : K a = 13) (hv : v ∈ L) (hkv : K v = 3) (hj : j < N a) (hj2 : j < 2 ^ 31) (hdg : decode cc pc = .ok (.aastore, 1)) (kk : ∀ (H1 : Heap) (locs1 : List Loc), cH G kT L0 L K R I A (u2 Q a j (some v)) N s H1 locs1 → W p l e Rm s m args below meth c H1 locs1 cells slots Z (F0 m (pc + 1) ls rest)) : W p l e Rm s m args below meth c H locs cells slots Z (F0 m pc ls (.ref v :: .int (nI j) :: .ref a :: rest)) := by
  obtain ⟨k0, h0⟩ := cW_get ha (pC_13 (kT := kT) (R := R) (I := I) (A := A) (Q := Q) (N := N) hk)
  obtain ⟨k1, h1⟩ := cW_get hv (pC_3 (kT := kT) (R := R) (I := I) (A := A) (Q := Q) (N := N) hkv)
  have e9 : (nI j).toNatClampNeg = j := nI_clamp hj2
  refine va_astq (r := (RX3, TX3, 1)) X.1 X.2.1 hW.1 hW.2.1 hW.D hW.2.2.2.2 k0 7 k1 5 h0 rfl h1 rfl (fun z => by rcases z with z | z; exact nI_pos hj2 z; rw [e9] at z; omega) hdg (fun H1 locs1 hP hD hS => kk H1 locs1 ⟨hW.1, ?_, hW.2.2.1, hW.2.2.2.1, hS⟩)
  have e := cW_set hW.D ha h0 (pC_13 (kT := kT) (R := R) (I := I) (A := A) (Q := Q) (N := N) hk) (pU_13 (kT := kT) (R := R) (I := I) (A := A) (Q := Q) (N := N) (j := j) (v := v) hk)
  rw [← e]
  rw [e9] at hP
  exact hP
theorem cln_13 (X : CallFix p m c cc nL s args Ts own) (hW : cH G kT L0 L K R I A Q N s H locs) {a : Nat} (ha : a ∈ L) (hk : K a = 13) {v : Nat} (hv : N a = v) (hdg : decode cc pc = .ok (.arraylength, 1)) (kk : W p l e Rm s m args below meth c H locs cells slots Z (F0 m (pc + 1) ls (.int (nI v) :: rest))) : W p l e Rm s m args below meth c H locs cells slots Z (F0 m pc ls (.ref a :: rest)) := by
  obtain ⟨k0, h0⟩ := cW_get ha (pC_13 (kT := kT) (R := R) (I := I) (A := A) (Q := Q) (N := N) hk)
  subst hv
  exact va_alen X.1 X.2.1 hW.1 hW.2.1 k0 7 h0 rfl rfl hdg kk
theorem cld_14 (X : CallFix p m c cc nL s args Ts own) (hW : cH G kT L0 L K R I A Q N s H locs) {a j v : Nat} (ha : a ∈ L) (hk : K a = 14) (hj : j < N a) (hj2 : j < 2 ^ 31) (hv : Q a j = some v) (hdg : decode cc pc = .ok (.aaload, 1)) (kk : W p l e Rm s m args below meth c H locs cells slots Z (F0 m (pc + 1) ls (.ref v :: rest))) : W p l e Rm s m args below meth c H locs cells slots Z (F0 m pc ls (.int (nI j) :: .ref a :: rest)) := by
  obtain ⟨k0, h0⟩ := cW_get ha (pC_14 (kT := kT) (R := R) (I := I) (A := A) (Q := Q) (N := N) hk)
  have e9 : (nI j).toNatClampNeg = j := nI_clamp hj2
  refine va_aldq (C := RX4) X.1 X.2.1 hW.1 hW.2.1 k0 8 h0 rfl (fun z => by rcases z with z | z; exact nI_pos hj2 z; rw [e9] at z; omega) hdg ?_
  rw [e9, hv]
  exact kk
theorem cst_14 (X : CallFix p m c cc nL s args Ts own) (hW : cH G kT L0 L K R I A Q N s H locs) {a j v : Nat} (ha : a ∈ L) (hk : K a = 14) (hv : v ∈ L) (hkv : K v = 4) (hj : j < N a) (hj2 : j < 2 ^ 31) (hdg : decode cc pc = .ok (.aastore, 1)) (kk : ∀ (H1 : Heap) (locs1 : List Loc), cH G kT L0 L K R I A (u2 Q a j (some v)) N s H1 locs1 → W p l e Rm s m args below meth c H1 locs1 cells slots Z (F0 m (pc + 1) ls rest)) : W p l e Rm s m args below meth c H locs cells slots Z (F0 m pc ls (.ref v :: .int (nI j) :: .ref a :: rest)) := by
  obtain ⟨k0, h0⟩ := cW_get ha (pC_14 (kT := kT) (R := R) (I := I) (A := A) (Q := Q) (N := N) hk)
  obtain ⟨k1, h1⟩ := cW_get hv (pC_4 (kT := kT) (R := R) (I := I) (A := A) (Q := Q) (N := N) hkv)
  have e9 : (nI j).toNatClampNeg = j := nI_clamp hj2
  refine va_astq (r := (RX4, TX4, 2)) X.1 X.2.1 hW.1 hW.2.1 hW.D hW.2.2.2.2 k0 8 k1 6 h0 rfl h1 rfl (fun z => by rcases z with z | z; exact nI_pos hj2 z; rw [e9] at z; omega) hdg (fun H1 locs1 hP hD hS => kk H1 locs1 ⟨hW.1, ?_, hW.2.2.1, hW.2.2.2.1, hS⟩)
  have e := cW_set hW.D ha h0 (pC_14 (kT := kT) (R := R) (I := I) (A := A) (Q := Q) (N := N) hk) (pU_14 (kT := kT) (R := R) (I := I) (A := A) (Q := Q) (N := N) (j := j) (v := v) hk)
  rw [← e]
  rw [e9] at hP
  exact hP
theorem cln_14 (X : CallFix p m c cc nL s args Ts own) (hW : cH G kT L0 L K R I A Q N s H locs) {a : Nat} (ha : a ∈ L) (hk : K a = 14) {v : Nat} (hv : N a = v) (hdg : decode cc pc = .ok (.arraylength, 1)) (kk : W p l e Rm s m args below meth c H locs cells slots Z (F0 m (pc + 1) ls (.int (nI v) :: rest))) : W p l e Rm s m args below meth c H locs cells slots Z (F0 m pc ls (.ref a :: rest)) := by
  obtain ⟨k0, h0⟩ := cW_get ha (pC_14 (kT := kT) (R := R) (I := I) (A := A) (Q := Q) (N := N) hk)
  subst hv
  exact va_alen X.1 X.2.1 hW.1 hW.2.1 k0 8 h0 rfl rfl hdg kk
end CR
