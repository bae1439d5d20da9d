/-! the reference's helpers -/
abbrev oP (len : Nat) (from_ many : Int32) : Prop := from_ < 0 ∨ many < 0 ∨ len < from_.toNatClampNeg + many.toNatClampNeg
/-- what holds of the reference's numbers between calls -/
def mI (T : mT) : Prop :=
  (∀ r, r < 4 → T 2 r < 8) ∧ (∀ r r2, r < 4 → r2 < 4 → T 2 r = T 2 r2 → r = r2) ∧ (∀ k, k < 8 → T 1 k ≤ 256) ∧
  (∀ r, r < 4 → T 5 r < 11) ∧ (∀ r r2, r < 4 → r2 < 4 → T 5 r = T 5 r2 → r = r2) ∧ (∀ k, k < 11 → T 4 k ≤ 64) ∧
  (∀ w, w < 6 → T 7 w ≤ 256) ∧
  (∀ i, i < 3 → T 8 i ≤ 8 ∧ T 9 i ≤ T 10 i ∧ T 11 i ≤ T 10 i ∧ T 10 i ≤ 256 ∧ T 12 i ≤ 1 ∧ (T 8 i ≠ 0 → T 10 i ≤ T 1 (T 8 i - 1))) ∧
  (∀ j, j < 2 → (T 13 j = 0 ∨ T 13 j = 2 ∨ T 13 j = 3) ∧ T 16 j ≤ T 13 j ∧ T 17 j ≤ 192 ∧ ∀ k, k < 3 → T 14 (3 * j + k) ≤ 11 ∧ (k < T 13 j → 1 ≤ T 14 (3 * j + k)) ∧ (k < T 13 j → T 15 (3 * j + k) ≤ T 4 (T 14 (3 * j + k) - 1)) ∧ (T 16 j < k → k < T 13 j → T 15 (3 * j + k) = 0))
theorem mI.sr {T : mT} (h : mI T) {r : Nat} (hr : r < 4) : T 2 r < 8 := h.1 r hr
theorem mI.srj {T : mT} (h : mI T) {r r2 : Nat} (hr : r < 4) (hr2 : r2 < 4) (e : T 2 r = T 2 r2) : r = r2 := h.2.1 r r2 hr hr2 e
theorem mI.sl {T : mT} (h : mI T) {k : Nat} (hk : k < 8) : T 1 k ≤ 256 := h.2.2.1 k hk
theorem mI.br {T : mT} (h : mI T) {r : Nat} (hr : r < 4) : T 5 r < 11 := h.2.2.2.1 r hr
theorem mI.brj {T : mT} (h : mI T) {r r2 : Nat} (hr : r < 4) (hr2 : r2 < 4) (e : T 5 r = T 5 r2) : r = r2 := h.2.2.2.2.1 r r2 hr hr2 e
theorem mI.bl {T : mT} (h : mI T) {k : Nat} (hk : k < 11) : T 4 k ≤ 64 := h.2.2.2.2.2.1 k hk
theorem mI.wr {T : mT} (h : mI T) {w : Nat} (hw : w < 6) : T 7 w ≤ 256 := h.2.2.2.2.2.2.1 w hw
theorem mI.rd {T : mT} (h : mI T) {i : Nat} (hi : i < 3) : T 8 i ≤ 8 ∧ T 9 i ≤ T 10 i ∧ T 11 i ≤ T 10 i ∧ T 10 i ≤ 256 ∧ T 12 i ≤ 1 ∧ (T 8 i ≠ 0 → T 10 i ≤ T 1 (T 8 i - 1)) := h.2.2.2.2.2.2.2.1 i hi
theorem mI.st {T : mT} (h : mI T) {j : Nat} (hj : j < 2) : (T 13 j = 0 ∨ T 13 j = 2 ∨ T 13 j = 3) ∧ T 16 j ≤ T 13 j ∧ T 17 j ≤ 192 ∧ ∀ k, k < 3 → T 14 (3 * j + k) ≤ 11 ∧ (k < T 13 j → 1 ≤ T 14 (3 * j + k)) ∧ (k < T 13 j → T 15 (3 * j + k) ≤ T 4 (T 14 (3 * j + k) - 1)) ∧ (T 16 j < k → k < T 13 j → T 15 (3 * j + k) = 0) := h.2.2.2.2.2.2.2.2 j hj
theorem nI_sub_lt {a n f : Nat} (ha : a < 2 ^ 30) (hn : n < 2 ^ 31) (hf : f < 2 ^ 31) (h : a < f + n) : nI a - nI n < nI f := by
  have h1 : (nI a - nI n).toInt = (a : Int) - n := by
    rw [Int32.toInt_sub, nI_toInt (by omega), nI_toInt hn]
    exact Int.bmod_eq_of_le (by omega) (by omega)
  exact Int32.lt_iff_toInt_lt.mpr (by rw [h1, nI_toInt hf]; omega)
/-- n places of the row a from d0 on hold f 0, f 1 .. -/
def cpF (D : mD) (a d0 : Nat) (f : Nat → Int32) (n : Nat) : mD := fun k i => if k = a then (if d0 ≤ i ∧ i < d0 + n then f (i - d0) else D a i) else D k i
theorem cpF_0 {D : mD} {a d0 : Nat} {f : Nat → Int32} : cpF D a d0 f 0 = D := by
  funext k i
  simp only [cpF]
  by_cases h : k = a
  · subst h; simp only [if_true]; rw [if_neg (by omega)]
  · simp only [if_neg h]
theorem cpF_S {D : mD} {a d0 n : Nat} {f : Nat → Int32} : u2 (cpF D a d0 f n) a (d0 + n) (f n) = cpF D a d0 f (n + 1) := by
  funext k i
  simp only [cpF, u2]
  by_cases h : k = a
  · subst h; simp only [if_true]
    by_cases g : i = d0 + n
    · subst g; rw [if_pos rfl, if_pos (by omega)]; congr 1; omega
    · rw [if_neg g]
      by_cases g2 : d0 ≤ i ∧ i < d0 + n
      · rw [if_pos g2, if_pos (by omega)]
      · rw [if_neg g2, if_neg (by omega)]
  · simp only [if_neg h]
theorem cpF_S' {D : mD} {a d0 n i : Nat} {f : Nat → Int32} {x : Int32} (hi : i = d0 + n) (hx : x = f n) : u2 (cpF D a d0 f n) a i x = cpF D a d0 f (n + 1) := by subst hi; subst hx; exact cpF_S
theorem cpF_ne {D : mD} {a d0 n k : Nat} {f : Nat → Int32} (h : k ≠ a) : cpF D a d0 f n k = D k := by funext i; simp only [cpF, if_neg h]
theorem cpF_out {D : mD} {a d0 n i : Nat} {f : Nat → Int32} (h : i < d0 ∨ d0 + n ≤ i) : cpF D a d0 f n a i = D a i := by simp only [cpF, if_true]; rw [if_neg (by omega)]
theorem cpF_in {D : mD} {a d0 n i : Nat} {f : Nat → Int32} (h : d0 ≤ i) (h2 : i < d0 + n) : cpF D a d0 f n a i = f (i - d0) := by simp only [cpF, if_true]; rw [if_pos ⟨h, h2⟩]
def fa (b : Nat) (P : Nat → Bool) : Nat → Nat | 0 => b | k + 1 => if P k then fa b P k else 0
theorem fa_le {b : Nat} (hb : b ≤ 1) (P : Nat → Bool) : ∀ k, fa b P k ≤ 1
  | 0 => hb
  | k + 1 => by
    simp only [fa]
    by_cases h : P k = true
    · rw [if_pos h]; exact fa_le hb P k
    · rw [if_neg h]; omega
theorem fa_iff {b : Nat} {P : Nat → Bool} : ∀ k, fa b P k ≠ 0 ↔ b ≠ 0 ∧ ∀ i, i < k → P i = true
  | 0 => by simp [fa]
  | k + 1 => by
    simp only [fa]
    by_cases h : P k = true
    · rw [if_pos h, fa_iff k]
      refine ⟨fun g => ⟨g.1, fun i hi => ?_⟩, fun g => ⟨g.1, fun i hi => g.2 i (by omega)⟩⟩
      by_cases e : i = k
      · subst e; exact h
      · exact g.2 i (by omega)
    · rw [if_neg h]
      refine ⟨fun g => absurd rfl g, fun g => absurd (g.2 k (by omega)) h⟩
theorem nI_and1 {x : Nat} (h : x ≤ 1) : nI x &&& nI 1 = nI x := by
  rcases (show x = 0 ∨ x = 1 by omega) with rfl | rfl <;> rfl
theorem nI_and0 (x : Nat) (h : x ≤ 1) : nI x &&& nI 0 = nI 0 := by
  rcases (show x = 0 ∨ x = 1 by omega) with rfl | rfl <;> rfl
/-- the least i from i0 on, of n, with P -/
def lsF (P : Nat → Bool) : Nat → Nat → Nat | 0, i => i | n + 1, i => if P i then i else lsF P n (i + 1)
theorem lsF_hit {P : Nat → Bool} : ∀ (n i0 i : Nat), i0 ≤ i → i < i0 + n → (∀ z, i0 ≤ z → z < i → P z = false) → P i = true → lsF P n i0 = i
  | 0, i0, i, h1, h2, _, _ => by omega
  | n + 1, i0, i, h1, h2, hz, hi => by
    simp only [lsF]
    by_cases e : i0 = i
    · subst e; rw [if_pos hi]
    · rw [if_neg (by rw [hz i0 (Nat.le_refl _) (by omega)]; decide)]
      exact lsF_hit n (i0 + 1) i (by omega) (by omega) (fun z g1 g2 => hz z (by omega) g2) hi
theorem pigeon : ∀ (n : Nat) (l : List Nat), (∀ i, i < n → i ∈ l) → n ≤ l.length
  | 0, _, _ => Nat.zero_le _
  | n + 1, l, h => by
    have h1 : n ∈ l := h n (by omega)
    have h2 := pigeon n (l.erase n) (fun i hi => (List.mem_erase_of_ne (by omega)).mpr (h i (by omega)))
    rw [List.length_erase_of_mem h1] at h2
    have h3 : 0 < l.length := List.length_pos_of_mem h1
    omega
/-- the room z is no row's and no reader's -/
def frS (T : mT) (z : Nat) : Bool := decide (fa (fa 1 (fun i => decide (T 2 i ≠ z)) 4) (fun i => decide (T 8 i ≠ z + 1)) 3 ≠ 0)
def fS (T : mT) : Nat := lsF (frS T) 8 0
theorem frS_iff (T : mT) (z : Nat) : frS T z = true ↔ (∀ r, r < 4 → T 2 r ≠ z) ∧ ∀ i, i < 3 → T 8 i ≠ z + 1 := by
  simp only [frS, decide_eq_true_eq, fa_iff]
  constructor
  · intro h; exact ⟨fun r hr => h.1.2 r hr, fun i hi => h.2 i hi⟩
  · intro h; exact ⟨⟨by decide, fun r hr => h.1 r hr⟩, fun i hi => h.2 i hi⟩
theorem frS_ex (T : mT) : ∃ z, z < 8 ∧ frS T z = true := by
  refine Classical.byContradiction (fun hn => ?_)
  have h : ∀ i, i < 8 → i ∈ [T 2 0, T 2 1, T 2 2, T 2 3, T 8 0 - 1, T 8 1 - 1, T 8 2 - 1] := by
    intro i hi
    refine Classical.byContradiction (fun hm => hn ⟨i, hi, (frS_iff T i).mpr ⟨fun r hr e => hm ?_, fun r hr e => hm ?_⟩⟩)
    · rcases (show r = 0 ∨ r = 1 ∨ r = 2 ∨ r = 3 by omega) with rfl | rfl | rfl | rfl <;> simp [e]
    · rcases (show r = 0 ∨ r = 1 ∨ r = 2 by omega) with rfl | rfl | rfl <;> simp [e]
  have := pigeon 8 _ h
  simp at this
theorem lsF_least {P : Nat → Bool} : ∀ (n i0 : Nat), (∃ z, i0 ≤ z ∧ z < i0 + n ∧ P z = true) → i0 ≤ lsF P n i0 ∧ lsF P n i0 < i0 + n ∧ P (lsF P n i0) = true
  | 0, i0, h => by obtain ⟨z, h1, h2, _⟩ := h; omega
  | n + 1, i0, h => by
    simp only [lsF]
    by_cases e : P i0 = true
    · rw [if_pos e]; exact ⟨Nat.le_refl _, by omega, e⟩
    · rw [if_neg e]
      obtain ⟨z, h1, h2, h3⟩ := h
      have hne : z ≠ i0 := fun q => e (q ▸ h3)
      obtain ⟨g1, g2, g3⟩ := lsF_least (P := P) n (i0 + 1) ⟨z, by omega, by omega, h3⟩
      exact ⟨by omega, by omega, g3⟩
theorem fS_ok (T : mT) : fS T < 8 ∧ (∀ r, r < 4 → T 2 r ≠ fS T) ∧ ∀ i, i < 3 → T 8 i ≠ fS T + 1 := by
  obtain ⟨z, h1, h2⟩ := frS_ex T
  obtain ⟨-, g2, g3⟩ := lsF_least (P := frS T) 8 0 ⟨z, by omega, by omega, h2⟩
  exact ⟨by simpa [fS] using g2, (frS_iff T _).mp g3⟩
def frB (T : mT) (z : Nat) : Bool := decide (fa (fa 1 (fun i => decide (T 5 i ≠ z)) 4) (fun i => decide (T 14 i ≠ z + 1)) 6 ≠ 0)
def fB (T : mT) : Nat := lsF (frB T) 11 0
theorem frB_iff (T : mT) (z : Nat) : frB T z = true ↔ (∀ r, r < 4 → T 5 r ≠ z) ∧ ∀ i, i < 6 → T 14 i ≠ z + 1 := by
  simp only [frB, decide_eq_true_eq, fa_iff]
  constructor
  · intro h; exact ⟨fun r hr => h.1.2 r hr, fun i hi => h.2 i hi⟩
  · intro h; exact ⟨⟨by decide, fun r hr => h.1 r hr⟩, fun i hi => h.2 i hi⟩
theorem frB_ex (T : mT) : ∃ z, z < 11 ∧ frB T z = true := by
  refine Classical.byContradiction (fun hn => ?_)
  have h : ∀ i, i < 11 → i ∈ [T 5 0, T 5 1, T 5 2, T 5 3, T 14 0 - 1, T 14 1 - 1, T 14 2 - 1, T 14 3 - 1, T 14 4 - 1, T 14 5 - 1] := by
    intro i hi
    refine Classical.byContradiction (fun hm => hn ⟨i, hi, (frB_iff T i).mpr ⟨fun r hr e => hm ?_, fun r hr e => hm ?_⟩⟩)
    · rcases (show r = 0 ∨ r = 1 ∨ r = 2 ∨ r = 3 by omega) with rfl | rfl | rfl | rfl <;> simp [e]
    · rcases (show r = 0 ∨ r = 1 ∨ r = 2 ∨ r = 3 ∨ r = 4 ∨ r = 5 by omega) with rfl | rfl | rfl | rfl | rfl | rfl <;> simp [e]
  have := pigeon 11 _ h
  simp at this
theorem fB_ok (T : mT) : fB T < 11 ∧ (∀ r, r < 4 → T 5 r ≠ fB T) ∧ ∀ i, i < 6 → T 14 i ≠ fB T + 1 := by
  obtain ⟨z, h1, h2⟩ := frB_ex T
  obtain ⟨-, g2, g3⟩ := lsF_least (P := frB T) 11 0 ⟨z, by omega, by omega, h2⟩
  exact ⟨by simpa [fB] using g2, (frB_iff T _).mp g3⟩
theorem low_lo {x : Int32} (h : x &&& nI 255 < nI 128) : x &&& nI 255 = x.toInt8.toInt32 := by
  have e := pk_and x (m := nI 255) 8 rfl
  generalize hj : x.toBitVec.toNat % 2 ^ 8 = j at e
  rw [e] at h ⊢
  have hj2 : j < 128 := (nI_ltI (by omega) (by decide)).mp h
  have e2 : x.toInt8 = (nI j).toInt8 := by
    rw [← hj]
    apply Int8.toBitVec_inj.mp
    apply BitVec.eq_of_toNat_eq
    simp [nI, BitVec.signExtend_eq_setWidth_of_le]
  rw [e2]
  have : ∀ j, j < 128 → nI j = (nI j).toInt8.toInt32 := by decide +kernel
  exact this j hj2
theorem low_hi {x : Int32} (h : ¬ x &&& nI 255 < nI 128) : (x &&& nI 255) - nI 256 = x.toInt8.toInt32 := by
  have e := pk_and x (m := nI 255) 8 rfl
  generalize hj : x.toBitVec.toNat % 2 ^ 8 = j at e
  rw [e] at h ⊢
  have hj1 : j < 256 := by omega
  have hj2 : ¬ j < 128 := fun z => h ((nI_ltI (by omega) (by decide)).mpr z)
  have e2 : x.toInt8 = (nI j).toInt8 := by
    rw [← hj]
    apply Int8.toBitVec_inj.mp
    apply BitVec.eq_of_toNat_eq
    simp [nI, BitVec.signExtend_eq_setWidth_of_le]
  rw [e2]
  have : ∀ j, j < 256 → ¬ j < 128 → nI j - nI 256 = (nI j).toInt8.toInt32 := by decide +kernel
  exact this j hj1 hj2
