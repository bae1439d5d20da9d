/-! the reference's helpers -/
abbrev oP (len : Nat) (from_ many : Int32) : Prop := from_ < 0 ∨ many < 0 ∨ len < from_.toNatClampNeg + many.toNatClampNeg
/-- what holds of the reference's numbers between calls -/
def mI (T : mT) : Prop :=
  (∀ r, r < 4 → T 2 r < 8) ∧ (∀ r r2, r < 4 → r2 < 4 → T 2 r = T 2 r2 → r = r2) ∧ (∀ k, k < 8 → T 1 k ≤ 256) ∧
  (∀ r, r < 4 → T 5 r < 11) ∧ (∀ r r2, r < 4 → r2 < 4 → T 5 r = T 5 r2 → r = r2) ∧ (∀ k, k < 11 → T 4 k ≤ 64) ∧
  (∀ w, w < 6 → T 7 w ≤ 256) ∧
  (∀ i, i < 3 → T 8 i ≤ 8 ∧ T 9 i ≤ T 10 i ∧ T 11 i ≤ T 10 i ∧ T 10 i ≤ 256 ∧ T 12 i ≤ 1 ∧ (T 8 i ≠ 0 → T 10 i ≤ T 1 (T 8 i - 1))) ∧
  (∀ j, j < 2 → (T 13 j = 0 ∨ T 13 j = 2 ∨ T 13 j = 3) ∧ T 16 j ≤ T 13 j ∧ T 17 j ≤ 192 ∧ ∀ k, k < 3 → T 14 (3 * j + k) ≤ 11 ∧ (k < T 13 j → 1 ≤ T 14 (3 * j + k)) ∧ (k < T 13 j → T 15 (3 * j + k) ≤ T 4 (T 14 (3 * j + k) - 1)) ∧ (T 16 j < k → k < T 13 j → T 15 (3 * j + k) = 0))
theorem mI.sr {T : mT} (h : mI T) {r : Nat} (hr : r < 4) : T 2 r < 8 := h.1 r hr
theorem mI.srj {T : mT} (h : mI T) {r r2 : Nat} (hr : r < 4) (hr2 : r2 < 4) (e : T 2 r = T 2 r2) : r = r2 := h.2.1 r r2 hr hr2 e
theorem mI.sl {T : mT} (h : mI T) {k : Nat} (hk : k < 8) : T 1 k ≤ 256 := h.2.2.1 k hk
theorem mI.br {T : mT} (h : mI T) {r : Nat} (hr : r < 4) : T 5 r < 11 := h.2.2.2.1 r hr
theorem mI.brj {T : mT} (h : mI T) {r r2 : Nat} (hr : r < 4) (hr2 : r2 < 4) (e : T 5 r = T 5 r2) : r = r2 := h.2.2.2.2.1 r r2 hr hr2 e
theorem mI.bl {T : mT} (h : mI T) {k : Nat} (hk : k < 11) : T 4 k ≤ 64 := h.2.2.2.2.2.1 k hk
theorem mI.wr {T : mT} (h : mI T) {w : Nat} (hw : w < 6) : T 7 w ≤ 256 := h.2.2.2.2.2.2.1 w hw
theorem mI.rd {T : mT} (h : mI T) {i : Nat} (hi : i < 3) : T 8 i ≤ 8 ∧ T 9 i ≤ T 10 i ∧ T 11 i ≤ T 10 i ∧ T 10 i ≤ 256 ∧ T 12 i ≤ 1 ∧ (T 8 i ≠ 0 → T 10 i ≤ T 1 (T 8 i - 1)) := h.2.2.2.2.2.2.2.1 i hi
theorem mI.st {T : mT} (h : mI T) {j : Nat} (hj : j < 2) : (T 13 j = 0 ∨ T 13 j = 2 ∨ T 13 j = 3) ∧ T 16 j ≤ T 13 j ∧ T 17 j ≤ 192 ∧ ∀ k, k < 3 → T 14 (3 * j + k) ≤ 11 ∧ (k < T 13 j → 1 ≤ T 14 (3 * j + k)) ∧ (k < T 13 j → T 15 (3 * j + k) ≤ T 4 (T 14 (3 * j + k) - 1)) ∧ (T 16 j < k → k < T 13 j → T 15 (3 * j + k) = 0) := h.2.2.2.2.2.2.2.2 j hj
theorem nI_sub_lt {a n f : Nat} (ha : a < 2 ^ 30) (hn : n < 2 ^ 31) (hf : f < 2 ^ 31) (h : a < f + n) : nI a - nI n < nI f := by
  have h1 : (nI a - nI n).toInt = (a : Int) - n := by
    rw [Int32.toInt_sub, nI_toInt (by omega), nI_toInt hn]
    exact Int.bmod_eq_of_le (by omega) (by omega)
  exact Int32.lt_iff_toInt_lt.mpr (by rw [h1, nI_toInt hf]; omega)
/-- n places of the row a from d0 on hold f 0, f 1 .. -/
def cpF (D : mD) (a d0 : Nat) (f : Nat → Int32) (n : Nat) : mD := fun k i => if k = a then (if d0 ≤ i ∧ i < d0 + n then f (i - d0) else D a i) else D k i
theorem cpF_0 {D : mD} {a d0 : Nat} {f : Nat → Int32} : cpF D a d0 f 0 = D := by
  funext k i
  simp only [cpF]
  by_cases h : k = a
  · subst h; simp only [if_true]; rw [if_neg (by omega)]
  · simp only [if_neg h]
theorem cpF_S {D : mD} {a d0 n : Nat} {f : Nat → Int32} : u2 (cpF D a d0 f n) a (d0 + n) (f n) = cpF D a d0 f (n + 1) := by
  funext k i
  simp only [cpF, u2]
  by_cases h : k = a
  · subst h; simp only [if_true]
    by_cases g : i = d0 + n
    · subst g; rw [if_pos rfl, if_pos (by omega)]; congr 1; omega
    · rw [if_neg g]
      by_cases g2 : d0 ≤ i ∧ i < d0 + n
      · rw [if_pos g2, if_pos (by omega)]
      · rw [if_neg g2, if_neg (by omega)]
  · simp only [if_neg h]
theorem cpF_S' {D : mD} {a d0 n i : Nat} {f : Nat → Int32} {x : Int32} (hi : i = d0 + n) (hx : x = f n) : u2 (cpF D a d0 f n) a i x = cpF D a d0 f (n + 1) := by subst hi; subst hx; exact cpF_S
theorem cpF_ne {D : mD} {a d0 n k : Nat} {f : Nat → Int32} (h : k ≠ a) : cpF D a d0 f n k = D k := by funext i; simp only [cpF, if_neg h]
theorem cpF_out {D : mD} {a d0 n i : Nat} {f : Nat → Int32} (h : i < d0 ∨ d0 + n ≤ i) : cpF D a d0 f n a i = D a i := by simp only [cpF, if_true]; rw [if_neg (by omega)]
theorem cpF_in {D : mD} {a d0 n i : Nat} {f : Nat → Int32} (h : d0 ≤ i) (h2 : i < d0 + n) : cpF D a d0 f n a i = f (i - d0) := by simp only [cpF, if_true]; rw [if_pos ⟨h, h2⟩]
def fa (b : Nat) (P : Nat → Bool) : Nat → Nat | 0 => b | k + 1 => if P k then fa b P k else 0
theorem fa_le {b : Nat} (hb : b ≤ 1) (P : Nat → Bool) : ∀ k, fa b P k ≤ 1
  | 0 => hb
  | k + 1 => by
    simp only [fa]
    by_cases h : P k = true
    · rw [if_pos h]; exact fa_le hb P k
    · rw [if_neg h]; omega
theorem fa_iff {b : Nat} {P : Nat → Bool} : ∀ k, fa b P k ≠ 0 ↔ b ≠ 0 ∧ ∀ i, i < k → P i = true
  | 0 => by simp [fa]
  | k + 1 => by
    simp only [fa]
    by_cases h : P k = true
    · rw [if_pos h, fa_iff k]
      refine ⟨fun g => ⟨g.1, fun i hi => ?_⟩, fun g => ⟨g.1, fun i hi => g.2 i (by omega)⟩⟩
      by_cases e : i = k
      · subst e; exact h
      · exact g.2 i (by omega)
    · rw [if_neg h]
      refine ⟨fun g => absurd rfl g, fun g => absurd (g.2 k (by omega)) h⟩
theorem nI_and1 {x : Nat} (h : x ≤ 1) : nI x &&& nI 1 = nI x := by
  rcases (show x = 0 ∨ x = 1 by omega) with rfl | rfl <;> rfl
theorem nI_and0 (x : Nat) (h : x ≤ 1) : nI x &&& nI 0 = nI 0 := by
  rcases (show x = 0 ∨ x = 1 by omega) with rfl | rfl <;> rfl
/-- the least i from i0 on, of n, with P -/
def lsF (P : Nat → Bool) : Nat → Nat → Nat | 0, i => i | n + 1, i => if P i then i else lsF P n (i + 1)
theorem lsF_hit {P : Nat → Bool} : ∀ (n i0 i : Nat), i0 ≤ i → i < i0 + n → (∀ z, i0 ≤ z → z < i → P z = false) → P i = true → lsF P n i0 = i
  | 0, i0, i, h1, h2, _, _ => by omega
  | n + 1, i0, i, h1, h2, hz, hi => by
    simp only [lsF]
    by_cases e : i0 = i
    · subst e; rw [if_pos hi]
    · rw [if_neg (by rw [hz i0 (Nat.le_refl _) (by omega)]; decide)]
      exact lsF_hit n (i0 + 1) i (by omega) (by omega) (fun z g1 g2 => hz z (by omega) g2) hi
theorem pigeon : ∀ (n : Nat) (l : List Nat), (∀ i, i < n → i ∈ l) → n ≤ l.length
  | 0, _, _ => Nat.zero_le _
  | n + 1, l, h => by
    have h1 : n ∈ l := h n (by omega)
    have h2 := pigeon n (l.erase n) (fun i hi => (List.mem_erase_of_ne (by omega)).mpr (h i (by omega)))
    rw [List.length_erase_of_mem h1] at h2
    have h3 : 0 < l.length := List.length_pos_of_mem h1
    omega
/-- the room z is no row's and no reader's -/
def frS (T : mT) (z : Nat) : Bool := decide (fa (fa 1 (fun i => decide (T 2 i ≠ z)) 4) (fun i => decide (T 8 i ≠ z + 1)) 3 ≠ 0)
def fS (T : mT) : Nat := lsF (frS T) 8 0
theorem frS_iff (T : mT) (z : Nat) : frS T z = true ↔ (∀ r, r < 4 → T 2 r ≠ z) ∧ ∀ i, i < 3 → T 8 i ≠ z + 1 := by
  simp only [frS, decide_eq_true_eq, fa_iff]
  constructor
  · intro h; exact ⟨fun r hr => h.1.2 r hr, fun i hi => h.2 i hi⟩
  · intro h; exact ⟨⟨by decide, fun r hr => h.1 r hr⟩, fun i hi => h.2 i hi⟩
theorem frS_ex (T : mT) : ∃ z, z < 8 ∧ frS T z = true := by
  refine Classical.byContradiction (fun hn => ?_)
  have h : ∀ i, i < 8 → i ∈ [T 2 0, T 2 1, T 2 2, T 2 3, T 8 0 - 1, T 8 1 - 1, T 8 2 - 1] := by
    intro i hi
    refine Classical.byContradiction (fun hm => hn ⟨i, hi, (frS_iff T i).mpr ⟨fun r hr e => hm ?_, fun r hr e => hm ?_⟩⟩)
    · rcases (show r = 0 ∨ r = 1 ∨ r = 2 ∨ r = 3 by omega) with rfl | rfl | rfl | rfl <;> simp [e]
    · rcases (show r = 0 ∨ r = 1 ∨ r = 2 by omega) with rfl | rfl | rfl <;> simp [e]
  have := pigeon 8 _ h
  simp at this
theorem lsF_least {P : Nat → Bool} : ∀ (n i0 : Nat), (∃ z, i0 ≤ z ∧ z < i0 + n ∧ P z = true) → i0 ≤ lsF P n i0 ∧ lsF P n i0 < i0 + n ∧ P (lsF P n i0) = true
  | 0, i0, h => by obtain ⟨z, h1, h2, _⟩ := h; omega
  | n + 1, i0, h => by
    simp only [lsF]
    by_cases e : P i0 = true
    · rw [if_pos e]; exact ⟨Nat.le_refl _, by omega, e⟩
    · rw [if_neg e]
      obtain ⟨z, h1, h2, h3⟩ := h
      have hne : z ≠ i0 := fun q => e (q ▸ h3)
      obtain ⟨g1, g2, g3⟩ := lsF_least (P := P) n (i0 + 1) ⟨z, by omega, by omega, h3⟩
      exact ⟨by omega, by omega, g3⟩
theorem fS_ok (T : mT) : fS T < 8 ∧ (∀ r, r < 4 → T 2 r ≠ fS T) ∧ ∀ i, i < 3 → T 8 i ≠ fS T + 1 := by
  obtain ⟨z, h1, h2⟩ := frS_ex T
  obtain ⟨-, g2, g3⟩ := lsF_least (P := frS T) 8 0 ⟨z, by omega, by omega, h2⟩
  exact ⟨by simpa [fS] using g2, (frS_iff T _).mp g3⟩
def frB (T : mT) (z : Nat) : Bool := decide (fa (fa 1 (fun i => decide (T 5 i ≠ z)) 4) (fun i => decide (T 14 i ≠ z + 1)) 6 ≠ 0)
def fB (T : mT) : Nat := lsF (frB T) 11 0
theorem frB_iff (T : mT) (z : Nat) : frB T z = true ↔ (∀ r, r < 4 → T 5 r ≠ z) ∧ ∀ i, i < 6 → T 14 i ≠ z + 1 := by
  simp only [frB, decide_eq_true_eq, fa_iff]
  constructor
  · intro h; exact ⟨fun r hr => h.1.2 r hr, fun i hi => h.2 i hi⟩
  · intro h; exact ⟨⟨by decide, fun r hr => h.1 r hr⟩, fun i hi => h.2 i hi⟩
theorem frB_ex (T : mT) : ∃ z, z < 11 ∧ frB T z = true := by
  refine Classical.byContradiction (fun hn => ?_)
  have h : ∀ i, i < 11 → i ∈ [T 5 0, T 5 1, T 5 2, T 5 3, T 14 0 - 1, T 14 1 - 1, T 14 2 - 1, T 14 3 - 1, T 14 4 - 1, T 14 5 - 1] := by
    intro i hi
    refine Classical.byContradiction (fun hm => hn ⟨i, hi, (frB_iff T i).mpr ⟨fun r hr e => hm ?_, fun r hr e => hm ?_⟩⟩)
    · rcases (show r = 0 ∨ r = 1 ∨ r = 2 ∨ r = 3 by omega) with rfl | rfl | rfl | rfl <;> simp [e]
    · rcases (show r = 0 ∨ r = 1 ∨ r = 2 ∨ r = 3 ∨ r = 4 ∨ r = 5 by omega) with rfl | rfl | rfl | rfl | rfl | rfl <;> simp [e]
  have := pigeon 11 _ h
  simp at this
theorem fB_ok (T : mT) : fB T < 11 ∧ (∀ r, r < 4 → T 5 r ≠ fB T) ∧ ∀ i, i < 6 → T 14 i ≠ fB T + 1 := by
  obtain ⟨z, h1, h2⟩ := frB_ex T
  obtain ⟨-, g2, g3⟩ := lsF_least (P := frB T) 11 0 ⟨z, by omega, by omega, h2⟩
  exact ⟨by simpa [fB] using g2, (frB_iff T _).mp g3⟩

set_option maxHeartbeats 4000000 in
set_option maxRecDepth 100000 in
theorem mt_isWrong_0 (l : Launch) {G : va_G} {cI cZ : ClassId} {q : Nat → Nat} (hq : mJ q) (T : mT) (D : mD) (th : Int32) : mMi l yX7_isWrong wsX7_isWrong ({ frames := 0, cells := 0, slots := 0, locals := 0 } : Room) G cI cZ q [.int (nI (0))] (T) (D) (th) (nI 0) (T) (D) (nI 0) := by
  refine mstarti (cc := cX7_isWrong) (maxL := 2) (ret := (some .boolean)) (by decide) rfl rfl ⟨_, rfl⟩ (Nat.le_of_ble_eq_true rfl) (fun p e s m args below meth c Q hE X hW ls hl => ?_)
  have hl : lv_has ls 2 [(0, .ref (q 0)), (1, .int (nI (0)))] := hl
  have hin : ∀ w ∈ wsX70, w ∈ wsX7_isWrong := fun w h => List.mem_cons_of_mem _ (List.mem_append_right _ (h))
  refine lv_aload_n X.1 X.2.1 dX7_isWrong_0 rfl (lv_at hl 0 rfl) ?_
  refine lv_iload_n X.1 X.2.1 dX7_isWrong_1 rfl (lv_at hl 1 rfl) ?_
  refine mputth hq X hin hW (X.2.2.2.2 (.fieldLink RX7 71 "StrandbookModel" "thrown" "I") (List.mem_cons_of_mem _ (List.mem_append_left _ (List.mem_of_getElem? (i := 0) rfl)))) dX7_isWrong_2 (fun H locs hW => ?_)
  refine lv_iload_n X.1 X.2.1 dX7_isWrong_5 rfl (lv_at hl 1 rfl) ?_
  refine n_if_eq_t (tgt := 13) X.1 X.2.1 dX7_isWrong_6 (by decide) (by decide) (by omega) ?_
  refine lv_iconst (v := nI 0) X.1 X.2.1 dX7_isWrong_13 (by decide) ?_
  exact hE _ _ _ _ _ (rfl) (fun ty hty => by cases hty; exact nI_zb (by omega)) hW dX7_isWrong_14

set_option maxHeartbeats 4000000 in
set_option maxRecDepth 100000 in
theorem mt_isWrong_s (l : Launch) {G : va_G} {cI cZ : ClassId} {q : Nat → Nat} (hq : mJ q) (T : mT) (D : mD) (th : Int32) {n : Nat} (h : n ≠ 0) (hn : n < 100) : mMi l yX7_isWrong wsX7_isWrong ({ frames := 0, cells := 0, slots := 0, locals := 0 } : Room) G cI cZ q [.int (nI (n))] (T) (D) (th) (nI 1) (T) (D) (nI n) := by
  refine mstarti (cc := cX7_isWrong) (maxL := 2) (ret := (some .boolean)) (by decide) rfl rfl ⟨_, rfl⟩ (Nat.le_of_ble_eq_true rfl) (fun p e s m args below meth c Q hE X hW ls hl => ?_)
  have hl : lv_has ls 2 [(0, .ref (q 0)), (1, .int (nI (n)))] := hl
  have hin : ∀ w ∈ wsX70, w ∈ wsX7_isWrong := fun w h => List.mem_cons_of_mem _ (List.mem_append_right _ (h))
  refine lv_aload_n X.1 X.2.1 dX7_isWrong_0 rfl (lv_at hl 0 rfl) ?_
  refine lv_iload_n X.1 X.2.1 dX7_isWrong_1 rfl (lv_at hl 1 rfl) ?_
  refine mputth hq X hin hW (X.2.2.2.2 (.fieldLink RX7 71 "StrandbookModel" "thrown" "I") (List.mem_cons_of_mem _ (List.mem_append_left _ (List.mem_of_getElem? (i := 0) rfl)))) dX7_isWrong_2 (fun H locs hW => ?_)
  refine lv_iload_n X.1 X.2.1 dX7_isWrong_5 rfl (lv_at hl 1 rfl) ?_
  refine n_if_eq_f (tgt := 13) X.1 X.2.1 dX7_isWrong_6 (by decide) (h) (by omega) ?_
  refine lv_iconst (v := nI 1) X.1 X.2.1 dX7_isWrong_9 (by decide) ?_
  refine lv_goto (tgt := 14) X.1 X.2.1 dX7_isWrong_10 (by decide) ?_
  exact hE _ _ _ _ _ (rfl) (fun ty hty => by cases hty; exact nI_zb (by omega)) hW dX7_isWrong_14

set_option maxHeartbeats 4000000 in
set_option maxRecDepth 100000 in
theorem mt_lesser_l (l : Launch) {G : va_G} {cI cZ : ClassId} {q : Nat → Nat} (hq : mJ q) (T : mT) (D : mD) (th : Int32) {a b : Nat} (h : a < b) (hb : b < 2 ^ 31) : mMi l yX7_lesser wsX7_lesser ({ frames := 0, cells := 0, slots := 0, locals := 0 } : Room) G cI cZ q [.int (nI (a)), .int (nI (b))] (T) (D) (th) (nI a) (T) (D) (th) := by
  refine mstarti (cc := cX7_lesser) (maxL := 3) (ret := (some .int)) (by decide) rfl rfl ⟨_, rfl⟩ (Nat.le_of_ble_eq_true rfl) (fun p e s m args below meth c Q hE X hW ls hl => ?_)
  have hl : lv_has ls 3 [(0, .ref (q 0)), (1, .int (nI (a))), (2, .int (nI (b)))] := hl
  refine lv_iload_n X.1 X.2.1 dX7_lesser_0 rfl (lv_at hl 1 rfl) ?_
  refine lv_iload_n X.1 X.2.1 dX7_lesser_1 rfl (lv_at hl 2 rfl) ?_
  refine n_icmp_ge_f (tgt := 9) X.1 X.2.1 dX7_lesser_2 (by decide) (by omega) (by omega) (by omega) ?_
  refine lv_iload_n X.1 X.2.1 dX7_lesser_5 rfl (lv_at hl 1 rfl) ?_
  refine lv_goto (tgt := 10) X.1 X.2.1 dX7_lesser_6 (by decide) ?_
  exact hE _ _ _ _ _ (rfl) (fun ty hty => by cases hty; exact rfl) hW dX7_lesser_10

set_option maxHeartbeats 4000000 in
set_option maxRecDepth 100000 in
theorem mt_lesser_r (l : Launch) {G : va_G} {cI cZ : ClassId} {q : Nat → Nat} (hq : mJ q) (T : mT) (D : mD) (th : Int32) {a b : Nat} (h : b ≤ a) (ha : a < 2 ^ 31) : mMi l yX7_lesser wsX7_lesser ({ frames := 0, cells := 0, slots := 0, locals := 0 } : Room) G cI cZ q [.int (nI (a)), .int (nI (b))] (T) (D) (th) (nI b) (T) (D) (th) := by
  refine mstarti (cc := cX7_lesser) (maxL := 3) (ret := (some .int)) (by decide) rfl rfl ⟨_, rfl⟩ (Nat.le_of_ble_eq_true rfl) (fun p e s m args below meth c Q hE X hW ls hl => ?_)
  have hl : lv_has ls 3 [(0, .ref (q 0)), (1, .int (nI (a))), (2, .int (nI (b)))] := hl
  refine lv_iload_n X.1 X.2.1 dX7_lesser_0 rfl (lv_at hl 1 rfl) ?_
  refine lv_iload_n X.1 X.2.1 dX7_lesser_1 rfl (lv_at hl 2 rfl) ?_
  refine n_icmp_ge_t (tgt := 9) X.1 X.2.1 dX7_lesser_2 (by decide) (by omega) (by omega) (by omega) ?_
  refine lv_iload_n X.1 X.2.1 dX7_lesser_9 rfl (lv_at hl 2 rfl) ?_
  exact hE _ _ _ _ _ (rfl) (fun ty hty => by cases hty; exact rfl) hW dX7_lesser_10

theorem mt_lesser (l : Launch) {G : va_G} {cI cZ : ClassId} {q : Nat → Nat} (hq : mJ q) (T : mT) (D : mD) (th : Int32) {a b : Nat} (ha : a < 2 ^ 31) (hb : b < 2 ^ 31) : mMi l yX7_lesser wsX7_lesser ({ frames := 0, cells := 0, slots := 0, locals := 0 } : Room) G cI cZ q [.int (nI a), .int (nI b)] T D th (nI (min a b)) T D th := by
  by_cases h : a < b
  · rw [show min a b = a by omega]; exact mt_lesser_l l hq T D th h hb
  · rw [show min a b = b by omega]; exact mt_lesser_r l hq T D th (by omega) ha

set_option maxHeartbeats 4000000 in
set_option maxRecDepth 100000 in
theorem mt_isRow_ok (l : Launch) {G : va_G} {cI cZ : ClassId} {q : Nat → Nat} (hq : mJ q) (T : mT) (D : mD) (th : Int32) {r : Nat} (hr : r < 4) : mMi l yX7_isRow wsX7_isRow ({ frames := 0, cells := 0, slots := 0, locals := 0 } : Room) G cI cZ q [.int (nI (r))] (T) (D) (th) (nI 1) (T) (D) (th) := by
  refine mstarti (cc := cX7_isRow) (maxL := 2) (ret := (some .boolean)) (by decide) rfl rfl ⟨_, rfl⟩ (Nat.le_of_ble_eq_true rfl) (fun p e s m args below meth c Q hE X hW ls hl => ?_)
  have hl : lv_has ls 2 [(0, .ref (q 0)), (1, .int (nI (r)))] := hl
  refine lv_iconst (v := nI 0) X.1 X.2.1 dX7_isRow_0 (by decide) ?_
  refine lv_iload_n X.1 X.2.1 dX7_isRow_1 rfl (lv_at hl 1 rfl) ?_
  refine n_icmp_gt_f (tgt := 14) X.1 X.2.1 dX7_isRow_2 (by decide) (by omega) (by omega) (by omega) ?_
  refine lv_iload_n X.1 X.2.1 dX7_isRow_5 rfl (lv_at hl 1 rfl) ?_
  refine lv_iconst (v := nI 3) X.1 X.2.1 dX7_isRow_6 (by decide) ?_
  refine n_icmp_gt_f (tgt := 14) X.1 X.2.1 dX7_isRow_7 (by decide) (by omega) (by omega) (by omega) ?_
  refine lv_iconst (v := nI 1) X.1 X.2.1 dX7_isRow_10 (by decide) ?_
  refine lv_goto (tgt := 15) X.1 X.2.1 dX7_isRow_11 (by decide) ?_
  exact hE _ _ _ _ _ (rfl) (fun ty hty => by cases hty; exact nI_zb (by omega)) hW dX7_isRow_15

set_option maxHeartbeats 4000000 in
set_option maxRecDepth 100000 in
theorem mt_isRow_b1 (l : Launch) {G : va_G} {cI cZ : ClassId} {q : Nat → Nat} (hq : mJ q) (T : mT) (D : mD) (th : Int32) {x : Int32} (h : x < 0) : mMi l yX7_isRow wsX7_isRow ({ frames := 0, cells := 0, slots := 0, locals := 0 } : Room) G cI cZ q [.int (x)] (T) (D) (th) (nI 0) (T) (D) (th) := by
  refine mstarti (cc := cX7_isRow) (maxL := 2) (ret := (some .boolean)) (by decide) rfl rfl ⟨_, rfl⟩ (Nat.le_of_ble_eq_true rfl) (fun p e s m args below meth c Q hE X hW ls hl => ?_)
  have hl : lv_has ls 2 [(0, .ref (q 0)), (1, .int (x))] := hl
  refine lv_iconst (v := nI 0) X.1 X.2.1 dX7_isRow_0 (by decide) ?_
  refine lv_iload_n X.1 X.2.1 dX7_isRow_1 rfl (lv_at hl 1 rfl) ?_
  refine x_icmp_gt_t (tgt := 14) X.1 X.2.1 dX7_isRow_2 (by decide) (h) ?_
  refine lv_iconst (v := nI 0) X.1 X.2.1 dX7_isRow_14 (by decide) ?_
  exact hE _ _ _ _ _ (rfl) (fun ty hty => by cases hty; exact nI_zb (by omega)) hW dX7_isRow_15

set_option maxHeartbeats 4000000 in
set_option maxRecDepth 100000 in
theorem mt_isRow_b2 (l : Launch) {G : va_G} {cI cZ : ClassId} {q : Nat → Nat} (hq : mJ q) (T : mT) (D : mD) (th : Int32) {r : Nat} (hr : 4 ≤ r) (hm : r < 2 ^ 31) : mMi l yX7_isRow wsX7_isRow ({ frames := 0, cells := 0, slots := 0, locals := 0 } : Room) G cI cZ q [.int (nI (r))] (T) (D) (th) (nI 0) (T) (D) (th) := by
  refine mstarti (cc := cX7_isRow) (maxL := 2) (ret := (some .boolean)) (by decide) rfl rfl ⟨_, rfl⟩ (Nat.le_of_ble_eq_true rfl) (fun p e s m args below meth c Q hE X hW ls hl => ?_)
  have hl : lv_has ls 2 [(0, .ref (q 0)), (1, .int (nI (r)))] := hl
  refine lv_iconst (v := nI 0) X.1 X.2.1 dX7_isRow_0 (by decide) ?_
  refine lv_iload_n X.1 X.2.1 dX7_isRow_1 rfl (lv_at hl 1 rfl) ?_
  refine n_icmp_gt_f (tgt := 14) X.1 X.2.1 dX7_isRow_2 (by decide) (by omega) (by omega) (by omega) ?_
  refine lv_iload_n X.1 X.2.1 dX7_isRow_5 rfl (lv_at hl 1 rfl) ?_
  refine lv_iconst (v := nI 3) X.1 X.2.1 dX7_isRow_6 (by decide) ?_
  refine n_icmp_gt_t (tgt := 14) X.1 X.2.1 dX7_isRow_7 (by decide) (by omega) (by omega) (by omega) ?_
  refine lv_iconst (v := nI 0) X.1 X.2.1 dX7_isRow_14 (by decide) ?_
  exact hE _ _ _ _ _ (rfl) (fun ty hty => by cases hty; exact nI_zb (by omega)) hW dX7_isRow_15

theorem mt_isRow_bad (l : Launch) {G : va_G} {cI cZ : ClassId} {q : Nat → Nat} (hq : mJ q) (T : mT) (D : mD) (th : Int32) {x : Int32} (h : oN x 4) : mMi l yX7_isRow wsX7_isRow ({ frames := 0, cells := 0, slots := 0, locals := 0 } : Room) G cI cZ q [.int x] T D th (nI 0) T D th := by
  by_cases hp : x < 0
  · exact mt_isRow_b1 l hq T D th hp
  · obtain ⟨j, h1, h2, rfl⟩ := oN_ge h hp
    exact mt_isRow_b2 l hq T D th h2 h1

set_option maxHeartbeats 4000000 in
set_option maxRecDepth 100000 in
theorem mt_isOther_ok (l : Launch) {G : va_G} {cI cZ : ClassId} {q : Nat → Nat} (hq : mJ q) (T : mT) (D : mD) (th : Int32) {r : Nat} (hr : r < 3) : mMi l yX7_isOther wsX7_isOther ({ frames := 0, cells := 0, slots := 0, locals := 0 } : Room) G cI cZ q [.int (nI (r))] (T) (D) (th) (nI 1) (T) (D) (th) := by
  refine mstarti (cc := cX7_isOther) (maxL := 2) (ret := (some .boolean)) (by decide) rfl rfl ⟨_, rfl⟩ (Nat.le_of_ble_eq_true rfl) (fun p e s m args below meth c Q hE X hW ls hl => ?_)
  have hl : lv_has ls 2 [(0, .ref (q 0)), (1, .int (nI (r)))] := hl
  refine lv_iconst (v := nI 0) X.1 X.2.1 dX7_isOther_0 (by decide) ?_
  refine lv_iload_n X.1 X.2.1 dX7_isOther_1 rfl (lv_at hl 1 rfl) ?_
  refine n_icmp_gt_f (tgt := 14) X.1 X.2.1 dX7_isOther_2 (by decide) (by omega) (by omega) (by omega) ?_
  refine lv_iload_n X.1 X.2.1 dX7_isOther_5 rfl (lv_at hl 1 rfl) ?_
  refine lv_iconst (v := nI 2) X.1 X.2.1 dX7_isOther_6 (by decide) ?_
  refine n_icmp_gt_f (tgt := 14) X.1 X.2.1 dX7_isOther_7 (by decide) (by omega) (by omega) (by omega) ?_
  refine lv_iconst (v := nI 1) X.1 X.2.1 dX7_isOther_10 (by decide) ?_
  refine lv_goto (tgt := 15) X.1 X.2.1 dX7_isOther_11 (by decide) ?_
  exact hE _ _ _ _ _ (rfl) (fun ty hty => by cases hty; exact nI_zb (by omega)) hW dX7_isOther_15

set_option maxHeartbeats 4000000 in
set_option maxRecDepth 100000 in
theorem mt_isOther_b1 (l : Launch) {G : va_G} {cI cZ : ClassId} {q : Nat → Nat} (hq : mJ q) (T : mT) (D : mD) (th : Int32) {x : Int32} (h : x < 0) : mMi l yX7_isOther wsX7_isOther ({ frames := 0, cells := 0, slots := 0, locals := 0 } : Room) G cI cZ q [.int (x)] (T) (D) (th) (nI 0) (T) (D) (th) := by
  refine mstarti (cc := cX7_isOther) (maxL := 2) (ret := (some .boolean)) (by decide) rfl rfl ⟨_, rfl⟩ (Nat.le_of_ble_eq_true rfl) (fun p e s m args below meth c Q hE X hW ls hl => ?_)
  have hl : lv_has ls 2 [(0, .ref (q 0)), (1, .int (x))] := hl
  refine lv_iconst (v := nI 0) X.1 X.2.1 dX7_isOther_0 (by decide) ?_
  refine lv_iload_n X.1 X.2.1 dX7_isOther_1 rfl (lv_at hl 1 rfl) ?_
  refine x_icmp_gt_t (tgt := 14) X.1 X.2.1 dX7_isOther_2 (by decide) (h) ?_
  refine lv_iconst (v := nI 0) X.1 X.2.1 dX7_isOther_14 (by decide) ?_
  exact hE _ _ _ _ _ (rfl) (fun ty hty => by cases hty; exact nI_zb (by omega)) hW dX7_isOther_15

set_option maxHeartbeats 4000000 in
set_option maxRecDepth 100000 in
theorem mt_isOther_b2 (l : Launch) {G : va_G} {cI cZ : ClassId} {q : Nat → Nat} (hq : mJ q) (T : mT) (D : mD) (th : Int32) {r : Nat} (hr : 3 ≤ r) (hm : r < 2 ^ 31) : mMi l yX7_isOther wsX7_isOther ({ frames := 0, cells := 0, slots := 0, locals := 0 } : Room) G cI cZ q [.int (nI (r))] (T) (D) (th) (nI 0) (T) (D) (th) := by
  refine mstarti (cc := cX7_isOther) (maxL := 2) (ret := (some .boolean)) (by decide) rfl rfl ⟨_, rfl⟩ (Nat.le_of_ble_eq_true rfl) (fun p e s m args below meth c Q hE X hW ls hl => ?_)
  have hl : lv_has ls 2 [(0, .ref (q 0)), (1, .int (nI (r)))] := hl
  refine lv_iconst (v := nI 0) X.1 X.2.1 dX7_isOther_0 (by decide) ?_
  refine lv_iload_n X.1 X.2.1 dX7_isOther_1 rfl (lv_at hl 1 rfl) ?_
  refine n_icmp_gt_f (tgt := 14) X.1 X.2.1 dX7_isOther_2 (by decide) (by omega) (by omega) (by omega) ?_
  refine lv_iload_n X.1 X.2.1 dX7_isOther_5 rfl (lv_at hl 1 rfl) ?_
  refine lv_iconst (v := nI 2) X.1 X.2.1 dX7_isOther_6 (by decide) ?_
  refine n_icmp_gt_t (tgt := 14) X.1 X.2.1 dX7_isOther_7 (by decide) (by omega) (by omega) (by omega) ?_
  refine lv_iconst (v := nI 0) X.1 X.2.1 dX7_isOther_14 (by decide) ?_
  exact hE _ _ _ _ _ (rfl) (fun ty hty => by cases hty; exact nI_zb (by omega)) hW dX7_isOther_15

theorem mt_isOther_bad (l : Launch) {G : va_G} {cI cZ : ClassId} {q : Nat → Nat} (hq : mJ q) (T : mT) (D : mD) (th : Int32) {x : Int32} (h : oN x 3) : mMi l yX7_isOther wsX7_isOther ({ frames := 0, cells := 0, slots := 0, locals := 0 } : Room) G cI cZ q [.int x] T D th (nI 0) T D th := by
  by_cases hp : x < 0
  · exact mt_isOther_b1 l hq T D th hp
  · obtain ⟨j, h1, h2, rfl⟩ := oN_ge h hp
    exact mt_isOther_b2 l hq T D th h2 h1

set_option maxHeartbeats 4000000 in
set_option maxRecDepth 100000 in
theorem mt_isStream_ok (l : Launch) {G : va_G} {cI cZ : ClassId} {q : Nat → Nat} (hq : mJ q) (T : mT) (D : mD) (th : Int32) {r : Nat} (hr : r < 2) : mMi l yX7_isStream wsX7_isStream ({ frames := 0, cells := 0, slots := 0, locals := 0 } : Room) G cI cZ q [.int (nI (r))] (T) (D) (th) (nI 1) (T) (D) (th) := by
  refine mstarti (cc := cX7_isStream) (maxL := 2) (ret := (some .boolean)) (by decide) rfl rfl ⟨_, rfl⟩ (Nat.le_of_ble_eq_true rfl) (fun p e s m args below meth c Q hE X hW ls hl => ?_)
  have hl : lv_has ls 2 [(0, .ref (q 0)), (1, .int (nI (r)))] := hl
  refine lv_iconst (v := nI 0) X.1 X.2.1 dX7_isStream_0 (by decide) ?_
  refine lv_iload_n X.1 X.2.1 dX7_isStream_1 rfl (lv_at hl 1 rfl) ?_
  refine n_icmp_gt_f (tgt := 14) X.1 X.2.1 dX7_isStream_2 (by decide) (by omega) (by omega) (by omega) ?_
  refine lv_iload_n X.1 X.2.1 dX7_isStream_5 rfl (lv_at hl 1 rfl) ?_
  refine lv_iconst (v := nI 1) X.1 X.2.1 dX7_isStream_6 (by decide) ?_
  refine n_icmp_gt_f (tgt := 14) X.1 X.2.1 dX7_isStream_7 (by decide) (by omega) (by omega) (by omega) ?_
  refine lv_iconst (v := nI 1) X.1 X.2.1 dX7_isStream_10 (by decide) ?_
  refine lv_goto (tgt := 15) X.1 X.2.1 dX7_isStream_11 (by decide) ?_
  exact hE _ _ _ _ _ (rfl) (fun ty hty => by cases hty; exact nI_zb (by omega)) hW dX7_isStream_15

set_option maxHeartbeats 4000000 in
set_option maxRecDepth 100000 in
theorem mt_isStream_b1 (l : Launch) {G : va_G} {cI cZ : ClassId} {q : Nat → Nat} (hq : mJ q) (T : mT) (D : mD) (th : Int32) {x : Int32} (h : x < 0) : mMi l yX7_isStream wsX7_isStream ({ frames := 0, cells := 0, slots := 0, locals := 0 } : Room) G cI cZ q [.int (x)] (T) (D) (th) (nI 0) (T) (D) (th) := by
  refine mstarti (cc := cX7_isStream) (maxL := 2) (ret := (some .boolean)) (by decide) rfl rfl ⟨_, rfl⟩ (Nat.le_of_ble_eq_true rfl) (fun p e s m args below meth c Q hE X hW ls hl => ?_)
  have hl : lv_has ls 2 [(0, .ref (q 0)), (1, .int (x))] := hl
  refine lv_iconst (v := nI 0) X.1 X.2.1 dX7_isStream_0 (by decide) ?_
  refine lv_iload_n X.1 X.2.1 dX7_isStream_1 rfl (lv_at hl 1 rfl) ?_
  refine x_icmp_gt_t (tgt := 14) X.1 X.2.1 dX7_isStream_2 (by decide) (h) ?_
  refine lv_iconst (v := nI 0) X.1 X.2.1 dX7_isStream_14 (by decide) ?_
  exact hE _ _ _ _ _ (rfl) (fun ty hty => by cases hty; exact nI_zb (by omega)) hW dX7_isStream_15

set_option maxHeartbeats 4000000 in
set_option maxRecDepth 100000 in
theorem mt_isStream_b2 (l : Launch) {G : va_G} {cI cZ : ClassId} {q : Nat → Nat} (hq : mJ q) (T : mT) (D : mD) (th : Int32) {r : Nat} (hr : 2 ≤ r) (hm : r < 2 ^ 31) : mMi l yX7_isStream wsX7_isStream ({ frames := 0, cells := 0, slots := 0, locals := 0 } : Room) G cI cZ q [.int (nI (r))] (T) (D) (th) (nI 0) (T) (D) (th) := by
  refine mstarti (cc := cX7_isStream) (maxL := 2) (ret := (some .boolean)) (by decide) rfl rfl ⟨_, rfl⟩ (Nat.le_of_ble_eq_true rfl) (fun p e s m args below meth c Q hE X hW ls hl => ?_)
  have hl : lv_has ls 2 [(0, .ref (q 0)), (1, .int (nI (r)))] := hl
  refine lv_iconst (v := nI 0) X.1 X.2.1 dX7_isStream_0 (by decide) ?_
  refine lv_iload_n X.1 X.2.1 dX7_isStream_1 rfl (lv_at hl 1 rfl) ?_
  refine n_icmp_gt_f (tgt := 14) X.1 X.2.1 dX7_isStream_2 (by decide) (by omega) (by omega) (by omega) ?_
  refine lv_iload_n X.1 X.2.1 dX7_isStream_5 rfl (lv_at hl 1 rfl) ?_
  refine lv_iconst (v := nI 1) X.1 X.2.1 dX7_isStream_6 (by decide) ?_
  refine n_icmp_gt_t (tgt := 14) X.1 X.2.1 dX7_isStream_7 (by decide) (by omega) (by omega) (by omega) ?_
  refine lv_iconst (v := nI 0) X.1 X.2.1 dX7_isStream_14 (by decide) ?_
  exact hE _ _ _ _ _ (rfl) (fun ty hty => by cases hty; exact nI_zb (by omega)) hW dX7_isStream_15

theorem mt_isStream_bad (l : Launch) {G : va_G} {cI cZ : ClassId} {q : Nat → Nat} (hq : mJ q) (T : mT) (D : mD) (th : Int32) {x : Int32} (h : oN x 2) : mMi l yX7_isStream wsX7_isStream ({ frames := 0, cells := 0, slots := 0, locals := 0 } : Room) G cI cZ q [.int x] T D th (nI 0) T D th := by
  by_cases hp : x < 0
  · exact mt_isStream_b1 l hq T D th hp
  · obtain ⟨j, h1, h2, rfl⟩ := oN_ge h hp
    exact mt_isStream_b2 l hq T D th h2 h1

set_option maxHeartbeats 4000000 in
set_option maxRecDepth 100000 in
theorem mt_signLength (l : Launch) {G : va_G} {cI cZ : ClassId} {q : Nat → Nat} (hq : mJ q) (T : mT) (D : mD) (th : Int32) (I : mI T) {r : Nat} (hr : r < 4) : mMi l yX7_signLength wsX7_signLength ({ frames := 0, cells := 0, slots := 0, locals := 0 } : Room) G cI cZ q [.int (nI (r))] (T) (D) (th) (nI (T 1 (T 2 r))) (T) (D) (th) := by
  refine mstarti (cc := cX7_signLength) (maxL := 2) (ret := (some .int)) (by decide) rfl rfl ⟨_, rfl⟩ (Nat.le_of_ble_eq_true rfl) (fun p e s m args below meth c Q hE X hW ls hl => ?_)
  have hl : lv_has ls 2 [(0, .ref (q 0)), (1, .int (nI (r)))] := hl
  have hin : ∀ w ∈ wsX70, w ∈ wsX7_signLength := fun w h => List.mem_cons_of_mem _ (List.mem_append_left _ (List.mem_append_right _ (h)))
  have I1 := I.sr hr
  refine lv_aload_n X.1 X.2.1 dX7_signLength_0 rfl (lv_at hl 0 rfl) ?_
  refine mget 1 (by decide) rfl X hin hW (X.2.2.2.2 (.fieldLink RX7 13 "StrandbookModel" "signLengths" "[I") (List.mem_cons_of_mem _ (List.mem_append_left _ (List.mem_append_left _ (List.mem_of_getElem? (i := 0) rfl))))) dX7_signLength_1 ?_
  refine lv_aload_n X.1 X.2.1 dX7_signLength_4 rfl (lv_at hl 0 rfl) ?_
  refine mget 2 (by decide) rfl X hin hW (X.2.2.2.2 (.fieldLink RX7 16 "StrandbookModel" "signRooms" "[I") (List.mem_cons_of_mem _ (List.mem_append_left _ (List.mem_append_left _ (List.mem_of_getElem? (i := 1) rfl))))) dX7_signLength_5 ?_
  refine lv_iload_n X.1 X.2.1 dX7_signLength_8 rfl (lv_at hl 1 rfl) ?_
  refine mld2 X hW (by omega) dX7_signLength_9 ?_
  refine mld1 X hW (by omega) dX7_signLength_10 ?_
  exact hE _ _ _ _ _ (rfl) (fun ty hty => by cases hty; exact rfl) hW dX7_signLength_11

set_option maxHeartbeats 4000000 in
set_option maxRecDepth 100000 in
theorem mt_isPart_ok (l : Launch) {G : va_G} {cI cZ : ClassId} {q : Nat → Nat} (hq : mJ q) (T : mT) (D : mD) (th : Int32) (I : mI T) {r f n : Nat} (hr : r < 4) (h : f + n ≤ T 1 (T 2 r)) : mMi l yX7_isPart wsX7_isPart ({ frames := 1, cells := 0, slots := 0, locals := 21 } : Room) G cI cZ q [.int (nI (r)), .int (nI (f)), .int (nI (n))] (T) (D) (th) (nI 1) (T) (D) (th) := by
  refine mstarti (cc := cX7_isPart) (maxL := 4) (ret := (some .boolean)) (by decide) rfl rfl ⟨_, rfl⟩ (Nat.le_of_ble_eq_true rfl) (fun p e s m args below meth c Q hE X hW ls hl => ?_)
  have hl : lv_has ls 4 [(0, .ref (q 0)), (1, .int (nI (r))), (2, .int (nI (f))), (3, .int (nI (n)))] := hl
  have hin : ∀ w ∈ wsX70, w ∈ wsX7_isPart := fun w h => List.mem_cons_of_mem _ (List.mem_append_left _ (List.mem_append_right _ (h)))
  have I1 := I.sr hr
  have I2 := I.sl I1
  refine lv_aload_n X.1 X.2.1 dX7_isPart_0 rfl (lv_at hl 0 rfl) ?_
  refine lv_iload_n X.1 X.2.1 dX7_isPart_1 rfl (lv_at hl 1 rfl) ?_
  refine mcalli hq X hW (mt_isRow_ok l hq (T) (D) (th) (r := r) (by omega)) (cwV 1 X.2.2.2.2 gX7_isPart_X7_isRow rfl rfl rfl (by decide +kernel) ⟨Nat.le_of_ble_eq_true rfl, Nat.le_of_ble_eq_true rfl⟩) rfl rfl hl.1 (Nat.le_of_ble_eq_true rfl) dX7_isPart_2 ⟨Nat.zero_le _, Nat.zero_le _⟩ (fun H locs hW => ?_)
  refine n_if_eq_f (tgt := 31) X.1 X.2.1 dX7_isPart_5 (by decide) (by decide) (by omega) ?_
  refine lv_iload_n X.1 X.2.1 dX7_isPart_8 rfl (lv_at hl 2 rfl) ?_
  refine n_if_lt_f (tgt := 31) X.1 X.2.1 dX7_isPart_9 (by decide) (by omega) ?_
  refine lv_iload_n X.1 X.2.1 dX7_isPart_12 rfl (lv_at hl 3 rfl) ?_
  refine n_if_lt_f (tgt := 31) X.1 X.2.1 dX7_isPart_13 (by decide) (by omega) ?_
  refine lv_iload_n X.1 X.2.1 dX7_isPart_16 rfl (lv_at hl 2 rfl) ?_
  refine lv_aload_n X.1 X.2.1 dX7_isPart_17 rfl (lv_at hl 0 rfl) ?_
  refine lv_iload_n X.1 X.2.1 dX7_isPart_18 rfl (lv_at hl 1 rfl) ?_
  refine mcalli hq X hW (mt_signLength l hq (T) (D) (th) I (r := r) (by omega)) (cwV 1 X.2.2.2.2 gX7_isPart_X7_signLength rfl rfl rfl (by decide +kernel) ⟨Nat.le_of_ble_eq_true rfl, Nat.le_of_ble_eq_true rfl⟩) rfl rfl hl.1 (Nat.le_of_ble_eq_true rfl) dX7_isPart_19 ⟨Nat.zero_le _, Nat.zero_le _⟩ (fun H locs hW => ?_)
  refine lv_iload_n X.1 X.2.1 dX7_isPart_22 rfl (lv_at hl 3 rfl) ?_
  refine n_isub X.1 X.2.1 (by omega) dX7_isPart_23 ?_
  refine n_icmp_gt_f (tgt := 31) X.1 X.2.1 dX7_isPart_24 (by decide) (by omega) (by omega) (by omega) ?_
  refine lv_iconst (v := nI 1) X.1 X.2.1 dX7_isPart_27 (by decide) ?_
  refine lv_goto (tgt := 32) X.1 X.2.1 dX7_isPart_28 (by decide) ?_
  exact hE _ _ _ _ _ (rfl) (fun ty hty => by cases hty; exact nI_zb (by omega)) hW dX7_isPart_32

set_option maxHeartbeats 4000000 in
set_option maxRecDepth 100000 in
theorem mt_isPart_b0 (l : Launch) {G : va_G} {cI cZ : ClassId} {q : Nat → Nat} (hq : mJ q) (T : mT) (D : mD) (th : Int32) {x y z : Int32} (h : oN x 4) : mMi l yX7_isPart wsX7_isPart ({ frames := 1, cells := 0, slots := 0, locals := 21 } : Room) G cI cZ q [.int (x), .int (y), .int (z)] (T) (D) (th) (nI 0) (T) (D) (th) := by
  refine mstarti (cc := cX7_isPart) (maxL := 4) (ret := (some .boolean)) (by decide) rfl rfl ⟨_, rfl⟩ (Nat.le_of_ble_eq_true rfl) (fun p e s m args below meth c Q hE X hW ls hl => ?_)
  have hl : lv_has ls 4 [(0, .ref (q 0)), (1, .int (x)), (2, .int (y)), (3, .int (z))] := hl
  have hin : ∀ w ∈ wsX70, w ∈ wsX7_isPart := fun w h => List.mem_cons_of_mem _ (List.mem_append_left _ (List.mem_append_right _ (h)))
  refine lv_aload_n X.1 X.2.1 dX7_isPart_0 rfl (lv_at hl 0 rfl) ?_
  refine lv_iload_n X.1 X.2.1 dX7_isPart_1 rfl (lv_at hl 1 rfl) ?_
  refine mcalli hq X hW (mt_isRow_bad l hq (T) (D) (th) (x := x) (h)) (cwV 1 X.2.2.2.2 gX7_isPart_X7_isRow rfl rfl rfl (by decide +kernel) ⟨Nat.le_of_ble_eq_true rfl, Nat.le_of_ble_eq_true rfl⟩) rfl rfl hl.1 (Nat.le_of_ble_eq_true rfl) dX7_isPart_2 ⟨Nat.zero_le _, Nat.zero_le _⟩ (fun H locs hW => ?_)
  refine n_if_eq_t (tgt := 31) X.1 X.2.1 dX7_isPart_5 (by decide) (by decide) (by omega) ?_
  refine lv_iconst (v := nI 0) X.1 X.2.1 dX7_isPart_31 (by decide) ?_
  exact hE _ _ _ _ _ (rfl) (fun ty hty => by cases hty; exact nI_zb (by omega)) hW dX7_isPart_32

set_option maxHeartbeats 4000000 in
set_option maxRecDepth 100000 in
theorem mt_isPart_b1 (l : Launch) {G : va_G} {cI cZ : ClassId} {q : Nat → Nat} (hq : mJ q) (T : mT) (D : mD) (th : Int32) (I : mI T) {r : Nat} {y z : Int32} (hr : r < 4) (h : y < 0) : mMi l yX7_isPart wsX7_isPart ({ frames := 1, cells := 0, slots := 0, locals := 21 } : Room) G cI cZ q [.int (nI (r)), .int (y), .int (z)] (T) (D) (th) (nI 0) (T) (D) (th) := by
  refine mstarti (cc := cX7_isPart) (maxL := 4) (ret := (some .boolean)) (by decide) rfl rfl ⟨_, rfl⟩ (Nat.le_of_ble_eq_true rfl) (fun p e s m args below meth c Q hE X hW ls hl => ?_)
  have hl : lv_has ls 4 [(0, .ref (q 0)), (1, .int (nI (r))), (2, .int (y)), (3, .int (z))] := hl
  have hin : ∀ w ∈ wsX70, w ∈ wsX7_isPart := fun w h => List.mem_cons_of_mem _ (List.mem_append_left _ (List.mem_append_right _ (h)))
  have I1 := I.sr hr
  have I2 := I.sl I1
  refine lv_aload_n X.1 X.2.1 dX7_isPart_0 rfl (lv_at hl 0 rfl) ?_
  refine lv_iload_n X.1 X.2.1 dX7_isPart_1 rfl (lv_at hl 1 rfl) ?_
  refine mcalli hq X hW (mt_isRow_ok l hq (T) (D) (th) (r := r) (by omega)) (cwV 1 X.2.2.2.2 gX7_isPart_X7_isRow rfl rfl rfl (by decide +kernel) ⟨Nat.le_of_ble_eq_true rfl, Nat.le_of_ble_eq_true rfl⟩) rfl rfl hl.1 (Nat.le_of_ble_eq_true rfl) dX7_isPart_2 ⟨Nat.zero_le _, Nat.zero_le _⟩ (fun H locs hW => ?_)
  refine n_if_eq_f (tgt := 31) X.1 X.2.1 dX7_isPart_5 (by decide) (by decide) (by omega) ?_
  refine lv_iload_n X.1 X.2.1 dX7_isPart_8 rfl (lv_at hl 2 rfl) ?_
  refine x_if_lt_t (tgt := 31) X.1 X.2.1 dX7_isPart_9 (by decide) (h) ?_
  refine lv_iconst (v := nI 0) X.1 X.2.1 dX7_isPart_31 (by decide) ?_
  exact hE _ _ _ _ _ (rfl) (fun ty hty => by cases hty; exact nI_zb (by omega)) hW dX7_isPart_32

set_option maxHeartbeats 4000000 in
set_option maxRecDepth 100000 in
theorem mt_isPart_b2 (l : Launch) {G : va_G} {cI cZ : ClassId} {q : Nat → Nat} (hq : mJ q) (T : mT) (D : mD) (th : Int32) (I : mI T) {r f : Nat} {z : Int32} (hr : r < 4) (hf : f < 2 ^ 31) (h : z < 0) : mMi l yX7_isPart wsX7_isPart ({ frames := 1, cells := 0, slots := 0, locals := 21 } : Room) G cI cZ q [.int (nI (r)), .int (nI (f)), .int (z)] (T) (D) (th) (nI 0) (T) (D) (th) := by
  refine mstarti (cc := cX7_isPart) (maxL := 4) (ret := (some .boolean)) (by decide) rfl rfl ⟨_, rfl⟩ (Nat.le_of_ble_eq_true rfl) (fun p e s m args below meth c Q hE X hW ls hl => ?_)
  have hl : lv_has ls 4 [(0, .ref (q 0)), (1, .int (nI (r))), (2, .int (nI (f))), (3, .int (z))] := hl
  have hin : ∀ w ∈ wsX70, w ∈ wsX7_isPart := fun w h => List.mem_cons_of_mem _ (List.mem_append_left _ (List.mem_append_right _ (h)))
  have I1 := I.sr hr
  have I2 := I.sl I1
  refine lv_aload_n X.1 X.2.1 dX7_isPart_0 rfl (lv_at hl 0 rfl) ?_
  refine lv_iload_n X.1 X.2.1 dX7_isPart_1 rfl (lv_at hl 1 rfl) ?_
  refine mcalli hq X hW (mt_isRow_ok l hq (T) (D) (th) (r := r) (by omega)) (cwV 1 X.2.2.2.2 gX7_isPart_X7_isRow rfl rfl rfl (by decide +kernel) ⟨Nat.le_of_ble_eq_true rfl, Nat.le_of_ble_eq_true rfl⟩) rfl rfl hl.1 (Nat.le_of_ble_eq_true rfl) dX7_isPart_2 ⟨Nat.zero_le _, Nat.zero_le _⟩ (fun H locs hW => ?_)
  refine n_if_eq_f (tgt := 31) X.1 X.2.1 dX7_isPart_5 (by decide) (by decide) (by omega) ?_
  refine lv_iload_n X.1 X.2.1 dX7_isPart_8 rfl (lv_at hl 2 rfl) ?_
  refine n_if_lt_f (tgt := 31) X.1 X.2.1 dX7_isPart_9 (by decide) (by omega) ?_
  refine lv_iload_n X.1 X.2.1 dX7_isPart_12 rfl (lv_at hl 3 rfl) ?_
  refine x_if_lt_t (tgt := 31) X.1 X.2.1 dX7_isPart_13 (by decide) (h) ?_
  refine lv_iconst (v := nI 0) X.1 X.2.1 dX7_isPart_31 (by decide) ?_
  exact hE _ _ _ _ _ (rfl) (fun ty hty => by cases hty; exact nI_zb (by omega)) hW dX7_isPart_32

set_option maxHeartbeats 4000000 in
set_option maxRecDepth 100000 in
theorem mt_isPart_b3 (l : Launch) {G : va_G} {cI cZ : ClassId} {q : Nat → Nat} (hq : mJ q) (T : mT) (D : mD) (th : Int32) (I : mI T) {r f n : Nat} (hr : r < 4) (hf : f < 2 ^ 31) (hn : n < 2 ^ 31) (h : T 1 (T 2 r) < f + n) : mMi l yX7_isPart wsX7_isPart ({ frames := 1, cells := 0, slots := 0, locals := 21 } : Room) G cI cZ q [.int (nI (r)), .int (nI (f)), .int (nI (n))] (T) (D) (th) (nI 0) (T) (D) (th) := by
  refine mstarti (cc := cX7_isPart) (maxL := 4) (ret := (some .boolean)) (by decide) rfl rfl ⟨_, rfl⟩ (Nat.le_of_ble_eq_true rfl) (fun p e s m args below meth c Q hE X hW ls hl => ?_)
  have hl : lv_has ls 4 [(0, .ref (q 0)), (1, .int (nI (r))), (2, .int (nI (f))), (3, .int (nI (n)))] := hl
  have hin : ∀ w ∈ wsX70, w ∈ wsX7_isPart := fun w h => List.mem_cons_of_mem _ (List.mem_append_left _ (List.mem_append_right _ (h)))
  have I1 := I.sr hr
  have I2 := I.sl I1
  refine lv_aload_n X.1 X.2.1 dX7_isPart_0 rfl (lv_at hl 0 rfl) ?_
  refine lv_iload_n X.1 X.2.1 dX7_isPart_1 rfl (lv_at hl 1 rfl) ?_
  refine mcalli hq X hW (mt_isRow_ok l hq (T) (D) (th) (r := r) (by omega)) (cwV 1 X.2.2.2.2 gX7_isPart_X7_isRow rfl rfl rfl (by decide +kernel) ⟨Nat.le_of_ble_eq_true rfl, Nat.le_of_ble_eq_true rfl⟩) rfl rfl hl.1 (Nat.le_of_ble_eq_true rfl) dX7_isPart_2 ⟨Nat.zero_le _, Nat.zero_le _⟩ (fun H locs hW => ?_)
  refine n_if_eq_f (tgt := 31) X.1 X.2.1 dX7_isPart_5 (by decide) (by decide) (by omega) ?_
  refine lv_iload_n X.1 X.2.1 dX7_isPart_8 rfl (lv_at hl 2 rfl) ?_
  refine n_if_lt_f (tgt := 31) X.1 X.2.1 dX7_isPart_9 (by decide) (by omega) ?_
  refine lv_iload_n X.1 X.2.1 dX7_isPart_12 rfl (lv_at hl 3 rfl) ?_
  refine n_if_lt_f (tgt := 31) X.1 X.2.1 dX7_isPart_13 (by decide) (by omega) ?_
  refine lv_iload_n X.1 X.2.1 dX7_isPart_16 rfl (lv_at hl 2 rfl) ?_
  refine lv_aload_n X.1 X.2.1 dX7_isPart_17 rfl (lv_at hl 0 rfl) ?_
  refine lv_iload_n X.1 X.2.1 dX7_isPart_18 rfl (lv_at hl 1 rfl) ?_
  refine mcalli hq X hW (mt_signLength l hq (T) (D) (th) I (r := r) (by omega)) (cwV 1 X.2.2.2.2 gX7_isPart_X7_signLength rfl rfl rfl (by decide +kernel) ⟨Nat.le_of_ble_eq_true rfl, Nat.le_of_ble_eq_true rfl⟩) rfl rfl hl.1 (Nat.le_of_ble_eq_true rfl) dX7_isPart_19 ⟨Nat.zero_le _, Nat.zero_le _⟩ (fun H locs hW => ?_)
  refine lv_iload_n X.1 X.2.1 dX7_isPart_22 rfl (lv_at hl 3 rfl) ?_
  refine lv_isub X.1 X.2.1 dX7_isPart_23 ?_
  refine x_icmp_gt_t (tgt := 31) X.1 X.2.1 dX7_isPart_24 (by decide) (nI_sub_lt (by omega) hn hf h) ?_
  refine lv_iconst (v := nI 0) X.1 X.2.1 dX7_isPart_31 (by decide) ?_
  exact hE _ _ _ _ _ (rfl) (fun ty hty => by cases hty; exact nI_zb (by omega)) hW dX7_isPart_32

theorem mt_isPart_bad (l : Launch) {G : va_G} {cI cZ : ClassId} {q : Nat → Nat} (hq : mJ q) (T : mT) (D : mD) (th : Int32) (I : mI T) {r : Nat} {y z : Int32} (hr : r < 4) (h : oP (T 1 (T 2 r)) y z) : mMi l yX7_isPart wsX7_isPart ({ frames := 1, cells := 0, slots := 0, locals := 21 } : Room) G cI cZ q [.int (nI r), .int y, .int z] T D th (nI 0) T D th := by
  by_cases hy : y < 0
  · exact mt_isPart_b1 l hq T D th I hr hy
  · obtain ⟨f, hf, rfl⟩ := nI_of hy
    by_cases hz : z < 0
    · exact mt_isPart_b2 l hq T D th I hr hf hz
    · obtain ⟨n, hn, rfl⟩ := nI_of hz
      have h3 : T 1 (T 2 r) < f + n := by
        rcases h with h | h | h
        · exact absurd h hy
        · exact absurd h hz
        · rw [nI_clamp hf, nI_clamp hn] at h; exact h
      exact mt_isPart_b3 l hq T D th I hr hf hn h3

set_option maxHeartbeats 4000000 in
set_option maxRecDepth 100000 in
theorem mt_isBytePart_ok (l : Launch) {G : va_G} {cI cZ : ClassId} {q : Nat → Nat} (hq : mJ q) (T : mT) (D : mD) (th : Int32) (I : mI T) {r f n : Nat} (hr : r < 4) (h : f + n ≤ T 4 (T 5 r)) : mMi l yX7_isBytePart wsX7_isBytePart ({ frames := 1, cells := 0, slots := 0, locals := 21 } : Room) G cI cZ q [.int (nI (r)), .int (nI (f)), .int (nI (n))] (T) (D) (th) (nI 1) (T) (D) (th) := by
  refine mstarti (cc := cX7_isBytePart) (maxL := 4) (ret := (some .boolean)) (by decide) rfl rfl ⟨_, rfl⟩ (Nat.le_of_ble_eq_true rfl) (fun p e s m args below meth c Q hE X hW ls hl => ?_)
  have hl : lv_has ls 4 [(0, .ref (q 0)), (1, .int (nI (r))), (2, .int (nI (f))), (3, .int (nI (n)))] := hl
  have hin : ∀ w ∈ wsX70, w ∈ wsX7_isBytePart := fun w h => List.mem_cons_of_mem _ (List.mem_append_left _ (List.mem_append_right _ (h)))
  have I1 := I.br hr
  have I2 := I.bl I1
  refine lv_aload_n X.1 X.2.1 dX7_isBytePart_0 rfl (lv_at hl 0 rfl) ?_
  refine lv_iload_n X.1 X.2.1 dX7_isBytePart_1 rfl (lv_at hl 1 rfl) ?_
  refine mcalli hq X hW (mt_isRow_ok l hq (T) (D) (th) (r := r) (by omega)) (cwV 1 X.2.2.2.2 gX7_isBytePart_X7_isRow rfl rfl rfl (by decide +kernel) ⟨Nat.le_of_ble_eq_true rfl, Nat.le_of_ble_eq_true rfl⟩) rfl rfl hl.1 (Nat.le_of_ble_eq_true rfl) dX7_isBytePart_2 ⟨Nat.zero_le _, Nat.zero_le _⟩ (fun H locs hW => ?_)
  refine n_if_eq_f (tgt := 37) X.1 X.2.1 dX7_isBytePart_5 (by decide) (by decide) (by omega) ?_
  refine lv_iload_n X.1 X.2.1 dX7_isBytePart_8 rfl (lv_at hl 2 rfl) ?_
  refine n_if_lt_f (tgt := 37) X.1 X.2.1 dX7_isBytePart_9 (by decide) (by omega) ?_
  refine lv_iload_n X.1 X.2.1 dX7_isBytePart_12 rfl (lv_at hl 3 rfl) ?_
  refine n_if_lt_f (tgt := 37) X.1 X.2.1 dX7_isBytePart_13 (by decide) (by omega) ?_
  refine lv_iload_n X.1 X.2.1 dX7_isBytePart_16 rfl (lv_at hl 2 rfl) ?_
  refine lv_aload_n X.1 X.2.1 dX7_isBytePart_17 rfl (lv_at hl 0 rfl) ?_
  refine mget 4 (by decide) rfl X hin hW (X.2.2.2.2 (.fieldLink RX7 22 "StrandbookModel" "byteLengths" "[I") (List.mem_cons_of_mem _ (List.mem_append_left _ (List.mem_append_left _ (List.mem_of_getElem? (i := 0) rfl))))) dX7_isBytePart_18 ?_
  refine lv_aload_n X.1 X.2.1 dX7_isBytePart_21 rfl (lv_at hl 0 rfl) ?_
  refine mget 5 (by decide) rfl X hin hW (X.2.2.2.2 (.fieldLink RX7 25 "StrandbookModel" "byteRooms" "[I") (List.mem_cons_of_mem _ (List.mem_append_left _ (List.mem_append_left _ (List.mem_of_getElem? (i := 1) rfl))))) dX7_isBytePart_22 ?_
  refine lv_iload_n X.1 X.2.1 dX7_isBytePart_25 rfl (lv_at hl 1 rfl) ?_
  refine mld5 X hW (by omega) dX7_isBytePart_26 ?_
  refine mld4 X hW (by omega) dX7_isBytePart_27 ?_
  refine lv_iload_n X.1 X.2.1 dX7_isBytePart_28 rfl (lv_at hl 3 rfl) ?_
  refine n_isub X.1 X.2.1 (by omega) dX7_isBytePart_29 ?_
  refine n_icmp_gt_f (tgt := 37) X.1 X.2.1 dX7_isBytePart_30 (by decide) (by omega) (by omega) (by omega) ?_
  refine lv_iconst (v := nI 1) X.1 X.2.1 dX7_isBytePart_33 (by decide) ?_
  refine lv_goto (tgt := 38) X.1 X.2.1 dX7_isBytePart_34 (by decide) ?_
  exact hE _ _ _ _ _ (rfl) (fun ty hty => by cases hty; exact nI_zb (by omega)) hW dX7_isBytePart_38

set_option maxHeartbeats 4000000 in
set_option maxRecDepth 100000 in
theorem mt_isBytePart_b0 (l : Launch) {G : va_G} {cI cZ : ClassId} {q : Nat → Nat} (hq : mJ q) (T : mT) (D : mD) (th : Int32) {x y z : Int32} (h : oN x 4) : mMi l yX7_isBytePart wsX7_isBytePart ({ frames := 1, cells := 0, slots := 0, locals := 21 } : Room) G cI cZ q [.int (x), .int (y), .int (z)] (T) (D) (th) (nI 0) (T) (D) (th) := by
  refine mstarti (cc := cX7_isBytePart) (maxL := 4) (ret := (some .boolean)) (by decide) rfl rfl ⟨_, rfl⟩ (Nat.le_of_ble_eq_true rfl) (fun p e s m args below meth c Q hE X hW ls hl => ?_)
  have hl : lv_has ls 4 [(0, .ref (q 0)), (1, .int (x)), (2, .int (y)), (3, .int (z))] := hl
  have hin : ∀ w ∈ wsX70, w ∈ wsX7_isBytePart := fun w h => List.mem_cons_of_mem _ (List.mem_append_left _ (List.mem_append_right _ (h)))
  refine lv_aload_n X.1 X.2.1 dX7_isBytePart_0 rfl (lv_at hl 0 rfl) ?_
  refine lv_iload_n X.1 X.2.1 dX7_isBytePart_1 rfl (lv_at hl 1 rfl) ?_
  refine mcalli hq X hW (mt_isRow_bad l hq (T) (D) (th) (x := x) (h)) (cwV 1 X.2.2.2.2 gX7_isBytePart_X7_isRow rfl rfl rfl (by decide +kernel) ⟨Nat.le_of_ble_eq_true rfl, Nat.le_of_ble_eq_true rfl⟩) rfl rfl hl.1 (Nat.le_of_ble_eq_true rfl) dX7_isBytePart_2 ⟨Nat.zero_le _, Nat.zero_le _⟩ (fun H locs hW => ?_)
  refine n_if_eq_t (tgt := 37) X.1 X.2.1 dX7_isBytePart_5 (by decide) (by decide) (by omega) ?_
  refine lv_iconst (v := nI 0) X.1 X.2.1 dX7_isBytePart_37 (by decide) ?_
  exact hE _ _ _ _ _ (rfl) (fun ty hty => by cases hty; exact nI_zb (by omega)) hW dX7_isBytePart_38

set_option maxHeartbeats 4000000 in
set_option maxRecDepth 100000 in
theorem mt_isBytePart_b1 (l : Launch) {G : va_G} {cI cZ : ClassId} {q : Nat → Nat} (hq : mJ q) (T : mT) (D : mD) (th : Int32) (I : mI T) {r : Nat} {y z : Int32} (hr : r < 4) (h : y < 0) : mMi l yX7_isBytePart wsX7_isBytePart ({ frames := 1, cells := 0, slots := 0, locals := 21 } : Room) G cI cZ q [.int (nI (r)), .int (y), .int (z)] (T) (D) (th) (nI 0) (T) (D) (th) := by
  refine mstarti (cc := cX7_isBytePart) (maxL := 4) (ret := (some .boolean)) (by decide) rfl rfl ⟨_, rfl⟩ (Nat.le_of_ble_eq_true rfl) (fun p e s m args below meth c Q hE X hW ls hl => ?_)
  have hl : lv_has ls 4 [(0, .ref (q 0)), (1, .int (nI (r))), (2, .int (y)), (3, .int (z))] := hl
  have hin : ∀ w ∈ wsX70, w ∈ wsX7_isBytePart := fun w h => List.mem_cons_of_mem _ (List.mem_append_left _ (List.mem_append_right _ (h)))
  have I1 := I.br hr
  have I2 := I.bl I1
  refine lv_aload_n X.1 X.2.1 dX7_isBytePart_0 rfl (lv_at hl 0 rfl) ?_
  refine lv_iload_n X.1 X.2.1 dX7_isBytePart_1 rfl (lv_at hl 1 rfl) ?_
  refine mcalli hq X hW (mt_isRow_ok l hq (T) (D) (th) (r := r) (by omega)) (cwV 1 X.2.2.2.2 gX7_isBytePart_X7_isRow rfl rfl rfl (by decide +kernel) ⟨Nat.le_of_ble_eq_true rfl, Nat.le_of_ble_eq_true rfl⟩) rfl rfl hl.1 (Nat.le_of_ble_eq_true rfl) dX7_isBytePart_2 ⟨Nat.zero_le _, Nat.zero_le _⟩ (fun H locs hW => ?_)
  refine n_if_eq_f (tgt := 37) X.1 X.2.1 dX7_isBytePart_5 (by decide) (by decide) (by omega) ?_
  refine lv_iload_n X.1 X.2.1 dX7_isBytePart_8 rfl (lv_at hl 2 rfl) ?_
  refine x_if_lt_t (tgt := 37) X.1 X.2.1 dX7_isBytePart_9 (by decide) (h) ?_
  refine lv_iconst (v := nI 0) X.1 X.2.1 dX7_isBytePart_37 (by decide) ?_
  exact hE _ _ _ _ _ (rfl) (fun ty hty => by cases hty; exact nI_zb (by omega)) hW dX7_isBytePart_38

set_option maxHeartbeats 4000000 in
set_option maxRecDepth 100000 in
theorem mt_isBytePart_b2 (l : Launch) {G : va_G} {cI cZ : ClassId} {q : Nat → Nat} (hq : mJ q) (T : mT) (D : mD) (th : Int32) (I : mI T) {r f : Nat} {z : Int32} (hr : r < 4) (hf : f < 2 ^ 31) (h : z < 0) : mMi l yX7_isBytePart wsX7_isBytePart ({ frames := 1, cells := 0, slots := 0, locals := 21 } : Room) G cI cZ q [.int (nI (r)), .int (nI (f)), .int (z)] (T) (D) (th) (nI 0) (T) (D) (th) := by
  refine mstarti (cc := cX7_isBytePart) (maxL := 4) (ret := (some .boolean)) (by decide) rfl rfl ⟨_, rfl⟩ (Nat.le_of_ble_eq_true rfl) (fun p e s m args below meth c Q hE X hW ls hl => ?_)
  have hl : lv_has ls 4 [(0, .ref (q 0)), (1, .int (nI (r))), (2, .int (nI (f))), (3, .int (z))] := hl
  have hin : ∀ w ∈ wsX70, w ∈ wsX7_isBytePart := fun w h => List.mem_cons_of_mem _ (List.mem_append_left _ (List.mem_append_right _ (h)))
  have I1 := I.br hr
  have I2 := I.bl I1
  refine lv_aload_n X.1 X.2.1 dX7_isBytePart_0 rfl (lv_at hl 0 rfl) ?_
  refine lv_iload_n X.1 X.2.1 dX7_isBytePart_1 rfl (lv_at hl 1 rfl) ?_
  refine mcalli hq X hW (mt_isRow_ok l hq (T) (D) (th) (r := r) (by omega)) (cwV 1 X.2.2.2.2 gX7_isBytePart_X7_isRow rfl rfl rfl (by decide +kernel) ⟨Nat.le_of_ble_eq_true rfl, Nat.le_of_ble_eq_true rfl⟩) rfl rfl hl.1 (Nat.le_of_ble_eq_true rfl) dX7_isBytePart_2 ⟨Nat.zero_le _, Nat.zero_le _⟩ (fun H locs hW => ?_)
  refine n_if_eq_f (tgt := 37) X.1 X.2.1 dX7_isBytePart_5 (by decide) (by decide) (by omega) ?_
  refine lv_iload_n X.1 X.2.1 dX7_isBytePart_8 rfl (lv_at hl 2 rfl) ?_
  refine n_if_lt_f (tgt := 37) X.1 X.2.1 dX7_isBytePart_9 (by decide) (by omega) ?_
  refine lv_iload_n X.1 X.2.1 dX7_isBytePart_12 rfl (lv_at hl 3 rfl) ?_
  refine x_if_lt_t (tgt := 37) X.1 X.2.1 dX7_isBytePart_13 (by decide) (h) ?_
  refine lv_iconst (v := nI 0) X.1 X.2.1 dX7_isBytePart_37 (by decide) ?_
  exact hE _ _ _ _ _ (rfl) (fun ty hty => by cases hty; exact nI_zb (by omega)) hW dX7_isBytePart_38

set_option maxHeartbeats 4000000 in
set_option maxRecDepth 100000 in
theorem mt_isBytePart_b3 (l : Launch) {G : va_G} {cI cZ : ClassId} {q : Nat → Nat} (hq : mJ q) (T : mT) (D : mD) (th : Int32) (I : mI T) {r f n : Nat} (hr : r < 4) (hf : f < 2 ^ 31) (hn : n < 2 ^ 31) (h : T 4 (T 5 r) < f + n) : mMi l yX7_isBytePart wsX7_isBytePart ({ frames := 1, cells := 0, slots := 0, locals := 21 } : Room) G cI cZ q [.int (nI (r)), .int (nI (f)), .int (nI (n))] (T) (D) (th) (nI 0) (T) (D) (th) := by
  refine mstarti (cc := cX7_isBytePart) (maxL := 4) (ret := (some .boolean)) (by decide) rfl rfl ⟨_, rfl⟩ (Nat.le_of_ble_eq_true rfl) (fun p e s m args below meth c Q hE X hW ls hl => ?_)
  have hl : lv_has ls 4 [(0, .ref (q 0)), (1, .int (nI (r))), (2, .int (nI (f))), (3, .int (nI (n)))] := hl
  have hin : ∀ w ∈ wsX70, w ∈ wsX7_isBytePart := fun w h => List.mem_cons_of_mem _ (List.mem_append_left _ (List.mem_append_right _ (h)))
  have I1 := I.br hr
  have I2 := I.bl I1
  refine lv_aload_n X.1 X.2.1 dX7_isBytePart_0 rfl (lv_at hl 0 rfl) ?_
  refine lv_iload_n X.1 X.2.1 dX7_isBytePart_1 rfl (lv_at hl 1 rfl) ?_
  refine mcalli hq X hW (mt_isRow_ok l hq (T) (D) (th) (r := r) (by omega)) (cwV 1 X.2.2.2.2 gX7_isBytePart_X7_isRow rfl rfl rfl (by decide +kernel) ⟨Nat.le_of_ble_eq_true rfl, Nat.le_of_ble_eq_true rfl⟩) rfl rfl hl.1 (Nat.le_of_ble_eq_true rfl) dX7_isBytePart_2 ⟨Nat.zero_le _, Nat.zero_le _⟩ (fun H locs hW => ?_)
  refine n_if_eq_f (tgt := 37) X.1 X.2.1 dX7_isBytePart_5 (by decide) (by decide) (by omega) ?_
  refine lv_iload_n X.1 X.2.1 dX7_isBytePart_8 rfl (lv_at hl 2 rfl) ?_
  refine n_if_lt_f (tgt := 37) X.1 X.2.1 dX7_isBytePart_9 (by decide) (by omega) ?_
  refine lv_iload_n X.1 X.2.1 dX7_isBytePart_12 rfl (lv_at hl 3 rfl) ?_
  refine n_if_lt_f (tgt := 37) X.1 X.2.1 dX7_isBytePart_13 (by decide) (by omega) ?_
  refine lv_iload_n X.1 X.2.1 dX7_isBytePart_16 rfl (lv_at hl 2 rfl) ?_
  refine lv_aload_n X.1 X.2.1 dX7_isBytePart_17 rfl (lv_at hl 0 rfl) ?_
  refine mget 4 (by decide) rfl X hin hW (X.2.2.2.2 (.fieldLink RX7 22 "StrandbookModel" "byteLengths" "[I") (List.mem_cons_of_mem _ (List.mem_append_left _ (List.mem_append_left _ (List.mem_of_getElem? (i := 0) rfl))))) dX7_isBytePart_18 ?_
  refine lv_aload_n X.1 X.2.1 dX7_isBytePart_21 rfl (lv_at hl 0 rfl) ?_
  refine mget 5 (by decide) rfl X hin hW (X.2.2.2.2 (.fieldLink RX7 25 "StrandbookModel" "byteRooms" "[I") (List.mem_cons_of_mem _ (List.mem_append_left _ (List.mem_append_left _ (List.mem_of_getElem? (i := 1) rfl))))) dX7_isBytePart_22 ?_
  refine lv_iload_n X.1 X.2.1 dX7_isBytePart_25 rfl (lv_at hl 1 rfl) ?_
  refine mld5 X hW (by omega) dX7_isBytePart_26 ?_
  refine mld4 X hW (by omega) dX7_isBytePart_27 ?_
  refine lv_iload_n X.1 X.2.1 dX7_isBytePart_28 rfl (lv_at hl 3 rfl) ?_
  refine lv_isub X.1 X.2.1 dX7_isBytePart_29 ?_
  refine x_icmp_gt_t (tgt := 37) X.1 X.2.1 dX7_isBytePart_30 (by decide) (nI_sub_lt (by omega) hn hf h) ?_
  refine lv_iconst (v := nI 0) X.1 X.2.1 dX7_isBytePart_37 (by decide) ?_
  exact hE _ _ _ _ _ (rfl) (fun ty hty => by cases hty; exact nI_zb (by omega)) hW dX7_isBytePart_38

theorem mt_isBytePart_bad (l : Launch) {G : va_G} {cI cZ : ClassId} {q : Nat → Nat} (hq : mJ q) (T : mT) (D : mD) (th : Int32) (I : mI T) {r : Nat} {y z : Int32} (hr : r < 4) (h : oP (T 4 (T 5 r)) y z) : mMi l yX7_isBytePart wsX7_isBytePart ({ frames := 1, cells := 0, slots := 0, locals := 21 } : Room) G cI cZ q [.int (nI r), .int y, .int z] T D th (nI 0) T D th := by
  by_cases hy : y < 0
  · exact mt_isBytePart_b1 l hq T D th I hr hy
  · obtain ⟨f, hf, rfl⟩ := nI_of hy
    by_cases hz : z < 0
    · exact mt_isBytePart_b2 l hq T D th I hr hf hz
    · obtain ⟨n, hn, rfl⟩ := nI_of hz
      have h3 : T 4 (T 5 r) < f + n := by
        rcases h with h | h | h
        · exact absurd h hy
        · exact absurd h hz
        · rw [nI_clamp hf, nI_clamp hn] at h; exact h
      exact mt_isBytePart_b3 l hq T D th I hr hf hn h3

theorem low_lo {x : Int32} (h : x &&& nI 255 < nI 128) : x &&& nI 255 = x.toInt8.toInt32 := by
  have e := pk_and x (m := nI 255) 8 rfl
  generalize hj : x.toBitVec.toNat % 2 ^ 8 = j at e
  rw [e] at h ⊢
  have hj2 : j < 128 := (nI_ltI (by omega) (by decide)).mp h
  have e2 : x.toInt8 = (nI j).toInt8 := by
    rw [← hj]
    apply Int8.toBitVec_inj.mp
    apply BitVec.eq_of_toNat_eq
    simp [nI, BitVec.signExtend_eq_setWidth_of_le]
  rw [e2]
  have : ∀ j, j < 128 → nI j = (nI j).toInt8.toInt32 := by decide +kernel
  exact this j hj2
theorem low_hi {x : Int32} (h : ¬ x &&& nI 255 < nI 128) : (x &&& nI 255) - nI 256 = x.toInt8.toInt32 := by
  have e := pk_and x (m := nI 255) 8 rfl
  generalize hj : x.toBitVec.toNat % 2 ^ 8 = j at e
  rw [e] at h ⊢
  have hj1 : j < 256 := by omega
  have hj2 : ¬ j < 128 := fun z => h ((nI_ltI (by omega) (by decide)).mpr z)
  have e2 : x.toInt8 = (nI j).toInt8 := by
    rw [← hj]
    apply Int8.toBitVec_inj.mp
    apply BitVec.eq_of_toNat_eq
    simp [nI, BitVec.signExtend_eq_setWidth_of_le]
  rw [e2]
  have : ∀ j, j < 256 → ¬ j < 128 → nI j - nI 256 = (nI j).toInt8.toInt32 := by decide +kernel
  exact this j hj1 hj2

set_option maxHeartbeats 4000000 in
set_option maxRecDepth 100000 in
theorem mt_low_lo (l : Launch) {G : va_G} {cI cZ : ClassId} {q : Nat → Nat} (hq : mJ q) (T : mT) (D : mD) (th : Int32) {x : Int32} (h : x &&& nI 255 < nI 128) : mMi l yX7_low wsX7_low ({ frames := 0, cells := 0, slots := 0, locals := 0 } : Room) G cI cZ q [.int (x)] (T) (D) (th) (x.toInt8.toInt32) (T) (D) (th) := by
  refine mstarti (cc := cX7_low) (maxL := 3) (ret := (some .int)) (by decide) rfl rfl ⟨_, rfl⟩ (Nat.le_of_ble_eq_true rfl) (fun p e s m args below meth c Q hE X hW ls hl => ?_)
  have hl : lv_has ls 3 [(0, .ref (q 0)), (1, .int (x))] := hl
  refine lv_iload_n X.1 X.2.1 dX7_low_0 rfl (lv_at hl 1 rfl) ?_
  refine lv_sipush (v := nI 255) X.1 X.2.1 dX7_low_1 (by decide) ?_
  refine lv_iand X.1 X.2.1 dX7_low_4 ?_
  refine lv_istore_n (lv' := [(2, .int ((x &&& (nI (255))))), (0, .ref (q 0)), (1, .int (x))]) X.1 X.2.1 dX7_low_5 rfl hl (by decide) rfl (fun ls hl => ?_)
  refine lv_iload_n X.1 X.2.1 dX7_low_6 rfl (lv_at hl 0 rfl) ?_
  refine lv_sipush (v := nI 128) X.1 X.2.1 dX7_low_7 (by decide) ?_
  refine x_icmp_ge_f (tgt := 17) X.1 X.2.1 dX7_low_10 (by decide) (fun z => absurd z (Int32.not_le.mpr h)) ?_
  refine lv_iload_n X.1 X.2.1 dX7_low_13 rfl (lv_at hl 0 rfl) ?_
  refine lv_goto (tgt := 22) X.1 X.2.1 dX7_low_14 (by decide) ?_
  exact hE _ _ _ _ _ (low_lo h) (fun ty hty => by cases hty; exact rfl) hW dX7_low_22

set_option maxHeartbeats 4000000 in
set_option maxRecDepth 100000 in
theorem mt_low_hi (l : Launch) {G : va_G} {cI cZ : ClassId} {q : Nat → Nat} (hq : mJ q) (T : mT) (D : mD) (th : Int32) {x : Int32} (h : ¬ x &&& nI 255 < nI 128) : mMi l yX7_low wsX7_low ({ frames := 0, cells := 0, slots := 0, locals := 0 } : Room) G cI cZ q [.int (x)] (T) (D) (th) (x.toInt8.toInt32) (T) (D) (th) := by
  refine mstarti (cc := cX7_low) (maxL := 3) (ret := (some .int)) (by decide) rfl rfl ⟨_, rfl⟩ (Nat.le_of_ble_eq_true rfl) (fun p e s m args below meth c Q hE X hW ls hl => ?_)
  have hl : lv_has ls 3 [(0, .ref (q 0)), (1, .int (x))] := hl
  refine lv_iload_n X.1 X.2.1 dX7_low_0 rfl (lv_at hl 1 rfl) ?_
  refine lv_sipush (v := nI 255) X.1 X.2.1 dX7_low_1 (by decide) ?_
  refine lv_iand X.1 X.2.1 dX7_low_4 ?_
  refine lv_istore_n (lv' := [(2, .int ((x &&& (nI (255))))), (0, .ref (q 0)), (1, .int (x))]) X.1 X.2.1 dX7_low_5 rfl hl (by decide) rfl (fun ls hl => ?_)
  refine lv_iload_n X.1 X.2.1 dX7_low_6 rfl (lv_at hl 0 rfl) ?_
  refine lv_sipush (v := nI 128) X.1 X.2.1 dX7_low_7 (by decide) ?_
  refine x_icmp_ge_t (tgt := 17) X.1 X.2.1 dX7_low_10 (by decide) (Int32.not_lt.mp h) ?_
  refine lv_iload_n X.1 X.2.1 dX7_low_17 rfl (lv_at hl 0 rfl) ?_
  refine lv_sipush (v := nI 256) X.1 X.2.1 dX7_low_18 (by decide) ?_
  refine lv_isub X.1 X.2.1 dX7_low_21 ?_
  exact hE _ _ _ _ _ (low_hi h) (fun ty hty => by cases hty; exact rfl) hW dX7_low_22

theorem mt_low (l : Launch) {G : va_G} {cI cZ : ClassId} {q : Nat → Nat} (hq : mJ q) (T : mT) (D : mD) (th : Int32) (x : Int32) : mMi l yX7_low wsX7_low ({ frames := 0, cells := 0, slots := 0, locals := 0 } : Room) G cI cZ q [.int x] T D th x.toInt8.toInt32 T D th := by
  by_cases h : x &&& nI 255 < nI 128
  · exact mt_low_lo l hq T D th h
  · exact mt_low_hi l hq T D th h

set_option maxHeartbeats 4000000 in
set_option maxRecDepth 100000 in
theorem mt_adds (l : Launch) {G : va_G} {cI cZ : ClassId} {q : Nat → Nat} (hq : mJ q) (T : mT) (D : mD) (th : Int32) {w : Nat} {x : Int32} (hw : w < 6) (hs : T 7 w < 256) : mMv l yX7_adds wsX7_adds ({ frames := 0, cells := 0, slots := 0, locals := 0 } : Room) G cI cZ q [.int (nI (w)), .int (x)] (T) (D) (th) (u2 T 7 w (T 7 w + 1)) (u2 D 6 (256 * w + T 7 w) (x &&& nI 255)) (th) := by
  refine mstartv (cc := cX7_adds) (maxL := 3) (ret := none) (by decide) rfl rfl rfl (Nat.le_of_ble_eq_true rfl) (fun p e s m args below meth c Q hE X hW ls hl => ?_)
  have hl : lv_has ls 3 [(0, .ref (q 0)), (1, .int (nI (w))), (2, .int (x))] := hl
  have hin : ∀ w ∈ wsX70, w ∈ wsX7_adds := fun w h => List.mem_cons_of_mem _ (List.mem_append_left _ (List.mem_append_right _ (h)))
  refine lv_aload_n X.1 X.2.1 dX7_adds_0 rfl (lv_at hl 0 rfl) ?_
  refine mget 6 (by decide) rfl X hin hW (X.2.2.2.2 (.fieldLink RX7 28 "StrandbookModel" "written" "[I") (List.mem_cons_of_mem _ (List.mem_append_left _ (List.mem_append_left _ (List.mem_of_getElem? (i := 0) rfl))))) dX7_adds_1 ?_
  refine lv_sipush (v := nI 256) X.1 X.2.1 dX7_adds_4 (by decide) ?_
  refine lv_iload_n X.1 X.2.1 dX7_adds_7 rfl (lv_at hl 1 rfl) ?_
  refine n_imul X.1 X.2.1 dX7_adds_8 ?_
  refine lv_aload_n X.1 X.2.1 dX7_adds_9 rfl (lv_at hl 0 rfl) ?_
  refine mget 7 (by decide) rfl X hin hW (X.2.2.2.2 (.fieldLink RX7 31 "StrandbookModel" "sizes" "[I") (List.mem_cons_of_mem _ (List.mem_append_left _ (List.mem_append_left _ (List.mem_of_getElem? (i := 1) rfl))))) dX7_adds_10 ?_
  refine lv_iload_n X.1 X.2.1 dX7_adds_13 rfl (lv_at hl 1 rfl) ?_
  refine mld7 X hW (by omega) dX7_adds_14 ?_
  refine n_iadd X.1 X.2.1 dX7_adds_15 ?_
  refine lv_iload_n X.1 X.2.1 dX7_adds_16 rfl (lv_at hl 2 rfl) ?_
  refine lv_sipush (v := nI 255) X.1 X.2.1 dX7_adds_17 (by decide) ?_
  refine lv_iand X.1 X.2.1 dX7_adds_20 ?_
  refine mst6 hq X hW (by omega) dX7_adds_21 (fun H locs hW => ?_)
  refine lv_aload_n X.1 X.2.1 dX7_adds_22 rfl (lv_at hl 0 rfl) ?_
  refine mget 7 (by decide) rfl X hin hW (X.2.2.2.2 (.fieldLink RX7 31 "StrandbookModel" "sizes" "[I") (List.mem_cons_of_mem _ (List.mem_append_left _ (List.mem_append_left _ (List.mem_of_getElem? (i := 1) rfl))))) dX7_adds_23 ?_
  refine lv_iload_n X.1 X.2.1 dX7_adds_26 rfl (lv_at hl 1 rfl) ?_
  refine lv_dup2_11 X.1 X.2.1 dX7_adds_27 rfl rfl ?_
  refine mld7 X hW (by omega) dX7_adds_28 ?_
  refine lv_iconst (v := nI 1) X.1 X.2.1 dX7_adds_29 (by decide) ?_
  refine n_iadd X.1 X.2.1 dX7_adds_30 ?_
  refine mst7 hq X hW (by omega) dX7_adds_31 (fun H locs hW => ?_)
  exact hE _ _ _ _ hW dX7_adds_32

set_option maxHeartbeats 4000000 in
set_option maxRecDepth 100000 in
theorem mt_isFull_0 (l : Launch) {G : va_G} {cI cZ : ClassId} {q : Nat → Nat} (hq : mJ q) (T : mT) (D : mD) (th : Int32) {w n : Nat} (hw : w < 6) (h : T 7 w + n ≤ 256) : mMi l yX7_isFull wsX7_isFull ({ frames := 0, cells := 0, slots := 0, locals := 0 } : Room) G cI cZ q [.int (nI (w)), .int (nI (n))] (T) (D) (th) (nI 0) (T) (D) (th) := by
  refine mstarti (cc := cX7_isFull) (maxL := 3) (ret := (some .boolean)) (by decide) rfl rfl ⟨_, rfl⟩ (Nat.le_of_ble_eq_true rfl) (fun p e s m args below meth c Q hE X hW ls hl => ?_)
  have hl : lv_has ls 3 [(0, .ref (q 0)), (1, .int (nI (w))), (2, .int (nI (n)))] := hl
  have hin : ∀ w ∈ wsX70, w ∈ wsX7_isFull := fun w h => List.mem_cons_of_mem _ (List.mem_append_left _ (List.mem_append_right _ (h)))
  refine lv_aload_n X.1 X.2.1 dX7_isFull_0 rfl (lv_at hl 0 rfl) ?_
  refine mget 7 (by decide) rfl X hin hW (X.2.2.2.2 (.fieldLink RX7 31 "StrandbookModel" "sizes" "[I") (List.mem_cons_of_mem _ (List.mem_append_left _ (List.mem_append_left _ (List.mem_of_getElem? (i := 0) rfl))))) dX7_isFull_1 ?_
  refine lv_iload_n X.1 X.2.1 dX7_isFull_4 rfl (lv_at hl 1 rfl) ?_
  refine mld7 X hW (by omega) dX7_isFull_5 ?_
  refine lv_iload_n X.1 X.2.1 dX7_isFull_6 rfl (lv_at hl 2 rfl) ?_
  refine n_iadd X.1 X.2.1 dX7_isFull_7 ?_
  refine lv_sipush (v := nI 256) X.1 X.2.1 dX7_isFull_8 (by decide) ?_
  refine n_icmp_le_t (tgt := 18) X.1 X.2.1 dX7_isFull_11 (by decide) (by omega) (by omega) (by omega) ?_
  refine lv_iconst (v := nI 0) X.1 X.2.1 dX7_isFull_18 (by decide) ?_
  exact hE _ _ _ _ _ (rfl) (fun ty hty => by cases hty; exact nI_zb (by omega)) hW dX7_isFull_19

set_option maxHeartbeats 4000000 in
set_option maxRecDepth 100000 in
theorem mt_isFull_1 (l : Launch) {G : va_G} {cI cZ : ClassId} {q : Nat → Nat} (hq : mJ q) (T : mT) (D : mD) (th : Int32) {w n : Nat} (hw : w < 6) (h : 256 < T 7 w + n) (hn : T 7 w + n < 2 ^ 31) : mMi l yX7_isFull wsX7_isFull ({ frames := 0, cells := 0, slots := 0, locals := 0 } : Room) G cI cZ q [.int (nI (w)), .int (nI (n))] (T) (D) (th) (nI 1) (T) (D) (th) := by
  refine mstarti (cc := cX7_isFull) (maxL := 3) (ret := (some .boolean)) (by decide) rfl rfl ⟨_, rfl⟩ (Nat.le_of_ble_eq_true rfl) (fun p e s m args below meth c Q hE X hW ls hl => ?_)
  have hl : lv_has ls 3 [(0, .ref (q 0)), (1, .int (nI (w))), (2, .int (nI (n)))] := hl
  have hin : ∀ w ∈ wsX70, w ∈ wsX7_isFull := fun w h => List.mem_cons_of_mem _ (List.mem_append_left _ (List.mem_append_right _ (h)))
  refine lv_aload_n X.1 X.2.1 dX7_isFull_0 rfl (lv_at hl 0 rfl) ?_
  refine mget 7 (by decide) rfl X hin hW (X.2.2.2.2 (.fieldLink RX7 31 "StrandbookModel" "sizes" "[I") (List.mem_cons_of_mem _ (List.mem_append_left _ (List.mem_append_left _ (List.mem_of_getElem? (i := 0) rfl))))) dX7_isFull_1 ?_
  refine lv_iload_n X.1 X.2.1 dX7_isFull_4 rfl (lv_at hl 1 rfl) ?_
  refine mld7 X hW (by omega) dX7_isFull_5 ?_
  refine lv_iload_n X.1 X.2.1 dX7_isFull_6 rfl (lv_at hl 2 rfl) ?_
  refine n_iadd X.1 X.2.1 dX7_isFull_7 ?_
  refine lv_sipush (v := nI 256) X.1 X.2.1 dX7_isFull_8 (by decide) ?_
  refine n_icmp_le_f (tgt := 18) X.1 X.2.1 dX7_isFull_11 (by decide) (by omega) (by omega) (by omega) ?_
  refine lv_iconst (v := nI 1) X.1 X.2.1 dX7_isFull_14 (by decide) ?_
  refine lv_goto (tgt := 19) X.1 X.2.1 dX7_isFull_15 (by decide) ?_
  exact hE _ _ _ _ _ (rfl) (fun ty hty => by cases hty; exact nI_zb (by omega)) hW dX7_isFull_19

set_option maxHeartbeats 4000000 in
set_option maxRecDepth 100000 in
theorem mt_emptied (l : Launch) {G : va_G} {cI cZ : ClassId} {q : Nat → Nat} (hq : mJ q) (T : mT) (D : mD) (th : Int32) {w : Nat} (hw : w < 6) : mMi l yX7_emptied wsX7_emptied ({ frames := 0, cells := 0, slots := 0, locals := 0 } : Room) G cI cZ q [.int (nI (w))] (T) (D) (th) (nI (T 7 w)) (u2 T 7 w 0) (D) (th) := by
  refine mstarti (cc := cX7_emptied) (maxL := 3) (ret := (some .int)) (by decide) rfl rfl ⟨_, rfl⟩ (Nat.le_of_ble_eq_true rfl) (fun p e s m args below meth c Q hE X hW ls hl => ?_)
  have hl : lv_has ls 3 [(0, .ref (q 0)), (1, .int (nI (w)))] := hl
  have hin : ∀ w ∈ wsX70, w ∈ wsX7_emptied := fun w h => List.mem_cons_of_mem _ (List.mem_append_left _ (List.mem_append_right _ (h)))
  refine lv_aload_n X.1 X.2.1 dX7_emptied_0 rfl (lv_at hl 0 rfl) ?_
  refine mget 7 (by decide) rfl X hin hW (X.2.2.2.2 (.fieldLink RX7 31 "StrandbookModel" "sizes" "[I") (List.mem_cons_of_mem _ (List.mem_append_left _ (List.mem_append_left _ (List.mem_of_getElem? (i := 0) rfl))))) dX7_emptied_1 ?_
  refine lv_iload_n X.1 X.2.1 dX7_emptied_4 rfl (lv_at hl 1 rfl) ?_
  refine mld7 X hW (by omega) dX7_emptied_5 ?_
  refine lv_istore_n (lv' := [(2, .int (nI (T 7 (w)))), (0, .ref (q 0)), (1, .int (nI (w)))]) X.1 X.2.1 dX7_emptied_6 rfl hl (by decide) rfl (fun ls hl => ?_)
  refine lv_aload_n X.1 X.2.1 dX7_emptied_7 rfl (lv_at hl 1 rfl) ?_
  refine mget 7 (by decide) rfl X hin hW (X.2.2.2.2 (.fieldLink RX7 31 "StrandbookModel" "sizes" "[I") (List.mem_cons_of_mem _ (List.mem_append_left _ (List.mem_append_left _ (List.mem_of_getElem? (i := 0) rfl))))) dX7_emptied_8 ?_
  refine lv_iload_n X.1 X.2.1 dX7_emptied_11 rfl (lv_at hl 2 rfl) ?_
  refine lv_iconst (v := nI 0) X.1 X.2.1 dX7_emptied_12 (by decide) ?_
  refine mst7 hq X hW (by omega) dX7_emptied_13 (fun H locs hW => ?_)
  refine lv_iload_n X.1 X.2.1 dX7_emptied_14 rfl (lv_at hl 0 rfl) ?_
  exact hE _ _ _ _ _ (rfl) (fun ty hty => by cases hty; exact rfl) hW dX7_emptied_15
