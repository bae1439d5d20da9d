/-! the reference's joined streams -/
def cl3 (T : mT) (j : Nat) : Nat → mT | 0 => T | k + 1 => u2 (cl3 T j k) 14 (3 * j + k) 0
def anT (T : mT) (j n : Nat) : mT := u2 (u2 (u2 (u2 (cl3 T j 3) 13 j n) 16 j 0) 17 j 0) 18 j 0
def bgT (T : mT) (j k r : Nat) : mT := u2 (u2 (u2 T 14 (3 * j + k) (T 5 r + 1)) 15 (3 * j + k) 0) 17 j (T 17 j + T 4 (T 5 r))
theorem bgT_ne {T : mT} {j k r a : Nat} (h1 : a ≠ 14) (h2 : a ≠ 15) (h3 : a ≠ 17) : bgT T j k r a = T a := by rw [bgT, u2_ne h3, u2_ne h2, u2_ne h1]
theorem bgT_17 {T : mT} {j k r : Nat} : bgT T j k r 17 j = T 17 j + T 4 (T 5 r) := u2_eq
theorem anT_ne {T : mT} {j n a : Nat} (h : a ≠ 13 ∧ a ≠ 14 ∧ a ≠ 16 ∧ a ≠ 17 ∧ a ≠ 18) : anT T j n a = T a := by
  rw [anT, u2_ne h.2.2.2.2, u2_ne h.2.2.2.1, u2_ne h.2.2.1, u2_ne h.1, cl3, cl3, cl3, cl3, u2_ne h.2.1, u2_ne h.2.1, u2_ne h.2.1]
theorem anT_17 {T : mT} {j n : Nat} : anT T j n 17 j = 0 := by rw [anT, u2_ne (by decide), u2_eq]
def jn2 (T : mT) (j a b : Nat) : mT := bgT (bgT (anT T j 2) j 0 a) j 1 b
def jn3 (T : mT) (j a b c : Nat) : mT := bgT (bgT (bgT (anT T j 3) j 0 a) j 1 b) j 2 c
def bL (T : mT) (r : Nat) : Nat := T 4 (T 5 r)
theorem bgT_bL {T : mT} {j k r r2 : Nat} : bL (bgT T j k r) r2 = bL T r2 := by
  simp only [bL, bgT_ne (show (5 : Nat) ≠ 14 by decide) (by decide) (by decide), bgT_ne (show (4 : Nat) ≠ 14 by decide) (by decide) (by decide)]
theorem anT_bL {T : mT} {j n r2 : Nat} : bL (anT T j n) r2 = bL T r2 := by
  simp only [bL, anT_ne (show (5 : Nat) ≠ 13 ∧ (5 : Nat) ≠ 14 ∧ (5 : Nat) ≠ 16 ∧ (5 : Nat) ≠ 17 ∧ (5 : Nat) ≠ 18 by decide), anT_ne (show (4 : Nat) ≠ 13 ∧ (4 : Nat) ≠ 14 ∧ (4 : Nat) ≠ 16 ∧ (4 : Nat) ≠ 17 ∧ (4 : Nat) ≠ 18 by decide)]
theorem bgT_t {T : mT} {j k r : Nat} : bgT T j k r 17 j = T 17 j + bL T r := u2_eq
theorem jn2_17 {T : mT} {j a b : Nat} : jn2 T j a b 17 j = bL T a + bL T b := by
  rw [jn2, bgT_t, bgT_t, anT_17, bgT_bL, anT_bL, anT_bL]; omega
theorem jn3_17 {T : mT} {j a b c : Nat} : jn3 T j a b c 17 j = bL T a + bL T b + bL T c := by
  rw [jn3, bgT_t, bgT_t, bgT_t, anT_17, bgT_bL, bgT_bL, bgT_bL, anT_bL, anT_bL, anT_bL]; omega
def sp_join (T : mT) (D : mD) (j a b : Int32) : mR := if oN j 2 ∨ oN a 4 ∨ oN b 4 then no T D 1 else (0, nI (bL T a.toNatClampNeg + bL T b.toNatClampNeg), jn2 T j.toNatClampNeg a.toNatClampNeg b.toNatClampNeg, D)
def sp_joinThree (T : mT) (D : mD) (j a b c : Int32) : mR := if oN j 2 ∨ oN a 4 ∨ oN b 4 ∨ oN c 4 then no T D 1 else (0, nI (bL T a.toNatClampNeg + bL T b.toNatClampNeg + bL T c.toNatClampNeg), jn3 T j.toNatClampNeg a.toNatClampNeg b.toNatClampNeg c.toNatClampNeg, D)
/-- what the part has left in which the stream stands -/
def lfN (T : mT) (j : Nat) : Nat := if T 16 j = T 13 j then 0 else T 4 (T 14 (3 * j + T 16 j) - 1) - T 15 (3 * j + T 16 j)
/-- a byte is wanted -/
def wnF (j : Nat) : Nat → mT → mT | 0, T => T | n + 1, T => if T 16 j < T 13 j ∧ lfN T j = 0 then wnF j n (u2 T 16 j (T 16 j + 1)) else T
def wnT (T : mT) (j : Nat) : mT := wnF j 4 T
def gtT (T : mT) (j : Nat) : mT := u2 (u2 T 15 (3 * j + T 16 j) (T 15 (3 * j + T 16 j) + 1)) 18 j (T 18 j + 1)
def gtD (T : mT) (D : mD) (j : Nat) : Int32 := D 3 (64 * (T 14 (3 * j + T 16 j) - 1) + T 15 (3 * j + T 16 j))
def sk_next (T : mT) (D : mD) (j : Nat) : mR := if wnT T j 16 j < wnT T j 13 j then (0, gtD (wnT T j) D j &&& nI 255, gtT (wnT T j) j, D) else (0, -1, wnT T j, D)
def sp_next (T : mT) (D : mD) (j : Int32) : mR := if oN j 2 then no T D 1 else if T 13 j.toNatClampNeg = 0 then no T D 2 else sk_next T D j.toNatClampNeg
def sp_left (T : mT) (D : mD) (j : Int32) : mR := if oN j 2 then no T D 1 else if T 13 j.toNatClampNeg = 0 then no T D 2 else (0, nI (lfN T j.toNatClampNeg), T, D)
/-- the row's array is a part's -/
def itN (T : mT) (j r : Nat) : Nat → Nat | 0 => 0 | k + 1 => if T 14 (3 * j + k) = T 5 r + 1 then 1 else itN T j r k
theorem itN_le {T : mT} {j r : Nat} : ∀ k, itN T j r k ≤ 1
  | 0 => Nat.zero_le _
  | k + 1 => by
    simp only [itN]
    by_cases h : T 14 (3 * j + k) = T 5 r + 1
    · rw [if_pos h]; exact Nat.le_refl _
    · rw [if_neg h]; exact itN_le k
theorem itN_iff {T : mT} {j r : Nat} : ∀ k, itN T j r k = 1 ↔ ∃ i, i < k ∧ T 14 (3 * j + i) = T 5 r + 1
  | 0 => by simp [itN]
  | k + 1 => by
    simp only [itN]
    by_cases h : T 14 (3 * j + k) = T 5 r + 1
    · rw [if_pos h]; exact ⟨fun _ => ⟨k, by omega, h⟩, fun _ => rfl⟩
    · rw [if_neg h, itN_iff k]
      refine ⟨fun ⟨i, g1, g2⟩ => ⟨i, by omega, g2⟩, fun ⟨i, g1, g2⟩ => ⟨i, ?_, g2⟩⟩
      by_cases e : i = k
      · subst e; exact absurd g2 h
      · omega
theorem nI_or0 {x : Nat} (h : x ≤ 1) : nI x ||| nI 0 = nI x := by
  rcases (show x = 0 ∨ x = 1 by omega) with rfl | rfl <;> rfl
theorem nI_or1 {x : Nat} (h : x ≤ 1) : nI x ||| nI 1 = nI 1 := by
  rcases (show x = 0 ∨ x = 1 by omega) with rfl | rfl <;> rfl
/-- n bytes of the part in which it stands -/
def gnT (T : mT) (j n : Nat) : mT := u2 (u2 T 15 (3 * j + T 16 j) (T 15 (3 * j + T 16 j) + n)) 18 j (T 18 j + n)
theorem gnT_0 {T : mT} {j : Nat} : gnT T j 0 = T := by
  rw [gnT]
  rw [show u2 T 15 (3 * j + T 16 j) (T 15 (3 * j + T 16 j) + 0) = T from u2_self]
  exact u2_self
theorem gnT_ne {T : mT} {j n a : Nat} (h : a ≠ 15) (h2 : a ≠ 18) : gnT T j n a = T a := by rw [gnT, u2_ne h2, u2_ne h]
theorem gnT_15 {T : mT} {j n : Nat} : gnT T j n 15 (3 * j + T 16 j) = T 15 (3 * j + T 16 j) + n := by rw [gnT, u2_ne (by decide)]; exact u2_eq
theorem gnT_18 {T : mT} {j n : Nat} : gnT T j n 18 j = T 18 j + n := u2_eq
theorem gnT_S {T : mT} {j n : Nat} : gtT (gnT T j n) j = gnT T j (n + 1) := by
  rw [gtT, gnT_ne (show (16 : Nat) ≠ 15 by decide) (by decide), gnT_15, gnT_18]
  funext a b
  simp only [gnT, u2]
  by_cases h : a = 18
  · subst h; simp only [if_true]
    by_cases g : b = j
    · subst g; simp only [if_true, Nat.add_assoc]
    · simp only [if_neg g]; rfl
  · simp only [if_neg h]
    by_cases g : a = 15
    · subst g; simp only [if_true]
      by_cases g2 : b = 3 * j + T 16 j
      · simp only [if_pos g2, Nat.add_assoc]
      · simp only [if_neg g2]; rfl
    · simp only [if_neg g]
def npF (T : mT) (D : mD) (j : Nat) : Nat → Int32 := fun k => D 3 (64 * (T 14 (3 * j + T 16 j) - 1) + (T 15 (3 * j + T 16 j) + k))
def sk_nextPart (T : mT) (D : mD) (j r f n : Nat) : mR := if wnT T j 16 j < wnT T j 13 j then (0, nI (min n (lfN (wnT T j) j)), gnT (wnT T j) j (min n (lfN (wnT T j) j)), cpF D 3 (64 * T 5 r + f) (npF (wnT T j) D j) (min n (lfN (wnT T j) j))) else (0, -1, wnT T j, D)
def sp_nextPart (T : mT) (D : mD) (j row f n : Int32) : mR := if oN j 2 ∨ oN row 4 ∨ oP (bI T row) f n then no T D 1 else if n.toNatClampNeg = 0 then no T D 2 else if T 13 j.toNatClampNeg = 0 then no T D 3 else if itN T j.toNatClampNeg row.toNatClampNeg (T 13 j.toNatClampNeg) = 1 then no T D 4 else sk_nextPart T D j.toNatClampNeg row.toNatClampNeg f.toNatClampNeg n.toNatClampNeg
/-- n bytes are passed, as many as there are: how many, and what stands then -/
def psT (j : Nat) : Nat → mT → mT | 0, T => T | n + 1, T => if wnT T j 16 j < wnT T j 13 j then psT j n (gtT (wnT T j) j) else wnT T j
def psN (j : Nat) : Nat → mT → Nat | 0, _ => 0 | n + 1, T => if wnT T j 16 j < wnT T j 13 j then psN j n (gtT (wnT T j) j) + 1 else 0
def sp_pass (T : mT) (D : mD) (j : Int32) (m : Int64) : mRl := if oN j 2 then nol T D 1 else if m < 0 ∨ 1000 < m then nol T D 2 else if T 13 j.toNatClampNeg = 0 then nol T D 3 else (0, psN j.toNatClampNeg m.toInt.toNat T, psT j.toNatClampNeg m.toInt.toNat T, D)
/-- what holds of a stream's numbers -/
def stI (T : mT) (j : Nat) : Prop := (T 13 j = 0 ∨ T 13 j = 2 ∨ T 13 j = 3) ∧ T 16 j ≤ T 13 j ∧ ∀ k, k < 3 → T 14 (3 * j + k) ≤ 11 ∧ (k < T 13 j → 1 ≤ T 14 (3 * j + k)) ∧ (k < T 13 j → T 15 (3 * j + k) ≤ T 4 (T 14 (3 * j + k) - 1))
def b4I (T : mT) : Prop := ∀ k, k < 11 → T 4 k ≤ 64
theorem mI.stI {T : mT} (h : mI T) {j : Nat} (hj : j < 2) : stI T j := ⟨(h.st hj).1, (h.st hj).2.1, fun k hk => ⟨((h.st hj).2.2.2 k hk).1, ((h.st hj).2.2.2 k hk).2.1, ((h.st hj).2.2.2 k hk).2.2.1⟩⟩
theorem mI.b4 {T : mT} (h : mI T) : b4I T := fun k hk => h.bl hk
theorem stI.le {T : mT} {j : Nat} (h : stI T j) : T 13 j ≤ 3 := by rcases h.1 with e | e | e <;> omega
theorem lfN_at {T : mT} {j : Nat} (h : T 16 j < T 13 j) : lfN T j = T 4 (T 14 (3 * j + T 16 j) - 1) - T 15 (3 * j + T 16 j) := if_neg (by omega)
theorem lfN_end {T : mT} {j : Nat} (h : T 16 j = T 13 j) : lfN T j = 0 := if_pos h
theorem stI.up {T : mT} {j : Nat} (h : stI T j) (g : T 16 j < T 13 j) : stI (u2 T 16 j (T 16 j + 1)) j := by
  have e : ∀ a, a ≠ 16 → u2 T 16 j (T 16 j + 1) a = T a := fun a ha => u2_ne ha
  refine ⟨by rw [e 13 (by decide)]; exact h.1, by rw [u2_eq, e 13 (by decide)]; exact g, ?_⟩
  rw [e 14 (by decide), e 13 (by decide), e 15 (by decide), e 4 (by decide)]
  exact h.2.2
theorem wnF_k {j : Nat} : ∀ (n : Nat) (T : mT) (a : Nat), a ≠ 16 → wnF j n T a = T a
  | 0, _, _, _ => rfl
  | n + 1, T, a, ha => by
    simp only [wnF]
    by_cases h : T 16 j < T 13 j ∧ lfN T j = 0
    · rw [if_pos h, wnF_k n _ a ha, u2_ne ha]
    · rw [if_neg h]
theorem wnF_b {j b : Nat} (hb : b ≠ j) : ∀ (n : Nat) (T : mT), wnF j n T 16 b = T 16 b
  | 0, _ => rfl
  | n + 1, T => by
    simp only [wnF]
    by_cases h : T 16 j < T 13 j ∧ lfN T j = 0
    · rw [if_pos h, wnF_b hb n _, u2_nj hb]
    · rw [if_neg h]
theorem wnF_st {j : Nat} : ∀ (n : Nat) (T : mT), stI T j → stI (wnF j n T) j
  | 0, _, h => h
  | n + 1, T, h => by
    simp only [wnF]
    by_cases g : T 16 j < T 13 j ∧ lfN T j = 0
    · rw [if_pos g]; exact wnF_st n _ (h.up g.1)
    · rw [if_neg g]; exact h
theorem wnF_stop {j : Nat} : ∀ (n : Nat) (T : mT), T 13 j - T 16 j < n → ¬ (wnF j n T 16 j < wnF j n T 13 j ∧ lfN (wnF j n T) j = 0)
  | 0, _, h => by omega
  | n + 1, T, h => by
    simp only [wnF]
    by_cases g : T 16 j < T 13 j ∧ lfN T j = 0
    · rw [if_pos g]
      refine wnF_stop n _ ?_
      rw [u2_eq, u2_ne (show (13 : Nat) ≠ 16 by decide)]
      omega
    · rw [if_neg g]; exact g
theorem wnT_k {T : mT} {j a : Nat} (h : a ≠ 16) : wnT T j a = T a := wnF_k 4 T a h
theorem wnT_st {T : mT} {j : Nat} (h : stI T j) : stI (wnT T j) j := wnF_st 4 T h
theorem wnT_b4 {T : mT} {j : Nat} (h : b4I T) : b4I (wnT T j) := fun k hk => by rw [wnT_k (by decide)]; exact h k hk
theorem wnT_pos {T : mT} {j : Nat} (h : stI T j) (g : wnT T j 16 j < wnT T j 13 j) : 0 < lfN (wnT T j) j := by
  have h9 := wnF_stop (j := j) 4 T (by have := h.le; omega)
  exact Nat.pos_of_ne_zero (fun z => h9 ⟨g, z⟩)
theorem lfN_le {T : mT} {j : Nat} (S : stI T j) (B : b4I T) : lfN T j ≤ 64 := by
  by_cases h : T 16 j = T 13 j
  · rw [lfN_end h]; omega
  · have h1 : T 16 j < T 13 j := by have := S.2.1; omega
    have S1 := S.le
    obtain ⟨S4, S5, S6⟩ := S.2.2 (T 16 j) (by omega)
    have S7 := B (T 14 (3 * j + T 16 j) - 1) (by omega)
    rw [lfN_at h1]; omega
theorem gnT_st {T : mT} {j n : Nat} (S : stI T j) (h : T 16 j < T 13 j) (hn : n ≤ lfN T j) : stI (gnT T j n) j := by
  refine ⟨by rw [gnT_ne (by decide) (by decide)]; exact S.1, by rw [gnT_ne (show (16 : Nat) ≠ 15 by decide) (by decide), gnT_ne (show (13 : Nat) ≠ 15 by decide) (by decide)]; exact S.2.1, fun k hk => ?_⟩
  rw [gnT_ne (show (14 : Nat) ≠ 15 by decide) (by decide), gnT_ne (show (13 : Nat) ≠ 15 by decide) (by decide), gnT_ne (show (4 : Nat) ≠ 15 by decide) (by decide)]
  obtain ⟨h1, h2, h3⟩ := S.2.2 k hk
  refine ⟨h1, h2, fun g => ?_⟩
  rw [lfN_at h] at hn
  by_cases e : k = T 16 j
  · subst e; rw [gnT_15]; have := h3 g; omega
  · have e2 : gnT T j n 15 (3 * j + k) = T 15 (3 * j + k) := by rw [gnT, u2_ne (by decide), u2_nj (by omega)]
    rw [e2]; exact h3 g
theorem gnT_b4 {T : mT} {j n : Nat} (B : b4I T) : b4I (gnT T j n) := fun k hk => by rw [gnT_ne (by decide) (by decide)]; exact B k hk
theorem gnT_lf {T : mT} {j n : Nat} (h : T 16 j < T 13 j) : lfN (gnT T j n) j = lfN T j - n := by
  have e16 : gnT T j n 16 = T 16 := gnT_ne (by decide) (by decide)
  have e13 : gnT T j n 13 = T 13 := gnT_ne (by decide) (by decide)
  rw [lfN_at (by rw [e16, e13]; exact h), lfN_at h, e16, gnT_15, gnT_ne (show (4 : Nat) ≠ 15 by decide) (by decide), gnT_ne (show (14 : Nat) ≠ 15 by decide) (by decide)]
  omega
theorem gnT_gtD {T : mT} {D D2 : mD} {j n : Nat} (h : D2 3 (64 * (T 14 (3 * j + T 16 j) - 1) + (T 15 (3 * j + T 16 j) + n)) = D 3 (64 * (T 14 (3 * j + T 16 j) - 1) + (T 15 (3 * j + T 16 j) + n))) : gtD (gnT T j n) D2 j = npF T D j n := by
  rw [gtD, gnT_ne (show (16 : Nat) ≠ 15 by decide) (by decide), gnT_ne (show (14 : Nat) ≠ 15 by decide) (by decide), gnT_15, h]; rfl
