/-! the reference's joined streams -/
def cl3 (T : mT) (j : Nat) : Nat → mT | 0 => T | k + 1 => u2 (cl3 T j k) 14 (3 * j + k) 0
def anT (T : mT) (j n : Nat) : mT := u2 (u2 (u2 (u2 (cl3 T j 3) 13 j n) 16 j 0) 17 j 0) 18 j 0
def bgT (T : mT) (j k r : Nat) : mT := u2 (u2 (u2 T 14 (3 * j + k) (T 5 r + 1)) 15 (3 * j + k) 0) 17 j (T 17 j + T 4 (T 5 r))
theorem bgT_ne {T : mT} {j k r a : Nat} (h1 : a ≠ 14) (h2 : a ≠ 15) (h3 : a ≠ 17) : bgT T j k r a = T a := by rw [bgT, u2_ne h3, u2_ne h2, u2_ne h1]
theorem bgT_17 {T : mT} {j k r : Nat} : bgT T j k r 17 j = T 17 j + T 4 (T 5 r) := u2_eq
theorem anT_ne {T : mT} {j n a : Nat} (h : a ≠ 13 ∧ a ≠ 14 ∧ a ≠ 16 ∧ a ≠ 17 ∧ a ≠ 18) : anT T j n a = T a := by
  rw [anT, u2_ne h.2.2.2.2, u2_ne h.2.2.2.1, u2_ne h.2.2.1, u2_ne h.1, cl3, cl3, cl3, cl3, u2_ne h.2.1, u2_ne h.2.1, u2_ne h.2.1]
theorem anT_17 {T : mT} {j n : Nat} : anT T j n 17 j = 0 := by rw [anT, u2_ne (by decide), u2_eq]
def jn2 (T : mT) (j a b : Nat) : mT := bgT (bgT (anT T j 2) j 0 a) j 1 b
def jn3 (T : mT) (j a b c : Nat) : mT := bgT (bgT (bgT (anT T j 3) j 0 a) j 1 b) j 2 c
def bL (T : mT) (r : Nat) : Nat := T 4 (T 5 r)
theorem bgT_bL {T : mT} {j k r r2 : Nat} : bL (bgT T j k r) r2 = bL T r2 := by
  simp only [bL, bgT_ne (show (5 : Nat) ≠ 14 by decide) (by decide) (by decide), bgT_ne (show (4 : Nat) ≠ 14 by decide) (by decide) (by decide)]
theorem anT_bL {T : mT} {j n r2 : Nat} : bL (anT T j n) r2 = bL T r2 := by
  simp only [bL, anT_ne (show (5 : Nat) ≠ 13 ∧ (5 : Nat) ≠ 14 ∧ (5 : Nat) ≠ 16 ∧ (5 : Nat) ≠ 17 ∧ (5 : Nat) ≠ 18 by decide), anT_ne (show (4 : Nat) ≠ 13 ∧ (4 : Nat) ≠ 14 ∧ (4 : Nat) ≠ 16 ∧ (4 : Nat) ≠ 17 ∧ (4 : Nat) ≠ 18 by decide)]
theorem bgT_t {T : mT} {j k r : Nat} : bgT T j k r 17 j = T 17 j + bL T r := u2_eq
theorem jn2_17 {T : mT} {j a b : Nat} : jn2 T j a b 17 j = bL T a + bL T b := by
  rw [jn2, bgT_t, bgT_t, anT_17, bgT_bL, anT_bL, anT_bL]; omega
theorem jn3_17 {T : mT} {j a b c : Nat} : jn3 T j a b c 17 j = bL T a + bL T b + bL T c := by
  rw [jn3, bgT_t, bgT_t, bgT_t, anT_17, bgT_bL, bgT_bL, bgT_bL, anT_bL, anT_bL, anT_bL]; omega
def sp_join (T : mT) (D : mD) (j a b : Int32) : mR := if oN j 2 ∨ oN a 4 ∨ oN b 4 then no T D 1 else (0, nI (bL T a.toNatClampNeg + bL T b.toNatClampNeg), jn2 T j.toNatClampNeg a.toNatClampNeg b.toNatClampNeg, D)
def sp_joinThree (T : mT) (D : mD) (j a b c : Int32) : mR := if oN j 2 ∨ oN a 4 ∨ oN b 4 ∨ oN c 4 then no T D 1 else (0, nI (bL T a.toNatClampNeg + bL T b.toNatClampNeg + bL T c.toNatClampNeg), jn3 T j.toNatClampNeg a.toNatClampNeg b.toNatClampNeg c.toNatClampNeg, D)
/-- what the part has left in which the stream stands -/
def lfN (T : mT) (j : Nat) : Nat := if T 16 j = T 13 j then 0 else T 4 (T 14 (3 * j + T 16 j) - 1) - T 15 (3 * j + T 16 j)
/-- a byte is wanted -/
def wnF (j : Nat) : Nat → mT → mT | 0, T => T | n + 1, T => if T 16 j < T 13 j ∧ lfN T j = 0 then wnF j n (u2 T 16 j (T 16 j + 1)) else T
def wnT (T : mT) (j : Nat) : mT := wnF j 4 T
def gtT (T : mT) (j : Nat) : mT := u2 (u2 T 15 (3 * j + T 16 j) (T 15 (3 * j + T 16 j) + 1)) 18 j (T 18 j + 1)
def gtD (T : mT) (D : mD) (j : Nat) : Int32 := D 3 (64 * (T 14 (3 * j + T 16 j) - 1) + T 15 (3 * j + T 16 j))
def sk_next (T : mT) (D : mD) (j : Nat) : mR := if wnT T j 16 j < wnT T j 13 j then (0, gtD (wnT T j) D j &&& nI 255, gtT (wnT T j) j, D) else (0, -1, wnT T j, D)
def sp_next (T : mT) (D : mD) (j : Int32) : mR := if oN j 2 then no T D 1 else if T 13 j.toNatClampNeg = 0 then no T D 2 else sk_next T D j.toNatClampNeg
def sp_left (T : mT) (D : mD) (j : Int32) : mR := if oN j 2 then no T D 1 else if T 13 j.toNatClampNeg = 0 then no T D 2 else (0, nI (lfN T j.toNatClampNeg), T, D)
/-- the row's array is a part's -/
def itN (T : mT) (j r : Nat) : Nat → Nat | 0 => 0 | k + 1 => if T 14 (3 * j + k) = T 5 r + 1 then 1 else itN T j r k
theorem itN_le {T : mT} {j r : Nat} : ∀ k, itN T j r k ≤ 1
  | 0 => Nat.zero_le _
  | k + 1 => by
    simp only [itN]
    by_cases h : T 14 (3 * j + k) = T 5 r + 1
    · rw [if_pos h]; exact Nat.le_refl _
    · rw [if_neg h]; exact itN_le k
theorem itN_iff {T : mT} {j r : Nat} : ∀ k, itN T j r k = 1 ↔ ∃ i, i < k ∧ T 14 (3 * j + i) = T 5 r + 1
  | 0 => by simp [itN]
  | k + 1 => by
    simp only [itN]
    by_cases h : T 14 (3 * j + k) = T 5 r + 1
    · rw [if_pos h]; exact ⟨fun _ => ⟨k, by omega, h⟩, fun _ => rfl⟩
    · rw [if_neg h, itN_iff k]
      refine ⟨fun ⟨i, g1, g2⟩ => ⟨i, by omega, g2⟩, fun ⟨i, g1, g2⟩ => ⟨i, ?_, g2⟩⟩
      by_cases e : i = k
      · subst e; exact absurd g2 h
      · omega
theorem nI_or0 {x : Nat} (h : x ≤ 1) : nI x ||| nI 0 = nI x := by
  rcases (show x = 0 ∨ x = 1 by omega) with rfl | rfl <;> rfl
theorem nI_or1 {x : Nat} (h : x ≤ 1) : nI x ||| nI 1 = nI 1 := by
  rcases (show x = 0 ∨ x = 1 by omega) with rfl | rfl <;> rfl
/-- n bytes of the part in which it stands -/
def gnT (T : mT) (j n : Nat) : mT := u2 (u2 T 15 (3 * j + T 16 j) (T 15 (3 * j + T 16 j) + n)) 18 j (T 18 j + n)
theorem gnT_0 {T : mT} {j : Nat} : gnT T j 0 = T := by
  rw [gnT]
  rw [show u2 T 15 (3 * j + T 16 j) (T 15 (3 * j + T 16 j) + 0) = T from u2_self]
  exact u2_self
theorem gnT_ne {T : mT} {j n a : Nat} (h : a ≠ 15) (h2 : a ≠ 18) : gnT T j n a = T a := by rw [gnT, u2_ne h2, u2_ne h]
theorem gnT_15 {T : mT} {j n : Nat} : gnT T j n 15 (3 * j + T 16 j) = T 15 (3 * j + T 16 j) + n := by rw [gnT, u2_ne (by decide)]; exact u2_eq
theorem gnT_18 {T : mT} {j n : Nat} : gnT T j n 18 j = T 18 j + n := u2_eq
theorem gnT_S {T : mT} {j n : Nat} : gtT (gnT T j n) j = gnT T j (n + 1) := by
  rw [gtT, gnT_ne (show (16 : Nat) ≠ 15 by decide) (by decide), gnT_15, gnT_18]
  funext a b
  simp only [gnT, u2]
  by_cases h : a = 18
  · subst h; simp only [if_true]
    by_cases g : b = j
    · subst g; simp only [if_true, Nat.add_assoc]
    · simp only [if_neg g]; rfl
  · simp only [if_neg h]
    by_cases g : a = 15
    · subst g; simp only [if_true]
      by_cases g2 : b = 3 * j + T 16 j
      · simp only [if_pos g2, Nat.add_assoc]
      · simp only [if_neg g2]; rfl
    · simp only [if_neg g]
def npF (T : mT) (D : mD) (j : Nat) : Nat → Int32 := fun k => D 3 (64 * (T 14 (3 * j + T 16 j) - 1) + (T 15 (3 * j + T 16 j) + k))
def sk_nextPart (T : mT) (D : mD) (j r f n : Nat) : mR := if wnT T j 16 j < wnT T j 13 j then (0, nI (min n (lfN (wnT T j) j)), gnT (wnT T j) j (min n (lfN (wnT T j) j)), cpF D 3 (64 * T 5 r + f) (npF (wnT T j) D j) (min n (lfN (wnT T j) j))) else (0, -1, wnT T j, D)
def sp_nextPart (T : mT) (D : mD) (j row f n : Int32) : mR := if oN j 2 ∨ oN row 4 ∨ oP (bI T row) f n then no T D 1 else if n.toNatClampNeg = 0 then no T D 2 else if T 13 j.toNatClampNeg = 0 then no T D 3 else if itN T j.toNatClampNeg row.toNatClampNeg (T 13 j.toNatClampNeg) = 1 then no T D 4 else sk_nextPart T D j.toNatClampNeg row.toNatClampNeg f.toNatClampNeg n.toNatClampNeg
/-- n bytes are passed, as many as there are: how many, and what stands then -/
def psT (j : Nat) : Nat → mT → mT | 0, T => T | n + 1, T => if wnT T j 16 j < wnT T j 13 j then psT j n (gtT (wnT T j) j) else wnT T j
def psN (j : Nat) : Nat → mT → Nat | 0, _ => 0 | n + 1, T => if wnT T j 16 j < wnT T j 13 j then psN j n (gtT (wnT T j) j) + 1 else 0
def sp_pass (T : mT) (D : mD) (j : Int32) (m : Int64) : mRl := if oN j 2 then nol T D 1 else if m < 0 ∨ 1000 < m then nol T D 2 else if T 13 j.toNatClampNeg = 0 then nol T D 3 else (0, psN j.toNatClampNeg m.toInt.toNat T, psT j.toNatClampNeg m.toInt.toNat T, D)
/-- what holds of a stream's numbers -/
def stI (T : mT) (j : Nat) : Prop := (T 13 j = 0 ∨ T 13 j = 2 ∨ T 13 j = 3) ∧ T 16 j ≤ T 13 j ∧ ∀ k, k < 3 → T 14 (3 * j + k) ≤ 11 ∧ (k < T 13 j → 1 ≤ T 14 (3 * j + k)) ∧ (k < T 13 j → T 15 (3 * j + k) ≤ T 4 (T 14 (3 * j + k) - 1))
def b4I (T : mT) : Prop := ∀ k, k < 11 → T 4 k ≤ 64
theorem mI.stI {T : mT} (h : mI T) {j : Nat} (hj : j < 2) : stI T j := ⟨(h.st hj).1, (h.st hj).2.1, fun k hk => ⟨((h.st hj).2.2.2 k hk).1, ((h.st hj).2.2.2 k hk).2.1, ((h.st hj).2.2.2 k hk).2.2.1⟩⟩
theorem mI.b4 {T : mT} (h : mI T) : b4I T := fun k hk => h.bl hk
theorem stI.le {T : mT} {j : Nat} (h : stI T j) : T 13 j ≤ 3 := by rcases h.1 with e | e | e <;> omega
theorem lfN_at {T : mT} {j : Nat} (h : T 16 j < T 13 j) : lfN T j = T 4 (T 14 (3 * j + T 16 j) - 1) - T 15 (3 * j + T 16 j) := if_neg (by omega)
theorem lfN_end {T : mT} {j : Nat} (h : T 16 j = T 13 j) : lfN T j = 0 := if_pos h
theorem stI.up {T : mT} {j : Nat} (h : stI T j) (g : T 16 j < T 13 j) : stI (u2 T 16 j (T 16 j + 1)) j := by
  have e : ∀ a, a ≠ 16 → u2 T 16 j (T 16 j + 1) a = T a := fun a ha => u2_ne ha
  refine ⟨by rw [e 13 (by decide)]; exact h.1, by rw [u2_eq, e 13 (by decide)]; exact g, ?_⟩
  rw [e 14 (by decide), e 13 (by decide), e 15 (by decide), e 4 (by decide)]
  exact h.2.2
theorem wnF_k {j : Nat} : ∀ (n : Nat) (T : mT) (a : Nat), a ≠ 16 → wnF j n T a = T a
  | 0, _, _, _ => rfl
  | n + 1, T, a, ha => by
    simp only [wnF]
    by_cases h : T 16 j < T 13 j ∧ lfN T j = 0
    · rw [if_pos h, wnF_k n _ a ha, u2_ne ha]
    · rw [if_neg h]
theorem wnF_b {j b : Nat} (hb : b ≠ j) : ∀ (n : Nat) (T : mT), wnF j n T 16 b = T 16 b
  | 0, _ => rfl
  | n + 1, T => by
    simp only [wnF]
    by_cases h : T 16 j < T 13 j ∧ lfN T j = 0
    · rw [if_pos h, wnF_b hb n _, u2_nj hb]
    · rw [if_neg h]
theorem wnF_st {j : Nat} : ∀ (n : Nat) (T : mT), stI T j → stI (wnF j n T) j
  | 0, _, h => h
  | n + 1, T, h => by
    simp only [wnF]
    by_cases g : T 16 j < T 13 j ∧ lfN T j = 0
    · rw [if_pos g]; exact wnF_st n _ (h.up g.1)
    · rw [if_neg g]; exact h
theorem wnF_stop {j : Nat} : ∀ (n : Nat) (T : mT), T 13 j - T 16 j < n → ¬ (wnF j n T 16 j < wnF j n T 13 j ∧ lfN (wnF j n T) j = 0)
  | 0, _, h => by omega
  | n + 1, T, h => by
    simp only [wnF]
    by_cases g : T 16 j < T 13 j ∧ lfN T j = 0
    · rw [if_pos g]
      refine wnF_stop n _ ?_
      rw [u2_eq, u2_ne (show (13 : Nat) ≠ 16 by decide)]
      omega
    · rw [if_neg g]; exact g
theorem wnT_k {T : mT} {j a : Nat} (h : a ≠ 16) : wnT T j a = T a := wnF_k 4 T a h
theorem wnT_st {T : mT} {j : Nat} (h : stI T j) : stI (wnT T j) j := wnF_st 4 T h
theorem wnT_b4 {T : mT} {j : Nat} (h : b4I T) : b4I (wnT T j) := fun k hk => by rw [wnT_k (by decide)]; exact h k hk
theorem wnT_pos {T : mT} {j : Nat} (h : stI T j) (g : wnT T j 16 j < wnT T j 13 j) : 0 < lfN (wnT T j) j := by
  have h9 := wnF_stop (j := j) 4 T (by have := h.le; omega)
  exact Nat.pos_of_ne_zero (fun z => h9 ⟨g, z⟩)

set_option maxHeartbeats 4000000 in
set_option maxRecDepth 100000 in
theorem mt_leftIn_e (l : Launch) {G : va_G} {cI cZ : ClassId} {q : Nat → Nat} (hq : mJ q) (T : mT) (D : mD) (th : Int32) {j : Nat} (S : stI T j) (hj : j < 2) (h : T 16 j = T 13 j) : mMi l yX7_leftIn wsX7_leftIn ({ frames := 0, cells := 0, slots := 0, locals := 0 } : Room) G cI cZ q [.int (nI (j))] (T) (D) (th) (nI (lfN T j)) (T) (D) (th) := by
  refine mstarti (cc := cX7_leftIn) (maxL := 3) (ret := (some .int)) (by decide) rfl rfl ⟨_, rfl⟩ (Nat.le_of_ble_eq_true rfl) (fun p e s m args below meth c Q hE X hW ls hl => ?_)
  have hl : lv_has ls 3 [(0, .ref (q 0)), (1, .int (nI (j)))] := hl
  have hin : ∀ w ∈ wsX70, w ∈ wsX7_leftIn := fun w h => List.mem_cons_of_mem _ (List.mem_append_left _ (List.mem_append_right _ (h)))
  have S1 := S.le
  have S2 := S.2.1
  have S3 : T 16 j < 3 → _ := S.2.2 (T 16 j)
  refine lv_iconst (v := nI 3) X.1 X.2.1 dX7_leftIn_0 (by decide) ?_
  refine lv_iload_n X.1 X.2.1 dX7_leftIn_1 rfl (lv_at hl 1 rfl) ?_
  refine n_imul X.1 X.2.1 dX7_leftIn_2 ?_
  refine lv_aload_n X.1 X.2.1 dX7_leftIn_3 rfl (lv_at hl 0 rfl) ?_
  refine mget 16 (by decide) rfl X hin hW (X.2.2.2.2 (.fieldLink RX7 59 "StrandbookModel" "stands" "[I") (List.mem_cons_of_mem _ (List.mem_append_left _ (List.mem_append_left _ (List.mem_of_getElem? (i := 0) rfl))))) dX7_leftIn_4 ?_
  refine lv_iload_n X.1 X.2.1 dX7_leftIn_7 rfl (lv_at hl 1 rfl) ?_
  refine mld16 X hW (by omega) dX7_leftIn_8 ?_
  refine n_iadd X.1 X.2.1 dX7_leftIn_9 ?_
  refine lv_istore_n (lv' := [(2, .int (nI ((3 * j) + (T 16 (j))))), (0, .ref (q 0)), (1, .int (nI (j)))]) X.1 X.2.1 dX7_leftIn_10 rfl hl (by decide) rfl (fun ls hl => ?_)
  refine lv_aload_n X.1 X.2.1 dX7_leftIn_11 rfl (lv_at hl 1 rfl) ?_
  refine mget 16 (by decide) rfl X hin hW (X.2.2.2.2 (.fieldLink RX7 59 "StrandbookModel" "stands" "[I") (List.mem_cons_of_mem _ (List.mem_append_left _ (List.mem_append_left _ (List.mem_of_getElem? (i := 0) rfl))))) dX7_leftIn_12 ?_
  refine lv_iload_n X.1 X.2.1 dX7_leftIn_15 rfl (lv_at hl 2 rfl) ?_
  refine mld16 X hW (by omega) dX7_leftIn_16 ?_
  refine lv_aload_n X.1 X.2.1 dX7_leftIn_17 rfl (lv_at hl 1 rfl) ?_
  refine mget 13 (by decide) rfl X hin hW (X.2.2.2.2 (.fieldLink RX7 50 "StrandbookModel" "parts" "[I") (List.mem_cons_of_mem _ (List.mem_append_left _ (List.mem_append_left _ (List.mem_of_getElem? (i := 1) rfl))))) dX7_leftIn_18 ?_
  refine lv_iload_n X.1 X.2.1 dX7_leftIn_21 rfl (lv_at hl 2 rfl) ?_
  refine mld13 X hW (by omega) dX7_leftIn_22 ?_
  refine n_icmp_ne_f (tgt := 30) X.1 X.2.1 dX7_leftIn_23 (by decide) (h) (by omega) (by omega) ?_
  refine lv_iconst (v := nI 0) X.1 X.2.1 dX7_leftIn_26 (by decide) ?_
  refine lv_goto (tgt := 48) X.1 X.2.1 dX7_leftIn_27 (by decide) ?_
  exact hE _ _ _ _ _ (by rw [lfN_end h]) (fun ty hty => by cases hty; exact rfl) hW dX7_leftIn_48

set_option maxHeartbeats 4000000 in
set_option maxRecDepth 100000 in
theorem mt_leftIn_s (l : Launch) {G : va_G} {cI cZ : ClassId} {q : Nat → Nat} (hq : mJ q) (T : mT) (D : mD) (th : Int32) {j : Nat} (S : stI T j) (B : b4I T) (hj : j < 2) (h : T 16 j < T 13 j) : mMi l yX7_leftIn wsX7_leftIn ({ frames := 0, cells := 0, slots := 0, locals := 0 } : Room) G cI cZ q [.int (nI (j))] (T) (D) (th) (nI (lfN T j)) (T) (D) (th) := by
  refine mstarti (cc := cX7_leftIn) (maxL := 3) (ret := (some .int)) (by decide) rfl rfl ⟨_, rfl⟩ (Nat.le_of_ble_eq_true rfl) (fun p e s m args below meth c Q hE X hW ls hl => ?_)
  have hl : lv_has ls 3 [(0, .ref (q 0)), (1, .int (nI (j)))] := hl
  have hin : ∀ w ∈ wsX70, w ∈ wsX7_leftIn := fun w h => List.mem_cons_of_mem _ (List.mem_append_left _ (List.mem_append_right _ (h)))
  have S1 := S.le
  have S2 := S.2.1
  have S3 : T 16 j < 3 → _ := S.2.2 (T 16 j)
  obtain ⟨S4, S5, S6⟩ := S3 (by omega)
  have S5 := S5 h
  have S6 := S6 h
  have S7 := B (T 14 (3 * j + T 16 j) - 1) (by omega)
  refine lv_iconst (v := nI 3) X.1 X.2.1 dX7_leftIn_0 (by decide) ?_
  refine lv_iload_n X.1 X.2.1 dX7_leftIn_1 rfl (lv_at hl 1 rfl) ?_
  refine n_imul X.1 X.2.1 dX7_leftIn_2 ?_
  refine lv_aload_n X.1 X.2.1 dX7_leftIn_3 rfl (lv_at hl 0 rfl) ?_
  refine mget 16 (by decide) rfl X hin hW (X.2.2.2.2 (.fieldLink RX7 59 "StrandbookModel" "stands" "[I") (List.mem_cons_of_mem _ (List.mem_append_left _ (List.mem_append_left _ (List.mem_of_getElem? (i := 0) rfl))))) dX7_leftIn_4 ?_
  refine lv_iload_n X.1 X.2.1 dX7_leftIn_7 rfl (lv_at hl 1 rfl) ?_
  refine mld16 X hW (by omega) dX7_leftIn_8 ?_
  refine n_iadd X.1 X.2.1 dX7_leftIn_9 ?_
  refine lv_istore_n (lv' := [(2, .int (nI ((3 * j) + (T 16 (j))))), (0, .ref (q 0)), (1, .int (nI (j)))]) X.1 X.2.1 dX7_leftIn_10 rfl hl (by decide) rfl (fun ls hl => ?_)
  refine lv_aload_n X.1 X.2.1 dX7_leftIn_11 rfl (lv_at hl 1 rfl) ?_
  refine mget 16 (by decide) rfl X hin hW (X.2.2.2.2 (.fieldLink RX7 59 "StrandbookModel" "stands" "[I") (List.mem_cons_of_mem _ (List.mem_append_left _ (List.mem_append_left _ (List.mem_of_getElem? (i := 0) rfl))))) dX7_leftIn_12 ?_
  refine lv_iload_n X.1 X.2.1 dX7_leftIn_15 rfl (lv_at hl 2 rfl) ?_
  refine mld16 X hW (by omega) dX7_leftIn_16 ?_
  refine lv_aload_n X.1 X.2.1 dX7_leftIn_17 rfl (lv_at hl 1 rfl) ?_
  refine mget 13 (by decide) rfl X hin hW (X.2.2.2.2 (.fieldLink RX7 50 "StrandbookModel" "parts" "[I") (List.mem_cons_of_mem _ (List.mem_append_left _ (List.mem_append_left _ (List.mem_of_getElem? (i := 1) rfl))))) dX7_leftIn_18 ?_
  refine lv_iload_n X.1 X.2.1 dX7_leftIn_21 rfl (lv_at hl 2 rfl) ?_
  refine mld13 X hW (by omega) dX7_leftIn_22 ?_
  refine n_icmp_ne_t (tgt := 30) X.1 X.2.1 dX7_leftIn_23 (by decide) (by omega) (by omega) (by omega) ?_
  refine lv_aload_n X.1 X.2.1 dX7_leftIn_30 rfl (lv_at hl 1 rfl) ?_
  refine mget 4 (by decide) rfl X hin hW (X.2.2.2.2 (.fieldLink RX7 22 "StrandbookModel" "byteLengths" "[I") (List.mem_cons_of_mem _ (List.mem_append_left _ (List.mem_append_left _ (List.mem_of_getElem? (i := 2) rfl))))) dX7_leftIn_31 ?_
  refine lv_aload_n X.1 X.2.1 dX7_leftIn_34 rfl (lv_at hl 1 rfl) ?_
  refine mget 14 (by decide) rfl X hin hW (X.2.2.2.2 (.fieldLink RX7 53 "StrandbookModel" "partRooms" "[I") (List.mem_cons_of_mem _ (List.mem_append_left _ (List.mem_append_left _ (List.mem_of_getElem? (i := 3) rfl))))) dX7_leftIn_35 ?_
  refine lv_iload_n X.1 X.2.1 dX7_leftIn_38 rfl (lv_at hl 0 rfl) ?_
  refine mld14_s X hW (by omega) (z := T 14 (3 * j + T 16 j) - 1) (by omega) dX7_leftIn_39 ?_
  refine mld4 X hW (by omega) dX7_leftIn_40 ?_
  refine lv_aload_n X.1 X.2.1 dX7_leftIn_41 rfl (lv_at hl 1 rfl) ?_
  refine mget 15 (by decide) rfl X hin hW (X.2.2.2.2 (.fieldLink RX7 56 "StrandbookModel" "partPlaces" "[I") (List.mem_cons_of_mem _ (List.mem_append_left _ (List.mem_append_left _ (List.mem_of_getElem? (i := 4) rfl))))) dX7_leftIn_42 ?_
  refine lv_iload_n X.1 X.2.1 dX7_leftIn_45 rfl (lv_at hl 0 rfl) ?_
  refine mld15 X hW (by omega) dX7_leftIn_46 ?_
  refine n_isub X.1 X.2.1 (by omega) dX7_leftIn_47 ?_
  exact hE _ _ _ _ _ (by rw [lfN_at h]) (fun ty hty => by cases hty; exact rfl) hW dX7_leftIn_48

theorem mt_leftIn (l : Launch) {G : va_G} {cI cZ : ClassId} {q : Nat → Nat} (hq : mJ q) (T : mT) (D : mD) (th : Int32) {j : Nat} (S : stI T j) (B : b4I T) (hj : j < 2) : mMi l yX7_leftIn wsX7_leftIn ({ frames := 0, cells := 0, slots := 0, locals := 0 } : Room) G cI cZ q [.int (nI j)] T D th (nI (lfN T j)) T D th := by
  by_cases h : T 16 j = T 13 j
  · exact mt_leftIn_e l hq T D th S hj h
  · exact mt_leftIn_s l hq T D th S B hj (by have := S.2.1; omega)
theorem lfN_le {T : mT} {j : Nat} (S : stI T j) (B : b4I T) : lfN T j ≤ 64 := by
  by_cases h : T 16 j = T 13 j
  · rw [lfN_end h]; omega
  · have h1 : T 16 j < T 13 j := by have := S.2.1; omega
    have S1 := S.le
    obtain ⟨S4, S5, S6⟩ := S.2.2 (T 16 j) (by omega)
    have S7 := B (T 14 (3 * j + T 16 j) - 1) (by omega)
    rw [lfN_at h1]; omega

set_option maxHeartbeats 4000000 in
set_option maxRecDepth 100000 in
theorem mt_wants_loop {l : Launch} {G : va_G} {cI cZ : ClassId} {q : Nat → Nat} (hq : mJ q) {D : mD} {th : Int32} {j : Nat} (hj : j < 2) {p : Program} {e : Env} {s : State} {m : MethodId} {args : Array Value} {below : List Frame} {meth : Method} {c : Code} {Q : State → Prop} (X : CallFix p m c cX7_wants 2 s args wsX7_wants RX7) (hin : ∀ w ∈ wsX70, w ∈ wsX7_wants) :
    ∀ (n : Nat) (T T0 : mT), wnF j n T = T0 → T 13 j - T 16 j < n → stI T j → b4I T → (∀ (H : Heap) (locs : List Loc) (ls : Array Slot), mH G cI cZ q T0 D th s H locs → lv_has ls 2 [(0, .ref (q 0)), (1, .int (nI j))] → W p l e ({ frames := 1, cells := 0, slots := 0, locals := 22 } : Room) s m args below meth c H locs 0 0 Q (F0 m 36 ls [])) → ∀ (H : Heap) (locs : List Loc), mH G cI cZ q T D th s H locs → ∀ ls : Array Slot, lv_has ls 2 [(0, .ref (q 0)), (1, .int (nI j))] → W p l e ({ frames := 1, cells := 0, slots := 0, locals := 22 } : Room) s m args below meth c H locs 0 0 Q (F0 m 0 ls []) := by
  intro n
  induction n with
  | zero => intro T T0 _ h; omega
  | succ n ih =>
    intro T T0 hT0 hn S B hk H locs hW ls hl
    have S1 := S.le
    have S2 := S.2.1
    have S9 := lfN_le S B
    rcases Decidable.em (T 16 j < T 13 j) with h1 | h1
    · rcases Decidable.em (lfN T j = 0) with h2 | h2
      · skip
        refine lv_aload_n X.1 X.2.1 dX7_wants_0 rfl (lv_at hl 0 rfl) ?_
        refine mget 16 (by decide) rfl X hin hW (X.2.2.2.2 (.fieldLink RX7 59 "StrandbookModel" "stands" "[I") (List.mem_cons_of_mem _ (List.mem_append_left _ (List.mem_append_left _ (List.mem_of_getElem? (i := 0) rfl))))) dX7_wants_1 ?_
        refine lv_iload_n X.1 X.2.1 dX7_wants_4 rfl (lv_at hl 1 rfl) ?_
        refine mld16 X hW (by omega) dX7_wants_5 ?_
        refine lv_aload_n X.1 X.2.1 dX7_wants_6 rfl (lv_at hl 0 rfl) ?_
        refine mget 13 (by decide) rfl X hin hW (X.2.2.2.2 (.fieldLink RX7 50 "StrandbookModel" "parts" "[I") (List.mem_cons_of_mem _ (List.mem_append_left _ (List.mem_append_left _ (List.mem_of_getElem? (i := 1) rfl))))) dX7_wants_7 ?_
        refine lv_iload_n X.1 X.2.1 dX7_wants_10 rfl (lv_at hl 1 rfl) ?_
        refine mld13 X hW (by omega) dX7_wants_11 ?_
        refine n_icmp_ge_f (tgt := 36) X.1 X.2.1 dX7_wants_12 (by decide) (by omega) (by omega) (by omega) ?_
        refine lv_aload_n X.1 X.2.1 dX7_wants_15 rfl (lv_at hl 0 rfl) ?_
        refine lv_iload_n X.1 X.2.1 dX7_wants_16 rfl (lv_at hl 1 rfl) ?_
        refine mcalli hq X hW (mt_leftIn l hq (T) (D) (th) (j := j) (S) (B) (by omega)) (cwV 1 X.2.2.2.2 gX7_wants_X7_leftIn rfl rfl rfl (by decide +kernel) ⟨Nat.le_of_ble_eq_true rfl, Nat.le_of_ble_eq_true rfl⟩) rfl rfl hl.1 (Nat.le_of_ble_eq_true rfl) dX7_wants_17 ⟨Nat.zero_le _, Nat.zero_le _⟩ (fun H locs hW => ?_)
        refine n_if_ne_f (tgt := 36) X.1 X.2.1 dX7_wants_20 (by decide) (h2) (by omega) ?_
        refine lv_aload_n X.1 X.2.1 dX7_wants_23 rfl (lv_at hl 0 rfl) ?_
        refine mget 16 (by decide) rfl X hin hW (X.2.2.2.2 (.fieldLink RX7 59 "StrandbookModel" "stands" "[I") (List.mem_cons_of_mem _ (List.mem_append_left _ (List.mem_append_left _ (List.mem_of_getElem? (i := 0) rfl))))) dX7_wants_24 ?_
        refine lv_iload_n X.1 X.2.1 dX7_wants_27 rfl (lv_at hl 1 rfl) ?_
        refine lv_dup2_11 X.1 X.2.1 dX7_wants_28 rfl rfl ?_
        refine mld16 X hW (by omega) dX7_wants_29 ?_
        refine lv_iconst (v := nI 1) X.1 X.2.1 dX7_wants_30 (by decide) ?_
        refine n_iadd X.1 X.2.1 dX7_wants_31 ?_
        refine mst16 hq X hW (by omega) dX7_wants_32 (fun H locs hW => ?_)
        refine lv_goto (tgt := 0) X.1 X.2.1 dX7_wants_33 (by decide) ?_
        refine ih _ _ (by rw [← hT0, wnF, if_pos ⟨h1, h2⟩]) ?_ (S.up h1) (fun k hk => by rw [u2_ne (by decide)]; exact B k hk) hk _ _ hW ls (lv_sub hl [0, 1] rfl)
        rw [u2_eq, u2_ne (show (13 : Nat) ≠ 16 by decide)]; omega
      · skip
        refine lv_aload_n X.1 X.2.1 dX7_wants_0 rfl (lv_at hl 0 rfl) ?_
        refine mget 16 (by decide) rfl X hin hW (X.2.2.2.2 (.fieldLink RX7 59 "StrandbookModel" "stands" "[I") (List.mem_cons_of_mem _ (List.mem_append_left _ (List.mem_append_left _ (List.mem_of_getElem? (i := 0) rfl))))) dX7_wants_1 ?_
        refine lv_iload_n X.1 X.2.1 dX7_wants_4 rfl (lv_at hl 1 rfl) ?_
        refine mld16 X hW (by omega) dX7_wants_5 ?_
        refine lv_aload_n X.1 X.2.1 dX7_wants_6 rfl (lv_at hl 0 rfl) ?_
        refine mget 13 (by decide) rfl X hin hW (X.2.2.2.2 (.fieldLink RX7 50 "StrandbookModel" "parts" "[I") (List.mem_cons_of_mem _ (List.mem_append_left _ (List.mem_append_left _ (List.mem_of_getElem? (i := 1) rfl))))) dX7_wants_7 ?_
        refine lv_iload_n X.1 X.2.1 dX7_wants_10 rfl (lv_at hl 1 rfl) ?_
        refine mld13 X hW (by omega) dX7_wants_11 ?_
        refine n_icmp_ge_f (tgt := 36) X.1 X.2.1 dX7_wants_12 (by decide) (by omega) (by omega) (by omega) ?_
        refine lv_aload_n X.1 X.2.1 dX7_wants_15 rfl (lv_at hl 0 rfl) ?_
        refine lv_iload_n X.1 X.2.1 dX7_wants_16 rfl (lv_at hl 1 rfl) ?_
        refine mcalli hq X hW (mt_leftIn l hq (T) (D) (th) (j := j) (S) (B) (by omega)) (cwV 1 X.2.2.2.2 gX7_wants_X7_leftIn rfl rfl rfl (by decide +kernel) ⟨Nat.le_of_ble_eq_true rfl, Nat.le_of_ble_eq_true rfl⟩) rfl rfl hl.1 (Nat.le_of_ble_eq_true rfl) dX7_wants_17 ⟨Nat.zero_le _, Nat.zero_le _⟩ (fun H locs hW => ?_)
        refine n_if_ne_t (tgt := 36) X.1 X.2.1 dX7_wants_20 (by decide) (h2) (by omega) ?_
        exact hk _ _ ls (hW.eq (by rw [← hT0, wnF, if_neg (fun z => h2 z.2)]) rfl rfl) (lv_sub hl [0, 1] rfl)
    · skip
      refine lv_aload_n X.1 X.2.1 dX7_wants_0 rfl (lv_at hl 0 rfl) ?_
      refine mget 16 (by decide) rfl X hin hW (X.2.2.2.2 (.fieldLink RX7 59 "StrandbookModel" "stands" "[I") (List.mem_cons_of_mem _ (List.mem_append_left _ (List.mem_append_left _ (List.mem_of_getElem? (i := 0) rfl))))) dX7_wants_1 ?_
      refine lv_iload_n X.1 X.2.1 dX7_wants_4 rfl (lv_at hl 1 rfl) ?_
      refine mld16 X hW (by omega) dX7_wants_5 ?_
      refine lv_aload_n X.1 X.2.1 dX7_wants_6 rfl (lv_at hl 0 rfl) ?_
      refine mget 13 (by decide) rfl X hin hW (X.2.2.2.2 (.fieldLink RX7 50 "StrandbookModel" "parts" "[I") (List.mem_cons_of_mem _ (List.mem_append_left _ (List.mem_append_left _ (List.mem_of_getElem? (i := 1) rfl))))) dX7_wants_7 ?_
      refine lv_iload_n X.1 X.2.1 dX7_wants_10 rfl (lv_at hl 1 rfl) ?_
      refine mld13 X hW (by omega) dX7_wants_11 ?_
      refine n_icmp_ge_t (tgt := 36) X.1 X.2.1 dX7_wants_12 (by decide) (by omega) (by omega) (by omega) ?_
      exact hk _ _ ls (hW.eq (by rw [← hT0, wnF, if_neg (fun z => h1 z.1)]) rfl rfl) (lv_sub hl [0, 1] rfl)

set_option maxHeartbeats 4000000 in
set_option maxRecDepth 100000 in
theorem mt_wants_1 (l : Launch) {G : va_G} {cI cZ : ClassId} {q : Nat → Nat} (hq : mJ q) (T : mT) (D : mD) (th : Int32) {j : Nat} (S : stI T j) (B : b4I T) (hj : j < 2) (h : wnT T j 16 j < wnT T j 13 j) : mMi l yX7_wants wsX7_wants ({ frames := 1, cells := 0, slots := 0, locals := 22 } : Room) G cI cZ q [.int (nI j)] T D th (nI 1) (wnT T j) D th := by
  refine mstarti (cc := cX7_wants) (maxL := 2) (ret := (some .boolean)) (by decide) rfl rfl ⟨_, rfl⟩ (Nat.le_of_ble_eq_true rfl) (fun p e s m args below meth c Q hE X hW ls hl => ?_)
  have hin : ∀ w ∈ wsX70, w ∈ wsX7_wants := fun w h => List.mem_cons_of_mem _ (List.mem_append_left _ (List.mem_append_right _ (h)))
  refine mt_wants_loop hq hj X hin 4 T (wnT T j) rfl (by have := S.le; omega) S B (fun H locs ls hW hl => ?_) _ _ hW ls hl
  have S0 := wnT_st S
  have S1 := S0.le
  have S2 := S0.2.1
  refine lv_aload_n X.1 X.2.1 dX7_wants_36 rfl (lv_at hl 0 rfl) ?_
  refine mget 16 (by decide) rfl X hin hW (X.2.2.2.2 (.fieldLink RX7 59 "StrandbookModel" "stands" "[I") (List.mem_cons_of_mem _ (List.mem_append_left _ (List.mem_append_left _ (List.mem_of_getElem? (i := 0) rfl))))) dX7_wants_37 ?_
  refine lv_iload_n X.1 X.2.1 dX7_wants_40 rfl (lv_at hl 1 rfl) ?_
  refine mld16 X hW (by omega) dX7_wants_41 ?_
  refine lv_aload_n X.1 X.2.1 dX7_wants_42 rfl (lv_at hl 0 rfl) ?_
  refine mget 13 (by decide) rfl X hin hW (X.2.2.2.2 (.fieldLink RX7 50 "StrandbookModel" "parts" "[I") (List.mem_cons_of_mem _ (List.mem_append_left _ (List.mem_append_left _ (List.mem_of_getElem? (i := 1) rfl))))) dX7_wants_43 ?_
  refine lv_iload_n X.1 X.2.1 dX7_wants_46 rfl (lv_at hl 1 rfl) ?_
  refine mld13 X hW (by omega) dX7_wants_47 ?_
  refine n_icmp_ge_f (tgt := 55) X.1 X.2.1 dX7_wants_48 (by decide) (by omega) (by omega) (by omega) ?_
  refine lv_iconst (v := nI 1) X.1 X.2.1 dX7_wants_51 (by decide) ?_
  refine lv_goto (tgt := 56) X.1 X.2.1 dX7_wants_52 (by decide) ?_
  exact hE _ _ _ _ _ (rfl) (fun ty hty => by cases hty; exact nI_zb (by omega)) hW dX7_wants_56

set_option maxHeartbeats 4000000 in
set_option maxRecDepth 100000 in
theorem mt_wants_0 (l : Launch) {G : va_G} {cI cZ : ClassId} {q : Nat → Nat} (hq : mJ q) (T : mT) (D : mD) (th : Int32) {j : Nat} (S : stI T j) (B : b4I T) (hj : j < 2) (h : ¬ wnT T j 16 j < wnT T j 13 j) : mMi l yX7_wants wsX7_wants ({ frames := 1, cells := 0, slots := 0, locals := 22 } : Room) G cI cZ q [.int (nI j)] T D th (nI 0) (wnT T j) D th := by
  refine mstarti (cc := cX7_wants) (maxL := 2) (ret := (some .boolean)) (by decide) rfl rfl ⟨_, rfl⟩ (Nat.le_of_ble_eq_true rfl) (fun p e s m args below meth c Q hE X hW ls hl => ?_)
  have hin : ∀ w ∈ wsX70, w ∈ wsX7_wants := fun w h => List.mem_cons_of_mem _ (List.mem_append_left _ (List.mem_append_right _ (h)))
  refine mt_wants_loop hq hj X hin 4 T (wnT T j) rfl (by have := S.le; omega) S B (fun H locs ls hW hl => ?_) _ _ hW ls hl
  have S0 := wnT_st S
  have S1 := S0.le
  have S2 := S0.2.1
  refine lv_aload_n X.1 X.2.1 dX7_wants_36 rfl (lv_at hl 0 rfl) ?_
  refine mget 16 (by decide) rfl X hin hW (X.2.2.2.2 (.fieldLink RX7 59 "StrandbookModel" "stands" "[I") (List.mem_cons_of_mem _ (List.mem_append_left _ (List.mem_append_left _ (List.mem_of_getElem? (i := 0) rfl))))) dX7_wants_37 ?_
  refine lv_iload_n X.1 X.2.1 dX7_wants_40 rfl (lv_at hl 1 rfl) ?_
  refine mld16 X hW (by omega) dX7_wants_41 ?_
  refine lv_aload_n X.1 X.2.1 dX7_wants_42 rfl (lv_at hl 0 rfl) ?_
  refine mget 13 (by decide) rfl X hin hW (X.2.2.2.2 (.fieldLink RX7 50 "StrandbookModel" "parts" "[I") (List.mem_cons_of_mem _ (List.mem_append_left _ (List.mem_append_left _ (List.mem_of_getElem? (i := 1) rfl))))) dX7_wants_43 ?_
  refine lv_iload_n X.1 X.2.1 dX7_wants_46 rfl (lv_at hl 1 rfl) ?_
  refine mld13 X hW (by omega) dX7_wants_47 ?_
  refine n_icmp_ge_t (tgt := 55) X.1 X.2.1 dX7_wants_48 (by decide) (by omega) (by omega) (by omega) ?_
  refine lv_iconst (v := nI 0) X.1 X.2.1 dX7_wants_55 (by decide) ?_
  exact hE _ _ _ _ _ (rfl) (fun ty hty => by cases hty; exact nI_zb (by omega)) hW dX7_wants_56

set_option maxHeartbeats 4000000 in
set_option maxRecDepth 100000 in
theorem mt_got (l : Launch) {G : va_G} {cI cZ : ClassId} {q : Nat → Nat} (hq : mJ q) (T : mT) (D : mD) (th : Int32) {j : Nat} (S : stI T j) (B : b4I T) (hj : j < 2) (h : T 16 j < T 13 j) (h2 : 0 < lfN T j) : mMi l yX7_got wsX7_got ({ frames := 0, cells := 0, slots := 0, locals := 0 } : Room) G cI cZ q [.int (nI (j))] (T) (D) (th) (gtD T D j) (gtT T j) (D) (th) := by
  refine mstarti (cc := cX7_got) (maxL := 3) (ret := (some .int)) (by decide) rfl rfl ⟨_, rfl⟩ (Nat.le_of_ble_eq_true rfl) (fun p e s m args below meth c Q hE X hW ls hl => ?_)
  have hl : lv_has ls 3 [(0, .ref (q 0)), (1, .int (nI (j)))] := hl
  have hin : ∀ w ∈ wsX70, w ∈ wsX7_got := fun w h => List.mem_cons_of_mem _ (List.mem_append_left _ (List.mem_append_right _ (h)))
  have S1 := S.le
  obtain ⟨S4, S5, S6⟩ := S.2.2 (T 16 j) (by omega)
  have S5 := S5 h
  have S6 := S6 h
  have S7 := B (T 14 (3 * j + T 16 j) - 1) (by omega)
  rw [lfN_at h] at h2
  refine lv_iconst (v := nI 3) X.1 X.2.1 dX7_got_0 (by decide) ?_
  refine lv_iload_n X.1 X.2.1 dX7_got_1 rfl (lv_at hl 1 rfl) ?_
  refine n_imul X.1 X.2.1 dX7_got_2 ?_
  refine lv_aload_n X.1 X.2.1 dX7_got_3 rfl (lv_at hl 0 rfl) ?_
  refine mget 16 (by decide) rfl X hin hW (X.2.2.2.2 (.fieldLink RX7 59 "StrandbookModel" "stands" "[I") (List.mem_cons_of_mem _ (List.mem_append_left _ (List.mem_append_left _ (List.mem_of_getElem? (i := 0) rfl))))) dX7_got_4 ?_
  refine lv_iload_n X.1 X.2.1 dX7_got_7 rfl (lv_at hl 1 rfl) ?_
  refine mld16 X hW (by omega) dX7_got_8 ?_
  refine n_iadd X.1 X.2.1 dX7_got_9 ?_
  refine lv_istore_n (lv' := [(2, .int (nI ((3 * j) + (T 16 (j))))), (0, .ref (q 0)), (1, .int (nI (j)))]) X.1 X.2.1 dX7_got_10 rfl hl (by decide) rfl (fun ls hl => ?_)
  refine lv_aload_n X.1 X.2.1 dX7_got_11 rfl (lv_at hl 1 rfl) ?_
  refine mget 15 (by decide) rfl X hin hW (X.2.2.2.2 (.fieldLink RX7 56 "StrandbookModel" "partPlaces" "[I") (List.mem_cons_of_mem _ (List.mem_append_left _ (List.mem_append_left _ (List.mem_of_getElem? (i := 1) rfl))))) dX7_got_12 ?_
  refine lv_iload_n X.1 X.2.1 dX7_got_15 rfl (lv_at hl 0 rfl) ?_
  refine lv_dup2_11 X.1 X.2.1 dX7_got_16 rfl rfl ?_
  refine mld15 X hW (by omega) dX7_got_17 ?_
  refine lv_iconst (v := nI 1) X.1 X.2.1 dX7_got_18 (by decide) ?_
  refine n_iadd X.1 X.2.1 dX7_got_19 ?_
  refine mst15 hq X hW (by omega) dX7_got_20 (fun H locs hW => ?_)
  refine lv_aload_n X.1 X.2.1 dX7_got_21 rfl (lv_at hl 1 rfl) ?_
  refine mget 18 (by decide) rfl X hin hW (X.2.2.2.2 (.fieldLink RX7 65 "StrandbookModel" "passes" "[I") (List.mem_cons_of_mem _ (List.mem_append_left _ (List.mem_append_left _ (List.mem_of_getElem? (i := 2) rfl))))) dX7_got_22 ?_
  refine lv_iload_n X.1 X.2.1 dX7_got_25 rfl (lv_at hl 2 rfl) ?_
  refine lv_dup2_11 X.1 X.2.1 dX7_got_26 rfl rfl ?_
  refine mld18 X hW (by omega) dX7_got_27 ?_
  refine n_cv (y := nI (T 18 (j))) (congrArg nI (congrFun (u2_ne (by decide)) _)) ?_
  refine lv_iconst (v := nI 1) X.1 X.2.1 dX7_got_28 (by decide) ?_
  refine n_iadd X.1 X.2.1 dX7_got_29 ?_
  refine mst18 hq X hW (by omega) dX7_got_30 (fun H locs hW => ?_)
  refine lv_aload_n X.1 X.2.1 dX7_got_31 rfl (lv_at hl 1 rfl) ?_
  refine mget 3 (by decide) rfl X hin hW (X.2.2.2.2 (.fieldLink RX7 19 "StrandbookModel" "bytes" "[I") (List.mem_cons_of_mem _ (List.mem_append_left _ (List.mem_append_left _ (List.mem_of_getElem? (i := 3) rfl))))) dX7_got_32 ?_
  refine lv_bipush (v := nI 64) X.1 X.2.1 dX7_got_35 (by decide) ?_
  refine lv_aload_n X.1 X.2.1 dX7_got_37 rfl (lv_at hl 1 rfl) ?_
  refine mget 14 (by decide) rfl X hin hW (X.2.2.2.2 (.fieldLink RX7 53 "StrandbookModel" "partRooms" "[I") (List.mem_cons_of_mem _ (List.mem_append_left _ (List.mem_append_left _ (List.mem_of_getElem? (i := 4) rfl))))) dX7_got_38 ?_
  refine lv_iload_n X.1 X.2.1 dX7_got_41 rfl (lv_at hl 0 rfl) ?_
  refine mld14_s X hW (by omega) (z := T 14 (3 * j + T 16 j) - 1) ((congrFun (u2_ne (by decide)) _).trans ((congrFun (u2_ne (by decide)) _).trans (by omega))) dX7_got_42 ?_
  refine n_imul X.1 X.2.1 dX7_got_43 ?_
  refine lv_aload_n X.1 X.2.1 dX7_got_44 rfl (lv_at hl 1 rfl) ?_
  refine mget 15 (by decide) rfl X hin hW (X.2.2.2.2 (.fieldLink RX7 56 "StrandbookModel" "partPlaces" "[I") (List.mem_cons_of_mem _ (List.mem_append_left _ (List.mem_append_left _ (List.mem_of_getElem? (i := 1) rfl))))) dX7_got_45 ?_
  refine lv_iload_n X.1 X.2.1 dX7_got_48 rfl (lv_at hl 0 rfl) ?_
  refine mld15 X hW (by omega) dX7_got_49 ?_
  refine n_cv (y := nI ((T 15 ((3 * j) + (T 16 (j)))) + 1)) (congrArg nI ((congrFun (u2_ne (by decide)) _).trans (u2_eq))) ?_
  refine n_iadd X.1 X.2.1 dX7_got_50 ?_
  refine lv_iconst (v := nI 1) X.1 X.2.1 dX7_got_51 (by decide) ?_
  refine n_isub X.1 X.2.1 (by omega) dX7_got_52 ?_
  refine mld3 X hW (by omega) dX7_got_53 ?_
  exact hE _ _ _ _ _ (congrArg (D 3) (by omega)) (fun ty hty => by cases hty; exact rfl) hW dX7_got_54

set_option maxHeartbeats 4000000 in
set_option maxRecDepth 100000 in
theorem mt_isUnjoined_1 (l : Launch) {G : va_G} {cI cZ : ClassId} {q : Nat → Nat} (hq : mJ q) (T : mT) (D : mD) (th : Int32) {j : Int32} (h : oN j 2) : mMi l yX7_isUnjoined wsX7_isUnjoined ({ frames := 1, cells := 0, slots := 0, locals := 21 } : Room) G cI cZ q [.int (j)] (T) (D) (th) (nI 1) (T) (D) (nI 1) := by
  refine mstarti (cc := cX7_isUnjoined) (maxL := 2) (ret := (some .boolean)) (by decide) rfl rfl ⟨_, rfl⟩ (Nat.le_of_ble_eq_true rfl) (fun p e s m args below meth c Q hE X hW ls hl => ?_)
  have hl : lv_has ls 2 [(0, .ref (q 0)), (1, .int (j))] := hl
  have hin : ∀ w ∈ wsX70, w ∈ wsX7_isUnjoined := fun w h => List.mem_cons_of_mem _ (List.mem_append_left _ (List.mem_append_right _ (h)))
  refine lv_aload_n X.1 X.2.1 dX7_isUnjoined_0 rfl (lv_at hl 0 rfl) ?_
  refine lv_aload_n X.1 X.2.1 dX7_isUnjoined_1 rfl (lv_at hl 0 rfl) ?_
  refine lv_iload_n X.1 X.2.1 dX7_isUnjoined_2 rfl (lv_at hl 1 rfl) ?_
  refine mcalli hq X hW (mt_isStream_bad l hq (T) (D) (th) (x := j) (h)) (cwV 1 X.2.2.2.2 gX7_isUnjoined_X7_isStream rfl rfl rfl (by decide +kernel) ⟨Nat.le_of_ble_eq_true rfl, Nat.le_of_ble_eq_true rfl⟩) rfl rfl hl.1 (Nat.le_of_ble_eq_true rfl) dX7_isUnjoined_3 ⟨Nat.zero_le _, Nat.zero_le _⟩ (fun H locs hW => ?_)
  refine n_if_ne_f (tgt := 13) X.1 X.2.1 dX7_isUnjoined_6 (by decide) (by decide) (by omega) ?_
  refine lv_iconst (v := nI 1) X.1 X.2.1 dX7_isUnjoined_9 (by decide) ?_
  refine lv_goto (tgt := 27) X.1 X.2.1 dX7_isUnjoined_10 (by decide) ?_
  refine mcalli hq X hW (mt_isWrong_s l hq (T) (D) (th) (n := 1) (by decide) (by decide)) (cwV 1 X.2.2.2.2 gX7_isUnjoined_X7_isWrong rfl rfl rfl (by decide +kernel) ⟨Nat.le_of_ble_eq_true rfl, Nat.le_of_ble_eq_true rfl⟩) rfl rfl hl.1 (Nat.le_of_ble_eq_true rfl) dX7_isUnjoined_27 ⟨Nat.zero_le _, Nat.zero_le _⟩ (fun H locs hW => ?_)
  exact hE _ _ _ _ _ (rfl) (fun ty hty => by cases hty; exact nI_zb (by omega)) hW dX7_isUnjoined_30

set_option maxHeartbeats 4000000 in
set_option maxRecDepth 100000 in
theorem mt_isUnjoined_2 (l : Launch) {G : va_G} {cI cZ : ClassId} {q : Nat → Nat} (hq : mJ q) (T : mT) (D : mD) (th : Int32) {j : Nat} (hj : j < 2) (h : T 13 j = 0) : mMi l yX7_isUnjoined wsX7_isUnjoined ({ frames := 1, cells := 0, slots := 0, locals := 21 } : Room) G cI cZ q [.int (nI (j))] (T) (D) (th) (nI 1) (T) (D) (nI 2) := by
  refine mstarti (cc := cX7_isUnjoined) (maxL := 2) (ret := (some .boolean)) (by decide) rfl rfl ⟨_, rfl⟩ (Nat.le_of_ble_eq_true rfl) (fun p e s m args below meth c Q hE X hW ls hl => ?_)
  have hl : lv_has ls 2 [(0, .ref (q 0)), (1, .int (nI (j)))] := hl
  have hin : ∀ w ∈ wsX70, w ∈ wsX7_isUnjoined := fun w h => List.mem_cons_of_mem _ (List.mem_append_left _ (List.mem_append_right _ (h)))
  refine lv_aload_n X.1 X.2.1 dX7_isUnjoined_0 rfl (lv_at hl 0 rfl) ?_
  refine lv_aload_n X.1 X.2.1 dX7_isUnjoined_1 rfl (lv_at hl 0 rfl) ?_
  refine lv_iload_n X.1 X.2.1 dX7_isUnjoined_2 rfl (lv_at hl 1 rfl) ?_
  refine mcalli hq X hW (mt_isStream_ok l hq (T) (D) (th) (r := j) (by omega)) (cwV 1 X.2.2.2.2 gX7_isUnjoined_X7_isStream rfl rfl rfl (by decide +kernel) ⟨Nat.le_of_ble_eq_true rfl, Nat.le_of_ble_eq_true rfl⟩) rfl rfl hl.1 (Nat.le_of_ble_eq_true rfl) dX7_isUnjoined_3 ⟨Nat.zero_le _, Nat.zero_le _⟩ (fun H locs hW => ?_)
  refine n_if_ne_t (tgt := 13) X.1 X.2.1 dX7_isUnjoined_6 (by decide) (by decide) (by omega) ?_
  refine lv_aload_n X.1 X.2.1 dX7_isUnjoined_13 rfl (lv_at hl 0 rfl) ?_
  refine mget 13 (by decide) rfl X hin hW (X.2.2.2.2 (.fieldLink RX7 50 "StrandbookModel" "parts" "[I") (List.mem_cons_of_mem _ (List.mem_append_left _ (List.mem_append_left _ (List.mem_of_getElem? (i := 0) rfl))))) dX7_isUnjoined_14 ?_
  refine lv_iload_n X.1 X.2.1 dX7_isUnjoined_17 rfl (lv_at hl 1 rfl) ?_
  refine mld13 X hW (by omega) dX7_isUnjoined_18 ?_
  refine n_if_ne_f (tgt := 26) X.1 X.2.1 dX7_isUnjoined_19 (by decide) (h) (by omega) ?_
  refine lv_iconst (v := nI 2) X.1 X.2.1 dX7_isUnjoined_22 (by decide) ?_
  refine lv_goto (tgt := 27) X.1 X.2.1 dX7_isUnjoined_23 (by decide) ?_
  refine mcalli hq X hW (mt_isWrong_s l hq (T) (D) (th) (n := 2) (by decide) (by decide)) (cwV 1 X.2.2.2.2 gX7_isUnjoined_X7_isWrong rfl rfl rfl (by decide +kernel) ⟨Nat.le_of_ble_eq_true rfl, Nat.le_of_ble_eq_true rfl⟩) rfl rfl hl.1 (Nat.le_of_ble_eq_true rfl) dX7_isUnjoined_27 ⟨Nat.zero_le _, Nat.zero_le _⟩ (fun H locs hW => ?_)
  exact hE _ _ _ _ _ (rfl) (fun ty hty => by cases hty; exact nI_zb (by omega)) hW dX7_isUnjoined_30

set_option maxHeartbeats 4000000 in
set_option maxRecDepth 100000 in
theorem mt_isUnjoined_0 (l : Launch) {G : va_G} {cI cZ : ClassId} {q : Nat → Nat} (hq : mJ q) (T : mT) (D : mD) (th : Int32) {j : Nat} (hj : j < 2) (h : T 13 j ≠ 0) (h3 : T 13 j ≤ 3) : mMi l yX7_isUnjoined wsX7_isUnjoined ({ frames := 1, cells := 0, slots := 0, locals := 21 } : Room) G cI cZ q [.int (nI (j))] (T) (D) (th) (nI 0) (T) (D) (nI 0) := by
  refine mstarti (cc := cX7_isUnjoined) (maxL := 2) (ret := (some .boolean)) (by decide) rfl rfl ⟨_, rfl⟩ (Nat.le_of_ble_eq_true rfl) (fun p e s m args below meth c Q hE X hW ls hl => ?_)
  have hl : lv_has ls 2 [(0, .ref (q 0)), (1, .int (nI (j)))] := hl
  have hin : ∀ w ∈ wsX70, w ∈ wsX7_isUnjoined := fun w h => List.mem_cons_of_mem _ (List.mem_append_left _ (List.mem_append_right _ (h)))
  refine lv_aload_n X.1 X.2.1 dX7_isUnjoined_0 rfl (lv_at hl 0 rfl) ?_
  refine lv_aload_n X.1 X.2.1 dX7_isUnjoined_1 rfl (lv_at hl 0 rfl) ?_
  refine lv_iload_n X.1 X.2.1 dX7_isUnjoined_2 rfl (lv_at hl 1 rfl) ?_
  refine mcalli hq X hW (mt_isStream_ok l hq (T) (D) (th) (r := j) (by omega)) (cwV 1 X.2.2.2.2 gX7_isUnjoined_X7_isStream rfl rfl rfl (by decide +kernel) ⟨Nat.le_of_ble_eq_true rfl, Nat.le_of_ble_eq_true rfl⟩) rfl rfl hl.1 (Nat.le_of_ble_eq_true rfl) dX7_isUnjoined_3 ⟨Nat.zero_le _, Nat.zero_le _⟩ (fun H locs hW => ?_)
  refine n_if_ne_t (tgt := 13) X.1 X.2.1 dX7_isUnjoined_6 (by decide) (by decide) (by omega) ?_
  refine lv_aload_n X.1 X.2.1 dX7_isUnjoined_13 rfl (lv_at hl 0 rfl) ?_
  refine mget 13 (by decide) rfl X hin hW (X.2.2.2.2 (.fieldLink RX7 50 "StrandbookModel" "parts" "[I") (List.mem_cons_of_mem _ (List.mem_append_left _ (List.mem_append_left _ (List.mem_of_getElem? (i := 0) rfl))))) dX7_isUnjoined_14 ?_
  refine lv_iload_n X.1 X.2.1 dX7_isUnjoined_17 rfl (lv_at hl 1 rfl) ?_
  refine mld13 X hW (by omega) dX7_isUnjoined_18 ?_
  refine n_if_ne_t (tgt := 26) X.1 X.2.1 dX7_isUnjoined_19 (by decide) (h) (by omega) ?_
  refine lv_iconst (v := nI 0) X.1 X.2.1 dX7_isUnjoined_26 (by decide) ?_
  refine mcalli hq X hW (mt_isWrong_0 l hq (T) (D) (th)) (cwV 1 X.2.2.2.2 gX7_isUnjoined_X7_isWrong rfl rfl rfl (by decide +kernel) ⟨Nat.le_of_ble_eq_true rfl, Nat.le_of_ble_eq_true rfl⟩) rfl rfl hl.1 (Nat.le_of_ble_eq_true rfl) dX7_isUnjoined_27 ⟨Nat.zero_le _, Nat.zero_le _⟩ (fun H locs hW => ?_)
  exact hE _ _ _ _ _ (rfl) (fun ty hty => by cases hty; exact nI_zb (by omega)) hW dX7_isUnjoined_30

set_option maxHeartbeats 4000000 in
set_option maxRecDepth 100000 in
theorem mt_begins (l : Launch) {G : va_G} {cI cZ : ClassId} {q : Nat → Nat} (hq : mJ q) (T : mT) (D : mD) (th : Int32) (hb : ∀ r, r < 4 → T 5 r < 11) {j k r : Nat} (hj : j < 2) (hk : k < 3) (hr : r < 4) : mMv l yX7_begins wsX7_begins ({ frames := 0, cells := 0, slots := 0, locals := 0 } : Room) G cI cZ q [.int (nI (j)), .int (nI (k)), .int (nI (r))] (T) (D) (th) (bgT T j k r) (D) (th) := by
  refine mstartv (cc := cX7_begins) (maxL := 4) (ret := none) (by decide) rfl rfl rfl (Nat.le_of_ble_eq_true rfl) (fun p e s m args below meth c Q hE X hW ls hl => ?_)
  have hl : lv_has ls 4 [(0, .ref (q 0)), (1, .int (nI (j))), (2, .int (nI (k))), (3, .int (nI (r)))] := hl
  have hin : ∀ w ∈ wsX70, w ∈ wsX7_begins := fun w h => List.mem_cons_of_mem _ (List.mem_append_left _ (List.mem_append_right _ (h)))
  have I1 := hb r hr
  refine lv_aload_n X.1 X.2.1 dX7_begins_0 rfl (lv_at hl 0 rfl) ?_
  refine mget 14 (by decide) rfl X hin hW (X.2.2.2.2 (.fieldLink RX7 53 "StrandbookModel" "partRooms" "[I") (List.mem_cons_of_mem _ (List.mem_append_left _ (List.mem_append_left _ (List.mem_of_getElem? (i := 0) rfl))))) dX7_begins_1 ?_
  refine lv_iconst (v := nI 3) X.1 X.2.1 dX7_begins_4 (by decide) ?_
  refine lv_iload_n X.1 X.2.1 dX7_begins_5 rfl (lv_at hl 1 rfl) ?_
  refine n_imul X.1 X.2.1 dX7_begins_6 ?_
  refine lv_iload_n X.1 X.2.1 dX7_begins_7 rfl (lv_at hl 2 rfl) ?_
  refine n_iadd X.1 X.2.1 dX7_begins_8 ?_
  refine lv_aload_n X.1 X.2.1 dX7_begins_9 rfl (lv_at hl 0 rfl) ?_
  refine mget 5 (by decide) rfl X hin hW (X.2.2.2.2 (.fieldLink RX7 25 "StrandbookModel" "byteRooms" "[I") (List.mem_cons_of_mem _ (List.mem_append_left _ (List.mem_append_left _ (List.mem_of_getElem? (i := 1) rfl))))) dX7_begins_10 ?_
  refine lv_iload_n X.1 X.2.1 dX7_begins_13 rfl (lv_at hl 3 rfl) ?_
  refine mld5 X hW (by omega) dX7_begins_14 ?_
  refine mst14_s hq X hW (by omega) dX7_begins_15 (fun H locs hW => ?_)
  refine lv_aload_n X.1 X.2.1 dX7_begins_16 rfl (lv_at hl 0 rfl) ?_
  refine mget 15 (by decide) rfl X hin hW (X.2.2.2.2 (.fieldLink RX7 56 "StrandbookModel" "partPlaces" "[I") (List.mem_cons_of_mem _ (List.mem_append_left _ (List.mem_append_left _ (List.mem_of_getElem? (i := 2) rfl))))) dX7_begins_17 ?_
  refine lv_iconst (v := nI 3) X.1 X.2.1 dX7_begins_20 (by decide) ?_
  refine lv_iload_n X.1 X.2.1 dX7_begins_21 rfl (lv_at hl 1 rfl) ?_
  refine n_imul X.1 X.2.1 dX7_begins_22 ?_
  refine lv_iload_n X.1 X.2.1 dX7_begins_23 rfl (lv_at hl 2 rfl) ?_
  refine n_iadd X.1 X.2.1 dX7_begins_24 ?_
  refine lv_iconst (v := nI 0) X.1 X.2.1 dX7_begins_25 (by decide) ?_
  refine mst15 hq X hW (by omega) dX7_begins_26 (fun H locs hW => ?_)
  refine lv_aload_n X.1 X.2.1 dX7_begins_27 rfl (lv_at hl 0 rfl) ?_
  refine mget 17 (by decide) rfl X hin hW (X.2.2.2.2 (.fieldLink RX7 62 "StrandbookModel" "totals" "[I") (List.mem_cons_of_mem _ (List.mem_append_left _ (List.mem_append_left _ (List.mem_of_getElem? (i := 3) rfl))))) dX7_begins_28 ?_
  refine lv_iload_n X.1 X.2.1 dX7_begins_31 rfl (lv_at hl 1 rfl) ?_
  refine lv_dup2_11 X.1 X.2.1 dX7_begins_32 rfl rfl ?_
  refine mld17 X hW (by omega) dX7_begins_33 ?_
  refine n_cv (y := nI (T 17 (j))) (congrArg nI ((congrFun (u2_ne (by decide)) _).trans (congrFun (u2_ne (by decide)) _))) ?_
  refine lv_aload_n X.1 X.2.1 dX7_begins_34 rfl (lv_at hl 0 rfl) ?_
  refine mget 4 (by decide) rfl X hin hW (X.2.2.2.2 (.fieldLink RX7 22 "StrandbookModel" "byteLengths" "[I") (List.mem_cons_of_mem _ (List.mem_append_left _ (List.mem_append_left _ (List.mem_of_getElem? (i := 4) rfl))))) dX7_begins_35 ?_
  refine lv_aload_n X.1 X.2.1 dX7_begins_38 rfl (lv_at hl 0 rfl) ?_
  refine mget 5 (by decide) rfl X hin hW (X.2.2.2.2 (.fieldLink RX7 25 "StrandbookModel" "byteRooms" "[I") (List.mem_cons_of_mem _ (List.mem_append_left _ (List.mem_append_left _ (List.mem_of_getElem? (i := 1) rfl))))) dX7_begins_39 ?_
  refine lv_iload_n X.1 X.2.1 dX7_begins_42 rfl (lv_at hl 3 rfl) ?_
  refine mld5 X hW (by omega) dX7_begins_43 ?_
  refine n_cv (y := nI (T 5 (r))) (congrArg nI ((congrFun (u2_ne (by decide)) _).trans (congrFun (u2_ne (by decide)) _))) ?_
  refine mld4 X hW (by omega) dX7_begins_44 ?_
  refine n_cv (y := nI (T 4 (T 5 (r)))) (congrArg nI ((congrFun (u2_ne (by decide)) _).trans (congrFun (u2_ne (by decide)) _))) ?_
  refine n_iadd X.1 X.2.1 dX7_begins_45 ?_
  refine mst17 hq X hW (by omega) dX7_begins_46 (fun H locs hW => ?_)
  exact hE _ _ _ _ hW dX7_begins_47

set_option maxHeartbeats 4000000 in
set_option maxRecDepth 100000 in
theorem mt_anew (l : Launch) {G : va_G} {cI cZ : ClassId} {q : Nat → Nat} (hq : mJ q) (T : mT) (D : mD) (th : Int32) {j n : Nat} (hj : j < 2) : mMv l yX7_anew wsX7_anew ({ frames := 0, cells := 0, slots := 0, locals := 0 } : Room) G cI cZ q [.int (nI (j)), .int (nI (n))] (T) (D) (th) (anT T j n) (D) (th) := by
  refine mstartv (cc := cX7_anew) (maxL := 4) (ret := none) (by decide) rfl rfl rfl (Nat.le_of_ble_eq_true rfl) (fun p e s m args below meth c Q hE X hW ls hl => ?_)
  have hl : lv_has ls 4 [(0, .ref (q 0)), (1, .int (nI (j))), (2, .int (nI (n)))] := hl
  have hin : ∀ w ∈ wsX70, w ∈ wsX7_anew := fun w h => List.mem_cons_of_mem _ (List.mem_append_left _ (List.mem_append_right _ (h)))
  refine lv_iconst (v := nI 0) X.1 X.2.1 dX7_anew_0 (by decide) ?_
  refine lv_istore_n (lv' := [(3, .int (nI (0))), (0, .ref (q 0)), (1, .int (nI (j))), (2, .int (nI (n)))]) X.1 X.2.1 dX7_anew_1 rfl hl (by decide) rfl (fun ls hl => ?_)
  have loop2 : ∀ (n2 k2 : Nat), k2 + n2 = 3 → ∀ (H : Heap) (locs : List Loc), mH G cI cZ q (cl3 T j k2) (D) (th) s H locs → ∀ ls : Array Slot, lv_has ls 4 [(0, .ref (q 0)), (1, .int (nI (j))), (2, .int (nI (n))), (3, .int (nI (k2)))] → W p l e ({ frames := 0, cells := 0, slots := 0, locals := 0 } : Room) s m args below meth c H locs 0 0 Q (F0 m 2 ls []) := by
    intro n2
    induction n2 with
    | zero =>
      intro k2 hk2  H locs hW ls hl
      obtain rfl : 3 = k2 := by omega
      refine lv_iload_n X.1 X.2.1 dX7_anew_2 rfl (lv_at hl 3 rfl) ?_
      refine lv_iconst (v := nI 3) X.1 X.2.1 dX7_anew_3 (by decide) ?_
      refine n_icmp_ge_t (tgt := 24) X.1 X.2.1 dX7_anew_4 (by decide) (by omega) (by omega) (by omega) ?_
      refine lv_aload_n X.1 X.2.1 dX7_anew_24 rfl (lv_at hl 0 rfl) ?_
      refine mget 13 (by decide) rfl X hin hW (X.2.2.2.2 (.fieldLink RX7 50 "StrandbookModel" "parts" "[I") (List.mem_cons_of_mem _ (List.mem_append_left _ (List.mem_append_left _ (List.mem_of_getElem? (i := 1) rfl))))) dX7_anew_25 ?_
      refine lv_iload_n X.1 X.2.1 dX7_anew_28 rfl (lv_at hl 1 rfl) ?_
      refine lv_iload_n X.1 X.2.1 dX7_anew_29 rfl (lv_at hl 2 rfl) ?_
      refine mst13 hq X hW (by omega) dX7_anew_30 (fun H locs hW => ?_)
      refine lv_aload_n X.1 X.2.1 dX7_anew_31 rfl (lv_at hl 0 rfl) ?_
      refine mget 16 (by decide) rfl X hin hW (X.2.2.2.2 (.fieldLink RX7 59 "StrandbookModel" "stands" "[I") (List.mem_cons_of_mem _ (List.mem_append_left _ (List.mem_append_left _ (List.mem_of_getElem? (i := 2) rfl))))) dX7_anew_32 ?_
      refine lv_iload_n X.1 X.2.1 dX7_anew_35 rfl (lv_at hl 1 rfl) ?_
      refine lv_iconst (v := nI 0) X.1 X.2.1 dX7_anew_36 (by decide) ?_
      refine mst16 hq X hW (by omega) dX7_anew_37 (fun H locs hW => ?_)
      refine lv_aload_n X.1 X.2.1 dX7_anew_38 rfl (lv_at hl 0 rfl) ?_
      refine mget 17 (by decide) rfl X hin hW (X.2.2.2.2 (.fieldLink RX7 62 "StrandbookModel" "totals" "[I") (List.mem_cons_of_mem _ (List.mem_append_left _ (List.mem_append_left _ (List.mem_of_getElem? (i := 3) rfl))))) dX7_anew_39 ?_
      refine lv_iload_n X.1 X.2.1 dX7_anew_42 rfl (lv_at hl 1 rfl) ?_
      refine lv_iconst (v := nI 0) X.1 X.2.1 dX7_anew_43 (by decide) ?_
      refine mst17 hq X hW (by omega) dX7_anew_44 (fun H locs hW => ?_)
      refine lv_aload_n X.1 X.2.1 dX7_anew_45 rfl (lv_at hl 0 rfl) ?_
      refine mget 18 (by decide) rfl X hin hW (X.2.2.2.2 (.fieldLink RX7 65 "StrandbookModel" "passes" "[I") (List.mem_cons_of_mem _ (List.mem_append_left _ (List.mem_append_left _ (List.mem_of_getElem? (i := 4) rfl))))) dX7_anew_46 ?_
      refine lv_iload_n X.1 X.2.1 dX7_anew_49 rfl (lv_at hl 1 rfl) ?_
      refine lv_iconst (v := nI 0) X.1 X.2.1 dX7_anew_50 (by decide) ?_
      refine mst18 hq X hW (by omega) dX7_anew_51 (fun H locs hW => ?_)
      exact hE _ _ _ _ hW dX7_anew_52
    | succ n2 ih2 =>
      intro k2 hk2  H locs hW ls hl
      refine lv_iload_n X.1 X.2.1 dX7_anew_2 rfl (lv_at hl 3 rfl) ?_
      refine lv_iconst (v := nI 3) X.1 X.2.1 dX7_anew_3 (by decide) ?_
      refine n_icmp_ge_f (tgt := 24) X.1 X.2.1 dX7_anew_4 (by decide) (by omega) (by omega) (by omega) ?_
      refine lv_aload_n X.1 X.2.1 dX7_anew_7 rfl (lv_at hl 0 rfl) ?_
      refine mget 14 (by decide) rfl X hin hW (X.2.2.2.2 (.fieldLink RX7 53 "StrandbookModel" "partRooms" "[I") (List.mem_cons_of_mem _ (List.mem_append_left _ (List.mem_append_left _ (List.mem_of_getElem? (i := 0) rfl))))) dX7_anew_8 ?_
      refine lv_iconst (v := nI 3) X.1 X.2.1 dX7_anew_11 (by decide) ?_
      refine lv_iload_n X.1 X.2.1 dX7_anew_12 rfl (lv_at hl 1 rfl) ?_
      refine n_imul X.1 X.2.1 dX7_anew_13 ?_
      refine lv_iload_n X.1 X.2.1 dX7_anew_14 rfl (lv_at hl 3 rfl) ?_
      refine n_iadd X.1 X.2.1 dX7_anew_15 ?_
      refine lv_iconst (v := -1) X.1 X.2.1 dX7_anew_16 (by decide) ?_
      refine mst14_0 hq X hW (by omega) dX7_anew_17 (fun H locs hW => ?_)
      refine lv_iinc (v := nI (k2 + 1)) (lv' := [(3, .int (nI (k2 + 1))), (0, .ref (q 0)), (1, .int (nI (j))), (2, .int (nI (n)))]) X.1 X.2.1 dX7_anew_18 hl (k := 3) rfl (nI_1 _) (by decide) rfl (fun ls hl => ?_)
      refine lv_goto (tgt := 2) X.1 X.2.1 dX7_anew_21 (by decide) ?_
      exact ih2 (k2 + 1) (by omega) _ _ (hW.eq (rfl) (rfl) rfl) ls (lv_sub hl [1, 2, 3, 0] rfl)
  exact loop2 ((3) - (0)) (0) (by omega) _ _ (hW.eq (rfl) (rfl) rfl) ls (lv_sub hl [1, 2, 3, 0] rfl)

set_option maxHeartbeats 4000000 in
set_option maxRecDepth 100000 in
theorem mt_join_1j (l : Launch) {G : va_G} {cI cZ : ClassId} {q : Nat → Nat} (hq : mJ q) (T : mT) (D : mD) (th : Int32) {j a b : Int32} (h : oN j 2) : mMi l yX7_join wsX7_join ({ frames := 1, cells := 0, slots := 0, locals := 23 } : Room) G cI cZ q [.int (j), .int (a), .int (b)] (T) (D) (th) (nI 0) (T) (D) (nI 1) := by
  refine mstarti (cc := cX7_join) (maxL := 4) (ret := (some .int)) (by decide) rfl rfl ⟨_, rfl⟩ (Nat.le_of_ble_eq_true rfl) (fun p e s m args below meth c Q hE X hW ls hl => ?_)
  have hl : lv_has ls 4 [(0, .ref (q 0)), (1, .int (j)), (2, .int (a)), (3, .int (b))] := hl
  have hin : ∀ w ∈ wsX70, w ∈ wsX7_join := fun w h => List.mem_cons_of_mem _ (List.mem_append_left _ (List.mem_append_right _ (h)))
  refine lv_aload_n X.1 X.2.1 dX7_join_0 rfl (lv_at hl 0 rfl) ?_
  refine lv_aload_n X.1 X.2.1 dX7_join_1 rfl (lv_at hl 0 rfl) ?_
  refine lv_iload_n X.1 X.2.1 dX7_join_2 rfl (lv_at hl 1 rfl) ?_
  refine mcalli hq X hW (mt_isStream_bad l hq (T) (D) (th) (x := j) (h)) (cwV 1 X.2.2.2.2 gX7_join_X7_isStream rfl rfl rfl (by decide +kernel) ⟨Nat.le_of_ble_eq_true rfl, Nat.le_of_ble_eq_true rfl⟩) rfl rfl hl.1 (Nat.le_of_ble_eq_true rfl) dX7_join_3 ⟨Nat.zero_le _, Nat.zero_le _⟩ (fun H locs hW => ?_)
  refine n_if_eq_t (tgt := 29) X.1 X.2.1 dX7_join_6 (by decide) (by decide) (by omega) ?_
  refine lv_iconst (v := nI 1) X.1 X.2.1 dX7_join_29 (by decide) ?_
  refine mcalli hq X hW (mt_isWrong_s l hq (T) (D) (th) (n := 1) (by decide) (by decide)) (cwV 1 X.2.2.2.2 gX7_join_X7_isWrong rfl rfl rfl (by decide +kernel) ⟨Nat.le_of_ble_eq_true rfl, Nat.le_of_ble_eq_true rfl⟩) rfl rfl hl.1 (Nat.le_of_ble_eq_true rfl) dX7_join_30 ⟨Nat.zero_le _, Nat.zero_le _⟩ (fun H locs hW => ?_)
  refine n_if_eq_f (tgt := 38) X.1 X.2.1 dX7_join_33 (by decide) (by decide) (by omega) ?_
  refine lv_iconst (v := nI 0) X.1 X.2.1 dX7_join_36 (by decide) ?_
  exact hE _ _ _ _ _ (rfl) (fun ty hty => by cases hty; exact rfl) hW dX7_join_37

set_option maxHeartbeats 4000000 in
set_option maxRecDepth 100000 in
theorem mt_join_1a (l : Launch) {G : va_G} {cI cZ : ClassId} {q : Nat → Nat} (hq : mJ q) (T : mT) (D : mD) (th : Int32) {j  : Nat} {a b : Int32} (hj : j < 2)  (h : oN a 4) : mMi l yX7_join wsX7_join ({ frames := 1, cells := 0, slots := 0, locals := 23 } : Room) G cI cZ q [.int (nI (j)), .int (a), .int (b)] (T) (D) (th) (nI 0) (T) (D) (nI 1) := by
  refine mstarti (cc := cX7_join) (maxL := 4) (ret := (some .int)) (by decide) rfl rfl ⟨_, rfl⟩ (Nat.le_of_ble_eq_true rfl) (fun p e s m args below meth c Q hE X hW ls hl => ?_)
  have hl : lv_has ls 4 [(0, .ref (q 0)), (1, .int (nI (j))), (2, .int (a)), (3, .int (b))] := hl
  have hin : ∀ w ∈ wsX70, w ∈ wsX7_join := fun w h => List.mem_cons_of_mem _ (List.mem_append_left _ (List.mem_append_right _ (h)))
  refine lv_aload_n X.1 X.2.1 dX7_join_0 rfl (lv_at hl 0 rfl) ?_
  refine lv_aload_n X.1 X.2.1 dX7_join_1 rfl (lv_at hl 0 rfl) ?_
  refine lv_iload_n X.1 X.2.1 dX7_join_2 rfl (lv_at hl 1 rfl) ?_
  refine mcalli hq X hW (mt_isStream_ok l hq (T) (D) (th) (r := j) (by omega)) (cwV 1 X.2.2.2.2 gX7_join_X7_isStream rfl rfl rfl (by decide +kernel) ⟨Nat.le_of_ble_eq_true rfl, Nat.le_of_ble_eq_true rfl⟩) rfl rfl hl.1 (Nat.le_of_ble_eq_true rfl) dX7_join_3 ⟨Nat.zero_le _, Nat.zero_le _⟩ (fun H locs hW => ?_)
  refine n_if_eq_f (tgt := 29) X.1 X.2.1 dX7_join_6 (by decide) (by decide) (by omega) ?_
  refine lv_aload_n X.1 X.2.1 dX7_join_9 rfl (lv_at hl 0 rfl) ?_
  refine lv_iload_n X.1 X.2.1 dX7_join_10 rfl (lv_at hl 2 rfl) ?_
  refine mcalli hq X hW (mt_isRow_bad l hq (T) (D) (th) (x := a) (h)) (cwV 1 X.2.2.2.2 gX7_join_X7_isRow rfl rfl rfl (by decide +kernel) ⟨Nat.le_of_ble_eq_true rfl, Nat.le_of_ble_eq_true rfl⟩) rfl rfl hl.1 (Nat.le_of_ble_eq_true rfl) dX7_join_11 ⟨Nat.zero_le _, Nat.zero_le _⟩ (fun H locs hW => ?_)
  refine n_if_eq_t (tgt := 29) X.1 X.2.1 dX7_join_14 (by decide) (by decide) (by omega) ?_
  refine lv_iconst (v := nI 1) X.1 X.2.1 dX7_join_29 (by decide) ?_
  refine mcalli hq X hW (mt_isWrong_s l hq (T) (D) (th) (n := 1) (by decide) (by decide)) (cwV 1 X.2.2.2.2 gX7_join_X7_isWrong rfl rfl rfl (by decide +kernel) ⟨Nat.le_of_ble_eq_true rfl, Nat.le_of_ble_eq_true rfl⟩) rfl rfl hl.1 (Nat.le_of_ble_eq_true rfl) dX7_join_30 ⟨Nat.zero_le _, Nat.zero_le _⟩ (fun H locs hW => ?_)
  refine n_if_eq_f (tgt := 38) X.1 X.2.1 dX7_join_33 (by decide) (by decide) (by omega) ?_
  refine lv_iconst (v := nI 0) X.1 X.2.1 dX7_join_36 (by decide) ?_
  exact hE _ _ _ _ _ (rfl) (fun ty hty => by cases hty; exact rfl) hW dX7_join_37

set_option maxHeartbeats 4000000 in
set_option maxRecDepth 100000 in
theorem mt_join_1b (l : Launch) {G : va_G} {cI cZ : ClassId} {q : Nat → Nat} (hq : mJ q) (T : mT) (D : mD) (th : Int32) {j a : Nat} {b : Int32} (hj : j < 2) (ha : a < 4) (h : oN b 4) : mMi l yX7_join wsX7_join ({ frames := 1, cells := 0, slots := 0, locals := 23 } : Room) G cI cZ q [.int (nI (j)), .int (nI (a)), .int (b)] (T) (D) (th) (nI 0) (T) (D) (nI 1) := by
  refine mstarti (cc := cX7_join) (maxL := 4) (ret := (some .int)) (by decide) rfl rfl ⟨_, rfl⟩ (Nat.le_of_ble_eq_true rfl) (fun p e s m args below meth c Q hE X hW ls hl => ?_)
  have hl : lv_has ls 4 [(0, .ref (q 0)), (1, .int (nI (j))), (2, .int (nI (a))), (3, .int (b))] := hl
  have hin : ∀ w ∈ wsX70, w ∈ wsX7_join := fun w h => List.mem_cons_of_mem _ (List.mem_append_left _ (List.mem_append_right _ (h)))
  refine lv_aload_n X.1 X.2.1 dX7_join_0 rfl (lv_at hl 0 rfl) ?_
  refine lv_aload_n X.1 X.2.1 dX7_join_1 rfl (lv_at hl 0 rfl) ?_
  refine lv_iload_n X.1 X.2.1 dX7_join_2 rfl (lv_at hl 1 rfl) ?_
  refine mcalli hq X hW (mt_isStream_ok l hq (T) (D) (th) (r := j) (by omega)) (cwV 1 X.2.2.2.2 gX7_join_X7_isStream rfl rfl rfl (by decide +kernel) ⟨Nat.le_of_ble_eq_true rfl, Nat.le_of_ble_eq_true rfl⟩) rfl rfl hl.1 (Nat.le_of_ble_eq_true rfl) dX7_join_3 ⟨Nat.zero_le _, Nat.zero_le _⟩ (fun H locs hW => ?_)
  refine n_if_eq_f (tgt := 29) X.1 X.2.1 dX7_join_6 (by decide) (by decide) (by omega) ?_
  refine lv_aload_n X.1 X.2.1 dX7_join_9 rfl (lv_at hl 0 rfl) ?_
  refine lv_iload_n X.1 X.2.1 dX7_join_10 rfl (lv_at hl 2 rfl) ?_
  refine mcalli hq X hW (mt_isRow_ok l hq (T) (D) (th) (r := a) (by omega)) (cwV 1 X.2.2.2.2 gX7_join_X7_isRow rfl rfl rfl (by decide +kernel) ⟨Nat.le_of_ble_eq_true rfl, Nat.le_of_ble_eq_true rfl⟩) rfl rfl hl.1 (Nat.le_of_ble_eq_true rfl) dX7_join_11 ⟨Nat.zero_le _, Nat.zero_le _⟩ (fun H locs hW => ?_)
  refine n_if_eq_f (tgt := 29) X.1 X.2.1 dX7_join_14 (by decide) (by decide) (by omega) ?_
  refine lv_aload_n X.1 X.2.1 dX7_join_17 rfl (lv_at hl 0 rfl) ?_
  refine lv_iload_n X.1 X.2.1 dX7_join_18 rfl (lv_at hl 3 rfl) ?_
  refine mcalli hq X hW (mt_isRow_bad l hq (T) (D) (th) (x := b) (h)) (cwV 1 X.2.2.2.2 gX7_join_X7_isRow rfl rfl rfl (by decide +kernel) ⟨Nat.le_of_ble_eq_true rfl, Nat.le_of_ble_eq_true rfl⟩) rfl rfl hl.1 (Nat.le_of_ble_eq_true rfl) dX7_join_19 ⟨Nat.zero_le _, Nat.zero_le _⟩ (fun H locs hW => ?_)
  refine n_if_eq_t (tgt := 29) X.1 X.2.1 dX7_join_22 (by decide) (by decide) (by omega) ?_
  refine lv_iconst (v := nI 1) X.1 X.2.1 dX7_join_29 (by decide) ?_
  refine mcalli hq X hW (mt_isWrong_s l hq (T) (D) (th) (n := 1) (by decide) (by decide)) (cwV 1 X.2.2.2.2 gX7_join_X7_isWrong rfl rfl rfl (by decide +kernel) ⟨Nat.le_of_ble_eq_true rfl, Nat.le_of_ble_eq_true rfl⟩) rfl rfl hl.1 (Nat.le_of_ble_eq_true rfl) dX7_join_30 ⟨Nat.zero_le _, Nat.zero_le _⟩ (fun H locs hW => ?_)
  refine n_if_eq_f (tgt := 38) X.1 X.2.1 dX7_join_33 (by decide) (by decide) (by omega) ?_
  refine lv_iconst (v := nI 0) X.1 X.2.1 dX7_join_36 (by decide) ?_
  exact hE _ _ _ _ _ (rfl) (fun ty hty => by cases hty; exact rfl) hW dX7_join_37

set_option maxHeartbeats 4000000 in
set_option maxRecDepth 100000 in
theorem mt_join (l : Launch) {G : va_G} {cI cZ : ClassId} {q : Nat → Nat} (hq : mJ q) (T : mT) (D : mD) (th : Int32) (I : mI T) {j a b : Nat} (hj : j < 2) (ha : a < 4) (hb : b < 4) : mMi l yX7_join wsX7_join ({ frames := 1, cells := 0, slots := 0, locals := 23 } : Room) G cI cZ q [.int (nI (j)), .int (nI (a)), .int (nI (b))] (T) (D) (th) (nI (bL T a + bL T b)) (jn2 T j a b) (D) (nI 0) := by
  refine mstarti (cc := cX7_join) (maxL := 4) (ret := (some .int)) (by decide) rfl rfl ⟨_, rfl⟩ (Nat.le_of_ble_eq_true rfl) (fun p e s m args below meth c Q hE X hW ls hl => ?_)
  have hl : lv_has ls 4 [(0, .ref (q 0)), (1, .int (nI (j))), (2, .int (nI (a))), (3, .int (nI (b)))] := hl
  have hin : ∀ w ∈ wsX70, w ∈ wsX7_join := fun w h => List.mem_cons_of_mem _ (List.mem_append_left _ (List.mem_append_right _ (h)))
  refine lv_aload_n X.1 X.2.1 dX7_join_0 rfl (lv_at hl 0 rfl) ?_
  refine lv_aload_n X.1 X.2.1 dX7_join_1 rfl (lv_at hl 0 rfl) ?_
  refine lv_iload_n X.1 X.2.1 dX7_join_2 rfl (lv_at hl 1 rfl) ?_
  refine mcalli hq X hW (mt_isStream_ok l hq (T) (D) (th) (r := j) (by omega)) (cwV 1 X.2.2.2.2 gX7_join_X7_isStream rfl rfl rfl (by decide +kernel) ⟨Nat.le_of_ble_eq_true rfl, Nat.le_of_ble_eq_true rfl⟩) rfl rfl hl.1 (Nat.le_of_ble_eq_true rfl) dX7_join_3 ⟨Nat.zero_le _, Nat.zero_le _⟩ (fun H locs hW => ?_)
  refine n_if_eq_f (tgt := 29) X.1 X.2.1 dX7_join_6 (by decide) (by decide) (by omega) ?_
  refine lv_aload_n X.1 X.2.1 dX7_join_9 rfl (lv_at hl 0 rfl) ?_
  refine lv_iload_n X.1 X.2.1 dX7_join_10 rfl (lv_at hl 2 rfl) ?_
  refine mcalli hq X hW (mt_isRow_ok l hq (T) (D) (th) (r := a) (by omega)) (cwV 1 X.2.2.2.2 gX7_join_X7_isRow rfl rfl rfl (by decide +kernel) ⟨Nat.le_of_ble_eq_true rfl, Nat.le_of_ble_eq_true rfl⟩) rfl rfl hl.1 (Nat.le_of_ble_eq_true rfl) dX7_join_11 ⟨Nat.zero_le _, Nat.zero_le _⟩ (fun H locs hW => ?_)
  refine n_if_eq_f (tgt := 29) X.1 X.2.1 dX7_join_14 (by decide) (by decide) (by omega) ?_
  refine lv_aload_n X.1 X.2.1 dX7_join_17 rfl (lv_at hl 0 rfl) ?_
  refine lv_iload_n X.1 X.2.1 dX7_join_18 rfl (lv_at hl 3 rfl) ?_
  refine mcalli hq X hW (mt_isRow_ok l hq (T) (D) (th) (r := b) (by omega)) (cwV 1 X.2.2.2.2 gX7_join_X7_isRow rfl rfl rfl (by decide +kernel) ⟨Nat.le_of_ble_eq_true rfl, Nat.le_of_ble_eq_true rfl⟩) rfl rfl hl.1 (Nat.le_of_ble_eq_true rfl) dX7_join_19 ⟨Nat.zero_le _, Nat.zero_le _⟩ (fun H locs hW => ?_)
  refine n_if_eq_f (tgt := 29) X.1 X.2.1 dX7_join_22 (by decide) (by decide) (by omega) ?_
  refine lv_iconst (v := nI 0) X.1 X.2.1 dX7_join_25 (by decide) ?_
  refine lv_goto (tgt := 30) X.1 X.2.1 dX7_join_26 (by decide) ?_
  refine mcalli hq X hW (mt_isWrong_0 l hq (T) (D) (th)) (cwV 1 X.2.2.2.2 gX7_join_X7_isWrong rfl rfl rfl (by decide +kernel) ⟨Nat.le_of_ble_eq_true rfl, Nat.le_of_ble_eq_true rfl⟩) rfl rfl hl.1 (Nat.le_of_ble_eq_true rfl) dX7_join_30 ⟨Nat.zero_le _, Nat.zero_le _⟩ (fun H locs hW => ?_)
  refine n_if_eq_t (tgt := 38) X.1 X.2.1 dX7_join_33 (by decide) (by decide) (by omega) ?_
  refine lv_aload_n X.1 X.2.1 dX7_join_38 rfl (lv_at hl 0 rfl) ?_
  refine lv_iload_n X.1 X.2.1 dX7_join_39 rfl (lv_at hl 1 rfl) ?_
  refine lv_iconst (v := nI 2) X.1 X.2.1 dX7_join_40 (by decide) ?_
  refine mcallv hq X hW (mt_anew l hq (T) (D) (nI 0) (j := j) (n := 2) (by omega)) (cwV 2 X.2.2.2.2 gX7_join_X7_anew rfl rfl rfl (by decide +kernel) ⟨Nat.le_of_ble_eq_true rfl, Nat.le_of_ble_eq_true rfl⟩) rfl rfl hl.1 (Nat.le_of_ble_eq_true rfl) dX7_join_41 ⟨Nat.zero_le _, Nat.zero_le _⟩ (fun H locs hW => ?_)
  refine lv_aload_n X.1 X.2.1 dX7_join_44 rfl (lv_at hl 0 rfl) ?_
  refine lv_iload_n X.1 X.2.1 dX7_join_45 rfl (lv_at hl 1 rfl) ?_
  refine lv_iconst (v := nI 0) X.1 X.2.1 dX7_join_46 (by decide) ?_
  refine lv_iload_n X.1 X.2.1 dX7_join_47 rfl (lv_at hl 2 rfl) ?_
  refine mcallv hq X hW (mt_begins l hq ((anT T j 2)) (D) (nI 0) (fun r hr => by rw [anT_ne (by decide)]; exact I.br hr) (j := j) (k := 0) (r := a) (by omega) (by omega) (by omega)) (cwV 3 X.2.2.2.2 gX7_join_X7_begins rfl rfl rfl (by decide +kernel) ⟨Nat.le_of_ble_eq_true rfl, Nat.le_of_ble_eq_true rfl⟩) rfl rfl hl.1 (Nat.le_of_ble_eq_true rfl) dX7_join_48 ⟨Nat.zero_le _, Nat.zero_le _⟩ (fun H locs hW => ?_)
  refine lv_aload_n X.1 X.2.1 dX7_join_51 rfl (lv_at hl 0 rfl) ?_
  refine lv_iload_n X.1 X.2.1 dX7_join_52 rfl (lv_at hl 1 rfl) ?_
  refine lv_iconst (v := nI 1) X.1 X.2.1 dX7_join_53 (by decide) ?_
  refine lv_iload_n X.1 X.2.1 dX7_join_54 rfl (lv_at hl 3 rfl) ?_
  refine mcallv hq X hW (mt_begins l hq ((bgT (anT T j 2) j 0 a)) (D) (nI 0) (fun r hr => by rw [bgT_ne (by decide) (by decide) (by decide), anT_ne (by decide)]; exact I.br hr) (j := j) (k := 1) (r := b) (by omega) (by omega) (by omega)) (cwV 3 X.2.2.2.2 gX7_join_X7_begins rfl rfl rfl (by decide +kernel) ⟨Nat.le_of_ble_eq_true rfl, Nat.le_of_ble_eq_true rfl⟩) rfl rfl hl.1 (Nat.le_of_ble_eq_true rfl) dX7_join_55 ⟨Nat.zero_le _, Nat.zero_le _⟩ (fun H locs hW => ?_)
  refine lv_aload_n X.1 X.2.1 dX7_join_58 rfl (lv_at hl 0 rfl) ?_
  refine mget 17 (by decide) rfl X hin hW (X.2.2.2.2 (.fieldLink RX7 62 "StrandbookModel" "totals" "[I") (List.mem_cons_of_mem _ (List.mem_append_left _ (List.mem_append_left _ (List.mem_append_left _ (List.mem_of_getElem? (i := 0) rfl)))))) dX7_join_59 ?_
  refine lv_iload_n X.1 X.2.1 dX7_join_62 rfl (lv_at hl 1 rfl) ?_
  refine mld17 X hW (by omega) dX7_join_63 ?_
  refine n_cv (y := nI (bL T a + bL T b)) (congrArg nI (jn2_17)) ?_
  exact hE _ _ _ _ _ (rfl) (fun ty hty => by cases hty; exact rfl) hW dX7_join_64

theorem mo_join (l : Launch) {G : va_G} {cI cZ : ClassId} {q : Nat → Nat} (hq : mJ q) (T : mT) (D : mD) (th : Int32) (I : mI T) (J : mJD D) (j a b : Int32) : mO l yX7_join wsX7_join ({ frames := 1, cells := 0, slots := 0, locals := 23 } : Room) G cI cZ q [.int j, .int a, .int b] T D th (sp_join T D j a b) := by
  by_cases h0 : oN j 2
  · rw [show sp_join T D j a b = no T D 1 from if_pos (Or.inl h0)]; exact mt_join_1j l hq T D th h0
  obtain ⟨j, hj, rfl⟩ := oN_in (by decide) h0
  by_cases ha : oN a 4
  · rw [show sp_join T D (nI j) a b = no T D 1 from if_pos (Or.inr (Or.inl ha))]; exact mt_join_1a l hq T D th hj  ha
  obtain ⟨a, ga, rfl⟩ := oN_in (by decide) ha
  by_cases hb : oN b 4
  · rw [show sp_join T D (nI j) (nI a) b = no T D 1 from if_pos (Or.inr (Or.inr (hb)))]; exact mt_join_1b l hq T D th hj ga hb
  obtain ⟨b, gb, rfl⟩ := oN_in (by decide) hb
  rw [show sp_join T D (nI j) (nI a) (nI b) = (0, nI (bL T a + bL T b), jn2 T j a b, D) from (if_neg (fun z => z.elim h0 (fun z => z.elim ha hb))).trans (by rw [nI_clamp (show j < 2 ^ 31 by omega), nI_clamp (show a < 2 ^ 31 by omega), nI_clamp (show b < 2 ^ 31 by omega)])]
  exact mt_join l hq T D th I hj ga gb

set_option maxHeartbeats 4000000 in
set_option maxRecDepth 100000 in
theorem mt_joinThree_1j (l : Launch) {G : va_G} {cI cZ : ClassId} {q : Nat → Nat} (hq : mJ q) (T : mT) (D : mD) (th : Int32) {j a b d : Int32} {lf : Int32} (h : oN j 2) : mMi l yX7_joinThree wsX7_joinThree ({ frames := 1, cells := 0, slots := 0, locals := 23 } : Room) G cI cZ q [.int (j), .int (a), .int (b), .int (d), .int (lf)] (T) (D) (th) (nI 0) (T) (D) (nI 1) := by
  refine mstarti (cc := cX7_joinThree) (maxL := 6) (ret := (some .int)) (by decide) rfl rfl ⟨_, rfl⟩ (Nat.le_of_ble_eq_true rfl) (fun p e s m args below meth c Q hE X hW ls hl => ?_)
  have hl : lv_has ls 6 [(0, .ref (q 0)), (1, .int (j)), (2, .int (a)), (3, .int (b)), (4, .int (d)), (5, .int (lf))] := hl
  have hin : ∀ w ∈ wsX70, w ∈ wsX7_joinThree := fun w h => List.mem_cons_of_mem _ (List.mem_append_left _ (List.mem_append_right _ (h)))
  refine lv_aload_n X.1 X.2.1 dX7_joinThree_0 rfl (lv_at hl 0 rfl) ?_
  refine lv_aload_n X.1 X.2.1 dX7_joinThree_1 rfl (lv_at hl 0 rfl) ?_
  refine lv_iload_n X.1 X.2.1 dX7_joinThree_2 rfl (lv_at hl 1 rfl) ?_
  refine mcalli hq X hW (mt_isStream_bad l hq (T) (D) (th) (x := j) (h)) (cwV 1 X.2.2.2.2 gX7_joinThree_X7_isStream rfl rfl rfl (by decide +kernel) ⟨Nat.le_of_ble_eq_true rfl, Nat.le_of_ble_eq_true rfl⟩) rfl rfl hl.1 (Nat.le_of_ble_eq_true rfl) dX7_joinThree_3 ⟨Nat.zero_le _, Nat.zero_le _⟩ (fun H locs hW => ?_)
  refine n_if_eq_t (tgt := 38) X.1 X.2.1 dX7_joinThree_6 (by decide) (by decide) (by omega) ?_
  refine lv_iconst (v := nI 1) X.1 X.2.1 dX7_joinThree_38 (by decide) ?_
  refine mcalli hq X hW (mt_isWrong_s l hq (T) (D) (th) (n := 1) (by decide) (by decide)) (cwV 1 X.2.2.2.2 gX7_joinThree_X7_isWrong rfl rfl rfl (by decide +kernel) ⟨Nat.le_of_ble_eq_true rfl, Nat.le_of_ble_eq_true rfl⟩) rfl rfl hl.1 (Nat.le_of_ble_eq_true rfl) dX7_joinThree_39 ⟨Nat.zero_le _, Nat.zero_le _⟩ (fun H locs hW => ?_)
  refine n_if_eq_f (tgt := 47) X.1 X.2.1 dX7_joinThree_42 (by decide) (by decide) (by omega) ?_
  refine lv_iconst (v := nI 0) X.1 X.2.1 dX7_joinThree_45 (by decide) ?_
  exact hE _ _ _ _ _ (rfl) (fun ty hty => by cases hty; exact rfl) hW dX7_joinThree_46

set_option maxHeartbeats 4000000 in
set_option maxRecDepth 100000 in
theorem mt_joinThree_1a (l : Launch) {G : va_G} {cI cZ : ClassId} {q : Nat → Nat} (hq : mJ q) (T : mT) (D : mD) (th : Int32) {j  : Nat} {a b d : Int32} {lf : Int32} (hj : j < 2)  (h : oN a 4) : mMi l yX7_joinThree wsX7_joinThree ({ frames := 1, cells := 0, slots := 0, locals := 23 } : Room) G cI cZ q [.int (nI (j)), .int (a), .int (b), .int (d), .int (lf)] (T) (D) (th) (nI 0) (T) (D) (nI 1) := by
  refine mstarti (cc := cX7_joinThree) (maxL := 6) (ret := (some .int)) (by decide) rfl rfl ⟨_, rfl⟩ (Nat.le_of_ble_eq_true rfl) (fun p e s m args below meth c Q hE X hW ls hl => ?_)
  have hl : lv_has ls 6 [(0, .ref (q 0)), (1, .int (nI (j))), (2, .int (a)), (3, .int (b)), (4, .int (d)), (5, .int (lf))] := hl
  have hin : ∀ w ∈ wsX70, w ∈ wsX7_joinThree := fun w h => List.mem_cons_of_mem _ (List.mem_append_left _ (List.mem_append_right _ (h)))
  refine lv_aload_n X.1 X.2.1 dX7_joinThree_0 rfl (lv_at hl 0 rfl) ?_
  refine lv_aload_n X.1 X.2.1 dX7_joinThree_1 rfl (lv_at hl 0 rfl) ?_
  refine lv_iload_n X.1 X.2.1 dX7_joinThree_2 rfl (lv_at hl 1 rfl) ?_
  refine mcalli hq X hW (mt_isStream_ok l hq (T) (D) (th) (r := j) (by omega)) (cwV 1 X.2.2.2.2 gX7_joinThree_X7_isStream rfl rfl rfl (by decide +kernel) ⟨Nat.le_of_ble_eq_true rfl, Nat.le_of_ble_eq_true rfl⟩) rfl rfl hl.1 (Nat.le_of_ble_eq_true rfl) dX7_joinThree_3 ⟨Nat.zero_le _, Nat.zero_le _⟩ (fun H locs hW => ?_)
  refine n_if_eq_f (tgt := 38) X.1 X.2.1 dX7_joinThree_6 (by decide) (by decide) (by omega) ?_
  refine lv_aload_n X.1 X.2.1 dX7_joinThree_9 rfl (lv_at hl 0 rfl) ?_
  refine lv_iload_n X.1 X.2.1 dX7_joinThree_10 rfl (lv_at hl 2 rfl) ?_
  refine mcalli hq X hW (mt_isRow_bad l hq (T) (D) (th) (x := a) (h)) (cwV 1 X.2.2.2.2 gX7_joinThree_X7_isRow rfl rfl rfl (by decide +kernel) ⟨Nat.le_of_ble_eq_true rfl, Nat.le_of_ble_eq_true rfl⟩) rfl rfl hl.1 (Nat.le_of_ble_eq_true rfl) dX7_joinThree_11 ⟨Nat.zero_le _, Nat.zero_le _⟩ (fun H locs hW => ?_)
  refine n_if_eq_t (tgt := 38) X.1 X.2.1 dX7_joinThree_14 (by decide) (by decide) (by omega) ?_
  refine lv_iconst (v := nI 1) X.1 X.2.1 dX7_joinThree_38 (by decide) ?_
  refine mcalli hq X hW (mt_isWrong_s l hq (T) (D) (th) (n := 1) (by decide) (by decide)) (cwV 1 X.2.2.2.2 gX7_joinThree_X7_isWrong rfl rfl rfl (by decide +kernel) ⟨Nat.le_of_ble_eq_true rfl, Nat.le_of_ble_eq_true rfl⟩) rfl rfl hl.1 (Nat.le_of_ble_eq_true rfl) dX7_joinThree_39 ⟨Nat.zero_le _, Nat.zero_le _⟩ (fun H locs hW => ?_)
  refine n_if_eq_f (tgt := 47) X.1 X.2.1 dX7_joinThree_42 (by decide) (by decide) (by omega) ?_
  refine lv_iconst (v := nI 0) X.1 X.2.1 dX7_joinThree_45 (by decide) ?_
  exact hE _ _ _ _ _ (rfl) (fun ty hty => by cases hty; exact rfl) hW dX7_joinThree_46

set_option maxHeartbeats 4000000 in
set_option maxRecDepth 100000 in
theorem mt_joinThree_1b (l : Launch) {G : va_G} {cI cZ : ClassId} {q : Nat → Nat} (hq : mJ q) (T : mT) (D : mD) (th : Int32) {j a : Nat} {b d : Int32} {lf : Int32} (hj : j < 2) (ha : a < 4) (h : oN b 4) : mMi l yX7_joinThree wsX7_joinThree ({ frames := 1, cells := 0, slots := 0, locals := 23 } : Room) G cI cZ q [.int (nI (j)), .int (nI (a)), .int (b), .int (d), .int (lf)] (T) (D) (th) (nI 0) (T) (D) (nI 1) := by
  refine mstarti (cc := cX7_joinThree) (maxL := 6) (ret := (some .int)) (by decide) rfl rfl ⟨_, rfl⟩ (Nat.le_of_ble_eq_true rfl) (fun p e s m args below meth c Q hE X hW ls hl => ?_)
  have hl : lv_has ls 6 [(0, .ref (q 0)), (1, .int (nI (j))), (2, .int (nI (a))), (3, .int (b)), (4, .int (d)), (5, .int (lf))] := hl
  have hin : ∀ w ∈ wsX70, w ∈ wsX7_joinThree := fun w h => List.mem_cons_of_mem _ (List.mem_append_left _ (List.mem_append_right _ (h)))
  refine lv_aload_n X.1 X.2.1 dX7_joinThree_0 rfl (lv_at hl 0 rfl) ?_
  refine lv_aload_n X.1 X.2.1 dX7_joinThree_1 rfl (lv_at hl 0 rfl) ?_
  refine lv_iload_n X.1 X.2.1 dX7_joinThree_2 rfl (lv_at hl 1 rfl) ?_
  refine mcalli hq X hW (mt_isStream_ok l hq (T) (D) (th) (r := j) (by omega)) (cwV 1 X.2.2.2.2 gX7_joinThree_X7_isStream rfl rfl rfl (by decide +kernel) ⟨Nat.le_of_ble_eq_true rfl, Nat.le_of_ble_eq_true rfl⟩) rfl rfl hl.1 (Nat.le_of_ble_eq_true rfl) dX7_joinThree_3 ⟨Nat.zero_le _, Nat.zero_le _⟩ (fun H locs hW => ?_)
  refine n_if_eq_f (tgt := 38) X.1 X.2.1 dX7_joinThree_6 (by decide) (by decide) (by omega) ?_
  refine lv_aload_n X.1 X.2.1 dX7_joinThree_9 rfl (lv_at hl 0 rfl) ?_
  refine lv_iload_n X.1 X.2.1 dX7_joinThree_10 rfl (lv_at hl 2 rfl) ?_
  refine mcalli hq X hW (mt_isRow_ok l hq (T) (D) (th) (r := a) (by omega)) (cwV 1 X.2.2.2.2 gX7_joinThree_X7_isRow rfl rfl rfl (by decide +kernel) ⟨Nat.le_of_ble_eq_true rfl, Nat.le_of_ble_eq_true rfl⟩) rfl rfl hl.1 (Nat.le_of_ble_eq_true rfl) dX7_joinThree_11 ⟨Nat.zero_le _, Nat.zero_le _⟩ (fun H locs hW => ?_)
  refine n_if_eq_f (tgt := 38) X.1 X.2.1 dX7_joinThree_14 (by decide) (by decide) (by omega) ?_
  refine lv_aload_n X.1 X.2.1 dX7_joinThree_17 rfl (lv_at hl 0 rfl) ?_
  refine lv_iload_n X.1 X.2.1 dX7_joinThree_18 rfl (lv_at hl 3 rfl) ?_
  refine mcalli hq X hW (mt_isRow_bad l hq (T) (D) (th) (x := b) (h)) (cwV 1 X.2.2.2.2 gX7_joinThree_X7_isRow rfl rfl rfl (by decide +kernel) ⟨Nat.le_of_ble_eq_true rfl, Nat.le_of_ble_eq_true rfl⟩) rfl rfl hl.1 (Nat.le_of_ble_eq_true rfl) dX7_joinThree_19 ⟨Nat.zero_le _, Nat.zero_le _⟩ (fun H locs hW => ?_)
  refine n_if_eq_t (tgt := 38) X.1 X.2.1 dX7_joinThree_22 (by decide) (by decide) (by omega) ?_
  refine lv_iconst (v := nI 1) X.1 X.2.1 dX7_joinThree_38 (by decide) ?_
  refine mcalli hq X hW (mt_isWrong_s l hq (T) (D) (th) (n := 1) (by decide) (by decide)) (cwV 1 X.2.2.2.2 gX7_joinThree_X7_isWrong rfl rfl rfl (by decide +kernel) ⟨Nat.le_of_ble_eq_true rfl, Nat.le_of_ble_eq_true rfl⟩) rfl rfl hl.1 (Nat.le_of_ble_eq_true rfl) dX7_joinThree_39 ⟨Nat.zero_le _, Nat.zero_le _⟩ (fun H locs hW => ?_)
  refine n_if_eq_f (tgt := 47) X.1 X.2.1 dX7_joinThree_42 (by decide) (by decide) (by omega) ?_
  refine lv_iconst (v := nI 0) X.1 X.2.1 dX7_joinThree_45 (by decide) ?_
  exact hE _ _ _ _ _ (rfl) (fun ty hty => by cases hty; exact rfl) hW dX7_joinThree_46

set_option maxHeartbeats 4000000 in
set_option maxRecDepth 100000 in
theorem mt_joinThree_1d (l : Launch) {G : va_G} {cI cZ : ClassId} {q : Nat → Nat} (hq : mJ q) (T : mT) (D : mD) (th : Int32) {j a b : Nat} {d : Int32} {lf : Int32} (hj : j < 2) (ha : a < 4) (hb : b < 4) (h : oN d 4) : mMi l yX7_joinThree wsX7_joinThree ({ frames := 1, cells := 0, slots := 0, locals := 23 } : Room) G cI cZ q [.int (nI (j)), .int (nI (a)), .int (nI (b)), .int (d), .int (lf)] (T) (D) (th) (nI 0) (T) (D) (nI 1) := by
  refine mstarti (cc := cX7_joinThree) (maxL := 6) (ret := (some .int)) (by decide) rfl rfl ⟨_, rfl⟩ (Nat.le_of_ble_eq_true rfl) (fun p e s m args below meth c Q hE X hW ls hl => ?_)
  have hl : lv_has ls 6 [(0, .ref (q 0)), (1, .int (nI (j))), (2, .int (nI (a))), (3, .int (nI (b))), (4, .int (d)), (5, .int (lf))] := hl
  have hin : ∀ w ∈ wsX70, w ∈ wsX7_joinThree := fun w h => List.mem_cons_of_mem _ (List.mem_append_left _ (List.mem_append_right _ (h)))
  refine lv_aload_n X.1 X.2.1 dX7_joinThree_0 rfl (lv_at hl 0 rfl) ?_
  refine lv_aload_n X.1 X.2.1 dX7_joinThree_1 rfl (lv_at hl 0 rfl) ?_
  refine lv_iload_n X.1 X.2.1 dX7_joinThree_2 rfl (lv_at hl 1 rfl) ?_
  refine mcalli hq X hW (mt_isStream_ok l hq (T) (D) (th) (r := j) (by omega)) (cwV 1 X.2.2.2.2 gX7_joinThree_X7_isStream rfl rfl rfl (by decide +kernel) ⟨Nat.le_of_ble_eq_true rfl, Nat.le_of_ble_eq_true rfl⟩) rfl rfl hl.1 (Nat.le_of_ble_eq_true rfl) dX7_joinThree_3 ⟨Nat.zero_le _, Nat.zero_le _⟩ (fun H locs hW => ?_)
  refine n_if_eq_f (tgt := 38) X.1 X.2.1 dX7_joinThree_6 (by decide) (by decide) (by omega) ?_
  refine lv_aload_n X.1 X.2.1 dX7_joinThree_9 rfl (lv_at hl 0 rfl) ?_
  refine lv_iload_n X.1 X.2.1 dX7_joinThree_10 rfl (lv_at hl 2 rfl) ?_
  refine mcalli hq X hW (mt_isRow_ok l hq (T) (D) (th) (r := a) (by omega)) (cwV 1 X.2.2.2.2 gX7_joinThree_X7_isRow rfl rfl rfl (by decide +kernel) ⟨Nat.le_of_ble_eq_true rfl, Nat.le_of_ble_eq_true rfl⟩) rfl rfl hl.1 (Nat.le_of_ble_eq_true rfl) dX7_joinThree_11 ⟨Nat.zero_le _, Nat.zero_le _⟩ (fun H locs hW => ?_)
  refine n_if_eq_f (tgt := 38) X.1 X.2.1 dX7_joinThree_14 (by decide) (by decide) (by omega) ?_
  refine lv_aload_n X.1 X.2.1 dX7_joinThree_17 rfl (lv_at hl 0 rfl) ?_
  refine lv_iload_n X.1 X.2.1 dX7_joinThree_18 rfl (lv_at hl 3 rfl) ?_
  refine mcalli hq X hW (mt_isRow_ok l hq (T) (D) (th) (r := b) (by omega)) (cwV 1 X.2.2.2.2 gX7_joinThree_X7_isRow rfl rfl rfl (by decide +kernel) ⟨Nat.le_of_ble_eq_true rfl, Nat.le_of_ble_eq_true rfl⟩) rfl rfl hl.1 (Nat.le_of_ble_eq_true rfl) dX7_joinThree_19 ⟨Nat.zero_le _, Nat.zero_le _⟩ (fun H locs hW => ?_)
  refine n_if_eq_f (tgt := 38) X.1 X.2.1 dX7_joinThree_22 (by decide) (by decide) (by omega) ?_
  refine lv_aload_n X.1 X.2.1 dX7_joinThree_25 rfl (lv_at hl 0 rfl) ?_
  refine lv_iload X.1 X.2.1 dX7_joinThree_26 (lv_at hl 4 rfl) ?_
  refine mcalli hq X hW (mt_isRow_bad l hq (T) (D) (th) (x := d) (h)) (cwV 1 X.2.2.2.2 gX7_joinThree_X7_isRow rfl rfl rfl (by decide +kernel) ⟨Nat.le_of_ble_eq_true rfl, Nat.le_of_ble_eq_true rfl⟩) rfl rfl hl.1 (Nat.le_of_ble_eq_true rfl) dX7_joinThree_28 ⟨Nat.zero_le _, Nat.zero_le _⟩ (fun H locs hW => ?_)
  refine n_if_eq_t (tgt := 38) X.1 X.2.1 dX7_joinThree_31 (by decide) (by decide) (by omega) ?_
  refine lv_iconst (v := nI 1) X.1 X.2.1 dX7_joinThree_38 (by decide) ?_
  refine mcalli hq X hW (mt_isWrong_s l hq (T) (D) (th) (n := 1) (by decide) (by decide)) (cwV 1 X.2.2.2.2 gX7_joinThree_X7_isWrong rfl rfl rfl (by decide +kernel) ⟨Nat.le_of_ble_eq_true rfl, Nat.le_of_ble_eq_true rfl⟩) rfl rfl hl.1 (Nat.le_of_ble_eq_true rfl) dX7_joinThree_39 ⟨Nat.zero_le _, Nat.zero_le _⟩ (fun H locs hW => ?_)
  refine n_if_eq_f (tgt := 47) X.1 X.2.1 dX7_joinThree_42 (by decide) (by decide) (by omega) ?_
  refine lv_iconst (v := nI 0) X.1 X.2.1 dX7_joinThree_45 (by decide) ?_
  exact hE _ _ _ _ _ (rfl) (fun ty hty => by cases hty; exact rfl) hW dX7_joinThree_46

set_option maxHeartbeats 4000000 in
set_option maxRecDepth 100000 in
theorem mt_joinThree (l : Launch) {G : va_G} {cI cZ : ClassId} {q : Nat → Nat} (hq : mJ q) (T : mT) (D : mD) (th : Int32) (I : mI T) {j a b d : Nat} {lf : Int32} (hj : j < 2) (ha : a < 4) (hb : b < 4) (hd : d < 4) : mMi l yX7_joinThree wsX7_joinThree ({ frames := 1, cells := 0, slots := 0, locals := 23 } : Room) G cI cZ q [.int (nI (j)), .int (nI (a)), .int (nI (b)), .int (nI (d)), .int (lf)] (T) (D) (th) (nI (bL T a + bL T b + bL T d)) (jn3 T j a b d) (D) (nI 0) := by
  refine mstarti (cc := cX7_joinThree) (maxL := 6) (ret := (some .int)) (by decide) rfl rfl ⟨_, rfl⟩ (Nat.le_of_ble_eq_true rfl) (fun p e s m args below meth c Q hE X hW ls hl => ?_)
  have hl : lv_has ls 6 [(0, .ref (q 0)), (1, .int (nI (j))), (2, .int (nI (a))), (3, .int (nI (b))), (4, .int (nI (d))), (5, .int (lf))] := hl
  have hin : ∀ w ∈ wsX70, w ∈ wsX7_joinThree := fun w h => List.mem_cons_of_mem _ (List.mem_append_left _ (List.mem_append_right _ (h)))
  refine lv_aload_n X.1 X.2.1 dX7_joinThree_0 rfl (lv_at hl 0 rfl) ?_
  refine lv_aload_n X.1 X.2.1 dX7_joinThree_1 rfl (lv_at hl 0 rfl) ?_
  refine lv_iload_n X.1 X.2.1 dX7_joinThree_2 rfl (lv_at hl 1 rfl) ?_
  refine mcalli hq X hW (mt_isStream_ok l hq (T) (D) (th) (r := j) (by omega)) (cwV 1 X.2.2.2.2 gX7_joinThree_X7_isStream rfl rfl rfl (by decide +kernel) ⟨Nat.le_of_ble_eq_true rfl, Nat.le_of_ble_eq_true rfl⟩) rfl rfl hl.1 (Nat.le_of_ble_eq_true rfl) dX7_joinThree_3 ⟨Nat.zero_le _, Nat.zero_le _⟩ (fun H locs hW => ?_)
  refine n_if_eq_f (tgt := 38) X.1 X.2.1 dX7_joinThree_6 (by decide) (by decide) (by omega) ?_
  refine lv_aload_n X.1 X.2.1 dX7_joinThree_9 rfl (lv_at hl 0 rfl) ?_
  refine lv_iload_n X.1 X.2.1 dX7_joinThree_10 rfl (lv_at hl 2 rfl) ?_
  refine mcalli hq X hW (mt_isRow_ok l hq (T) (D) (th) (r := a) (by omega)) (cwV 1 X.2.2.2.2 gX7_joinThree_X7_isRow rfl rfl rfl (by decide +kernel) ⟨Nat.le_of_ble_eq_true rfl, Nat.le_of_ble_eq_true rfl⟩) rfl rfl hl.1 (Nat.le_of_ble_eq_true rfl) dX7_joinThree_11 ⟨Nat.zero_le _, Nat.zero_le _⟩ (fun H locs hW => ?_)
  refine n_if_eq_f (tgt := 38) X.1 X.2.1 dX7_joinThree_14 (by decide) (by decide) (by omega) ?_
  refine lv_aload_n X.1 X.2.1 dX7_joinThree_17 rfl (lv_at hl 0 rfl) ?_
  refine lv_iload_n X.1 X.2.1 dX7_joinThree_18 rfl (lv_at hl 3 rfl) ?_
  refine mcalli hq X hW (mt_isRow_ok l hq (T) (D) (th) (r := b) (by omega)) (cwV 1 X.2.2.2.2 gX7_joinThree_X7_isRow rfl rfl rfl (by decide +kernel) ⟨Nat.le_of_ble_eq_true rfl, Nat.le_of_ble_eq_true rfl⟩) rfl rfl hl.1 (Nat.le_of_ble_eq_true rfl) dX7_joinThree_19 ⟨Nat.zero_le _, Nat.zero_le _⟩ (fun H locs hW => ?_)
  refine n_if_eq_f (tgt := 38) X.1 X.2.1 dX7_joinThree_22 (by decide) (by decide) (by omega) ?_
  refine lv_aload_n X.1 X.2.1 dX7_joinThree_25 rfl (lv_at hl 0 rfl) ?_
  refine lv_iload X.1 X.2.1 dX7_joinThree_26 (lv_at hl 4 rfl) ?_
  refine mcalli hq X hW (mt_isRow_ok l hq (T) (D) (th) (r := d) (by omega)) (cwV 1 X.2.2.2.2 gX7_joinThree_X7_isRow rfl rfl rfl (by decide +kernel) ⟨Nat.le_of_ble_eq_true rfl, Nat.le_of_ble_eq_true rfl⟩) rfl rfl hl.1 (Nat.le_of_ble_eq_true rfl) dX7_joinThree_28 ⟨Nat.zero_le _, Nat.zero_le _⟩ (fun H locs hW => ?_)
  refine n_if_eq_f (tgt := 38) X.1 X.2.1 dX7_joinThree_31 (by decide) (by decide) (by omega) ?_
  refine lv_iconst (v := nI 0) X.1 X.2.1 dX7_joinThree_34 (by decide) ?_
  refine lv_goto (tgt := 39) X.1 X.2.1 dX7_joinThree_35 (by decide) ?_
  refine mcalli hq X hW (mt_isWrong_0 l hq (T) (D) (th)) (cwV 1 X.2.2.2.2 gX7_joinThree_X7_isWrong rfl rfl rfl (by decide +kernel) ⟨Nat.le_of_ble_eq_true rfl, Nat.le_of_ble_eq_true rfl⟩) rfl rfl hl.1 (Nat.le_of_ble_eq_true rfl) dX7_joinThree_39 ⟨Nat.zero_le _, Nat.zero_le _⟩ (fun H locs hW => ?_)
  refine n_if_eq_t (tgt := 47) X.1 X.2.1 dX7_joinThree_42 (by decide) (by decide) (by omega) ?_
  refine lv_aload_n X.1 X.2.1 dX7_joinThree_47 rfl (lv_at hl 0 rfl) ?_
  refine lv_iload_n X.1 X.2.1 dX7_joinThree_48 rfl (lv_at hl 1 rfl) ?_
  refine lv_iconst (v := nI 3) X.1 X.2.1 dX7_joinThree_49 (by decide) ?_
  refine mcallv hq X hW (mt_anew l hq (T) (D) (nI 0) (j := j) (n := 3) (by omega)) (cwV 2 X.2.2.2.2 gX7_joinThree_X7_anew rfl rfl rfl (by decide +kernel) ⟨Nat.le_of_ble_eq_true rfl, Nat.le_of_ble_eq_true rfl⟩) rfl rfl hl.1 (Nat.le_of_ble_eq_true rfl) dX7_joinThree_50 ⟨Nat.zero_le _, Nat.zero_le _⟩ (fun H locs hW => ?_)
  refine lv_aload_n X.1 X.2.1 dX7_joinThree_53 rfl (lv_at hl 0 rfl) ?_
  refine lv_iload_n X.1 X.2.1 dX7_joinThree_54 rfl (lv_at hl 1 rfl) ?_
  refine lv_iconst (v := nI 0) X.1 X.2.1 dX7_joinThree_55 (by decide) ?_
  refine lv_iload_n X.1 X.2.1 dX7_joinThree_56 rfl (lv_at hl 2 rfl) ?_
  refine mcallv hq X hW (mt_begins l hq ((anT T j 3)) (D) (nI 0) (fun r hr => by rw [anT_ne (by decide)]; exact I.br hr) (j := j) (k := 0) (r := a) (by omega) (by omega) (by omega)) (cwV 3 X.2.2.2.2 gX7_joinThree_X7_begins rfl rfl rfl (by decide +kernel) ⟨Nat.le_of_ble_eq_true rfl, Nat.le_of_ble_eq_true rfl⟩) rfl rfl hl.1 (Nat.le_of_ble_eq_true rfl) dX7_joinThree_57 ⟨Nat.zero_le _, Nat.zero_le _⟩ (fun H locs hW => ?_)
  refine lv_aload_n X.1 X.2.1 dX7_joinThree_60 rfl (lv_at hl 0 rfl) ?_
  refine lv_iload_n X.1 X.2.1 dX7_joinThree_61 rfl (lv_at hl 1 rfl) ?_
  refine lv_iconst (v := nI 1) X.1 X.2.1 dX7_joinThree_62 (by decide) ?_
  refine lv_iload_n X.1 X.2.1 dX7_joinThree_63 rfl (lv_at hl 3 rfl) ?_
  refine mcallv hq X hW (mt_begins l hq ((bgT (anT T j 3) j 0 a)) (D) (nI 0) (fun r hr => by rw [bgT_ne (by decide) (by decide) (by decide), anT_ne (by decide)]; exact I.br hr) (j := j) (k := 1) (r := b) (by omega) (by omega) (by omega)) (cwV 3 X.2.2.2.2 gX7_joinThree_X7_begins rfl rfl rfl (by decide +kernel) ⟨Nat.le_of_ble_eq_true rfl, Nat.le_of_ble_eq_true rfl⟩) rfl rfl hl.1 (Nat.le_of_ble_eq_true rfl) dX7_joinThree_64 ⟨Nat.zero_le _, Nat.zero_le _⟩ (fun H locs hW => ?_)
  refine lv_aload_n X.1 X.2.1 dX7_joinThree_67 rfl (lv_at hl 0 rfl) ?_
  refine lv_iload_n X.1 X.2.1 dX7_joinThree_68 rfl (lv_at hl 1 rfl) ?_
  refine lv_iconst (v := nI 2) X.1 X.2.1 dX7_joinThree_69 (by decide) ?_
  refine lv_iload X.1 X.2.1 dX7_joinThree_70 (lv_at hl 4 rfl) ?_
  refine mcallv hq X hW (mt_begins l hq ((bgT (bgT (anT T j 3) j 0 a) j 1 b)) (D) (nI 0) (fun r hr => by rw [bgT_ne (by decide) (by decide) (by decide), bgT_ne (by decide) (by decide) (by decide), anT_ne (by decide)]; exact I.br hr) (j := j) (k := 2) (r := d) (by omega) (by omega) (by omega)) (cwV 3 X.2.2.2.2 gX7_joinThree_X7_begins rfl rfl rfl (by decide +kernel) ⟨Nat.le_of_ble_eq_true rfl, Nat.le_of_ble_eq_true rfl⟩) rfl rfl hl.1 (Nat.le_of_ble_eq_true rfl) dX7_joinThree_72 ⟨Nat.zero_le _, Nat.zero_le _⟩ (fun H locs hW => ?_)
  refine lv_aload_n X.1 X.2.1 dX7_joinThree_75 rfl (lv_at hl 0 rfl) ?_
  refine mget 17 (by decide) rfl X hin hW (X.2.2.2.2 (.fieldLink RX7 62 "StrandbookModel" "totals" "[I") (List.mem_cons_of_mem _ (List.mem_append_left _ (List.mem_append_left _ (List.mem_append_left _ (List.mem_of_getElem? (i := 0) rfl)))))) dX7_joinThree_76 ?_
  refine lv_iload_n X.1 X.2.1 dX7_joinThree_79 rfl (lv_at hl 1 rfl) ?_
  refine mld17 X hW (by omega) dX7_joinThree_80 ?_
  refine n_cv (y := nI (bL T a + bL T b + bL T d)) (congrArg nI (jn3_17)) ?_
  exact hE _ _ _ _ _ (rfl) (fun ty hty => by cases hty; exact rfl) hW dX7_joinThree_81

theorem mo_joinThree (l : Launch) {G : va_G} {cI cZ : ClassId} {q : Nat → Nat} (hq : mJ q) (T : mT) (D : mD) (th : Int32) (I : mI T) (J : mJD D) (j a b d lf : Int32) : mO l yX7_joinThree wsX7_joinThree ({ frames := 1, cells := 0, slots := 0, locals := 23 } : Room) G cI cZ q [.int j, .int a, .int b, .int d, .int lf] T D th (sp_joinThree T D j a b d) := by
  by_cases h0 : oN j 2
  · rw [show sp_joinThree T D j a b d = no T D 1 from if_pos (Or.inl h0)]; exact mt_joinThree_1j l hq T D th h0
  obtain ⟨j, hj, rfl⟩ := oN_in (by decide) h0
  by_cases ha : oN a 4
  · rw [show sp_joinThree T D (nI j) a b d = no T D 1 from if_pos (Or.inr (Or.inl ha))]; exact mt_joinThree_1a l hq T D th hj  ha
  obtain ⟨a, ga, rfl⟩ := oN_in (by decide) ha
  by_cases hb : oN b 4
  · rw [show sp_joinThree T D (nI j) (nI a) b d = no T D 1 from if_pos (Or.inr (Or.inr (Or.inl hb)))]; exact mt_joinThree_1b l hq T D th hj ga hb
  obtain ⟨b, gb, rfl⟩ := oN_in (by decide) hb
  by_cases hd : oN d 4
  · rw [show sp_joinThree T D (nI j) (nI a) (nI b) d = no T D 1 from if_pos (Or.inr (Or.inr (Or.inr (hd))))]; exact mt_joinThree_1d l hq T D th hj ga gb hd
  obtain ⟨d, gd, rfl⟩ := oN_in (by decide) hd
  rw [show sp_joinThree T D (nI j) (nI a) (nI b) (nI d) = (0, nI (bL T a + bL T b + bL T d), jn3 T j a b d, D) from (if_neg (fun z => z.elim h0 (fun z => z.elim ha (fun z => z.elim hb hd)))).trans (by rw [nI_clamp (show j < 2 ^ 31 by omega), nI_clamp (show a < 2 ^ 31 by omega), nI_clamp (show b < 2 ^ 31 by omega), nI_clamp (show d < 2 ^ 31 by omega)])]
  exact mt_joinThree l hq T D th I hj ga gb gd

set_option maxHeartbeats 4000000 in
set_option maxRecDepth 100000 in
theorem mt_next_1 (l : Launch) {G : va_G} {cI cZ : ClassId} {q : Nat → Nat} (hq : mJ q) (T : mT) (D : mD) (th : Int32) {j : Int32} (h : oN j 2) : mMi l yX7_next wsX7_next ({ frames := 2, cells := 0, slots := 0, locals := 43 } : Room) G cI cZ q [.int (j)] (T) (D) (th) (nI 0) (T) (D) (nI 1) := by
  refine mstarti (cc := cX7_next) (maxL := 2) (ret := (some .int)) (by decide) rfl rfl ⟨_, rfl⟩ (Nat.le_of_ble_eq_true rfl) (fun p e s m args below meth c Q hE X hW ls hl => ?_)
  have hl : lv_has ls 2 [(0, .ref (q 0)), (1, .int (j))] := hl
  have hin : ∀ w ∈ wsX70, w ∈ wsX7_next := fun w h => List.mem_cons_of_mem _ (List.mem_append_left _ (List.mem_append_right _ (h)))
  refine lv_aload_n X.1 X.2.1 dX7_next_0 rfl (lv_at hl 0 rfl) ?_
  refine lv_iload_n X.1 X.2.1 dX7_next_1 rfl (lv_at hl 1 rfl) ?_
  refine mcalli hq X hW (mt_isUnjoined_1 l hq (T) (D) (th) (j := j) h) (cwV 1 X.2.2.2.2 gX7_next_X7_isUnjoined rfl rfl rfl (by decide +kernel) ⟨Nat.le_of_ble_eq_true rfl, Nat.le_of_ble_eq_true rfl⟩) rfl rfl hl.1 (Nat.le_of_ble_eq_true rfl) dX7_next_2 ⟨Nat.zero_le _, Nat.zero_le _⟩ (fun H locs hW => ?_)
  refine n_if_eq_f (tgt := 10) X.1 X.2.1 dX7_next_5 (by decide) (by decide) (by omega) ?_
  refine lv_iconst (v := nI 0) X.1 X.2.1 dX7_next_8 (by decide) ?_
  exact hE _ _ _ _ _ (rfl) (fun ty hty => by cases hty; exact rfl) hW dX7_next_9

set_option maxHeartbeats 4000000 in
set_option maxRecDepth 100000 in
theorem mt_next_2 (l : Launch) {G : va_G} {cI cZ : ClassId} {q : Nat → Nat} (hq : mJ q) (T : mT) (D : mD) (th : Int32) {j : Nat} (hj : j < 2) (h : T 13 j = 0) : mMi l yX7_next wsX7_next ({ frames := 2, cells := 0, slots := 0, locals := 43 } : Room) G cI cZ q [.int (nI (j))] (T) (D) (th) (nI 0) (T) (D) (nI 2) := by
  refine mstarti (cc := cX7_next) (maxL := 2) (ret := (some .int)) (by decide) rfl rfl ⟨_, rfl⟩ (Nat.le_of_ble_eq_true rfl) (fun p e s m args below meth c Q hE X hW ls hl => ?_)
  have hl : lv_has ls 2 [(0, .ref (q 0)), (1, .int (nI (j)))] := hl
  have hin : ∀ w ∈ wsX70, w ∈ wsX7_next := fun w h => List.mem_cons_of_mem _ (List.mem_append_left _ (List.mem_append_right _ (h)))
  refine lv_aload_n X.1 X.2.1 dX7_next_0 rfl (lv_at hl 0 rfl) ?_
  refine lv_iload_n X.1 X.2.1 dX7_next_1 rfl (lv_at hl 1 rfl) ?_
  refine mcalli hq X hW (mt_isUnjoined_2 l hq (T) (D) (th) (j := j) hj h) (cwV 1 X.2.2.2.2 gX7_next_X7_isUnjoined rfl rfl rfl (by decide +kernel) ⟨Nat.le_of_ble_eq_true rfl, Nat.le_of_ble_eq_true rfl⟩) rfl rfl hl.1 (Nat.le_of_ble_eq_true rfl) dX7_next_2 ⟨Nat.zero_le _, Nat.zero_le _⟩ (fun H locs hW => ?_)
  refine n_if_eq_f (tgt := 10) X.1 X.2.1 dX7_next_5 (by decide) (by decide) (by omega) ?_
  refine lv_iconst (v := nI 0) X.1 X.2.1 dX7_next_8 (by decide) ?_
  exact hE _ _ _ _ _ (rfl) (fun ty hty => by cases hty; exact rfl) hW dX7_next_9

set_option maxHeartbeats 4000000 in
set_option maxRecDepth 100000 in
theorem mt_next_g (l : Launch) {G : va_G} {cI cZ : ClassId} {q : Nat → Nat} (hq : mJ q) (T : mT) (D : mD) (th : Int32) (I : mI T) {j : Nat} (hj : j < 2) (h0 : T 13 j ≠ 0) (hw : wnT T j 16 j < wnT T j 13 j) : mMi l yX7_next wsX7_next ({ frames := 2, cells := 0, slots := 0, locals := 43 } : Room) G cI cZ q [.int (nI (j))] (T) (D) (th) (gtD (wnT T j) D j &&& nI 255) (gtT (wnT T j) j) (D) (nI 0) := by
  refine mstarti (cc := cX7_next) (maxL := 2) (ret := (some .int)) (by decide) rfl rfl ⟨_, rfl⟩ (Nat.le_of_ble_eq_true rfl) (fun p e s m args below meth c Q hE X hW ls hl => ?_)
  have hl : lv_has ls 2 [(0, .ref (q 0)), (1, .int (nI (j)))] := hl
  have hin : ∀ w ∈ wsX70, w ∈ wsX7_next := fun w h => List.mem_cons_of_mem _ (List.mem_append_left _ (List.mem_append_right _ (h)))
  refine lv_aload_n X.1 X.2.1 dX7_next_0 rfl (lv_at hl 0 rfl) ?_
  refine lv_iload_n X.1 X.2.1 dX7_next_1 rfl (lv_at hl 1 rfl) ?_
  refine mcalli hq X hW (mt_isUnjoined_0 l hq (T) (D) (th) (j := j) hj h0 (I.stI hj).le) (cwV 1 X.2.2.2.2 gX7_next_X7_isUnjoined rfl rfl rfl (by decide +kernel) ⟨Nat.le_of_ble_eq_true rfl, Nat.le_of_ble_eq_true rfl⟩) rfl rfl hl.1 (Nat.le_of_ble_eq_true rfl) dX7_next_2 ⟨Nat.zero_le _, Nat.zero_le _⟩ (fun H locs hW => ?_)
  refine n_if_eq_t (tgt := 10) X.1 X.2.1 dX7_next_5 (by decide) (by decide) (by omega) ?_
  refine lv_aload_n X.1 X.2.1 dX7_next_10 rfl (lv_at hl 0 rfl) ?_
  refine lv_iload_n X.1 X.2.1 dX7_next_11 rfl (lv_at hl 1 rfl) ?_
  refine mcalli hq X hW (mt_wants_1 l hq (T) (D) (nI 0) (j := j) (I.stI hj) (I.b4) (by omega) (hw)) (cwV 1 X.2.2.2.2 gX7_next_X7_wants rfl rfl rfl (by decide +kernel) ⟨Nat.le_of_ble_eq_true rfl, Nat.le_of_ble_eq_true rfl⟩) rfl rfl hl.1 (Nat.le_of_ble_eq_true rfl) dX7_next_12 ⟨Nat.zero_le _, Nat.zero_le _⟩ (fun H locs hW => ?_)
  refine n_if_eq_f (tgt := 30) X.1 X.2.1 dX7_next_15 (by decide) (by decide) (by omega) ?_
  refine lv_aload_n X.1 X.2.1 dX7_next_18 rfl (lv_at hl 0 rfl) ?_
  refine lv_iload_n X.1 X.2.1 dX7_next_19 rfl (lv_at hl 1 rfl) ?_
  refine mcalli hq X hW (mt_got l hq ((wnT T j)) (D) (nI 0) (j := j) (wnT_st (I.stI hj)) (wnT_b4 I.b4) (by omega) (hw) (wnT_pos (I.stI hj) hw)) (cwV 1 X.2.2.2.2 gX7_next_X7_got rfl rfl rfl (by decide +kernel) ⟨Nat.le_of_ble_eq_true rfl, Nat.le_of_ble_eq_true rfl⟩) rfl rfl hl.1 (Nat.le_of_ble_eq_true rfl) dX7_next_20 ⟨Nat.zero_le _, Nat.zero_le _⟩ (fun H locs hW => ?_)
  refine lv_sipush (v := nI 255) X.1 X.2.1 dX7_next_23 (by decide) ?_
  refine lv_iand X.1 X.2.1 dX7_next_26 ?_
  refine lv_goto (tgt := 31) X.1 X.2.1 dX7_next_27 (by decide) ?_
  exact hE _ _ _ _ _ (rfl) (fun ty hty => by cases hty; exact rfl) hW dX7_next_31

set_option maxHeartbeats 4000000 in
set_option maxRecDepth 100000 in
theorem mt_next_e (l : Launch) {G : va_G} {cI cZ : ClassId} {q : Nat → Nat} (hq : mJ q) (T : mT) (D : mD) (th : Int32) (I : mI T) {j : Nat} (hj : j < 2) (h0 : T 13 j ≠ 0) (hw : ¬ wnT T j 16 j < wnT T j 13 j) : mMi l yX7_next wsX7_next ({ frames := 2, cells := 0, slots := 0, locals := 43 } : Room) G cI cZ q [.int (nI (j))] (T) (D) (th) (-1) (wnT T j) (D) (nI 0) := by
  refine mstarti (cc := cX7_next) (maxL := 2) (ret := (some .int)) (by decide) rfl rfl ⟨_, rfl⟩ (Nat.le_of_ble_eq_true rfl) (fun p e s m args below meth c Q hE X hW ls hl => ?_)
  have hl : lv_has ls 2 [(0, .ref (q 0)), (1, .int (nI (j)))] := hl
  have hin : ∀ w ∈ wsX70, w ∈ wsX7_next := fun w h => List.mem_cons_of_mem _ (List.mem_append_left _ (List.mem_append_right _ (h)))
  refine lv_aload_n X.1 X.2.1 dX7_next_0 rfl (lv_at hl 0 rfl) ?_
  refine lv_iload_n X.1 X.2.1 dX7_next_1 rfl (lv_at hl 1 rfl) ?_
  refine mcalli hq X hW (mt_isUnjoined_0 l hq (T) (D) (th) (j := j) hj h0 (I.stI hj).le) (cwV 1 X.2.2.2.2 gX7_next_X7_isUnjoined rfl rfl rfl (by decide +kernel) ⟨Nat.le_of_ble_eq_true rfl, Nat.le_of_ble_eq_true rfl⟩) rfl rfl hl.1 (Nat.le_of_ble_eq_true rfl) dX7_next_2 ⟨Nat.zero_le _, Nat.zero_le _⟩ (fun H locs hW => ?_)
  refine n_if_eq_t (tgt := 10) X.1 X.2.1 dX7_next_5 (by decide) (by decide) (by omega) ?_
  refine lv_aload_n X.1 X.2.1 dX7_next_10 rfl (lv_at hl 0 rfl) ?_
  refine lv_iload_n X.1 X.2.1 dX7_next_11 rfl (lv_at hl 1 rfl) ?_
  refine mcalli hq X hW (mt_wants_0 l hq (T) (D) (nI 0) (j := j) (I.stI hj) (I.b4) (by omega) (hw)) (cwV 1 X.2.2.2.2 gX7_next_X7_wants rfl rfl rfl (by decide +kernel) ⟨Nat.le_of_ble_eq_true rfl, Nat.le_of_ble_eq_true rfl⟩) rfl rfl hl.1 (Nat.le_of_ble_eq_true rfl) dX7_next_12 ⟨Nat.zero_le _, Nat.zero_le _⟩ (fun H locs hW => ?_)
  refine n_if_eq_t (tgt := 30) X.1 X.2.1 dX7_next_15 (by decide) (by decide) (by omega) ?_
  refine lv_iconst (v := -1) X.1 X.2.1 dX7_next_30 (by decide) ?_
  exact hE _ _ _ _ _ (rfl) (fun ty hty => by cases hty; exact rfl) hW dX7_next_31

theorem mo_next (l : Launch) {G : va_G} {cI cZ : ClassId} {q : Nat → Nat} (hq : mJ q) (T : mT) (D : mD) (th : Int32) (I : mI T) (J : mJD D) (j : Int32) : mO l yX7_next wsX7_next ({ frames := 2, cells := 0, slots := 0, locals := 43 } : Room) G cI cZ q [.int j] T D th (sp_next T D j) := by
  by_cases h1 : oN j 2
  · rw [show sp_next T D j = no T D 1 from if_pos h1]; exact mt_next_1 l hq T D th h1
  · obtain ⟨j, hj, rfl⟩ := oN_in (by decide) h1
    have hc : (nI j).toNatClampNeg = j := nI_clamp (by omega)
    by_cases h2 : T 13 j = 0
    · rw [show sp_next T D (nI j) = no T D 2 from (if_neg h1).trans (if_pos (by rw [hc]; exact h2))]; exact mt_next_2 l hq T D th hj h2
    · rw [show sp_next T D (nI j) = sk_next T D j from (if_neg h1).trans ((if_neg (by rw [hc]; exact h2)).trans (by rw [hc]))]
      by_cases hw : wnT T j 16 j < wnT T j 13 j
      · rw [show sk_next T D j = _ from if_pos hw]; exact mt_next_g l hq T D th I hj h2 hw
      · rw [show sk_next T D j = _ from if_neg hw]; exact mt_next_e l hq T D th I hj h2 hw

set_option maxHeartbeats 4000000 in
set_option maxRecDepth 100000 in
theorem mt_left_1 (l : Launch) {G : va_G} {cI cZ : ClassId} {q : Nat → Nat} (hq : mJ q) (T : mT) (D : mD) (th : Int32) {j : Int32} (h : oN j 2) : mMi l yX7_left wsX7_left ({ frames := 2, cells := 0, slots := 0, locals := 42 } : Room) G cI cZ q [.int (j)] (T) (D) (th) (nI 0) (T) (D) (nI 1) := by
  refine mstarti (cc := cX7_left) (maxL := 2) (ret := (some .int)) (by decide) rfl rfl ⟨_, rfl⟩ (Nat.le_of_ble_eq_true rfl) (fun p e s m args below meth c Q hE X hW ls hl => ?_)
  have hl : lv_has ls 2 [(0, .ref (q 0)), (1, .int (j))] := hl
  have hin : ∀ w ∈ wsX70, w ∈ wsX7_left := fun w h => List.mem_cons_of_mem _ (List.mem_append_left _ (List.mem_append_right _ (h)))
  refine lv_aload_n X.1 X.2.1 dX7_left_0 rfl (lv_at hl 0 rfl) ?_
  refine lv_iload_n X.1 X.2.1 dX7_left_1 rfl (lv_at hl 1 rfl) ?_
  refine mcalli hq X hW (mt_isUnjoined_1 l hq (T) (D) (th) (j := j) h) (cwV 1 X.2.2.2.2 gX7_left_X7_isUnjoined rfl rfl rfl (by decide +kernel) ⟨Nat.le_of_ble_eq_true rfl, Nat.le_of_ble_eq_true rfl⟩) rfl rfl hl.1 (Nat.le_of_ble_eq_true rfl) dX7_left_2 ⟨Nat.zero_le _, Nat.zero_le _⟩ (fun H locs hW => ?_)
  refine n_if_eq_f (tgt := 12) X.1 X.2.1 dX7_left_5 (by decide) (by decide) (by omega) ?_
  refine lv_iconst (v := nI 0) X.1 X.2.1 dX7_left_8 (by decide) ?_
  refine lv_goto (tgt := 17) X.1 X.2.1 dX7_left_9 (by decide) ?_
  exact hE _ _ _ _ _ (rfl) (fun ty hty => by cases hty; exact rfl) hW dX7_left_17

set_option maxHeartbeats 4000000 in
set_option maxRecDepth 100000 in
theorem mt_left_2 (l : Launch) {G : va_G} {cI cZ : ClassId} {q : Nat → Nat} (hq : mJ q) (T : mT) (D : mD) (th : Int32) {j : Nat} (hj : j < 2) (h : T 13 j = 0) : mMi l yX7_left wsX7_left ({ frames := 2, cells := 0, slots := 0, locals := 42 } : Room) G cI cZ q [.int (nI (j))] (T) (D) (th) (nI 0) (T) (D) (nI 2) := by
  refine mstarti (cc := cX7_left) (maxL := 2) (ret := (some .int)) (by decide) rfl rfl ⟨_, rfl⟩ (Nat.le_of_ble_eq_true rfl) (fun p e s m args below meth c Q hE X hW ls hl => ?_)
  have hl : lv_has ls 2 [(0, .ref (q 0)), (1, .int (nI (j)))] := hl
  have hin : ∀ w ∈ wsX70, w ∈ wsX7_left := fun w h => List.mem_cons_of_mem _ (List.mem_append_left _ (List.mem_append_right _ (h)))
  refine lv_aload_n X.1 X.2.1 dX7_left_0 rfl (lv_at hl 0 rfl) ?_
  refine lv_iload_n X.1 X.2.1 dX7_left_1 rfl (lv_at hl 1 rfl) ?_
  refine mcalli hq X hW (mt_isUnjoined_2 l hq (T) (D) (th) (j := j) hj h) (cwV 1 X.2.2.2.2 gX7_left_X7_isUnjoined rfl rfl rfl (by decide +kernel) ⟨Nat.le_of_ble_eq_true rfl, Nat.le_of_ble_eq_true rfl⟩) rfl rfl hl.1 (Nat.le_of_ble_eq_true rfl) dX7_left_2 ⟨Nat.zero_le _, Nat.zero_le _⟩ (fun H locs hW => ?_)
  refine n_if_eq_f (tgt := 12) X.1 X.2.1 dX7_left_5 (by decide) (by decide) (by omega) ?_
  refine lv_iconst (v := nI 0) X.1 X.2.1 dX7_left_8 (by decide) ?_
  refine lv_goto (tgt := 17) X.1 X.2.1 dX7_left_9 (by decide) ?_
  exact hE _ _ _ _ _ (rfl) (fun ty hty => by cases hty; exact rfl) hW dX7_left_17

set_option maxHeartbeats 4000000 in
set_option maxRecDepth 100000 in
theorem mt_left (l : Launch) {G : va_G} {cI cZ : ClassId} {q : Nat → Nat} (hq : mJ q) (T : mT) (D : mD) (th : Int32) (I : mI T) {j : Nat} (hj : j < 2) (h0 : T 13 j ≠ 0) : mMi l yX7_left wsX7_left ({ frames := 2, cells := 0, slots := 0, locals := 42 } : Room) G cI cZ q [.int (nI (j))] (T) (D) (th) (nI (lfN T j)) (T) (D) (nI 0) := by
  refine mstarti (cc := cX7_left) (maxL := 2) (ret := (some .int)) (by decide) rfl rfl ⟨_, rfl⟩ (Nat.le_of_ble_eq_true rfl) (fun p e s m args below meth c Q hE X hW ls hl => ?_)
  have hl : lv_has ls 2 [(0, .ref (q 0)), (1, .int (nI (j)))] := hl
  have hin : ∀ w ∈ wsX70, w ∈ wsX7_left := fun w h => List.mem_cons_of_mem _ (List.mem_append_left _ (List.mem_append_right _ (h)))
  refine lv_aload_n X.1 X.2.1 dX7_left_0 rfl (lv_at hl 0 rfl) ?_
  refine lv_iload_n X.1 X.2.1 dX7_left_1 rfl (lv_at hl 1 rfl) ?_
  refine mcalli hq X hW (mt_isUnjoined_0 l hq (T) (D) (th) (j := j) hj h0 (I.stI hj).le) (cwV 1 X.2.2.2.2 gX7_left_X7_isUnjoined rfl rfl rfl (by decide +kernel) ⟨Nat.le_of_ble_eq_true rfl, Nat.le_of_ble_eq_true rfl⟩) rfl rfl hl.1 (Nat.le_of_ble_eq_true rfl) dX7_left_2 ⟨Nat.zero_le _, Nat.zero_le _⟩ (fun H locs hW => ?_)
  refine n_if_eq_t (tgt := 12) X.1 X.2.1 dX7_left_5 (by decide) (by decide) (by omega) ?_
  refine lv_aload_n X.1 X.2.1 dX7_left_12 rfl (lv_at hl 0 rfl) ?_
  refine lv_iload_n X.1 X.2.1 dX7_left_13 rfl (lv_at hl 1 rfl) ?_
  refine mcalli hq X hW (mt_leftIn l hq (T) (D) (nI 0) (j := j) (I.stI hj) (I.b4) (by omega)) (cwV 1 X.2.2.2.2 gX7_left_X7_leftIn rfl rfl rfl (by decide +kernel) ⟨Nat.le_of_ble_eq_true rfl, Nat.le_of_ble_eq_true rfl⟩) rfl rfl hl.1 (Nat.le_of_ble_eq_true rfl) dX7_left_14 ⟨Nat.zero_le _, Nat.zero_le _⟩ (fun H locs hW => ?_)
  exact hE _ _ _ _ _ (rfl) (fun ty hty => by cases hty; exact rfl) hW dX7_left_17

theorem mo_left (l : Launch) {G : va_G} {cI cZ : ClassId} {q : Nat → Nat} (hq : mJ q) (T : mT) (D : mD) (th : Int32) (I : mI T) (J : mJD D) (j : Int32) : mO l yX7_left wsX7_left ({ frames := 2, cells := 0, slots := 0, locals := 42 } : Room) G cI cZ q [.int j] T D th (sp_left T D j) := by
  by_cases h1 : oN j 2
  · rw [show sp_left T D j = no T D 1 from if_pos h1]; exact mt_left_1 l hq T D th h1
  · obtain ⟨j, hj, rfl⟩ := oN_in (by decide) h1
    have hc : (nI j).toNatClampNeg = j := nI_clamp (by omega)
    by_cases h2 : T 13 j = 0
    · rw [show sp_left T D (nI j) = no T D 2 from (if_neg h1).trans (if_pos (by rw [hc]; exact h2))]; exact mt_left_2 l hq T D th hj h2
    · rw [show sp_left T D (nI j) = (0, nI (lfN T j), T, D) from (if_neg h1).trans ((if_neg (by rw [hc]; exact h2)).trans (by rw [hc]))]
      exact mt_left l hq T D th I hj h2

set_option maxHeartbeats 4000000 in
set_option maxRecDepth 100000 in
theorem mt_isItsArray (l : Launch) {G : va_G} {cI cZ : ClassId} {q : Nat → Nat} (hq : mJ q) (T : mT) (D : mD) (th : Int32) (I : mI T) {j r : Nat} (hj : j < 2) (hr : r < 4) : mMi l yX7_isItsArray wsX7_isItsArray ({ frames := 0, cells := 0, slots := 0, locals := 0 } : Room) G cI cZ q [.int (nI (j)), .int (nI (r))] (T) (D) (th) (nI (itN T j r (T 13 j))) (T) (D) (th) := by
  refine mstarti (cc := cX7_isItsArray) (maxL := 5) (ret := (some .boolean)) (by decide) rfl rfl ⟨_, rfl⟩ (Nat.le_of_ble_eq_true rfl) (fun p e s m args below meth c Q hE X hW ls hl => ?_)
  have hl : lv_has ls 5 [(0, .ref (q 0)), (1, .int (nI (j))), (2, .int (nI (r)))] := hl
  have hin : ∀ w ∈ wsX70, w ∈ wsX7_isItsArray := fun w h => List.mem_cons_of_mem _ (List.mem_append_left _ (List.mem_append_right _ (h)))
  have S := I.stI hj
  have S1 := S.le
  have I1 := I.br hr
  have F9 := itN_le (T := T) (j := j) (r := r) (T 13 j)
  refine lv_iconst (v := nI 0) X.1 X.2.1 dX7_isItsArray_0 (by decide) ?_
  refine lv_istore_n (lv' := [(3, .int (nI (0))), (0, .ref (q 0)), (1, .int (nI (j))), (2, .int (nI (r)))]) X.1 X.2.1 dX7_isItsArray_1 rfl hl (by decide) rfl (fun ls hl => ?_)
  refine lv_iconst (v := nI 0) X.1 X.2.1 dX7_isItsArray_2 (by decide) ?_
  refine lv_istore (lv' := [(4, .int (nI (0))), (3, .int (nI (0))), (0, .ref (q 0)), (1, .int (nI (j))), (2, .int (nI (r)))]) X.1 X.2.1 dX7_isItsArray_3 hl (by decide) rfl (fun ls hl => ?_)
  have loop5 : ∀ (n5 k5 : Nat), k5 + n5 = T 13 j → ∀ (H : Heap) (locs : List Loc), mH G cI cZ q (T) (D) (th) s H locs → ∀ ls : Array Slot, lv_has ls 5 [(0, .ref (q 0)), (1, .int (nI (j))), (2, .int (nI (r))), (3, .int (nI (itN T j r k5))), (4, .int (nI (k5)))] → W p l e ({ frames := 0, cells := 0, slots := 0, locals := 0 } : Room) s m args below meth c H locs 0 0 Q (F0 m 5 ls []) := by
    intro n5
    induction n5 with
    | zero =>
      intro k5 hk5  H locs hW ls hl
      obtain rfl : T 13 j = k5 := by omega
      refine lv_iload X.1 X.2.1 dX7_isItsArray_5 (lv_at hl 4 rfl) ?_
      refine lv_aload_n X.1 X.2.1 dX7_isItsArray_7 rfl (lv_at hl 0 rfl) ?_
      refine mget 13 (by decide) rfl X hin hW (X.2.2.2.2 (.fieldLink RX7 50 "StrandbookModel" "parts" "[I") (List.mem_cons_of_mem _ (List.mem_append_left _ (List.mem_append_left _ (List.mem_of_getElem? (i := 0) rfl))))) dX7_isItsArray_8 ?_
      refine lv_iload_n X.1 X.2.1 dX7_isItsArray_11 rfl (lv_at hl 1 rfl) ?_
      refine mld13 X hW (by omega) dX7_isItsArray_12 ?_
      refine n_icmp_ge_t (tgt := 50) X.1 X.2.1 dX7_isItsArray_13 (by decide) (by omega) (by omega) (by omega) ?_
      refine lv_iload_n X.1 X.2.1 dX7_isItsArray_50 rfl (lv_at hl 3 rfl) ?_
      exact hE _ _ _ _ _ (rfl) (fun ty hty => by cases hty; exact nI_zb (by omega)) hW dX7_isItsArray_51
    | succ n5 ih5 =>
      intro k5 hk5  H locs hW ls hl
      obtain ⟨S4, S5, -⟩ := S.2.2 k5 (by omega)
      have S5 := S5 (by omega)
      have F9 := itN_le (T := T) (j := j) (r := r) k5
      refine lv_iload X.1 X.2.1 dX7_isItsArray_5 (lv_at hl 4 rfl) ?_
      refine lv_aload_n X.1 X.2.1 dX7_isItsArray_7 rfl (lv_at hl 0 rfl) ?_
      refine mget 13 (by decide) rfl X hin hW (X.2.2.2.2 (.fieldLink RX7 50 "StrandbookModel" "parts" "[I") (List.mem_cons_of_mem _ (List.mem_append_left _ (List.mem_append_left _ (List.mem_of_getElem? (i := 0) rfl))))) dX7_isItsArray_8 ?_
      refine lv_iload_n X.1 X.2.1 dX7_isItsArray_11 rfl (lv_at hl 1 rfl) ?_
      refine mld13 X hW (by omega) dX7_isItsArray_12 ?_
      refine n_icmp_ge_f (tgt := 50) X.1 X.2.1 dX7_isItsArray_13 (by decide) (by omega) (by omega) (by omega) ?_
      refine lv_iload_n X.1 X.2.1 dX7_isItsArray_16 rfl (lv_at hl 3 rfl) ?_
      refine lv_aload_n X.1 X.2.1 dX7_isItsArray_17 rfl (lv_at hl 0 rfl) ?_
      refine mget 14 (by decide) rfl X hin hW (X.2.2.2.2 (.fieldLink RX7 53 "StrandbookModel" "partRooms" "[I") (List.mem_cons_of_mem _ (List.mem_append_left _ (List.mem_append_left _ (List.mem_of_getElem? (i := 1) rfl))))) dX7_isItsArray_18 ?_
      refine lv_iconst (v := nI 3) X.1 X.2.1 dX7_isItsArray_21 (by decide) ?_
      refine lv_iload_n X.1 X.2.1 dX7_isItsArray_22 rfl (lv_at hl 1 rfl) ?_
      refine n_imul X.1 X.2.1 dX7_isItsArray_23 ?_
      refine lv_iload X.1 X.2.1 dX7_isItsArray_24 (lv_at hl 4 rfl) ?_
      refine n_iadd X.1 X.2.1 dX7_isItsArray_26 ?_
      refine mld14_s X hW (by omega) (z := T 14 (3 * j + k5) - 1) (by omega) dX7_isItsArray_27 ?_
      refine lv_aload_n X.1 X.2.1 dX7_isItsArray_28 rfl (lv_at hl 0 rfl) ?_
      refine mget 5 (by decide) rfl X hin hW (X.2.2.2.2 (.fieldLink RX7 25 "StrandbookModel" "byteRooms" "[I") (List.mem_cons_of_mem _ (List.mem_append_left _ (List.mem_append_left _ (List.mem_of_getElem? (i := 2) rfl))))) dX7_isItsArray_29 ?_
      refine lv_iload_n X.1 X.2.1 dX7_isItsArray_32 rfl (lv_at hl 2 rfl) ?_
      refine mld5 X hW (by omega) dX7_isItsArray_33 ?_
      rcases Decidable.em (T 14 (3 * j + k5) = T 5 r + 1) with hs | hs
      · have hfa : itN T j r (k5 + 1) = 1 := if_pos hs
        refine n_icmp_ne_f (tgt := 41) X.1 X.2.1 dX7_isItsArray_34 (by decide) (by omega) (by omega) (by omega) ?_
        refine lv_iconst (v := nI 1) X.1 X.2.1 dX7_isItsArray_37 (by decide) ?_
        refine lv_goto (tgt := 42) X.1 X.2.1 dX7_isItsArray_38 (by decide) ?_
        refine lv_ior X.1 X.2.1 dX7_isItsArray_42 ?_
        refine n_cv (y := nI (1)) (nI_or1 F9) ?_
        refine lv_istore_n (lv' := [(3, .int (nI (1))), (0, .ref (q 0)), (1, .int (nI (j))), (2, .int (nI (r))), (4, .int (nI (k5)))]) X.1 X.2.1 dX7_isItsArray_43 rfl hl (by decide) rfl (fun ls hl => ?_)
        refine lv_iinc (v := nI (k5 + 1)) (lv' := [(4, .int (nI (k5 + 1))), (3, .int (nI (1))), (0, .ref (q 0)), (1, .int (nI (j))), (2, .int (nI (r)))]) X.1 X.2.1 dX7_isItsArray_44 hl (k := 4) rfl (nI_1 _) (by decide) rfl (fun ls hl => ?_)
        refine lv_goto (tgt := 5) X.1 X.2.1 dX7_isItsArray_47 (by decide) ?_
        exact ih5 (k5 + 1) (by omega) _ _ (hW.eq (rfl) (rfl) rfl) ls (by have h9 := lv_sub hl [2, 3, 4, 1, 0] rfl; rw [hfa]; exact h9)
      · have hfa : itN T j r (k5 + 1) = itN T j r k5 := if_neg hs
        refine n_icmp_ne_t (tgt := 41) X.1 X.2.1 dX7_isItsArray_34 (by decide) (by omega) (by omega) (by omega) ?_
        refine lv_iconst (v := nI 0) X.1 X.2.1 dX7_isItsArray_41 (by decide) ?_
        refine lv_ior X.1 X.2.1 dX7_isItsArray_42 ?_
        refine n_cv (y := nI (itN T j r k5)) (nI_or0 F9) ?_
        refine lv_istore_n (lv' := [(3, .int (nI (itN T j r k5))), (0, .ref (q 0)), (1, .int (nI (j))), (2, .int (nI (r))), (4, .int (nI (k5)))]) X.1 X.2.1 dX7_isItsArray_43 rfl hl (by decide) rfl (fun ls hl => ?_)
        refine lv_iinc (v := nI (k5 + 1)) (lv' := [(4, .int (nI (k5 + 1))), (3, .int (nI (itN T j r k5))), (0, .ref (q 0)), (1, .int (nI (j))), (2, .int (nI (r)))]) X.1 X.2.1 dX7_isItsArray_44 hl (k := 4) rfl (nI_1 _) (by decide) rfl (fun ls hl => ?_)
        refine lv_goto (tgt := 5) X.1 X.2.1 dX7_isItsArray_47 (by decide) ?_
        exact ih5 (k5 + 1) (by omega) _ _ (hW.eq (rfl) (rfl) rfl) ls (by have h9 := lv_sub hl [2, 3, 4, 1, 0] rfl; rw [hfa]; exact h9)
  exact loop5 ((T 13 j) - (0)) (0) (by omega) _ _ (hW.eq (rfl) (rfl) rfl) ls (lv_sub hl [2, 3, 4, 1, 0] rfl)

set_option maxHeartbeats 4000000 in
set_option maxRecDepth 100000 in
theorem mt_nextPart_1a (l : Launch) {G : va_G} {cI cZ : ClassId} {q : Nat → Nat} (hq : mJ q) (T : mT) (D : mD) (th : Int32) {j row f n : Int32} (h : oN j 2) : mMi l yX7_nextPart wsX7_nextPart ({ frames := 2, cells := 0, slots := 0, locals := 44 } : Room) G cI cZ q [.int (j), .int (row), .int (f), .int (n)] (T) (D) (th) (nI 0) (T) (D) (nI 1) := by
  refine mstarti (cc := cX7_nextPart) (maxL := 8) (ret := (some .int)) (by decide) rfl rfl ⟨_, rfl⟩ (Nat.le_of_ble_eq_true rfl) (fun p e s m args below meth c Q hE X hW ls hl => ?_)
  have hl : lv_has ls 8 [(0, .ref (q 0)), (1, .int (j)), (2, .int (row)), (3, .int (f)), (4, .int (n))] := hl
  have hin : ∀ w ∈ wsX70, w ∈ wsX7_nextPart := fun w h => List.mem_cons_of_mem _ (List.mem_append_left _ (List.mem_append_right _ (h)))
  refine lv_aload_n X.1 X.2.1 dX7_nextPart_0 rfl (lv_at hl 0 rfl) ?_
  refine lv_iload_n X.1 X.2.1 dX7_nextPart_1 rfl (lv_at hl 1 rfl) ?_
  refine mcalli hq X hW (mt_isStream_bad l hq (T) (D) (th) (x := j) (h)) (cwV 1 X.2.2.2.2 gX7_nextPart_X7_isStream rfl rfl rfl (by decide +kernel) ⟨Nat.le_of_ble_eq_true rfl, Nat.le_of_ble_eq_true rfl⟩) rfl rfl hl.1 (Nat.le_of_ble_eq_true rfl) dX7_nextPart_2 ⟨Nat.zero_le _, Nat.zero_le _⟩ (fun H locs hW => ?_)
  refine n_if_eq_t (tgt := 33) X.1 X.2.1 dX7_nextPart_5 (by decide) (by decide) (by omega) ?_
  refine lv_iconst (v := nI 0) X.1 X.2.1 dX7_nextPart_33 (by decide) ?_
  refine lv_istore (lv' := [(5, .int (nI (0))), (0, .ref (q 0)), (1, .int (j)), (2, .int (row)), (3, .int (f)), (4, .int (n))]) X.1 X.2.1 dX7_nextPart_34 hl (by decide) rfl (fun ls hl => ?_)
  refine lv_aload_n X.1 X.2.1 dX7_nextPart_36 rfl (lv_at hl 1 rfl) ?_
  refine lv_iload X.1 X.2.1 dX7_nextPart_37 (lv_at hl 0 rfl) ?_
  refine n_if_eq_t (tgt := 47) X.1 X.2.1 dX7_nextPart_39 (by decide) (by decide) (by omega) ?_
  refine lv_iconst (v := nI 1) X.1 X.2.1 dX7_nextPart_47 (by decide) ?_
  refine lv_goto (tgt := 88) X.1 X.2.1 dX7_nextPart_48 (by decide) ?_
  refine mcalli hq X hW (mt_isWrong_s l hq (T) (D) (th) (n := 1) (by decide) (by decide)) (cwV 1 X.2.2.2.2 gX7_nextPart_X7_isWrong rfl rfl rfl (by decide +kernel) ⟨Nat.le_of_ble_eq_true rfl, Nat.le_of_ble_eq_true rfl⟩) rfl rfl hl.1 (Nat.le_of_ble_eq_true rfl) dX7_nextPart_88 ⟨Nat.zero_le _, Nat.zero_le _⟩ (fun H locs hW => ?_)
  refine n_if_eq_f (tgt := 96) X.1 X.2.1 dX7_nextPart_91 (by decide) (by decide) (by omega) ?_
  refine lv_iconst (v := nI 0) X.1 X.2.1 dX7_nextPart_94 (by decide) ?_
  exact hE _ _ _ _ _ (rfl) (fun ty hty => by cases hty; exact rfl) hW dX7_nextPart_95

set_option maxHeartbeats 4000000 in
set_option maxRecDepth 100000 in
theorem mt_nextPart_1bx (l : Launch) {G : va_G} {cI cZ : ClassId} {q : Nat → Nat} (hq : mJ q) (T : mT) (D : mD) (th : Int32) {j : Nat} {row f n : Int32} (hj : j < 2) (h : oN row 4) (hn : ¬ nI 1 ≤ n) : mMi l yX7_nextPart wsX7_nextPart ({ frames := 2, cells := 0, slots := 0, locals := 44 } : Room) G cI cZ q [.int (nI (j)), .int (row), .int (f), .int (n)] (T) (D) (th) (nI 0) (T) (D) (nI 1) := by
  refine mstarti (cc := cX7_nextPart) (maxL := 8) (ret := (some .int)) (by decide) rfl rfl ⟨_, rfl⟩ (Nat.le_of_ble_eq_true rfl) (fun p e s m args below meth c Q hE X hW ls hl => ?_)
  have hl : lv_has ls 8 [(0, .ref (q 0)), (1, .int (nI (j))), (2, .int (row)), (3, .int (f)), (4, .int (n))] := hl
  have hin : ∀ w ∈ wsX70, w ∈ wsX7_nextPart := fun w h => List.mem_cons_of_mem _ (List.mem_append_left _ (List.mem_append_right _ (h)))
  refine lv_aload_n X.1 X.2.1 dX7_nextPart_0 rfl (lv_at hl 0 rfl) ?_
  refine lv_iload_n X.1 X.2.1 dX7_nextPart_1 rfl (lv_at hl 1 rfl) ?_
  refine mcalli hq X hW (mt_isStream_ok l hq (T) (D) (th) (r := j) (by omega)) (cwV 1 X.2.2.2.2 gX7_nextPart_X7_isStream rfl rfl rfl (by decide +kernel) ⟨Nat.le_of_ble_eq_true rfl, Nat.le_of_ble_eq_true rfl⟩) rfl rfl hl.1 (Nat.le_of_ble_eq_true rfl) dX7_nextPart_2 ⟨Nat.zero_le _, Nat.zero_le _⟩ (fun H locs hW => ?_)
  refine n_if_eq_f (tgt := 33) X.1 X.2.1 dX7_nextPart_5 (by decide) (by decide) (by omega) ?_
  refine lv_aload_n X.1 X.2.1 dX7_nextPart_8 rfl (lv_at hl 0 rfl) ?_
  refine lv_iload_n X.1 X.2.1 dX7_nextPart_9 rfl (lv_at hl 2 rfl) ?_
  refine lv_iload_n X.1 X.2.1 dX7_nextPart_10 rfl (lv_at hl 3 rfl) ?_
  refine lv_iload X.1 X.2.1 dX7_nextPart_11 (lv_at hl 4 rfl) ?_
  refine lv_iconst (v := nI 1) X.1 X.2.1 dX7_nextPart_13 (by decide) ?_
  refine x_icmp_ge_f (tgt := 21) X.1 X.2.1 dX7_nextPart_14 (by decide) (hn) ?_
  refine lv_iconst (v := nI 0) X.1 X.2.1 dX7_nextPart_17 (by decide) ?_
  refine lv_goto (tgt := 23) X.1 X.2.1 dX7_nextPart_18 (by decide) ?_
  refine mcalli hq X hW (mt_isBytePart_b0 l hq T D th (x := row) (y := f) (z := nI 0) h) (cwV 3 X.2.2.2.2 gX7_nextPart_X7_isBytePart rfl rfl rfl (by decide +kernel) ⟨Nat.le_of_ble_eq_true rfl, Nat.le_of_ble_eq_true rfl⟩) rfl rfl hl.1 (Nat.le_of_ble_eq_true rfl) dX7_nextPart_23 ⟨Nat.zero_le _, Nat.zero_le _⟩ (fun H locs hW => ?_)
  refine n_if_eq_t (tgt := 33) X.1 X.2.1 dX7_nextPart_26 (by decide) (by decide) (by omega) ?_
  refine lv_iconst (v := nI 0) X.1 X.2.1 dX7_nextPart_33 (by decide) ?_
  refine lv_istore (lv' := [(5, .int (nI (0))), (0, .ref (q 0)), (1, .int (nI (j))), (2, .int (row)), (3, .int (f)), (4, .int (n))]) X.1 X.2.1 dX7_nextPart_34 hl (by decide) rfl (fun ls hl => ?_)
  refine lv_aload_n X.1 X.2.1 dX7_nextPart_36 rfl (lv_at hl 1 rfl) ?_
  refine lv_iload X.1 X.2.1 dX7_nextPart_37 (lv_at hl 0 rfl) ?_
  refine n_if_eq_t (tgt := 47) X.1 X.2.1 dX7_nextPart_39 (by decide) (by decide) (by omega) ?_
  refine lv_iconst (v := nI 1) X.1 X.2.1 dX7_nextPart_47 (by decide) ?_
  refine lv_goto (tgt := 88) X.1 X.2.1 dX7_nextPart_48 (by decide) ?_
  refine mcalli hq X hW (mt_isWrong_s l hq (T) (D) (th) (n := 1) (by decide) (by decide)) (cwV 1 X.2.2.2.2 gX7_nextPart_X7_isWrong rfl rfl rfl (by decide +kernel) ⟨Nat.le_of_ble_eq_true rfl, Nat.le_of_ble_eq_true rfl⟩) rfl rfl hl.1 (Nat.le_of_ble_eq_true rfl) dX7_nextPart_88 ⟨Nat.zero_le _, Nat.zero_le _⟩ (fun H locs hW => ?_)
  refine n_if_eq_f (tgt := 96) X.1 X.2.1 dX7_nextPart_91 (by decide) (by decide) (by omega) ?_
  refine lv_iconst (v := nI 0) X.1 X.2.1 dX7_nextPart_94 (by decide) ?_
  exact hE _ _ _ _ _ (rfl) (fun ty hty => by cases hty; exact rfl) hW dX7_nextPart_95

set_option maxHeartbeats 4000000 in
set_option maxRecDepth 100000 in
theorem mt_nextPart_1by (l : Launch) {G : va_G} {cI cZ : ClassId} {q : Nat → Nat} (hq : mJ q) (T : mT) (D : mD) (th : Int32) {j : Nat} {row f n : Int32} (hj : j < 2) (h : oN row 4) (hn : nI 1 ≤ n) : mMi l yX7_nextPart wsX7_nextPart ({ frames := 2, cells := 0, slots := 0, locals := 44 } : Room) G cI cZ q [.int (nI (j)), .int (row), .int (f), .int (n)] (T) (D) (th) (nI 0) (T) (D) (nI 1) := by
  refine mstarti (cc := cX7_nextPart) (maxL := 8) (ret := (some .int)) (by decide) rfl rfl ⟨_, rfl⟩ (Nat.le_of_ble_eq_true rfl) (fun p e s m args below meth c Q hE X hW ls hl => ?_)
  have hl : lv_has ls 8 [(0, .ref (q 0)), (1, .int (nI (j))), (2, .int (row)), (3, .int (f)), (4, .int (n))] := hl
  have hin : ∀ w ∈ wsX70, w ∈ wsX7_nextPart := fun w h => List.mem_cons_of_mem _ (List.mem_append_left _ (List.mem_append_right _ (h)))
  refine lv_aload_n X.1 X.2.1 dX7_nextPart_0 rfl (lv_at hl 0 rfl) ?_
  refine lv_iload_n X.1 X.2.1 dX7_nextPart_1 rfl (lv_at hl 1 rfl) ?_
  refine mcalli hq X hW (mt_isStream_ok l hq (T) (D) (th) (r := j) (by omega)) (cwV 1 X.2.2.2.2 gX7_nextPart_X7_isStream rfl rfl rfl (by decide +kernel) ⟨Nat.le_of_ble_eq_true rfl, Nat.le_of_ble_eq_true rfl⟩) rfl rfl hl.1 (Nat.le_of_ble_eq_true rfl) dX7_nextPart_2 ⟨Nat.zero_le _, Nat.zero_le _⟩ (fun H locs hW => ?_)
  refine n_if_eq_f (tgt := 33) X.1 X.2.1 dX7_nextPart_5 (by decide) (by decide) (by omega) ?_
  refine lv_aload_n X.1 X.2.1 dX7_nextPart_8 rfl (lv_at hl 0 rfl) ?_
  refine lv_iload_n X.1 X.2.1 dX7_nextPart_9 rfl (lv_at hl 2 rfl) ?_
  refine lv_iload_n X.1 X.2.1 dX7_nextPart_10 rfl (lv_at hl 3 rfl) ?_
  refine lv_iload X.1 X.2.1 dX7_nextPart_11 (lv_at hl 4 rfl) ?_
  refine lv_iconst (v := nI 1) X.1 X.2.1 dX7_nextPart_13 (by decide) ?_
  refine x_icmp_ge_t (tgt := 21) X.1 X.2.1 dX7_nextPart_14 (by decide) (hn) ?_
  refine lv_iload X.1 X.2.1 dX7_nextPart_21 (lv_at hl 4 rfl) ?_
  refine mcalli hq X hW (mt_isBytePart_b0 l hq T D th (x := row) (y := f) (z := n) h) (cwV 3 X.2.2.2.2 gX7_nextPart_X7_isBytePart rfl rfl rfl (by decide +kernel) ⟨Nat.le_of_ble_eq_true rfl, Nat.le_of_ble_eq_true rfl⟩) rfl rfl hl.1 (Nat.le_of_ble_eq_true rfl) dX7_nextPart_23 ⟨Nat.zero_le _, Nat.zero_le _⟩ (fun H locs hW => ?_)
  refine n_if_eq_t (tgt := 33) X.1 X.2.1 dX7_nextPart_26 (by decide) (by decide) (by omega) ?_
  refine lv_iconst (v := nI 0) X.1 X.2.1 dX7_nextPart_33 (by decide) ?_
  refine lv_istore (lv' := [(5, .int (nI (0))), (0, .ref (q 0)), (1, .int (nI (j))), (2, .int (row)), (3, .int (f)), (4, .int (n))]) X.1 X.2.1 dX7_nextPart_34 hl (by decide) rfl (fun ls hl => ?_)
  refine lv_aload_n X.1 X.2.1 dX7_nextPart_36 rfl (lv_at hl 1 rfl) ?_
  refine lv_iload X.1 X.2.1 dX7_nextPart_37 (lv_at hl 0 rfl) ?_
  refine n_if_eq_t (tgt := 47) X.1 X.2.1 dX7_nextPart_39 (by decide) (by decide) (by omega) ?_
  refine lv_iconst (v := nI 1) X.1 X.2.1 dX7_nextPart_47 (by decide) ?_
  refine lv_goto (tgt := 88) X.1 X.2.1 dX7_nextPart_48 (by decide) ?_
  refine mcalli hq X hW (mt_isWrong_s l hq (T) (D) (th) (n := 1) (by decide) (by decide)) (cwV 1 X.2.2.2.2 gX7_nextPart_X7_isWrong rfl rfl rfl (by decide +kernel) ⟨Nat.le_of_ble_eq_true rfl, Nat.le_of_ble_eq_true rfl⟩) rfl rfl hl.1 (Nat.le_of_ble_eq_true rfl) dX7_nextPart_88 ⟨Nat.zero_le _, Nat.zero_le _⟩ (fun H locs hW => ?_)
  refine n_if_eq_f (tgt := 96) X.1 X.2.1 dX7_nextPart_91 (by decide) (by decide) (by omega) ?_
  refine lv_iconst (v := nI 0) X.1 X.2.1 dX7_nextPart_94 (by decide) ?_
  exact hE _ _ _ _ _ (rfl) (fun ty hty => by cases hty; exact rfl) hW dX7_nextPart_95

set_option maxHeartbeats 4000000 in
set_option maxRecDepth 100000 in
theorem mt_nextPart_1c (l : Launch) {G : va_G} {cI cZ : ClassId} {q : Nat → Nat} (hq : mJ q) (T : mT) (D : mD) (th : Int32) (I : mI T) {j r : Nat} {f n : Int32} (hj : j < 2) (hr : r < 4) (hn : nI 1 ≤ n) (h : oP (T 4 (T 5 r)) f n) : mMi l yX7_nextPart wsX7_nextPart ({ frames := 2, cells := 0, slots := 0, locals := 44 } : Room) G cI cZ q [.int (nI (j)), .int (nI (r)), .int (f), .int (n)] (T) (D) (th) (nI 0) (T) (D) (nI 1) := by
  refine mstarti (cc := cX7_nextPart) (maxL := 8) (ret := (some .int)) (by decide) rfl rfl ⟨_, rfl⟩ (Nat.le_of_ble_eq_true rfl) (fun p e s m args below meth c Q hE X hW ls hl => ?_)
  have hl : lv_has ls 8 [(0, .ref (q 0)), (1, .int (nI (j))), (2, .int (nI (r))), (3, .int (f)), (4, .int (n))] := hl
  have hin : ∀ w ∈ wsX70, w ∈ wsX7_nextPart := fun w h => List.mem_cons_of_mem _ (List.mem_append_left _ (List.mem_append_right _ (h)))
  refine lv_aload_n X.1 X.2.1 dX7_nextPart_0 rfl (lv_at hl 0 rfl) ?_
  refine lv_iload_n X.1 X.2.1 dX7_nextPart_1 rfl (lv_at hl 1 rfl) ?_
  refine mcalli hq X hW (mt_isStream_ok l hq (T) (D) (th) (r := j) (by omega)) (cwV 1 X.2.2.2.2 gX7_nextPart_X7_isStream rfl rfl rfl (by decide +kernel) ⟨Nat.le_of_ble_eq_true rfl, Nat.le_of_ble_eq_true rfl⟩) rfl rfl hl.1 (Nat.le_of_ble_eq_true rfl) dX7_nextPart_2 ⟨Nat.zero_le _, Nat.zero_le _⟩ (fun H locs hW => ?_)
  refine n_if_eq_f (tgt := 33) X.1 X.2.1 dX7_nextPart_5 (by decide) (by decide) (by omega) ?_
  refine lv_aload_n X.1 X.2.1 dX7_nextPart_8 rfl (lv_at hl 0 rfl) ?_
  refine lv_iload_n X.1 X.2.1 dX7_nextPart_9 rfl (lv_at hl 2 rfl) ?_
  refine lv_iload_n X.1 X.2.1 dX7_nextPart_10 rfl (lv_at hl 3 rfl) ?_
  refine lv_iload X.1 X.2.1 dX7_nextPart_11 (lv_at hl 4 rfl) ?_
  refine lv_iconst (v := nI 1) X.1 X.2.1 dX7_nextPart_13 (by decide) ?_
  refine x_icmp_ge_t (tgt := 21) X.1 X.2.1 dX7_nextPart_14 (by decide) (hn) ?_
  refine lv_iload X.1 X.2.1 dX7_nextPart_21 (lv_at hl 4 rfl) ?_
  refine mcalli hq X hW (mt_isBytePart_bad l hq T D th I (r := r) hr h) (cwV 3 X.2.2.2.2 gX7_nextPart_X7_isBytePart rfl rfl rfl (by decide +kernel) ⟨Nat.le_of_ble_eq_true rfl, Nat.le_of_ble_eq_true rfl⟩) rfl rfl hl.1 (Nat.le_of_ble_eq_true rfl) dX7_nextPart_23 ⟨Nat.zero_le _, Nat.zero_le _⟩ (fun H locs hW => ?_)
  refine n_if_eq_t (tgt := 33) X.1 X.2.1 dX7_nextPart_26 (by decide) (by decide) (by omega) ?_
  refine lv_iconst (v := nI 0) X.1 X.2.1 dX7_nextPart_33 (by decide) ?_
  refine lv_istore (lv' := [(5, .int (nI (0))), (0, .ref (q 0)), (1, .int (nI (j))), (2, .int (nI (r))), (3, .int (f)), (4, .int (n))]) X.1 X.2.1 dX7_nextPart_34 hl (by decide) rfl (fun ls hl => ?_)
  refine lv_aload_n X.1 X.2.1 dX7_nextPart_36 rfl (lv_at hl 1 rfl) ?_
  refine lv_iload X.1 X.2.1 dX7_nextPart_37 (lv_at hl 0 rfl) ?_
  refine n_if_eq_t (tgt := 47) X.1 X.2.1 dX7_nextPart_39 (by decide) (by decide) (by omega) ?_
  refine lv_iconst (v := nI 1) X.1 X.2.1 dX7_nextPart_47 (by decide) ?_
  refine lv_goto (tgt := 88) X.1 X.2.1 dX7_nextPart_48 (by decide) ?_
  refine mcalli hq X hW (mt_isWrong_s l hq (T) (D) (th) (n := 1) (by decide) (by decide)) (cwV 1 X.2.2.2.2 gX7_nextPart_X7_isWrong rfl rfl rfl (by decide +kernel) ⟨Nat.le_of_ble_eq_true rfl, Nat.le_of_ble_eq_true rfl⟩) rfl rfl hl.1 (Nat.le_of_ble_eq_true rfl) dX7_nextPart_88 ⟨Nat.zero_le _, Nat.zero_le _⟩ (fun H locs hW => ?_)
  refine n_if_eq_f (tgt := 96) X.1 X.2.1 dX7_nextPart_91 (by decide) (by decide) (by omega) ?_
  refine lv_iconst (v := nI 0) X.1 X.2.1 dX7_nextPart_94 (by decide) ?_
  exact hE _ _ _ _ _ (rfl) (fun ty hty => by cases hty; exact rfl) hW dX7_nextPart_95

set_option maxHeartbeats 4000000 in
set_option maxRecDepth 100000 in
theorem mt_nextPart_1d (l : Launch) {G : va_G} {cI cZ : ClassId} {q : Nat → Nat} (hq : mJ q) (T : mT) (D : mD) (th : Int32) (I : mI T) {j r : Nat} {f n : Int32} (hj : j < 2) (hr : r < 4) (hn : ¬ nI 1 ≤ n) (h : oP (T 4 (T 5 r)) f (nI 0)) : mMi l yX7_nextPart wsX7_nextPart ({ frames := 2, cells := 0, slots := 0, locals := 44 } : Room) G cI cZ q [.int (nI (j)), .int (nI (r)), .int (f), .int (n)] (T) (D) (th) (nI 0) (T) (D) (nI 1) := by
  refine mstarti (cc := cX7_nextPart) (maxL := 8) (ret := (some .int)) (by decide) rfl rfl ⟨_, rfl⟩ (Nat.le_of_ble_eq_true rfl) (fun p e s m args below meth c Q hE X hW ls hl => ?_)
  have hl : lv_has ls 8 [(0, .ref (q 0)), (1, .int (nI (j))), (2, .int (nI (r))), (3, .int (f)), (4, .int (n))] := hl
  have hin : ∀ w ∈ wsX70, w ∈ wsX7_nextPart := fun w h => List.mem_cons_of_mem _ (List.mem_append_left _ (List.mem_append_right _ (h)))
  refine lv_aload_n X.1 X.2.1 dX7_nextPart_0 rfl (lv_at hl 0 rfl) ?_
  refine lv_iload_n X.1 X.2.1 dX7_nextPart_1 rfl (lv_at hl 1 rfl) ?_
  refine mcalli hq X hW (mt_isStream_ok l hq (T) (D) (th) (r := j) (by omega)) (cwV 1 X.2.2.2.2 gX7_nextPart_X7_isStream rfl rfl rfl (by decide +kernel) ⟨Nat.le_of_ble_eq_true rfl, Nat.le_of_ble_eq_true rfl⟩) rfl rfl hl.1 (Nat.le_of_ble_eq_true rfl) dX7_nextPart_2 ⟨Nat.zero_le _, Nat.zero_le _⟩ (fun H locs hW => ?_)
  refine n_if_eq_f (tgt := 33) X.1 X.2.1 dX7_nextPart_5 (by decide) (by decide) (by omega) ?_
  refine lv_aload_n X.1 X.2.1 dX7_nextPart_8 rfl (lv_at hl 0 rfl) ?_
  refine lv_iload_n X.1 X.2.1 dX7_nextPart_9 rfl (lv_at hl 2 rfl) ?_
  refine lv_iload_n X.1 X.2.1 dX7_nextPart_10 rfl (lv_at hl 3 rfl) ?_
  refine lv_iload X.1 X.2.1 dX7_nextPart_11 (lv_at hl 4 rfl) ?_
  refine lv_iconst (v := nI 1) X.1 X.2.1 dX7_nextPart_13 (by decide) ?_
  refine x_icmp_ge_f (tgt := 21) X.1 X.2.1 dX7_nextPart_14 (by decide) (hn) ?_
  refine lv_iconst (v := nI 0) X.1 X.2.1 dX7_nextPart_17 (by decide) ?_
  refine lv_goto (tgt := 23) X.1 X.2.1 dX7_nextPart_18 (by decide) ?_
  refine mcalli hq X hW (mt_isBytePart_bad l hq T D th I (r := r) hr h) (cwV 3 X.2.2.2.2 gX7_nextPart_X7_isBytePart rfl rfl rfl (by decide +kernel) ⟨Nat.le_of_ble_eq_true rfl, Nat.le_of_ble_eq_true rfl⟩) rfl rfl hl.1 (Nat.le_of_ble_eq_true rfl) dX7_nextPart_23 ⟨Nat.zero_le _, Nat.zero_le _⟩ (fun H locs hW => ?_)
  refine n_if_eq_t (tgt := 33) X.1 X.2.1 dX7_nextPart_26 (by decide) (by decide) (by omega) ?_
  refine lv_iconst (v := nI 0) X.1 X.2.1 dX7_nextPart_33 (by decide) ?_
  refine lv_istore (lv' := [(5, .int (nI (0))), (0, .ref (q 0)), (1, .int (nI (j))), (2, .int (nI (r))), (3, .int (f)), (4, .int (n))]) X.1 X.2.1 dX7_nextPart_34 hl (by decide) rfl (fun ls hl => ?_)
  refine lv_aload_n X.1 X.2.1 dX7_nextPart_36 rfl (lv_at hl 1 rfl) ?_
  refine lv_iload X.1 X.2.1 dX7_nextPart_37 (lv_at hl 0 rfl) ?_
  refine n_if_eq_t (tgt := 47) X.1 X.2.1 dX7_nextPart_39 (by decide) (by decide) (by omega) ?_
  refine lv_iconst (v := nI 1) X.1 X.2.1 dX7_nextPart_47 (by decide) ?_
  refine lv_goto (tgt := 88) X.1 X.2.1 dX7_nextPart_48 (by decide) ?_
  refine mcalli hq X hW (mt_isWrong_s l hq (T) (D) (th) (n := 1) (by decide) (by decide)) (cwV 1 X.2.2.2.2 gX7_nextPart_X7_isWrong rfl rfl rfl (by decide +kernel) ⟨Nat.le_of_ble_eq_true rfl, Nat.le_of_ble_eq_true rfl⟩) rfl rfl hl.1 (Nat.le_of_ble_eq_true rfl) dX7_nextPart_88 ⟨Nat.zero_le _, Nat.zero_le _⟩ (fun H locs hW => ?_)
  refine n_if_eq_f (tgt := 96) X.1 X.2.1 dX7_nextPart_91 (by decide) (by decide) (by omega) ?_
  refine lv_iconst (v := nI 0) X.1 X.2.1 dX7_nextPart_94 (by decide) ?_
  exact hE _ _ _ _ _ (rfl) (fun ty hty => by cases hty; exact rfl) hW dX7_nextPart_95

set_option maxHeartbeats 4000000 in
set_option maxRecDepth 100000 in
theorem mt_nextPart_1e (l : Launch) {G : va_G} {cI cZ : ClassId} {q : Nat → Nat} (hq : mJ q) (T : mT) (D : mD) (th : Int32) (I : mI T) {j r f : Nat} {n : Int32} (hj : j < 2) (hr : r < 4) (hf : f ≤ T 4 (T 5 r)) (hn : ¬ nI 1 ≤ n) (h : n < 0) : mMi l yX7_nextPart wsX7_nextPart ({ frames := 2, cells := 0, slots := 0, locals := 44 } : Room) G cI cZ q [.int (nI (j)), .int (nI (r)), .int (nI (f)), .int (n)] (T) (D) (th) (nI 0) (T) (D) (nI 1) := by
  refine mstarti (cc := cX7_nextPart) (maxL := 8) (ret := (some .int)) (by decide) rfl rfl ⟨_, rfl⟩ (Nat.le_of_ble_eq_true rfl) (fun p e s m args below meth c Q hE X hW ls hl => ?_)
  have hl : lv_has ls 8 [(0, .ref (q 0)), (1, .int (nI (j))), (2, .int (nI (r))), (3, .int (nI (f))), (4, .int (n))] := hl
  have hin : ∀ w ∈ wsX70, w ∈ wsX7_nextPart := fun w h => List.mem_cons_of_mem _ (List.mem_append_left _ (List.mem_append_right _ (h)))
  have I2 := I.br hr
  have I3 := I.bl I2
  refine lv_aload_n X.1 X.2.1 dX7_nextPart_0 rfl (lv_at hl 0 rfl) ?_
  refine lv_iload_n X.1 X.2.1 dX7_nextPart_1 rfl (lv_at hl 1 rfl) ?_
  refine mcalli hq X hW (mt_isStream_ok l hq (T) (D) (th) (r := j) (by omega)) (cwV 1 X.2.2.2.2 gX7_nextPart_X7_isStream rfl rfl rfl (by decide +kernel) ⟨Nat.le_of_ble_eq_true rfl, Nat.le_of_ble_eq_true rfl⟩) rfl rfl hl.1 (Nat.le_of_ble_eq_true rfl) dX7_nextPart_2 ⟨Nat.zero_le _, Nat.zero_le _⟩ (fun H locs hW => ?_)
  refine n_if_eq_f (tgt := 33) X.1 X.2.1 dX7_nextPart_5 (by decide) (by decide) (by omega) ?_
  refine lv_aload_n X.1 X.2.1 dX7_nextPart_8 rfl (lv_at hl 0 rfl) ?_
  refine lv_iload_n X.1 X.2.1 dX7_nextPart_9 rfl (lv_at hl 2 rfl) ?_
  refine lv_iload_n X.1 X.2.1 dX7_nextPart_10 rfl (lv_at hl 3 rfl) ?_
  refine lv_iload X.1 X.2.1 dX7_nextPart_11 (lv_at hl 4 rfl) ?_
  refine lv_iconst (v := nI 1) X.1 X.2.1 dX7_nextPart_13 (by decide) ?_
  refine x_icmp_ge_f (tgt := 21) X.1 X.2.1 dX7_nextPart_14 (by decide) (hn) ?_
  refine lv_iconst (v := nI 0) X.1 X.2.1 dX7_nextPart_17 (by decide) ?_
  refine lv_goto (tgt := 23) X.1 X.2.1 dX7_nextPart_18 (by decide) ?_
  refine mcalli hq X hW (mt_isBytePart_ok l hq T D th I (r := r) (f := f) (n := 0) hr (by omega)) (cwV 3 X.2.2.2.2 gX7_nextPart_X7_isBytePart rfl rfl rfl (by decide +kernel) ⟨Nat.le_of_ble_eq_true rfl, Nat.le_of_ble_eq_true rfl⟩) rfl rfl hl.1 (Nat.le_of_ble_eq_true rfl) dX7_nextPart_23 ⟨Nat.zero_le _, Nat.zero_le _⟩ (fun H locs hW => ?_)
  refine n_if_eq_f (tgt := 33) X.1 X.2.1 dX7_nextPart_26 (by decide) (by decide) (by omega) ?_
  refine lv_iconst (v := nI 1) X.1 X.2.1 dX7_nextPart_29 (by decide) ?_
  refine lv_goto (tgt := 34) X.1 X.2.1 dX7_nextPart_30 (by decide) ?_
  refine lv_istore (lv' := [(5, .int (nI (1))), (0, .ref (q 0)), (1, .int (nI (j))), (2, .int (nI (r))), (3, .int (nI (f))), (4, .int (n))]) X.1 X.2.1 dX7_nextPart_34 hl (by decide) rfl (fun ls hl => ?_)
  refine lv_aload_n X.1 X.2.1 dX7_nextPart_36 rfl (lv_at hl 1 rfl) ?_
  refine lv_iload X.1 X.2.1 dX7_nextPart_37 (lv_at hl 0 rfl) ?_
  refine n_if_eq_f (tgt := 47) X.1 X.2.1 dX7_nextPart_39 (by decide) (by decide) (by omega) ?_
  refine lv_iload X.1 X.2.1 dX7_nextPart_42 (lv_at hl 5 rfl) ?_
  refine x_if_ge_f (tgt := 51) X.1 X.2.1 dX7_nextPart_44 (by decide) (fun z => absurd h (Int32.not_lt.mpr z)) ?_
  refine lv_iconst (v := nI 1) X.1 X.2.1 dX7_nextPart_47 (by decide) ?_
  refine lv_goto (tgt := 88) X.1 X.2.1 dX7_nextPart_48 (by decide) ?_
  refine mcalli hq X hW (mt_isWrong_s l hq (T) (D) (th) (n := 1) (by decide) (by decide)) (cwV 1 X.2.2.2.2 gX7_nextPart_X7_isWrong rfl rfl rfl (by decide +kernel) ⟨Nat.le_of_ble_eq_true rfl, Nat.le_of_ble_eq_true rfl⟩) rfl rfl hl.1 (Nat.le_of_ble_eq_true rfl) dX7_nextPart_88 ⟨Nat.zero_le _, Nat.zero_le _⟩ (fun H locs hW => ?_)
  refine n_if_eq_f (tgt := 96) X.1 X.2.1 dX7_nextPart_91 (by decide) (by decide) (by omega) ?_
  refine lv_iconst (v := nI 0) X.1 X.2.1 dX7_nextPart_94 (by decide) ?_
  exact hE _ _ _ _ _ (rfl) (fun ty hty => by cases hty; exact rfl) hW dX7_nextPart_95

set_option maxHeartbeats 4000000 in
set_option maxRecDepth 100000 in
theorem mt_nextPart_2 (l : Launch) {G : va_G} {cI cZ : ClassId} {q : Nat → Nat} (hq : mJ q) (T : mT) (D : mD) (th : Int32) (I : mI T) {j r f : Nat} (hj : j < 2) (hr : r < 4) (hf : f ≤ T 4 (T 5 r)) : mMi l yX7_nextPart wsX7_nextPart ({ frames := 2, cells := 0, slots := 0, locals := 44 } : Room) G cI cZ q [.int (nI (j)), .int (nI (r)), .int (nI (f)), .int (nI (0))] (T) (D) (th) (nI 0) (T) (D) (nI 2) := by
  refine mstarti (cc := cX7_nextPart) (maxL := 8) (ret := (some .int)) (by decide) rfl rfl ⟨_, rfl⟩ (Nat.le_of_ble_eq_true rfl) (fun p e s m args below meth c Q hE X hW ls hl => ?_)
  have hl : lv_has ls 8 [(0, .ref (q 0)), (1, .int (nI (j))), (2, .int (nI (r))), (3, .int (nI (f))), (4, .int (nI (0)))] := hl
  have hin : ∀ w ∈ wsX70, w ∈ wsX7_nextPart := fun w h => List.mem_cons_of_mem _ (List.mem_append_left _ (List.mem_append_right _ (h)))
  have I2 := I.br hr
  have I3 := I.bl I2
  refine lv_aload_n X.1 X.2.1 dX7_nextPart_0 rfl (lv_at hl 0 rfl) ?_
  refine lv_iload_n X.1 X.2.1 dX7_nextPart_1 rfl (lv_at hl 1 rfl) ?_
  refine mcalli hq X hW (mt_isStream_ok l hq (T) (D) (th) (r := j) (by omega)) (cwV 1 X.2.2.2.2 gX7_nextPart_X7_isStream rfl rfl rfl (by decide +kernel) ⟨Nat.le_of_ble_eq_true rfl, Nat.le_of_ble_eq_true rfl⟩) rfl rfl hl.1 (Nat.le_of_ble_eq_true rfl) dX7_nextPart_2 ⟨Nat.zero_le _, Nat.zero_le _⟩ (fun H locs hW => ?_)
  refine n_if_eq_f (tgt := 33) X.1 X.2.1 dX7_nextPart_5 (by decide) (by decide) (by omega) ?_
  refine lv_aload_n X.1 X.2.1 dX7_nextPart_8 rfl (lv_at hl 0 rfl) ?_
  refine lv_iload_n X.1 X.2.1 dX7_nextPart_9 rfl (lv_at hl 2 rfl) ?_
  refine lv_iload_n X.1 X.2.1 dX7_nextPart_10 rfl (lv_at hl 3 rfl) ?_
  refine lv_iload X.1 X.2.1 dX7_nextPart_11 (lv_at hl 4 rfl) ?_
  refine lv_iconst (v := nI 1) X.1 X.2.1 dX7_nextPart_13 (by decide) ?_
  refine n_icmp_ge_f (tgt := 21) X.1 X.2.1 dX7_nextPart_14 (by decide) (by decide) (by omega) (by omega) ?_
  refine lv_iconst (v := nI 0) X.1 X.2.1 dX7_nextPart_17 (by decide) ?_
  refine lv_goto (tgt := 23) X.1 X.2.1 dX7_nextPart_18 (by decide) ?_
  refine mcalli hq X hW (mt_isBytePart_ok l hq (T) (D) (th) I (r := r) (f := f) (n := 0) (by omega) (by omega)) (cwV 3 X.2.2.2.2 gX7_nextPart_X7_isBytePart rfl rfl rfl (by decide +kernel) ⟨Nat.le_of_ble_eq_true rfl, Nat.le_of_ble_eq_true rfl⟩) rfl rfl hl.1 (Nat.le_of_ble_eq_true rfl) dX7_nextPart_23 ⟨Nat.zero_le _, Nat.zero_le _⟩ (fun H locs hW => ?_)
  refine n_if_eq_f (tgt := 33) X.1 X.2.1 dX7_nextPart_26 (by decide) (by decide) (by omega) ?_
  refine lv_iconst (v := nI 1) X.1 X.2.1 dX7_nextPart_29 (by decide) ?_
  refine lv_goto (tgt := 34) X.1 X.2.1 dX7_nextPart_30 (by decide) ?_
  refine lv_istore (lv' := [(5, .int (nI (1))), (0, .ref (q 0)), (1, .int (nI (j))), (2, .int (nI (r))), (3, .int (nI (f))), (4, .int (nI (0)))]) X.1 X.2.1 dX7_nextPart_34 hl (by decide) rfl (fun ls hl => ?_)
  refine lv_aload_n X.1 X.2.1 dX7_nextPart_36 rfl (lv_at hl 1 rfl) ?_
  refine lv_iload X.1 X.2.1 dX7_nextPart_37 (lv_at hl 0 rfl) ?_
  refine n_if_eq_f (tgt := 47) X.1 X.2.1 dX7_nextPart_39 (by decide) (by decide) (by omega) ?_
  refine lv_iload X.1 X.2.1 dX7_nextPart_42 (lv_at hl 5 rfl) ?_
  refine n_if_ge_t (tgt := 51) X.1 X.2.1 dX7_nextPart_44 (by decide) (by omega) ?_
  refine lv_iload X.1 X.2.1 dX7_nextPart_51 (lv_at hl 5 rfl) ?_
  refine lv_iconst (v := nI 1) X.1 X.2.1 dX7_nextPart_53 (by decide) ?_
  refine n_icmp_ge_f (tgt := 61) X.1 X.2.1 dX7_nextPart_54 (by decide) (by decide) (by omega) (by omega) ?_
  refine lv_iconst (v := nI 2) X.1 X.2.1 dX7_nextPart_57 (by decide) ?_
  refine lv_goto (tgt := 88) X.1 X.2.1 dX7_nextPart_58 (by decide) ?_
  refine mcalli hq X hW (mt_isWrong_s l hq (T) (D) (th) (n := 2) (by decide) (by decide)) (cwV 1 X.2.2.2.2 gX7_nextPart_X7_isWrong rfl rfl rfl (by decide +kernel) ⟨Nat.le_of_ble_eq_true rfl, Nat.le_of_ble_eq_true rfl⟩) rfl rfl hl.1 (Nat.le_of_ble_eq_true rfl) dX7_nextPart_88 ⟨Nat.zero_le _, Nat.zero_le _⟩ (fun H locs hW => ?_)
  refine n_if_eq_f (tgt := 96) X.1 X.2.1 dX7_nextPart_91 (by decide) (by decide) (by omega) ?_
  refine lv_iconst (v := nI 0) X.1 X.2.1 dX7_nextPart_94 (by decide) ?_
  exact hE _ _ _ _ _ (rfl) (fun ty hty => by cases hty; exact rfl) hW dX7_nextPart_95

set_option maxHeartbeats 4000000 in
set_option maxRecDepth 100000 in
theorem mt_nextPart_3 (l : Launch) {G : va_G} {cI cZ : ClassId} {q : Nat → Nat} (hq : mJ q) (T : mT) (D : mD) (th : Int32) (I : mI T) {j r f n : Nat} (hj : j < 2) (hr : r < 4) (hf : f + n ≤ T 4 (T 5 r)) (hn : n ≠ 0) (h0 : T 13 j = 0) : mMi l yX7_nextPart wsX7_nextPart ({ frames := 2, cells := 0, slots := 0, locals := 44 } : Room) G cI cZ q [.int (nI (j)), .int (nI (r)), .int (nI (f)), .int (nI (n))] (T) (D) (th) (nI 0) (T) (D) (nI 3) := by
  refine mstarti (cc := cX7_nextPart) (maxL := 8) (ret := (some .int)) (by decide) rfl rfl ⟨_, rfl⟩ (Nat.le_of_ble_eq_true rfl) (fun p e s m args below meth c Q hE X hW ls hl => ?_)
  have hl : lv_has ls 8 [(0, .ref (q 0)), (1, .int (nI (j))), (2, .int (nI (r))), (3, .int (nI (f))), (4, .int (nI (n)))] := hl
  have hin : ∀ w ∈ wsX70, w ∈ wsX7_nextPart := fun w h => List.mem_cons_of_mem _ (List.mem_append_left _ (List.mem_append_right _ (h)))
  have I2 := I.br hr
  have I3 := I.bl I2
  have S1 := (I.stI hj).le
  refine lv_aload_n X.1 X.2.1 dX7_nextPart_0 rfl (lv_at hl 0 rfl) ?_
  refine lv_iload_n X.1 X.2.1 dX7_nextPart_1 rfl (lv_at hl 1 rfl) ?_
  refine mcalli hq X hW (mt_isStream_ok l hq (T) (D) (th) (r := j) (by omega)) (cwV 1 X.2.2.2.2 gX7_nextPart_X7_isStream rfl rfl rfl (by decide +kernel) ⟨Nat.le_of_ble_eq_true rfl, Nat.le_of_ble_eq_true rfl⟩) rfl rfl hl.1 (Nat.le_of_ble_eq_true rfl) dX7_nextPart_2 ⟨Nat.zero_le _, Nat.zero_le _⟩ (fun H locs hW => ?_)
  refine n_if_eq_f (tgt := 33) X.1 X.2.1 dX7_nextPart_5 (by decide) (by decide) (by omega) ?_
  refine lv_aload_n X.1 X.2.1 dX7_nextPart_8 rfl (lv_at hl 0 rfl) ?_
  refine lv_iload_n X.1 X.2.1 dX7_nextPart_9 rfl (lv_at hl 2 rfl) ?_
  refine lv_iload_n X.1 X.2.1 dX7_nextPart_10 rfl (lv_at hl 3 rfl) ?_
  refine lv_iload X.1 X.2.1 dX7_nextPart_11 (lv_at hl 4 rfl) ?_
  refine lv_iconst (v := nI 1) X.1 X.2.1 dX7_nextPart_13 (by decide) ?_
  refine n_icmp_ge_t (tgt := 21) X.1 X.2.1 dX7_nextPart_14 (by decide) (by omega) (by omega) (by omega) ?_
  refine lv_iload X.1 X.2.1 dX7_nextPart_21 (lv_at hl 4 rfl) ?_
  refine mcalli hq X hW (mt_isBytePart_ok l hq (T) (D) (th) I (r := r) (f := f) (n := n) (by omega) (by omega)) (cwV 3 X.2.2.2.2 gX7_nextPart_X7_isBytePart rfl rfl rfl (by decide +kernel) ⟨Nat.le_of_ble_eq_true rfl, Nat.le_of_ble_eq_true rfl⟩) rfl rfl hl.1 (Nat.le_of_ble_eq_true rfl) dX7_nextPart_23 ⟨Nat.zero_le _, Nat.zero_le _⟩ (fun H locs hW => ?_)
  refine n_if_eq_f (tgt := 33) X.1 X.2.1 dX7_nextPart_26 (by decide) (by decide) (by omega) ?_
  refine lv_iconst (v := nI 1) X.1 X.2.1 dX7_nextPart_29 (by decide) ?_
  refine lv_goto (tgt := 34) X.1 X.2.1 dX7_nextPart_30 (by decide) ?_
  refine lv_istore (lv' := [(5, .int (nI (1))), (0, .ref (q 0)), (1, .int (nI (j))), (2, .int (nI (r))), (3, .int (nI (f))), (4, .int (nI (n)))]) X.1 X.2.1 dX7_nextPart_34 hl (by decide) rfl (fun ls hl => ?_)
  refine lv_aload_n X.1 X.2.1 dX7_nextPart_36 rfl (lv_at hl 1 rfl) ?_
  refine lv_iload X.1 X.2.1 dX7_nextPart_37 (lv_at hl 0 rfl) ?_
  refine n_if_eq_f (tgt := 47) X.1 X.2.1 dX7_nextPart_39 (by decide) (by decide) (by omega) ?_
  refine lv_iload X.1 X.2.1 dX7_nextPart_42 (lv_at hl 5 rfl) ?_
  refine n_if_ge_t (tgt := 51) X.1 X.2.1 dX7_nextPart_44 (by decide) (by omega) ?_
  refine lv_iload X.1 X.2.1 dX7_nextPart_51 (lv_at hl 5 rfl) ?_
  refine lv_iconst (v := nI 1) X.1 X.2.1 dX7_nextPart_53 (by decide) ?_
  refine n_icmp_ge_t (tgt := 61) X.1 X.2.1 dX7_nextPart_54 (by decide) (by omega) (by omega) (by omega) ?_
  refine lv_aload_n X.1 X.2.1 dX7_nextPart_61 rfl (lv_at hl 1 rfl) ?_
  refine mget 13 (by decide) rfl X hin hW (X.2.2.2.2 (.fieldLink RX7 50 "StrandbookModel" "parts" "[I") (List.mem_cons_of_mem _ (List.mem_append_left _ (List.mem_append_left _ (List.mem_append_left _ (List.mem_of_getElem? (i := 0) rfl)))))) dX7_nextPart_62 ?_
  refine lv_iload_n X.1 X.2.1 dX7_nextPart_65 rfl (lv_at hl 2 rfl) ?_
  refine mld13 X hW (by omega) dX7_nextPart_66 ?_
  refine n_if_ne_f (tgt := 74) X.1 X.2.1 dX7_nextPart_67 (by decide) (h0) (by omega) ?_
  refine lv_iconst (v := nI 3) X.1 X.2.1 dX7_nextPart_70 (by decide) ?_
  refine lv_goto (tgt := 88) X.1 X.2.1 dX7_nextPart_71 (by decide) ?_
  refine mcalli hq X hW (mt_isWrong_s l hq (T) (D) (th) (n := 3) (by decide) (by decide)) (cwV 1 X.2.2.2.2 gX7_nextPart_X7_isWrong rfl rfl rfl (by decide +kernel) ⟨Nat.le_of_ble_eq_true rfl, Nat.le_of_ble_eq_true rfl⟩) rfl rfl hl.1 (Nat.le_of_ble_eq_true rfl) dX7_nextPart_88 ⟨Nat.zero_le _, Nat.zero_le _⟩ (fun H locs hW => ?_)
  refine n_if_eq_f (tgt := 96) X.1 X.2.1 dX7_nextPart_91 (by decide) (by decide) (by omega) ?_
  refine lv_iconst (v := nI 0) X.1 X.2.1 dX7_nextPart_94 (by decide) ?_
  exact hE _ _ _ _ _ (rfl) (fun ty hty => by cases hty; exact rfl) hW dX7_nextPart_95

set_option maxHeartbeats 4000000 in
set_option maxRecDepth 100000 in
theorem mt_nextPart_4 (l : Launch) {G : va_G} {cI cZ : ClassId} {q : Nat → Nat} (hq : mJ q) (T : mT) (D : mD) (th : Int32) (I : mI T) {j r f n : Nat} (hj : j < 2) (hr : r < 4) (hf : f + n ≤ T 4 (T 5 r)) (hn : n ≠ 0) (h0 : T 13 j ≠ 0) (h4 : itN T j r (T 13 j) = 1) : mMi l yX7_nextPart wsX7_nextPart ({ frames := 2, cells := 0, slots := 0, locals := 44 } : Room) G cI cZ q [.int (nI (j)), .int (nI (r)), .int (nI (f)), .int (nI (n))] (T) (D) (th) (nI 0) (T) (D) (nI 4) := by
  refine mstarti (cc := cX7_nextPart) (maxL := 8) (ret := (some .int)) (by decide) rfl rfl ⟨_, rfl⟩ (Nat.le_of_ble_eq_true rfl) (fun p e s m args below meth c Q hE X hW ls hl => ?_)
  have hl : lv_has ls 8 [(0, .ref (q 0)), (1, .int (nI (j))), (2, .int (nI (r))), (3, .int (nI (f))), (4, .int (nI (n)))] := hl
  have hin : ∀ w ∈ wsX70, w ∈ wsX7_nextPart := fun w h => List.mem_cons_of_mem _ (List.mem_append_left _ (List.mem_append_right _ (h)))
  have I2 := I.br hr
  have I3 := I.bl I2
  have S1 := (I.stI hj).le
  have F9 := itN_le (T := T) (j := j) (r := r) (T 13 j)
  refine lv_aload_n X.1 X.2.1 dX7_nextPart_0 rfl (lv_at hl 0 rfl) ?_
  refine lv_iload_n X.1 X.2.1 dX7_nextPart_1 rfl (lv_at hl 1 rfl) ?_
  refine mcalli hq X hW (mt_isStream_ok l hq (T) (D) (th) (r := j) (by omega)) (cwV 1 X.2.2.2.2 gX7_nextPart_X7_isStream rfl rfl rfl (by decide +kernel) ⟨Nat.le_of_ble_eq_true rfl, Nat.le_of_ble_eq_true rfl⟩) rfl rfl hl.1 (Nat.le_of_ble_eq_true rfl) dX7_nextPart_2 ⟨Nat.zero_le _, Nat.zero_le _⟩ (fun H locs hW => ?_)
  refine n_if_eq_f (tgt := 33) X.1 X.2.1 dX7_nextPart_5 (by decide) (by decide) (by omega) ?_
  refine lv_aload_n X.1 X.2.1 dX7_nextPart_8 rfl (lv_at hl 0 rfl) ?_
  refine lv_iload_n X.1 X.2.1 dX7_nextPart_9 rfl (lv_at hl 2 rfl) ?_
  refine lv_iload_n X.1 X.2.1 dX7_nextPart_10 rfl (lv_at hl 3 rfl) ?_
  refine lv_iload X.1 X.2.1 dX7_nextPart_11 (lv_at hl 4 rfl) ?_
  refine lv_iconst (v := nI 1) X.1 X.2.1 dX7_nextPart_13 (by decide) ?_
  refine n_icmp_ge_t (tgt := 21) X.1 X.2.1 dX7_nextPart_14 (by decide) (by omega) (by omega) (by omega) ?_
  refine lv_iload X.1 X.2.1 dX7_nextPart_21 (lv_at hl 4 rfl) ?_
  refine mcalli hq X hW (mt_isBytePart_ok l hq (T) (D) (th) I (r := r) (f := f) (n := n) (by omega) (by omega)) (cwV 3 X.2.2.2.2 gX7_nextPart_X7_isBytePart rfl rfl rfl (by decide +kernel) ⟨Nat.le_of_ble_eq_true rfl, Nat.le_of_ble_eq_true rfl⟩) rfl rfl hl.1 (Nat.le_of_ble_eq_true rfl) dX7_nextPart_23 ⟨Nat.zero_le _, Nat.zero_le _⟩ (fun H locs hW => ?_)
  refine n_if_eq_f (tgt := 33) X.1 X.2.1 dX7_nextPart_26 (by decide) (by decide) (by omega) ?_
  refine lv_iconst (v := nI 1) X.1 X.2.1 dX7_nextPart_29 (by decide) ?_
  refine lv_goto (tgt := 34) X.1 X.2.1 dX7_nextPart_30 (by decide) ?_
  refine lv_istore (lv' := [(5, .int (nI (1))), (0, .ref (q 0)), (1, .int (nI (j))), (2, .int (nI (r))), (3, .int (nI (f))), (4, .int (nI (n)))]) X.1 X.2.1 dX7_nextPart_34 hl (by decide) rfl (fun ls hl => ?_)
  refine lv_aload_n X.1 X.2.1 dX7_nextPart_36 rfl (lv_at hl 1 rfl) ?_
  refine lv_iload X.1 X.2.1 dX7_nextPart_37 (lv_at hl 0 rfl) ?_
  refine n_if_eq_f (tgt := 47) X.1 X.2.1 dX7_nextPart_39 (by decide) (by decide) (by omega) ?_
  refine lv_iload X.1 X.2.1 dX7_nextPart_42 (lv_at hl 5 rfl) ?_
  refine n_if_ge_t (tgt := 51) X.1 X.2.1 dX7_nextPart_44 (by decide) (by omega) ?_
  refine lv_iload X.1 X.2.1 dX7_nextPart_51 (lv_at hl 5 rfl) ?_
  refine lv_iconst (v := nI 1) X.1 X.2.1 dX7_nextPart_53 (by decide) ?_
  refine n_icmp_ge_t (tgt := 61) X.1 X.2.1 dX7_nextPart_54 (by decide) (by omega) (by omega) (by omega) ?_
  refine lv_aload_n X.1 X.2.1 dX7_nextPart_61 rfl (lv_at hl 1 rfl) ?_
  refine mget 13 (by decide) rfl X hin hW (X.2.2.2.2 (.fieldLink RX7 50 "StrandbookModel" "parts" "[I") (List.mem_cons_of_mem _ (List.mem_append_left _ (List.mem_append_left _ (List.mem_append_left _ (List.mem_of_getElem? (i := 0) rfl)))))) dX7_nextPart_62 ?_
  refine lv_iload_n X.1 X.2.1 dX7_nextPart_65 rfl (lv_at hl 2 rfl) ?_
  refine mld13 X hW (by omega) dX7_nextPart_66 ?_
  refine n_if_ne_t (tgt := 74) X.1 X.2.1 dX7_nextPart_67 (by decide) (h0) (by omega) ?_
  refine lv_aload_n X.1 X.2.1 dX7_nextPart_74 rfl (lv_at hl 1 rfl) ?_
  refine lv_iload_n X.1 X.2.1 dX7_nextPart_75 rfl (lv_at hl 2 rfl) ?_
  refine lv_iload_n X.1 X.2.1 dX7_nextPart_76 rfl (lv_at hl 3 rfl) ?_
  refine mcalli hq X hW (mt_isItsArray l hq (T) (D) (th) I (j := j) (r := r) (by omega) (by omega)) (cwV 2 X.2.2.2.2 gX7_nextPart_X7_isItsArray rfl rfl rfl (by decide +kernel) ⟨Nat.le_of_ble_eq_true rfl, Nat.le_of_ble_eq_true rfl⟩) rfl rfl hl.1 (Nat.le_of_ble_eq_true rfl) dX7_nextPart_77 ⟨Nat.zero_le _, Nat.zero_le _⟩ (fun H locs hW => ?_)
  refine n_if_eq_f (tgt := 87) X.1 X.2.1 dX7_nextPart_80 (by decide) (by omega) (by omega) ?_
  refine lv_iconst (v := nI 4) X.1 X.2.1 dX7_nextPart_83 (by decide) ?_
  refine lv_goto (tgt := 88) X.1 X.2.1 dX7_nextPart_84 (by decide) ?_
  refine mcalli hq X hW (mt_isWrong_s l hq (T) (D) (th) (n := 4) (by decide) (by decide)) (cwV 1 X.2.2.2.2 gX7_nextPart_X7_isWrong rfl rfl rfl (by decide +kernel) ⟨Nat.le_of_ble_eq_true rfl, Nat.le_of_ble_eq_true rfl⟩) rfl rfl hl.1 (Nat.le_of_ble_eq_true rfl) dX7_nextPart_88 ⟨Nat.zero_le _, Nat.zero_le _⟩ (fun H locs hW => ?_)
  refine n_if_eq_f (tgt := 96) X.1 X.2.1 dX7_nextPart_91 (by decide) (by decide) (by omega) ?_
  refine lv_iconst (v := nI 0) X.1 X.2.1 dX7_nextPart_94 (by decide) ?_
  exact hE _ _ _ _ _ (rfl) (fun ty hty => by cases hty; exact rfl) hW dX7_nextPart_95

set_option maxHeartbeats 4000000 in
set_option maxRecDepth 100000 in
theorem mt_nextPart_e (l : Launch) {G : va_G} {cI cZ : ClassId} {q : Nat → Nat} (hq : mJ q) (T : mT) (D : mD) (th : Int32) (I : mI T) {j r f n : Nat} (hj : j < 2) (hr : r < 4) (hf : f + n ≤ T 4 (T 5 r)) (hn : n ≠ 0) (h0 : T 13 j ≠ 0) (h4 : ¬ itN T j r (T 13 j) = 1) (hw : ¬ wnT T j 16 j < wnT T j 13 j) : mMi l yX7_nextPart wsX7_nextPart ({ frames := 2, cells := 0, slots := 0, locals := 44 } : Room) G cI cZ q [.int (nI (j)), .int (nI (r)), .int (nI (f)), .int (nI (n))] (T) (D) (th) (-1) (wnT T j) (D) (nI 0) := by
  refine mstarti (cc := cX7_nextPart) (maxL := 8) (ret := (some .int)) (by decide) rfl rfl ⟨_, rfl⟩ (Nat.le_of_ble_eq_true rfl) (fun p e s m args below meth c Q hE X hW ls hl => ?_)
  have hl : lv_has ls 8 [(0, .ref (q 0)), (1, .int (nI (j))), (2, .int (nI (r))), (3, .int (nI (f))), (4, .int (nI (n)))] := hl
  have hin : ∀ w ∈ wsX70, w ∈ wsX7_nextPart := fun w h => List.mem_cons_of_mem _ (List.mem_append_left _ (List.mem_append_right _ (h)))
  have I2 := I.br hr
  have I3 := I.bl I2
  have S1 := (I.stI hj).le
  have F9 := itN_le (T := T) (j := j) (r := r) (T 13 j)
  refine lv_aload_n X.1 X.2.1 dX7_nextPart_0 rfl (lv_at hl 0 rfl) ?_
  refine lv_iload_n X.1 X.2.1 dX7_nextPart_1 rfl (lv_at hl 1 rfl) ?_
  refine mcalli hq X hW (mt_isStream_ok l hq (T) (D) (th) (r := j) (by omega)) (cwV 1 X.2.2.2.2 gX7_nextPart_X7_isStream rfl rfl rfl (by decide +kernel) ⟨Nat.le_of_ble_eq_true rfl, Nat.le_of_ble_eq_true rfl⟩) rfl rfl hl.1 (Nat.le_of_ble_eq_true rfl) dX7_nextPart_2 ⟨Nat.zero_le _, Nat.zero_le _⟩ (fun H locs hW => ?_)
  refine n_if_eq_f (tgt := 33) X.1 X.2.1 dX7_nextPart_5 (by decide) (by decide) (by omega) ?_
  refine lv_aload_n X.1 X.2.1 dX7_nextPart_8 rfl (lv_at hl 0 rfl) ?_
  refine lv_iload_n X.1 X.2.1 dX7_nextPart_9 rfl (lv_at hl 2 rfl) ?_
  refine lv_iload_n X.1 X.2.1 dX7_nextPart_10 rfl (lv_at hl 3 rfl) ?_
  refine lv_iload X.1 X.2.1 dX7_nextPart_11 (lv_at hl 4 rfl) ?_
  refine lv_iconst (v := nI 1) X.1 X.2.1 dX7_nextPart_13 (by decide) ?_
  refine n_icmp_ge_t (tgt := 21) X.1 X.2.1 dX7_nextPart_14 (by decide) (by omega) (by omega) (by omega) ?_
  refine lv_iload X.1 X.2.1 dX7_nextPart_21 (lv_at hl 4 rfl) ?_
  refine mcalli hq X hW (mt_isBytePart_ok l hq (T) (D) (th) I (r := r) (f := f) (n := n) (by omega) (by omega)) (cwV 3 X.2.2.2.2 gX7_nextPart_X7_isBytePart rfl rfl rfl (by decide +kernel) ⟨Nat.le_of_ble_eq_true rfl, Nat.le_of_ble_eq_true rfl⟩) rfl rfl hl.1 (Nat.le_of_ble_eq_true rfl) dX7_nextPart_23 ⟨Nat.zero_le _, Nat.zero_le _⟩ (fun H locs hW => ?_)
  refine n_if_eq_f (tgt := 33) X.1 X.2.1 dX7_nextPart_26 (by decide) (by decide) (by omega) ?_
  refine lv_iconst (v := nI 1) X.1 X.2.1 dX7_nextPart_29 (by decide) ?_
  refine lv_goto (tgt := 34) X.1 X.2.1 dX7_nextPart_30 (by decide) ?_
  refine lv_istore (lv' := [(5, .int (nI (1))), (0, .ref (q 0)), (1, .int (nI (j))), (2, .int (nI (r))), (3, .int (nI (f))), (4, .int (nI (n)))]) X.1 X.2.1 dX7_nextPart_34 hl (by decide) rfl (fun ls hl => ?_)
  refine lv_aload_n X.1 X.2.1 dX7_nextPart_36 rfl (lv_at hl 1 rfl) ?_
  refine lv_iload X.1 X.2.1 dX7_nextPart_37 (lv_at hl 0 rfl) ?_
  refine n_if_eq_f (tgt := 47) X.1 X.2.1 dX7_nextPart_39 (by decide) (by decide) (by omega) ?_
  refine lv_iload X.1 X.2.1 dX7_nextPart_42 (lv_at hl 5 rfl) ?_
  refine n_if_ge_t (tgt := 51) X.1 X.2.1 dX7_nextPart_44 (by decide) (by omega) ?_
  refine lv_iload X.1 X.2.1 dX7_nextPart_51 (lv_at hl 5 rfl) ?_
  refine lv_iconst (v := nI 1) X.1 X.2.1 dX7_nextPart_53 (by decide) ?_
  refine n_icmp_ge_t (tgt := 61) X.1 X.2.1 dX7_nextPart_54 (by decide) (by omega) (by omega) (by omega) ?_
  refine lv_aload_n X.1 X.2.1 dX7_nextPart_61 rfl (lv_at hl 1 rfl) ?_
  refine mget 13 (by decide) rfl X hin hW (X.2.2.2.2 (.fieldLink RX7 50 "StrandbookModel" "parts" "[I") (List.mem_cons_of_mem _ (List.mem_append_left _ (List.mem_append_left _ (List.mem_append_left _ (List.mem_of_getElem? (i := 0) rfl)))))) dX7_nextPart_62 ?_
  refine lv_iload_n X.1 X.2.1 dX7_nextPart_65 rfl (lv_at hl 2 rfl) ?_
  refine mld13 X hW (by omega) dX7_nextPart_66 ?_
  refine n_if_ne_t (tgt := 74) X.1 X.2.1 dX7_nextPart_67 (by decide) (h0) (by omega) ?_
  refine lv_aload_n X.1 X.2.1 dX7_nextPart_74 rfl (lv_at hl 1 rfl) ?_
  refine lv_iload_n X.1 X.2.1 dX7_nextPart_75 rfl (lv_at hl 2 rfl) ?_
  refine lv_iload_n X.1 X.2.1 dX7_nextPart_76 rfl (lv_at hl 3 rfl) ?_
  refine mcalli hq X hW (mt_isItsArray l hq (T) (D) (th) I (j := j) (r := r) (by omega) (by omega)) (cwV 2 X.2.2.2.2 gX7_nextPart_X7_isItsArray rfl rfl rfl (by decide +kernel) ⟨Nat.le_of_ble_eq_true rfl, Nat.le_of_ble_eq_true rfl⟩) rfl rfl hl.1 (Nat.le_of_ble_eq_true rfl) dX7_nextPart_77 ⟨Nat.zero_le _, Nat.zero_le _⟩ (fun H locs hW => ?_)
  refine n_if_eq_t (tgt := 87) X.1 X.2.1 dX7_nextPart_80 (by decide) (by omega) (by omega) ?_
  refine lv_iconst (v := nI 0) X.1 X.2.1 dX7_nextPart_87 (by decide) ?_
  refine mcalli hq X hW (mt_isWrong_0 l hq (T) (D) (th)) (cwV 1 X.2.2.2.2 gX7_nextPart_X7_isWrong rfl rfl rfl (by decide +kernel) ⟨Nat.le_of_ble_eq_true rfl, Nat.le_of_ble_eq_true rfl⟩) rfl rfl hl.1 (Nat.le_of_ble_eq_true rfl) dX7_nextPart_88 ⟨Nat.zero_le _, Nat.zero_le _⟩ (fun H locs hW => ?_)
  refine n_if_eq_t (tgt := 96) X.1 X.2.1 dX7_nextPart_91 (by decide) (by decide) (by omega) ?_
  refine lv_aload_n X.1 X.2.1 dX7_nextPart_96 rfl (lv_at hl 1 rfl) ?_
  refine lv_iload_n X.1 X.2.1 dX7_nextPart_97 rfl (lv_at hl 2 rfl) ?_
  refine mcalli hq X hW (mt_wants_0 l hq (T) (D) (nI 0) (j := j) (I.stI hj) (I.b4) (by omega) (hw)) (cwV 1 X.2.2.2.2 gX7_nextPart_X7_wants rfl rfl rfl (by decide +kernel) ⟨Nat.le_of_ble_eq_true rfl, Nat.le_of_ble_eq_true rfl⟩) rfl rfl hl.1 (Nat.le_of_ble_eq_true rfl) dX7_nextPart_98 ⟨Nat.zero_le _, Nat.zero_le _⟩ (fun H locs hW => ?_)
  refine n_if_ne_f (tgt := 106) X.1 X.2.1 dX7_nextPart_101 (by decide) (by decide) (by omega) ?_
  refine lv_iconst (v := -1) X.1 X.2.1 dX7_nextPart_104 (by decide) ?_
  exact hE _ _ _ _ _ (rfl) (fun ty hty => by cases hty; exact rfl) hW dX7_nextPart_105

theorem gnT_st {T : mT} {j n : Nat} (S : stI T j) (h : T 16 j < T 13 j) (hn : n ≤ lfN T j) : stI (gnT T j n) j := by
  refine ⟨by rw [gnT_ne (by decide) (by decide)]; exact S.1, by rw [gnT_ne (show (16 : Nat) ≠ 15 by decide) (by decide), gnT_ne (show (13 : Nat) ≠ 15 by decide) (by decide)]; exact S.2.1, fun k hk => ?_⟩
  rw [gnT_ne (show (14 : Nat) ≠ 15 by decide) (by decide), gnT_ne (show (13 : Nat) ≠ 15 by decide) (by decide), gnT_ne (show (4 : Nat) ≠ 15 by decide) (by decide)]
  obtain ⟨h1, h2, h3⟩ := S.2.2 k hk
  refine ⟨h1, h2, fun g => ?_⟩
  rw [lfN_at h] at hn
  by_cases e : k = T 16 j
  · subst e; rw [gnT_15]; have := h3 g; omega
  · have e2 : gnT T j n 15 (3 * j + k) = T 15 (3 * j + k) := by rw [gnT, u2_ne (by decide), u2_nj (by omega)]
    rw [e2]; exact h3 g
theorem gnT_b4 {T : mT} {j n : Nat} (B : b4I T) : b4I (gnT T j n) := fun k hk => by rw [gnT_ne (by decide) (by decide)]; exact B k hk
theorem gnT_lf {T : mT} {j n : Nat} (h : T 16 j < T 13 j) : lfN (gnT T j n) j = lfN T j - n := by
  have e16 : gnT T j n 16 = T 16 := gnT_ne (by decide) (by decide)
  have e13 : gnT T j n 13 = T 13 := gnT_ne (by decide) (by decide)
  rw [lfN_at (by rw [e16, e13]; exact h), lfN_at h, e16, gnT_15, gnT_ne (show (4 : Nat) ≠ 15 by decide) (by decide), gnT_ne (show (14 : Nat) ≠ 15 by decide) (by decide)]
  omega
theorem gnT_gtD {T : mT} {D D2 : mD} {j n : Nat} (h : D2 3 (64 * (T 14 (3 * j + T 16 j) - 1) + (T 15 (3 * j + T 16 j) + n)) = D 3 (64 * (T 14 (3 * j + T 16 j) - 1) + (T 15 (3 * j + T 16 j) + n))) : gtD (gnT T j n) D2 j = npF T D j n := by
  rw [gtD, gnT_ne (show (16 : Nat) ≠ 15 by decide) (by decide), gnT_ne (show (14 : Nat) ≠ 15 by decide) (by decide), gnT_15, h]; rfl

set_option maxHeartbeats 4000000 in
set_option maxRecDepth 100000 in
theorem mt_nextPart_g (l : Launch) {G : va_G} {cI cZ : ClassId} {q : Nat → Nat} (hq : mJ q) (T : mT) (D : mD) (th : Int32) (I : mI T) {j r f n : Nat} (hj : j < 2) (hr : r < 4) (hf : f + n ≤ T 4 (T 5 r)) (hn : n ≠ 0) (h0 : T 13 j ≠ 0) (h4 : ¬ itN T j r (T 13 j) = 1) (hw : wnT T j 16 j < wnT T j 13 j) : mMi l yX7_nextPart wsX7_nextPart ({ frames := 2, cells := 0, slots := 0, locals := 44 } : Room) G cI cZ q [.int (nI (j)), .int (nI (r)), .int (nI (f)), .int (nI (n))] (T) (D) (th) (nI (min n (lfN (wnT T j) j))) (gnT (wnT T j) j (min n (lfN (wnT T j) j))) (cpF D 3 (64 * T 5 r + f) (npF (wnT T j) D j) (min n (lfN (wnT T j) j))) (nI 0) := by
  refine mstarti (cc := cX7_nextPart) (maxL := 8) (ret := (some .int)) (by decide) rfl rfl ⟨_, rfl⟩ (Nat.le_of_ble_eq_true rfl) (fun p e s m args below meth c Q hE X hW ls hl => ?_)
  have hl : lv_has ls 8 [(0, .ref (q 0)), (1, .int (nI (j))), (2, .int (nI (r))), (3, .int (nI (f))), (4, .int (nI (n)))] := hl
  have hin : ∀ w ∈ wsX70, w ∈ wsX7_nextPart := fun w h => List.mem_cons_of_mem _ (List.mem_append_left _ (List.mem_append_right _ (h)))
  have I2 := I.br hr
  have I3 := I.bl I2
  have S9 := (I.stI hj).le
  have F9 := itN_le (T := T) (j := j) (r := r) (T 13 j)
  have S0 := wnT_st (I.stI hj)
  have B0 := wnT_b4 (j := j) I.b4
  have L0 := lfN_le S0 B0
  have hm1 : min n (lfN (wnT T j) j) ≤ n := Nat.min_le_left _ _
  have hm2 : min n (lfN (wnT T j) j) ≤ lfN (wnT T j) j := Nat.min_le_right _ _
  have e5 : wnT T j 5 r = T 5 r := congrFun (wnT_k (by decide)) r
  have S1 := S0.le
  obtain ⟨S4, S5, S6⟩ := S0.2.2 (wnT T j 16 j) (by omega)
  have S5 := S5 hw
  have S6 := S6 hw
  have S7 := B0 (wnT T j 14 (3 * j + wnT T j 16 j) - 1) (by omega)
  have L1 := lfN_at hw
  have hne : wnT T j 14 (3 * j + wnT T j 16 j) ≠ T 5 r + 1 := by
    have h9 : wnT T j 13 j = T 13 j := congrFun (wnT_k (by decide)) j
    have h8 : wnT T j 14 = T 14 := wnT_k (by decide)
    intro z
    exact h4 ((itN_iff (T 13 j)).mpr ⟨wnT T j 16 j, by omega, by rw [← h8]; exact z⟩)
  refine lv_aload_n X.1 X.2.1 dX7_nextPart_0 rfl (lv_at hl 0 rfl) ?_
  refine lv_iload_n X.1 X.2.1 dX7_nextPart_1 rfl (lv_at hl 1 rfl) ?_
  refine mcalli hq X hW (mt_isStream_ok l hq (T) (D) (th) (r := j) (by omega)) (cwV 1 X.2.2.2.2 gX7_nextPart_X7_isStream rfl rfl rfl (by decide +kernel) ⟨Nat.le_of_ble_eq_true rfl, Nat.le_of_ble_eq_true rfl⟩) rfl rfl hl.1 (Nat.le_of_ble_eq_true rfl) dX7_nextPart_2 ⟨Nat.zero_le _, Nat.zero_le _⟩ (fun H locs hW => ?_)
  refine n_if_eq_f (tgt := 33) X.1 X.2.1 dX7_nextPart_5 (by decide) (by decide) (by omega) ?_
  refine lv_aload_n X.1 X.2.1 dX7_nextPart_8 rfl (lv_at hl 0 rfl) ?_
  refine lv_iload_n X.1 X.2.1 dX7_nextPart_9 rfl (lv_at hl 2 rfl) ?_
  refine lv_iload_n X.1 X.2.1 dX7_nextPart_10 rfl (lv_at hl 3 rfl) ?_
  refine lv_iload X.1 X.2.1 dX7_nextPart_11 (lv_at hl 4 rfl) ?_
  refine lv_iconst (v := nI 1) X.1 X.2.1 dX7_nextPart_13 (by decide) ?_
  refine n_icmp_ge_t (tgt := 21) X.1 X.2.1 dX7_nextPart_14 (by decide) (by omega) (by omega) (by omega) ?_
  refine lv_iload X.1 X.2.1 dX7_nextPart_21 (lv_at hl 4 rfl) ?_
  refine mcalli hq X hW (mt_isBytePart_ok l hq (T) (D) (th) I (r := r) (f := f) (n := n) (by omega) (by omega)) (cwV 3 X.2.2.2.2 gX7_nextPart_X7_isBytePart rfl rfl rfl (by decide +kernel) ⟨Nat.le_of_ble_eq_true rfl, Nat.le_of_ble_eq_true rfl⟩) rfl rfl hl.1 (Nat.le_of_ble_eq_true rfl) dX7_nextPart_23 ⟨Nat.zero_le _, Nat.zero_le _⟩ (fun H locs hW => ?_)
  refine n_if_eq_f (tgt := 33) X.1 X.2.1 dX7_nextPart_26 (by decide) (by decide) (by omega) ?_
  refine lv_iconst (v := nI 1) X.1 X.2.1 dX7_nextPart_29 (by decide) ?_
  refine lv_goto (tgt := 34) X.1 X.2.1 dX7_nextPart_30 (by decide) ?_
  refine lv_istore (lv' := [(5, .int (nI (1))), (0, .ref (q 0)), (1, .int (nI (j))), (2, .int (nI (r))), (3, .int (nI (f))), (4, .int (nI (n)))]) X.1 X.2.1 dX7_nextPart_34 hl (by decide) rfl (fun ls hl => ?_)
  refine lv_aload_n X.1 X.2.1 dX7_nextPart_36 rfl (lv_at hl 1 rfl) ?_
  refine lv_iload X.1 X.2.1 dX7_nextPart_37 (lv_at hl 0 rfl) ?_
  refine n_if_eq_f (tgt := 47) X.1 X.2.1 dX7_nextPart_39 (by decide) (by decide) (by omega) ?_
  refine lv_iload X.1 X.2.1 dX7_nextPart_42 (lv_at hl 5 rfl) ?_
  refine n_if_ge_t (tgt := 51) X.1 X.2.1 dX7_nextPart_44 (by decide) (by omega) ?_
  refine lv_iload X.1 X.2.1 dX7_nextPart_51 (lv_at hl 5 rfl) ?_
  refine lv_iconst (v := nI 1) X.1 X.2.1 dX7_nextPart_53 (by decide) ?_
  refine n_icmp_ge_t (tgt := 61) X.1 X.2.1 dX7_nextPart_54 (by decide) (by omega) (by omega) (by omega) ?_
  refine lv_aload_n X.1 X.2.1 dX7_nextPart_61 rfl (lv_at hl 1 rfl) ?_
  refine mget 13 (by decide) rfl X hin hW (X.2.2.2.2 (.fieldLink RX7 50 "StrandbookModel" "parts" "[I") (List.mem_cons_of_mem _ (List.mem_append_left _ (List.mem_append_left _ (List.mem_append_left _ (List.mem_of_getElem? (i := 0) rfl)))))) dX7_nextPart_62 ?_
  refine lv_iload_n X.1 X.2.1 dX7_nextPart_65 rfl (lv_at hl 2 rfl) ?_
  refine mld13 X hW (by omega) dX7_nextPart_66 ?_
  refine n_if_ne_t (tgt := 74) X.1 X.2.1 dX7_nextPart_67 (by decide) (h0) (by omega) ?_
  refine lv_aload_n X.1 X.2.1 dX7_nextPart_74 rfl (lv_at hl 1 rfl) ?_
  refine lv_iload_n X.1 X.2.1 dX7_nextPart_75 rfl (lv_at hl 2 rfl) ?_
  refine lv_iload_n X.1 X.2.1 dX7_nextPart_76 rfl (lv_at hl 3 rfl) ?_
  refine mcalli hq X hW (mt_isItsArray l hq (T) (D) (th) I (j := j) (r := r) (by omega) (by omega)) (cwV 2 X.2.2.2.2 gX7_nextPart_X7_isItsArray rfl rfl rfl (by decide +kernel) ⟨Nat.le_of_ble_eq_true rfl, Nat.le_of_ble_eq_true rfl⟩) rfl rfl hl.1 (Nat.le_of_ble_eq_true rfl) dX7_nextPart_77 ⟨Nat.zero_le _, Nat.zero_le _⟩ (fun H locs hW => ?_)
  refine n_if_eq_t (tgt := 87) X.1 X.2.1 dX7_nextPart_80 (by decide) (by omega) (by omega) ?_
  refine lv_iconst (v := nI 0) X.1 X.2.1 dX7_nextPart_87 (by decide) ?_
  refine mcalli hq X hW (mt_isWrong_0 l hq (T) (D) (th)) (cwV 1 X.2.2.2.2 gX7_nextPart_X7_isWrong rfl rfl rfl (by decide +kernel) ⟨Nat.le_of_ble_eq_true rfl, Nat.le_of_ble_eq_true rfl⟩) rfl rfl hl.1 (Nat.le_of_ble_eq_true rfl) dX7_nextPart_88 ⟨Nat.zero_le _, Nat.zero_le _⟩ (fun H locs hW => ?_)
  refine n_if_eq_t (tgt := 96) X.1 X.2.1 dX7_nextPart_91 (by decide) (by decide) (by omega) ?_
  refine lv_aload_n X.1 X.2.1 dX7_nextPart_96 rfl (lv_at hl 1 rfl) ?_
  refine lv_iload_n X.1 X.2.1 dX7_nextPart_97 rfl (lv_at hl 2 rfl) ?_
  refine mcalli hq X hW (mt_wants_1 l hq (T) (D) (nI 0) (j := j) (I.stI hj) (I.b4) (by omega) (hw)) (cwV 1 X.2.2.2.2 gX7_nextPart_X7_wants rfl rfl rfl (by decide +kernel) ⟨Nat.le_of_ble_eq_true rfl, Nat.le_of_ble_eq_true rfl⟩) rfl rfl hl.1 (Nat.le_of_ble_eq_true rfl) dX7_nextPart_98 ⟨Nat.zero_le _, Nat.zero_le _⟩ (fun H locs hW => ?_)
  refine n_if_ne_t (tgt := 106) X.1 X.2.1 dX7_nextPart_101 (by decide) (by decide) (by omega) ?_
  refine lv_aload_n X.1 X.2.1 dX7_nextPart_106 rfl (lv_at hl 1 rfl) ?_
  refine lv_iload X.1 X.2.1 dX7_nextPart_107 (lv_at hl 5 rfl) ?_
  refine lv_aload_n X.1 X.2.1 dX7_nextPart_109 rfl (lv_at hl 1 rfl) ?_
  refine lv_iload_n X.1 X.2.1 dX7_nextPart_110 rfl (lv_at hl 2 rfl) ?_
  refine mcalli hq X hW (mt_leftIn l hq (wnT T j) D (nI 0) S0 B0 hj) (cwV 1 X.2.2.2.2 gX7_nextPart_X7_leftIn rfl rfl rfl (by decide +kernel) ⟨Nat.le_of_ble_eq_true rfl, Nat.le_of_ble_eq_true rfl⟩) rfl rfl hl.1 (Nat.le_of_ble_eq_true rfl) dX7_nextPart_111 ⟨Nat.zero_le _, Nat.zero_le _⟩ (fun H locs hW => ?_)
  refine mcalli hq X hW (mt_lesser l hq ((wnT T j)) (D) (nI 0) (a := n) (b := lfN (wnT T j) j) (by omega) (by omega)) (cwV 2 X.2.2.2.2 gX7_nextPart_X7_lesser rfl rfl rfl (by decide +kernel) ⟨Nat.le_of_ble_eq_true rfl, Nat.le_of_ble_eq_true rfl⟩) rfl rfl hl.1 (Nat.le_of_ble_eq_true rfl) dX7_nextPart_114 ⟨Nat.zero_le _, Nat.zero_le _⟩ (fun H locs hW => ?_)
  refine lv_istore (lv' := [(6, .int (nI (min n (lfN (wnT T j) j)))), (5, .int (nI (1))), (0, .ref (q 0)), (1, .int (nI (j))), (2, .int (nI (r))), (3, .int (nI (f))), (4, .int (nI (n)))]) X.1 X.2.1 dX7_nextPart_117 hl (by decide) rfl (fun ls hl => ?_)
  refine lv_iconst (v := nI 0) X.1 X.2.1 dX7_nextPart_119 (by decide) ?_
  refine lv_istore (lv' := [(7, .int (nI (0))), (6, .int (nI (min n (lfN (wnT T j) j)))), (5, .int (nI (1))), (0, .ref (q 0)), (1, .int (nI (j))), (2, .int (nI (r))), (3, .int (nI (f))), (4, .int (nI (n)))]) X.1 X.2.1 dX7_nextPart_120 hl (by decide) rfl (fun ls hl => ?_)
  have loop122 : ∀ (n122 k122 : Nat), k122 + n122 = min n (lfN (wnT T j) j) → ∀ (H : Heap) (locs : List Loc), mH G cI cZ q (gnT (wnT T j) j k122) (cpF D 3 (64 * T 5 r + f) (npF (wnT T j) D j) k122) (nI 0) s H locs → ∀ ls : Array Slot, lv_has ls 8 [(0, .ref (q 0)), (1, .int (nI (j))), (2, .int (nI (r))), (3, .int (nI (f))), (4, .int (nI (n))), (5, .int (nI (1))), (6, .int (nI (min n (lfN (wnT T j) j)))), (7, .int (nI (k122)))] → W p l e ({ frames := 2, cells := 0, slots := 0, locals := 44 } : Room) s m args below meth c H locs 0 0 Q (F0 m 122 ls []) := by
    intro n122
    induction n122 with
    | zero =>
      intro k122 hk122  H locs hW ls hl
      obtain rfl : min n (lfN (wnT T j) j) = k122 := by omega
      refine lv_iload X.1 X.2.1 dX7_nextPart_122 (lv_at hl 7 rfl) ?_
      refine lv_iload X.1 X.2.1 dX7_nextPart_124 (lv_at hl 6 rfl) ?_
      refine n_icmp_ge_t (tgt := 159) X.1 X.2.1 dX7_nextPart_126 (by decide) (by omega) (by omega) (by omega) ?_
      refine lv_iload X.1 X.2.1 dX7_nextPart_159 (lv_at hl 6 rfl) ?_
      exact hE _ _ _ _ _ (rfl) (fun ty hty => by cases hty; exact rfl) hW dX7_nextPart_161
    | succ n122 ih122 =>
      intro k122 hk122  H locs hW ls hl
      have e5k : gnT (wnT T j) j k122 5 r = T 5 r := (congrFun (gnT_ne (by decide) (by decide)) r).trans e5
      refine lv_iload X.1 X.2.1 dX7_nextPart_122 (lv_at hl 7 rfl) ?_
      refine lv_iload X.1 X.2.1 dX7_nextPart_124 (lv_at hl 6 rfl) ?_
      refine n_icmp_ge_f (tgt := 159) X.1 X.2.1 dX7_nextPart_126 (by decide) (by omega) (by omega) (by omega) ?_
      refine lv_aload_n X.1 X.2.1 dX7_nextPart_129 rfl (lv_at hl 0 rfl) ?_
      refine mget 3 (by decide) rfl X hin hW (X.2.2.2.2 (.fieldLink RX7 19 "StrandbookModel" "bytes" "[I") (List.mem_cons_of_mem _ (List.mem_append_left _ (List.mem_append_left _ (List.mem_append_left _ (List.mem_of_getElem? (i := 1) rfl)))))) dX7_nextPart_130 ?_
      refine lv_bipush (v := nI 64) X.1 X.2.1 dX7_nextPart_133 (by decide) ?_
      refine lv_aload_n X.1 X.2.1 dX7_nextPart_135 rfl (lv_at hl 0 rfl) ?_
      refine mget 5 (by decide) rfl X hin hW (X.2.2.2.2 (.fieldLink RX7 25 "StrandbookModel" "byteRooms" "[I") (List.mem_cons_of_mem _ (List.mem_append_left _ (List.mem_append_left _ (List.mem_append_left _ (List.mem_of_getElem? (i := 2) rfl)))))) dX7_nextPart_136 ?_
      refine lv_iload_n X.1 X.2.1 dX7_nextPart_139 rfl (lv_at hl 2 rfl) ?_
      refine mld5 X hW (by omega) dX7_nextPart_140 ?_
      refine n_cv (y := nI (T 5 r)) (congrArg nI e5k) ?_
      refine n_imul X.1 X.2.1 dX7_nextPart_141 ?_
      refine lv_iload_n X.1 X.2.1 dX7_nextPart_142 rfl (lv_at hl 3 rfl) ?_
      refine n_iadd X.1 X.2.1 dX7_nextPart_143 ?_
      refine lv_iload X.1 X.2.1 dX7_nextPart_144 (lv_at hl 7 rfl) ?_
      refine n_iadd X.1 X.2.1 dX7_nextPart_146 ?_
      refine lv_aload_n X.1 X.2.1 dX7_nextPart_147 rfl (lv_at hl 0 rfl) ?_
      refine lv_iload_n X.1 X.2.1 dX7_nextPart_148 rfl (lv_at hl 1 rfl) ?_
      refine mcalli hq X hW (mt_got l hq (gnT (wnT T j) j k122) (cpF D 3 (64 * T 5 r + f) (npF (wnT T j) D j) k122) (nI 0) (gnT_st S0 hw (by omega)) (gnT_b4 B0) hj (by rw [gnT_ne (by decide) (by decide), gnT_ne (by decide) (by decide)]; exact hw) (by rw [gnT_lf hw]; omega)) (cwV 1 X.2.2.2.2 gX7_nextPart_X7_got rfl rfl rfl (by decide +kernel) ⟨Nat.le_of_ble_eq_true rfl, Nat.le_of_ble_eq_true rfl⟩) rfl rfl hl.1 (Nat.le_of_ble_eq_true rfl) dX7_nextPart_149 ⟨Nat.zero_le _, Nat.zero_le _⟩ (fun H locs hW => ?_)
      refine mst3 hq X hW (by omega) dX7_nextPart_152 (fun H locs hW => ?_)
      refine lv_iinc (v := nI (k122 + 1)) (lv' := [(7, .int (nI (k122 + 1))), (0, .ref (q 0)), (1, .int (nI (j))), (2, .int (nI (r))), (3, .int (nI (f))), (4, .int (nI (n))), (5, .int (nI (1))), (6, .int (nI (min n (lfN (wnT T j) j))))]) X.1 X.2.1 dX7_nextPart_153 hl (k := 7) rfl (nI_1 _) (by decide) rfl (fun ls hl => ?_)
      refine lv_goto (tgt := 122) X.1 X.2.1 dX7_nextPart_156 (by decide) ?_
      exact ih122 (k122 + 1) (by omega) _ _ (hW.eq (gnT_S) (cpF_S' rfl (gnT_gtD (cpF_out (by omega)))) rfl) ls (lv_sub hl [1, 2, 3, 4, 5, 6, 7, 0] rfl)
  exact loop122 ((min n (lfN (wnT T j) j)) - (0)) (0) (by omega) _ _ (hW.eq (gnT_0.symm) (cpF_0.symm) rfl) ls (lv_sub hl [3, 4, 5, 6, 7, 2, 1, 0] rfl)

theorem mo_nextPart (l : Launch) {G : va_G} {cI cZ : ClassId} {q : Nat → Nat} (hq : mJ q) (T : mT) (D : mD) (th : Int32) (I : mI T) (J : mJD D) (j row f n : Int32) : mO l yX7_nextPart wsX7_nextPart ({ frames := 2, cells := 0, slots := 0, locals := 44 } : Room) G cI cZ q [.int j, .int row, .int f, .int n] T D th (sp_nextPart T D j row f n) := by
  by_cases h1 : oN j 2
  · rw [show sp_nextPart T D j row f n = no T D 1 from if_pos (Or.inl h1)]; exact mt_nextPart_1a l hq T D th h1
  · obtain ⟨j, hj, rfl⟩ := oN_in (by decide) h1
    by_cases h2 : oN row 4
    · rw [show sp_nextPart T D (nI j) row f n = no T D 1 from if_pos (Or.inr (Or.inl h2))]
      by_cases hn : nI 1 ≤ n
      · exact mt_nextPart_1by l hq T D th hj h2 hn
      · exact mt_nextPart_1bx l hq T D th hj h2 hn
    · obtain ⟨r, hr, rfl⟩ := oN_in (by decide) h2
      have hl : bI T (nI r) = T 4 (T 5 r) := by simp only [bI, nI_clamp (show r < 2 ^ 31 by omega)]
      have I2 := I.br hr
      have I3 := I.bl I2
      by_cases h3 : oP (T 4 (T 5 r)) f n
      · rw [show sp_nextPart T D (nI j) (nI r) f n = no T D 1 from if_pos (Or.inr (Or.inr (by rw [hl]; exact h3)))]
        by_cases hn : nI 1 ≤ n
        · exact mt_nextPart_1c l hq T D th I hj hr hn h3
        · by_cases h4 : oP (T 4 (T 5 r)) f (nI 0)
          · exact mt_nextPart_1d l hq T D th I hj hr hn h4
          · obtain ⟨f0, hf, rfl⟩ := nI_of (fun z => h4 (Or.inl z))
            have h5 : f0 ≤ T 4 (T 5 r) := Nat.not_lt.mp (fun z => h4 (Or.inr (Or.inr (by rw [nI_clamp hf, nI_clamp (by decide)]; exact z))))
            refine mt_nextPart_1e l hq T D th I hj hr h5 hn ?_
            rcases h3 with h3 | h3 | h3
            · exact absurd h3 (fun z => h4 (Or.inl z))
            · exact h3
            · refine Classical.byContradiction (fun g => ?_)
              obtain ⟨n0, hn0, rfl⟩ := nI_of g
              rw [nI_clamp hf, nI_clamp hn0] at h3
              exact hn ((nI_leI (by decide) hn0).mpr (by omega))
      · obtain ⟨f0, hf, rfl⟩ := nI_of (fun z => h3 (Or.inl z))
        obtain ⟨n0, hn, rfl⟩ := nI_of (fun z => h3 (Or.inr (Or.inl z)))
        have h4 : f0 + n0 ≤ T 4 (T 5 r) := Nat.not_lt.mp (fun z => h3 (Or.inr (Or.inr (by rw [nI_clamp hf, nI_clamp hn]; exact z))))
        have hc : (nI j).toNatClampNeg = j := nI_clamp (by omega)
        have hc2 : (nI r).toNatClampNeg = r := nI_clamp (by omega)
        have hc3 : (nI f0).toNatClampNeg = f0 := nI_clamp hf
        have hc4 : (nI n0).toNatClampNeg = n0 := nI_clamp hn
        have hno : ¬ (oN (nI j) 2 ∨ oN (nI r) 4 ∨ oP (bI T (nI r)) (nI f0) (nI n0)) := by rw [hl]; exact fun z => z.elim h1 (fun z => z.elim h2 h3)
        have e0 : sp_nextPart T D (nI j) (nI r) (nI f0) (nI n0) = if n0 = 0 then no T D 2 else if T 13 j = 0 then no T D 3 else if itN T j r (T 13 j) = 1 then no T D 4 else sk_nextPart T D j r f0 n0 := by
          rw [sp_nextPart, if_neg hno, hc, hc2, hc3, hc4]
        rw [e0]
        by_cases h5 : n0 = 0
        · subst h5; rw [if_pos rfl]; exact mt_nextPart_2 l hq T D th I hj hr (by omega)
        · rw [if_neg h5]
          by_cases h6 : T 13 j = 0
          · rw [if_pos h6]; exact mt_nextPart_3 l hq T D th I hj hr h4 h5 h6
          · rw [if_neg h6]
            by_cases h7 : itN T j r (T 13 j) = 1
            · rw [if_pos h7]; exact mt_nextPart_4 l hq T D th I hj hr h4 h5 h6 h7
            · rw [if_neg h7]
              by_cases hw : wnT T j 16 j < wnT T j 13 j
              · rw [show sk_nextPart T D j r f0 n0 = _ from if_pos hw]; exact mt_nextPart_g l hq T D th I hj hr h4 h5 h6 h7 hw
              · rw [show sk_nextPart T D j r f0 n0 = _ from if_neg hw]; exact mt_nextPart_e l hq T D th I hj hr h4 h5 h6 h7 hw
