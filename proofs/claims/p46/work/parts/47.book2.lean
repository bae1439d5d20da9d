/-! the book in the making -/
def BL (l lq : List (Nat × Nat)) (na th : Nat) (L : List Nat) (K : pN) (R : pR) (I : pI) (A : mD) (Q : pR) (N : pN) : Prop := ∃ (ad : pD) (S : pN), Bk (fun k i => (k, i) ∈ l) (fun c i => (c, i) ∈ lq) na ad S L K R I A Q N ∧ ad 0 0 = th
section BLS
variable {l lq : List (Nat × Nat)} {na th : Nat} {L L1 L2 : List Nat} {K K1 K2 : pN} {R R1 R2 : pR} {I I1 I2 : pI} {A A1 A2 : mD} {Q Q1 Q2 : pR} {N N1 N2 : pN}
theorem Bk.congr {P P2 PQ PQ2 : Nat → Nat → Prop} {ad : pD} {S : pN} (h : Bk P PQ na ad S L K R I A Q N) (e1 : ∀ k i, P k i ↔ P2 k i) (e2 : ∀ k i, PQ k i ↔ PQ2 k i) : Bk P2 PQ2 na ad S L K R I A Q N := by
  have h1 : P = P2 := funext fun k => funext fun i => propext (e1 k i)
  have h2 : PQ = PQ2 := funext fun k => funext fun i => propext (e2 k i)
  subst h1; subst h2; exact h
theorem mem_c {k i k2 i2 : Nat} : ((k2, i2) ∈ l ∨ (k2 = k ∧ i2 = i)) ↔ (k2, i2) ∈ (k, i) :: l := by
  rw [List.mem_cons, Prod.mk.injEq]; exact Or.comm
theorem BL.start (h1 : th ∈ L) (h2 : K th = 6) : BL [(0, 0)] [] 0 th L K R I A Q N := by
  refine ⟨fun _ _ => th, fun _ => 0, ⟨fun k i z => ?_, List.mem_cons_self, fun c hc => absurd hc (Nat.not_lt_zero c), fun c i z => absurd z List.not_mem_nil⟩, rfl⟩
  have z := List.mem_singleton.mp z
  cases z
  exact ⟨by decide, h1, h2, rfl⟩
theorem BL.mono (h : BL l lq na th L K R I A Q N) (g : pX L K R I A Q N L2 K2 R2 I2 A2 Q2 N2) : BL l lq na th L2 K2 R2 I2 A2 Q2 N2 := by
  obtain ⟨ad, S, h1, h2⟩ := h
  exact ⟨ad, S, h1.mono g, h2⟩
theorem BL.mem (h : BL l lq na th L K R I A Q N) : th ∈ L := by
  obtain ⟨ad, S, h1, h2⟩ := h
  have := (h1.1 0 0 h1.2.1).2.1
  rw [h2] at this; exact this
theorem BL.kind (h : BL l lq na th L K R I A Q N) : K th = 6 := by
  obtain ⟨ad, S, h1, h2⟩ := h
  have := (h1.1 0 0 h1.2.1).2.2.1
  rw [h2] at this; exact this
theorem BL.at (h : BL l lq na th L K R I A Q N) (c : Nat) (hc : c < na) : ∃ x, R (13 + c) th = some x ∧ x ∈ L ∧ K x = kd 1 c ∧ N x = nk c := by
  obtain ⟨ad, S, h1, rfl⟩ := h
  obtain ⟨q1, q2, q3⟩ := h1.2.2.1 c hc
  exact ⟨ad 1 c, q2, (h1.1 1 c q1).2.1, (h1.1 1 c q1).2.2.1, q3⟩
theorem BL.arr (h : BL l lq na th L K R I A Q N) (g : pX L K R I A Q N L2 K2 R2 I2 A2 Q2 N2) {b : Nat} (hna : na < 6) (hP : (1, na) ∉ l) (hb : b ∉ L) (hm : b ∈ L2) (hk : K2 b = kd 1 na) (hN : N2 b = nk na) : BL ((1, na) :: l) lq (na + 1) th L2 K2 (u2 R2 (13 + na) th (some b)) I2 A2 Q2 N2 := by
  obtain ⟨ad, S, h1, rfl⟩ := h
  exact ⟨_, _, ((h1.mono g).arr hna hP (h1.out hb) hm hk hN).congr (fun _ _ => mem_c) (fun _ _ => Iff.rfl), adU_ne (Or.inl (by decide))⟩
theorem BL.add2 (h : BL l lq na th L K R I A Q N) (g : pX L K R I A Q N L2 K2 R2 I2 A2 Q2 N2) {c i a b x : Nat} (hc : c < na) (hna : na ≤ 6) (hx : R2 (13 + c) th = some x) (hP : (tk c, to c i) ∉ l) (hP2 : (tk c + 1, to c i) ∉ l) (hi : to c i < 100) (h9 : tk c ≠ 9) (ha : a ∉ L) (hb : b ∉ L) (hab : a ≠ b) (hma : a ∈ L2) (hmb : b ∈ L2) (hka : K2 a = kd (tk c) (to c i)) (hkb : K2 b = kd (tk c + 1) (to c i)) (hF : oF (tk c) a b R2 I2 N2) :
    BL ((tk c + 1, to c i) :: (tk c, to c i) :: l) ((c, i) :: lq) na th L2 K2 R2 I2 A2 (u2 Q2 x i (some a)) N2 := by
  obtain ⟨ad, S, h1, rfl⟩ := h
  have ht : 3 ≤ tk c := by unfold tk; split; decide; split; decide; split; decide; split; decide; split <;> decide
  have m0 := h1.mono g
  have hx9 : x = ad 1 c := Option.some.inj (hx.symm.trans (m0.2.2.1 c hc).2.1)
  subst hx9
  have m1 := m0.name hi hP (h1.out ha) hma hka (by omega) (fun e => by omega)
  have m2 := m1.name (k := tk c + 1) (i := to c i) (a := b) hi (fun z => z.elim hP2 (fun y => by omega)) (fun k2 i2 z => by
    by_cases e : k2 = tk c ∧ i2 = to c i
    · obtain ⟨rfl, rfl⟩ := e; rw [adU_eq]; exact hab
    · have z : (k2, i2) ∈ l := z.resolve_right e
      rw [adU_ne (by by_cases e1 : k2 = tk c; exact Or.inr (fun y => e ⟨e1, y⟩); exact Or.inl e1)]
      exact h1.out hb k2 i2 z) hmb hkb (by omega) (fun e => by omega)
  have e1 : adU (adU ad (tk c) (to c i) a) (tk c + 1) (to c i) b (tk c) (to c i) = a := (adU_ne (Or.inl (by omega))).trans adU_eq
  have e2 : adU (adU ad (tk c) (to c i) a) (tk c + 1) (to c i) b 1 c = ad 1 c := (adU_ne (Or.inl (by omega))).trans (adU_ne (Or.inl (by omega)))
  have m3 := m2.fill (c := c) (i := i) (a := a) (b := b) hc hna (Or.inl (Or.inr ⟨rfl, rfl⟩)) e1 (fun _ => Or.inr ⟨rfl, rfl⟩) (fun _ => adU_eq) hF
  rw [e2] at m3
  exact ⟨_, _, m3.congr (fun k2 i2 => (or_congr mem_c Iff.rfl).trans mem_c) (fun _ _ => mem_c), (adU_ne (Or.inl (by omega))).trans (adU_ne (Or.inl (by omega)))⟩
theorem BL.add1 (h : BL l lq na th L K R I A Q N) (g : pX L K R I A Q N L2 K2 R2 I2 A2 Q2 N2) {c i a x : Nat} (hc : c < na) (hna : na ≤ 6) (hx : R2 (13 + c) th = some x) (hP : (tk c, to c i) ∉ l) (hi : to c i < 100) (h9 : tk c = 9) (ha : a ∉ L) (hma : a ∈ L2) (hka : K2 a = kd (tk c) (to c i)) (hF : I2 8 a = 0) :
    BL ((tk c, to c i) :: l) ((c, i) :: lq) na th L2 K2 R2 I2 A2 (u2 Q2 x i (some a)) N2 := by
  obtain ⟨ad, S, h1, rfl⟩ := h
  have m0 := h1.mono g
  have hx9 : x = ad 1 c := Option.some.inj (hx.symm.trans (m0.2.2.1 c hc).2.1)
  subst hx9
  have m1 := m0.name hi hP (h1.out ha) hma hka (by omega) (fun e => by omega)
  have e2 : adU ad (tk c) (to c i) a 1 c = ad 1 c := adU_ne (Or.inl (by omega))
  have m3 := m1.fill (c := c) (i := i) (a := a) (b := 0) hc hna (Or.inr ⟨rfl, rfl⟩) adU_eq (fun e => absurd h9 e) (fun e => absurd h9 e) ⟨fun e => by omega, fun e => by omega, fun e => by omega, fun _ => hF, fun e => by omega⟩
  rw [e2] at m3
  exact ⟨_, _, m3.congr (fun k2 i2 => mem_c) (fun _ _ => mem_c), adU_ne (Or.inl (by omega))⟩
theorem BL.less (h : BL l lq na th L K R I A Q N) {l2 lq2 : List (Nat × Nat)} (h0 : (0, 0) ∈ l2) (h1 : ∀ c, c < na → (1, c) ∈ l2) (hl : ∀ q ∈ l2, q ∈ l) (hq : ∀ q ∈ lq2, q ∈ lq ∧ (tk q.1, to q.1 q.2) ∈ l2 ∧ (tk q.1 ≠ 9 → (tk q.1 + 1, to q.1 q.2) ∈ l2)) : BL l2 lq2 na th L K R I A Q N := by
  obtain ⟨ad, S, ⟨g1, g2, g3, g4⟩, rfl⟩ := h
  refine ⟨ad, S, ⟨fun k i z => g1 k i (hl _ z), h0, fun c hc => ⟨h1 c hc, (g3 c hc).2⟩, fun c i z => ?_⟩, rfl⟩
  obtain ⟨w1, w2, w3⟩ := hq (c, i) z
  obtain ⟨q1, q2, q3, q4, q5⟩ := g4 c i w1
  exact ⟨q1, w2, q3, q4, w3⟩
theorem pX.thr2 {n : Nat} (h : pX L K R I A Q N L1 K1 R1 I1 A1 Q1 N1) (hn : n ∉ L) (g : pXe n L1 K1 R1 I1 A1 Q1 N1 L2 K2 R2 I2 A2 Q2 N2) : pX L K R I A Q N L2 K2 R2 I2 A2 Q2 N2 := fun a ha => by
  obtain ⟨h1, h2, h3, h4, h5, h6, h7⟩ := h a ha
  obtain ⟨g1, g2, g3, g4, g5, g6, g7⟩ := g a h1
  exact ⟨g1, g2.trans h2, fun f => (g3 (fun z => hn (z ▸ ha)) f).trans (h3 f), fun f => (g4 f).trans (h4 f), g5.trans h5, g6.trans h6, g7.trans h7⟩
end BLS
def LB : List (Nat × Nat) := [(0, 0), (1, 0), (1, 1), (1, 2), (1, 3), (1, 4), (1, 5), (3, 0), (3, 1), (3, 2), (3, 3), (4, 0), (4, 1), (4, 2), (4, 3), (5, 0), (5, 1), (5, 2), (5, 3), (6, 0), (6, 1), (6, 2), (6, 3), (7, 0), (7, 1), (7, 2), (7, 3), (7, 4), (7, 5), (8, 0), (8, 1), (8, 2), (8, 3), (8, 4), (8, 5), (9, 0), (9, 1), (9, 2), (10, 0), (10, 1), (11, 0), (11, 1)]
def LQ : List (Nat × Nat) := [(0, 0), (0, 1), (0, 2), (0, 3), (1, 0), (1, 1), (1, 2), (1, 3), (2, 0), (2, 1), (2, 2), (3, 0), (3, 1), (3, 2), (4, 0), (4, 1), (4, 2), (5, 0), (5, 1)]
def T0 : mT := fun f i => if (f = 2 ∨ f = 5) ∧ i < 4 then i else 0
def D0 : mD := fun _ _ => 0
theorem LQ_in : ∀ c, c < 6 → ∀ i, i < nk c → (c, i) ∈ LQ := by decide +kernel
theorem T0_uS {z : Nat} (h : uS T0 z) : z < 4 := by
  rcases h with ⟨r, h1, h2⟩ | ⟨i, h1, h2⟩
  · have : T0 2 r = r := if_pos ⟨Or.inl rfl, h1⟩
    omega
  · have : T0 8 i = 0 := if_neg (fun z => z.1.elim (by decide) (by decide))
    omega
theorem T0_uB {z : Nat} (h : uB T0 z) : z < 4 := by
  rcases h with ⟨r, h1, h2⟩ | ⟨i, h1, h2⟩
  · have : T0 5 r = r := if_pos ⟨Or.inr rfl, h1⟩
    omega
  · have : T0 14 i = 0 := if_neg (fun z => z.1.elim (by decide) (by decide))
    omega
theorem T0_z {f i : Nat} (h : f ≠ 2) (h2 : f ≠ 5) : T0 f i = 0 := if_neg (fun z => z.1.elim h h2)
theorem mI_T0 : mI T0 := by
  have e2 : ∀ r, r < 4 → T0 2 r = r := fun r h => if_pos ⟨Or.inl rfl, h⟩
  have e5 : ∀ r, r < 4 → T0 5 r = r := fun r h => if_pos ⟨Or.inr rfl, h⟩
  have z : ∀ f i, f ≠ 2 → f ≠ 5 → T0 f i = 0 := fun f i h h2 => T0_z h h2
  refine ⟨fun r h => by rw [e2 r h]; omega, fun r r2 h h2 e => by rw [e2 r h, e2 r2 h2] at e; exact e, fun k _ => by rw [z 1 k (by decide) (by decide)]; decide, fun r h => by rw [e5 r h]; omega, fun r r2 h h2 e => by rw [e5 r h, e5 r2 h2] at e; exact e, fun k _ => by rw [z 4 k (by decide) (by decide)]; decide, fun w _ => by rw [z 7 w (by decide) (by decide)]; decide, fun i _ => ?_, fun j _ => ?_⟩
  · rw [z 8 i (by decide) (by decide), z 9 i (by decide) (by decide), z 10 i (by decide) (by decide), z 11 i (by decide) (by decide), z 12 i (by decide) (by decide)]
    exact ⟨by decide, by decide, by decide, by decide, by decide, fun y => absurd rfl y⟩
  · rw [z 13 j (by decide) (by decide), z 16 j (by decide) (by decide), z 17 j (by decide) (by decide)]
    refine ⟨Or.inl rfl, by decide, by decide, fun k _ => ?_⟩
    rw [z 14 _ (by decide) (by decide), z 15 _ (by decide) (by decide)]
    exact ⟨by decide, fun y => absurd y (Nat.not_lt_zero k), fun _ => Nat.zero_le _, fun _ _ => rfl⟩
theorem mJD_D0 : mJD D0 := ⟨fun _ => (by decide : (0 : Int32) &&& nI 255 = 0), fun _ => (by decide : ((0 : Int32).toInt8).toInt32 = 0), fun _ => (by decide : (0 : Int32) &&& nI 255 = 0), fun _ => (by decide : (0 : Int32) &&& nI 255 = 0)⟩
def tOn (k i : Nat) : Bool := decide (k = 2 ∨ 12 ≤ k ∨ (k = 9 ∧ 3 ≤ i) ∨ ((k = 7 ∨ k = 8) ∧ 6 ≤ i) ∨ ((k = 10 ∨ k = 11) ∧ 2 ≤ i))
def lvB (k i : Nat) : Bool := decide ((k = 0 ∧ i = 0) ∨ (k = 1 ∧ i < 6) ∨ (k = 2 ∧ i = 0) ∨ ((k = 3 ∨ k = 4) ∧ i < 4) ∨ ((k = 5 ∨ k = 6) ∧ i < 4) ∨ ((k = 7 ∨ k = 8) ∧ i < 8) ∨ (k = 9 ∧ i < 4) ∨ ((k = 10 ∨ k = 11) ∧ i < 3) ∨ (12 ≤ k ∧ k ≤ 16 ∧ i = 0))
def lvO (k i : Nat) : Bool := if tOn k i = true then decide (k = 2 ∧ i = 0) || ([(12, 0), (13, 0), (14, 0), (9, 3), (7, 6), (8, 6), (7, 7), (8, 7), (15, 0), (16, 0), (10, 2), (11, 2)] : List (Nat × Nat)).contains (k, i) else LB.contains (k, i)
theorem lv_key : ∀ k, k < 17 → ∀ i, i < 8 → (!lvB k i || lvO k i) = true := by decide +kernel
theorem lv_T0 {k i : Nat} (h : lv T0 k i) : if tOn k i = true then (k = 2 ∧ i = 0) ∨ (k, i) ∈ ([(12, 0), (13, 0), (14, 0), (9, 3), (7, 6), (8, 6), (7, 7), (8, 7), (15, 0), (16, 0), (10, 2), (11, 2)] : List (Nat × Nat)) else (k, i) ∈ LB := by
  have b : k < 17 ∧ i < 8 ∧ ((k = 0 ∧ i = 0) ∨ (k = 1 ∧ i < 6) ∨ (k = 2 ∧ i = 0) ∨ ((k = 3 ∨ k = 4) ∧ i < 4) ∨ ((k = 5 ∨ k = 6) ∧ i < 4) ∨ ((k = 7 ∨ k = 8) ∧ i < 8) ∨ (k = 9 ∧ i < 4) ∨ ((k = 10 ∨ k = 11) ∧ i < 3) ∨ (12 ≤ k ∧ k ≤ 16 ∧ i = 0)) := by
    rcases h with h | h | h | ⟨h, h2⟩ | ⟨h, h2⟩ | h | h | h | h
    · omega
    · omega
    · omega
    · have := T0_uS h2; omega
    · have := T0_uB h2; omega
    · omega
    · omega
    · omega
    · omega
  have hk := lv_key k b.1 i b.2.1
  have hb : lvB k i = true := decide_eq_true b.2.2
  rw [hb] at hk
  have hk : lvO k i = true := by simpa using hk
  unfold lvO at hk
  by_cases e : tOn k i = true
  · rw [if_pos e] at hk
    rw [if_pos e]
    rcases (Bool.or_eq_true _ _).mp hk with y | y
    · exact Or.inl (of_decide_eq_true y)
    · exact Or.inr (List.contains_iff_mem.mp y)
  · rw [if_neg e] at hk
    rw [if_neg e]
    exact List.contains_iff_mem.mp hk
set_option maxHeartbeats 2000000 in
theorem BL.rep {th n : Nat} {L L1 L2 : List Nat} {K K1 K2 : pN} {R R1 R2 : pR} {I I1 I2 : pI} {A A1 A2 : mD} {Q Q1 Q2 : pR} {N N1 N2 : pN} (h : BL LB LQ 6 th L K R I A Q N) (hX : pX L K R I A Q N L1 K1 R1 I1 A1 Q1 N1) (hn : n ∉ L) (hn1 : n ∈ L1) (hF : trP n L1 K1 R1 I1 A1 Q1 N1 L2 K2 R2 I2 A2 Q2 N2) : ∃ ad, Rep T0 D0 ad L2 K2 (u2 R2 19 th (some n)) I2 A2 Q2 N2 ∧ ad 0 0 = th := by
  obtain ⟨t, S2, htN, ⟨htT, ⟨u1, u2', u3⟩, ⟨u4, u5, u6⟩, u7, u8⟩, hpe, hnm, hnk, ht2⟩ := hF
  have hXX := hX.thr2 hn hpe
  obtain ⟨ad, S, hb0, rfl⟩ := h
  have hb := hb0.mono hXX
  obtain ⟨b1, b2, b3, b4⟩ := hb
  generalize hA : (fun (k i : Nat) => if tOn k i = true then t k i else ad k i : pD) = A9
  have aT : ∀ k i, tOn k i = true → A9 k i = t k i := fun k i z => by rw [← hA]; exact if_pos z
  have aD : ∀ k i, tOn k i = false → A9 k i = ad k i := fun k i z => by rw [← hA]; exact if_neg (by rw [z]; decide)
  have hL0 : ∀ k i, (k, i) ∈ LB → ad k i ∈ L := fun k i z => (hb0.1 k i z).2.1
  have hL1 : ∀ {a}, a ∈ L → a ∈ L1 := fun z => (hX _ z).1
  have r19 : ∀ f b, f ≠ 19 → u2 R2 19 (ad 0 0) (some n) f b = R2 f b := fun f b z => congrFun (u2_ne z) _
  have z0 : ∀ f i, f ≠ 2 → f ≠ 5 → T0 f i = 0 := fun f i h1 h2 => T0_z h1 h2
  have dW : ∀ w, w < 6 → tOn 7 w = false ∧ tOn 8 w = false := by decide
  have dA : ∀ c, tOn 1 c = false := fun c => by simp [tOn]
  have d3 : ∀ z, tOn 3 z = false ∧ tOn 4 z = false ∧ tOn 5 z = false ∧ tOn 6 z = false := fun z => by simp [tOn]
  have dR : ∀ i, i < 3 → tOn 9 i = false := by decide
  have dJ : ∀ i, i < 2 → tOn 10 i = false ∧ tOn 11 i = false := by decide
  have q4 : ∀ c i, c < 6 → i < nk c → Q2 (ad 1 c) i = some (ad (tk c) (to c i)) ∧ oF (tk c) (ad (tk c) (to c i)) (ad (tk c + 1) (to c i)) R2 I2 N2 := fun c i h1 h2 => ⟨(b4 c i (LQ_in c h1 i h2)).2.2.1, (b4 c i (LQ_in c h1 i h2)).2.2.2.1⟩
  have cls : ∀ k i, lv T0 k i → A9 k i ∈ L2 ∧ K2 (A9 k i) = kd k i ∧ ((A9 k i ∈ L ∧ S (A9 k i) = 100 * k + i) ∨ (A9 k i ∉ L1 ∧ S2 (A9 k i) = 100 * k + i) ∨ (A9 k i = n ∧ k = 2 ∧ i = 0)) ∧ i < 100 := by
    intro k i hl
    have hc := lv_T0 hl
    by_cases e : tOn k i = true
    · rw [if_pos e] at hc
      rw [aT k i e]
      rcases hc with ⟨rfl, rfl⟩ | hc
      · rw [ht2]; exact ⟨hnm, hnk, Or.inr (Or.inr ⟨rfl, rfl, rfl⟩), by decide⟩
      · obtain ⟨w1, w2, w3, w4⟩ := htN (k, i) hc
        have hi : ∀ q ∈ ([(12, 0), (13, 0), (14, 0), (9, 3), (7, 6), (8, 6), (7, 7), (8, 7), (15, 0), (16, 0), (10, 2), (11, 2)] : List (Nat × Nat)), q.2 < 100 := by decide
        exact ⟨w2, w3, Or.inr (Or.inl ⟨w1, w4⟩), hi _ hc⟩
    · rw [if_neg e] at hc
      rw [aD k i (by simpa using e)]
      obtain ⟨w0, w1, w2, w3⟩ := b1 k i hc
      exact ⟨w1, w2, Or.inl ⟨hL0 k i hc, w3⟩, w0⟩
  refine ⟨A9, ⟨⟨fun k i hl => ⟨(cls k i hl).1, (cls k i hl).2.1⟩, fun k i k2 i2 hl hl2 he => ?_⟩, ?_, ?_, fun z hz => ?_, fun z hz => ?_, ⟨fun w hw => ?_, fun w h6 h8 => ?_⟩, fun i hi => ?_, fun j hj => ?_, mI_T0, mJD_D0⟩, aD 0 0 (by decide)⟩
  · obtain ⟨-, -, c3, c4⟩ := cls k i hl
    obtain ⟨-, -, d3, d4⟩ := cls k2 i2 hl2
    rw [← he] at d3
    rcases c3 with ⟨x1, x2⟩ | ⟨x1, x2⟩ | ⟨x1, x2, x3⟩ <;> rcases d3 with ⟨y1, y2⟩ | ⟨y1, y2⟩ | ⟨y1, y2, y3⟩
    · omega
    · exact absurd (hL1 x1) y1
    · exact absurd x1 (by rw [y1]; exact hn)
    · exact absurd (hL1 y1) x1
    · omega
    · exact absurd hn1 (by rw [← y1]; exact x1)
    · exact absurd y1 (by rw [x1]; exact hn)
    · exact absurd hn1 (by rw [← x1]; exact y1)
    · exact ⟨by omega, by omega⟩
  · obtain ⟨t1, t2, t3, t4, t5, t6, t7, t8, t9, t10, t11, t12, t13⟩ := htT
    refine ⟨fun k hk => ?_, ?_, ⟨?_, ?_, ?_, ?_, ?_, ?_⟩, fun w hw => ?_, fun w hw => ?_, fun i hi => ?_, fun j hj => ?_, fun w hw => ?_, fun j hj => ?_, ?_⟩
    · rw [aD 0 0 (by decide), aD 1 k (dA k), r19 _ _ (by omega)]; exact (b3 k hk).2.1
    · rw [aD 0 0 (by decide), aT 2 0 (by decide), ht2]; exact u2_eq
    · rw [aD 1 _ (dA _)]; exact (b3 0 (by decide)).2.2
    · rw [aD 1 _ (dA _)]; exact (b3 1 (by decide)).2.2
    · rw [aD 1 _ (dA _)]; exact (b3 2 (by decide)).2.2
    · rw [aD 1 _ (dA _)]; exact (b3 3 (by decide)).2.2
    · rw [aD 1 _ (dA _)]; exact (b3 4 (by decide)).2.2
    · rw [aD 1 _ (dA _)]; exact (b3 5 (by decide)).2.2
    · rw [aD 1 _ (dA _), aD 7 w (dW w (by omega)).1]; exact (q4 2 w (by decide) hw).1
    · rw [aD 1 _ (dA _), aD 7 (3 + w) (dW (3 + w) (by omega)).1]; exact (q4 3 w (by decide) hw).1
    · rw [aD 1 _ (dA _), aD 9 i (dR i hi)]; exact (q4 4 i (by decide) hi).1
    · rw [aD 1 _ (dA _), aD 10 j (dJ j hj).1]; exact (q4 5 j (by decide) hj).1
    · rcases (show w < 3 ∨ (3 ≤ w ∧ w < 6) ∨ w = 6 ∨ w = 7 by omega) with e | e | e | e
      · rw [aD 7 w (dW w (by omega)).1, aD 8 w (dW w (by omega)).2, r19 _ _ (by decide)]
        have := (q4 2 w (by decide) e).2.2.2.1 rfl
        exact ⟨this.1, this.2.1⟩
      · obtain ⟨v, rfl⟩ : ∃ v, w = 3 + v := ⟨w - 3, by omega⟩
        rw [aD 7 _ (dW _ (by omega)).1, aD 8 _ (dW _ (by omega)).2, r19 _ _ (by decide)]
        have := (q4 3 v (by decide) (show v < 3 by omega)).2.2.2.1 rfl
        exact ⟨this.1, this.2.1⟩
      · subst e; rw [aT 7 6 (by decide), aT 8 6 (by decide), r19 _ _ (by decide)]; exact ⟨u1, u2'⟩
      · subst e; rw [aT 7 7 (by decide), aT 8 7 (by decide), r19 _ _ (by decide)]; exact ⟨u4, u5⟩
    · rcases (show j < 2 ∨ j = 2 by omega) with e | e
      · rw [aD 10 j (dJ j e).1, aD 11 j (dJ j e).2, r19 _ _ (by decide)]
        have := (q4 5 j (by decide) e).2.2.2.2.2 rfl
        exact ⟨this.1, this.2.1⟩
      · subst e; rw [aT 10 2 (by decide), aT 11 2 (by decide), r19 _ _ (by decide)]; exact ⟨u7, u8⟩
    · unfold rpT
      rw [aT 2 0 (by decide), aT 12 0 (by decide), aT 13 0 (by decide), aT 14 0 (by decide), aT 9 3 (by decide), aT 7 6 (by decide), aT 7 7 (by decide), aT 15 0 (by decide), aT 16 0 (by decide), aT 10 2 (by decide), r19 _ _ (by decide), r19 _ _ (by decide), r19 _ _ (by decide), r19 _ _ (by decide), r19 _ _ (by decide), r19 _ _ (by decide), r19 _ _ (by decide), r19 _ _ (by decide), r19 _ _ (by decide)]
      exact ⟨t1, t2, t3, t4, t5, t6, t7, t8, t9, t10, t11, t12, t13⟩
  · refine ⟨fun r hr => ?_, fun r hr => ?_⟩
    · rw [show T0 2 r = r from if_pos ⟨Or.inl rfl, hr⟩, aD 1 _ (dA _), aD 3 r (d3 r).1]; exact (q4 0 r (by decide) hr).1
    · rw [show T0 5 r = r from if_pos ⟨Or.inr rfl, hr⟩, aD 1 _ (dA _), aD 5 r (d3 r).2.2.1]; exact (q4 1 r (by decide) hr).1
  · have hz := T0_uS hz
    rw [aD 3 z (d3 z).1, aD 4 z (d3 z).2.1, r19 _ _ (by decide), z0 1 z (by decide) (by decide)]
    have := (q4 0 z (by decide) hz).2.1 rfl
    exact ⟨this.1, this.2, fun j hj => absurd hj (Nat.not_lt_zero j)⟩
  · have hz := T0_uB hz
    rw [aD 5 z (d3 z).2.2.1, aD 6 z (d3 z).2.2.2, r19 _ _ (by decide), z0 4 z (by decide) (by decide)]
    have := (q4 1 z (by decide) hz).2.2.1 rfl
    exact ⟨this.1, this.2, fun j hj => absurd hj (Nat.not_lt_zero j)⟩
  · rw [z0 7 w (by decide) (by decide)]
    refine ⟨?_, fun j hj => absurd hj (Nat.not_lt_zero j)⟩
    rw [aD 7 w (dW w hw).1]
    rcases (show w < 3 ∨ 3 ≤ w by omega) with e | e
    · exact ((q4 2 w (by decide) e).2.2.2.1 rfl).2.2
    · obtain ⟨v, rfl⟩ : ∃ v, w = 3 + v := ⟨w - 3, by omega⟩
      exact ((q4 3 v (by decide) (show v < 3 by omega)).2.2.2.1 rfl).2.2
  · refine ⟨0, by decide, ?_⟩
    rcases (show w = 6 ∨ w = 7 by omega) with e | e
    · subst e; rw [aT 7 6 (by decide)]; exact u3
    · subst e; rw [aT 7 7 (by decide)]; exact u6
  · refine ⟨fun _ => ?_, fun y => absurd (z0 8 i (by decide) (by decide)) y⟩
    rw [aD 9 i (dR i hi)]; exact (q4 4 i (by decide) hi).2.2.2.2.1 rfl
  · have hJ := (q4 5 j (by decide) hj).2.2.2.2.2 rfl
    rw [z0 13 j (by decide) (by decide), z0 16 j (by decide) (by decide), z0 17 j (by decide) (by decide), z0 18 j (by decide) (by decide), aD 10 j (dJ j hj).1]
    exact ⟨hJ.2.2 0 (by decide), hJ.2.2 1 (by decide), ⟨0, hJ.2.2 2 (by decide), by decide, fun y => absurd y (Nat.lt_irrefl 0)⟩, hJ.2.2 3 (by decide), hJ.2.2 4 (by decide), fun k hk => absurd hk (Nat.not_lt_zero k)⟩
