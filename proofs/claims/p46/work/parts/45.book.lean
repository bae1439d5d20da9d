/-! the book's parts as its constructor makes them -/
def pXe (th : Nat) (L : List Nat) (K : pN) (R : pR) (I : pI) (A : mD) (Q : pR) (N : pN) (L2 : List Nat) (K2 : pN) (R2 : pR) (I2 : pI) (A2 : mD) (Q2 : pR) (N2 : pN) : Prop := ∀ a, a ∈ L → a ∈ L2 ∧ K2 a = K a ∧ (a ≠ th → ∀ f, R2 f a = R f a) ∧ (∀ f, I2 f a = I f a) ∧ A2 a = A a ∧ Q2 a = Q a ∧ N2 a = N a
section BKX
variable {L L1 L2 : List Nat} {K K1 K2 : pN} {R R1 R2 : pR} {I I1 I2 : pI} {A A1 A2 : mD} {Q Q1 Q2 : pR} {N N1 N2 : pN} {th : Nat}
theorem pXe.rf : pXe th L K R I A Q N L K R I A Q N := fun a h => ⟨h, rfl, fun _ _ => rfl, fun _ => rfl, rfl, rfl, rfl⟩
theorem pXe.step (h : pXe th L K R I A Q N L1 K1 R1 I1 A1 Q1 N1) (g : pX L1 K1 R1 I1 A1 Q1 N1 L2 K2 R2 I2 A2 Q2 N2) : pXe th L K R I A Q N L2 K2 R2 I2 A2 Q2 N2 := fun a ha => by
  obtain ⟨h1, h2, h3, h4, h5, h6, h7⟩ := h a ha
  obtain ⟨g1, g2, g3, g4, g5, g6, g7⟩ := g a h1
  exact ⟨g1, g2.trans h2, fun z f => (g3 f).trans (h3 z f), fun f => (g4 f).trans (h4 f), g5.trans h5, g6.trans h6, g7.trans h7⟩
theorem pXe.put {f : Nat} {v : Option Nat} (h : pXe th L K R I A Q N L2 K2 R2 I2 A2 Q2 N2) : pXe th L K R I A Q N L2 K2 (u2 R2 f th v) I2 A2 Q2 N2 := fun a ha => by
  obtain ⟨h1, h2, h3, h4, h5, h6, h7⟩ := h a ha
  refine ⟨h1, h2, fun z g => ?_, h4, h5, h6, h7⟩
  rw [← h3 z g]
  by_cases e : g = f
  · subst e; exact u2_nj z
  · exact congrFun (u2_ne e) _
theorem pXe.newR {f b : Nat} {v : Option Nat} (h : pXe th L K R I A Q N L2 K2 R2 I2 A2 Q2 N2) (hb : b ∉ L) : pXe th L K R I A Q N L2 K2 (u2 R2 f b v) I2 A2 Q2 N2 := fun a ha => by
  obtain ⟨h1, h2, h3, h4, h5, h6, h7⟩ := h a ha
  have hne : a ≠ b := fun z => hb (z ▸ ha)
  refine ⟨h1, h2, fun z g => ?_, h4, h5, h6, h7⟩
  rw [← h3 z g]
  by_cases e : g = f
  · subst e; exact u2_nj hne
  · exact congrFun (u2_ne e) _
theorem nwW_of {a : Nat} (hX : pX L K R I A Q N L1 K1 R1 I1 A1 Q1 N1) (hn : a ∉ L) (hm : a ∈ L1) (hk : K1 a = 4) (hi : ∀ f, I1 f a = 0) (hF : nwP 4 8 a 256 L1 K1 R1 I1 A1 Q1 N1 L2 K2 R2 I2 A2 Q2 N2) : ∃ b, pX L K R I A Q N L2 K2 R2 I2 A2 Q2 N2 ∧ a ∉ L ∧ b ∉ L ∧ a ≠ b ∧ isWr L2 K2 R2 I2 N2 a b 0 := by
  obtain ⟨b, h1, h2, h3, h4, h5, h6⟩ := hF
  obtain ⟨g1, g2, g3, g4, -⟩ := h6 a hm
  exact ⟨b, hX.through hn h6, hn, fun z => h1 ((hX b z).1), fun z => h1 (z ▸ hm), ⟨g1, g2.trans hk, (g3 4).trans u2_eq, h2, h3, h4, (g4 10).trans (hi 10), Nat.zero_le _⟩⟩
theorem nwJ_of {a : Nat} (hX : pX L K R I A Q N L1 K1 R1 I1 A1 Q1 N1) (hn : a ∉ L) (hm : a ∈ L1) (hk : K1 a = 1) (hi : ∀ f, I1 f a = 0) (hF : nwP 1 10 a 3 L1 K1 R1 I1 A1 Q1 N1 L2 K2 R2 I2 A2 Q2 N2) : ∃ b, pX L K R I A Q N L2 K2 R2 I2 A2 Q2 N2 ∧ a ∉ L ∧ b ∉ L ∧ a ≠ b ∧ a ∈ L2 ∧ K2 a = 1 ∧ R2 1 a = some b ∧ b ∈ L2 ∧ K2 b = 10 ∧ N2 b = 3 ∧ ∀ f, I2 f a = 0 := by
  obtain ⟨b, h1, h2, h3, h4, h5, h6⟩ := hF
  obtain ⟨g1, g2, g3, g4, -⟩ := h6 a hm
  exact ⟨b, hX.through hn h6, hn, fun z => h1 ((hX b z).1), fun z => h1 (z ▸ hm), g1, g2.trans hk, (g3 1).trans u2_eq, h2, h3, h4, fun f => (g4 f).trans (hi f)⟩
theorem nwR_of {a : Nat} (hX : pX L K R I A Q N L1 K1 R1 I1 A1 Q1 N1) (hn : a ∉ L) (hm : a ∈ L1) (hk : K1 a = 2) (hi : ∀ f, I1 f a = 0) (hF : ∃ x y, x ∉ L1 ∧ y ∉ L1 ∧ x ≠ y ∧ isSR L2 K2 R2 N2 x y 0 ∧ pX L1 K1 (u2 R1 2 a (some x)) I1 A1 Q1 N1 L2 K2 R2 I2 A2 Q2 N2) : pX L K R I A Q N L2 K2 R2 I2 A2 Q2 N2 ∧ a ∉ L ∧ a ∈ L2 ∧ K2 a = 2 ∧ ∀ f, I2 f a = 0 := by
  obtain ⟨x, y, h1, h2, h3, h4, h6⟩ := hF
  obtain ⟨g1, g2, g3, g4, -⟩ := h6 a hm
  exact ⟨hX.through hn h6, hn, g1, g2.trans hk, fun f => (g4 f).trans (hi f)⟩
end BKX
def oF (k a b : Nat) (R : pR) (I : pI) (N : pN) : Prop := (k = 3 → R 3 a = some b ∧ N b = 0) ∧ (k = 5 → R 0 a = some b ∧ N b = 0) ∧ (k = 7 → R 4 a = some b ∧ N b = 256 ∧ I 10 a = 0) ∧ (k = 9 → I 8 a = 0) ∧ (k = 10 → R 1 a = some b ∧ N b = 3 ∧ ∀ f, f ≤ 4 → I f a = 0)
def tk (c : Nat) : Nat := if c = 0 then 3 else if c = 1 then 5 else if c = 2 then 7 else if c = 3 then 7 else if c = 4 then 9 else 10
def to (c i : Nat) : Nat := if c = 3 then 3 + i else i
def nk (c : Nat) : Nat := if c = 0 then 4 else if c = 1 then 4 else if c = 5 then 2 else 3
def Bk (P PQ : Nat → Nat → Prop) (na : Nat) (ad : pD) (S : pN) (L : List Nat) (K : pN) (R : pR) (I : pI) (A : mD) (Q : pR) (N : pN) : Prop :=
  (∀ k i, P k i → i < 100 ∧ ad k i ∈ L ∧ K (ad k i) = kd k i ∧ S (ad k i) = 100 * k + i) ∧ P 0 0 ∧ (∀ c, c < na → P 1 c ∧ R (13 + c) (ad 0 0) = some (ad 1 c) ∧ N (ad 1 c) = nk c) ∧
  ∀ c i, PQ c i → c < na ∧ P (tk c) (to c i) ∧ Q (ad 1 c) i = some (ad (tk c) (to c i)) ∧ oF (tk c) (ad (tk c) (to c i)) (ad (tk c + 1) (to c i)) R I N ∧ (tk c ≠ 9 → P (tk c + 1) (to c i))
section BK
variable {P PQ : Nat → Nat → Prop} {na : Nat} {ad : pD} {S : pN} {L L2 : List Nat} {K K2 : pN} {R R2 : pR} {I I2 : pI} {A A2 : mD} {Q Q2 : pR} {N N2 : pN}
theorem oF.tr {k a b : Nat} (h : oF k a b R I N) (hR : ∀ f, R2 f a = R f a) (hI : ∀ f, I2 f a = I f a) (hN : k ≠ 9 → N2 b = N b) : oF k a b R2 I2 N2 := by
  obtain ⟨h1, h2, h3, h4, h5⟩ := h
  refine ⟨fun e => ?_, fun e => ?_, fun e => ?_, fun e => ?_, fun e => ?_⟩
  · rw [hR, hN (by omega)]; exact h1 e
  · rw [hR, hN (by omega)]; exact h2 e
  · rw [hR, hN (by omega), hI]; exact h3 e
  · rw [hI]; exact h4 e
  · rw [hR, hN (by omega)]; exact ⟨(h5 e).1, (h5 e).2.1, fun f hf => (hI f).trans ((h5 e).2.2 f hf)⟩
theorem Bk.mono (h : Bk P PQ na ad S L K R I A Q N) (g : pX L K R I A Q N L2 K2 R2 I2 A2 Q2 N2) : Bk P PQ na ad S L2 K2 R2 I2 A2 Q2 N2 := by
  obtain ⟨h1, h2, h3, h4⟩ := h
  have G : ∀ {k i}, P k i → ad k i ∈ L := fun z => (h1 _ _ z).2.1
  refine ⟨fun k i z => ?_, h2, fun c hc => ?_, fun c i z => ?_⟩
  · obtain ⟨q0, q1, q2, q3⟩ := h1 k i z
    exact ⟨q0, (g _ q1).1, (g _ q1).2.1.trans q2, q3⟩
  · obtain ⟨q1, q2, q3⟩ := h3 c hc
    exact ⟨q1, ((g _ (G h2)).2.2.1 _).trans q2, (g _ (G q1)).2.2.2.2.2.2.trans q3⟩
  · obtain ⟨q1, q2, q3, q4, q5⟩ := h4 c i z
    exact ⟨q1, q2, (congrFun (g _ (G (h3 c q1).1)).2.2.2.2.2.1 i).trans q3, q4.tr (g _ (G q2)).2.2.1 (g _ (G q2)).2.2.2.1 (fun e => (g _ (G (q5 e))).2.2.2.2.2.2), q5⟩
theorem Bk.out (h : Bk P PQ na ad S L K R I A Q N) {b : Nat} (hb : b ∉ L) : ∀ k i, P k i → ad k i ≠ b := fun k i z e => hb (e ▸ (h.1 k i z).2.1)
def adU (ad : pD) (k i a : Nat) : pD := fun k2 i2 => if k2 = k ∧ i2 = i then a else ad k2 i2
theorem adU_eq {k i a : Nat} : adU ad k i a k i = a := if_pos ⟨rfl, rfl⟩
theorem adU_ne {k i a k2 i2 : Nat} (h : k2 ≠ k ∨ i2 ≠ i) : adU ad k i a k2 i2 = ad k2 i2 := if_neg (fun z => h.elim (fun y => y z.1) (fun y => y z.2))
/-- one name more -/
theorem Bk.name (h : Bk P PQ na ad S L K R I A Q N) {k i a : Nat} (hi : i < 100) (hP : ¬ P k i) (hne : ∀ k i, P k i → ad k i ≠ a) (hm : a ∈ L) (hk : K a = kd k i) (hx : k ≠ 0) (hx1 : k = 1 → na ≤ i) : Bk (fun k2 i2 => P k2 i2 ∨ (k2 = k ∧ i2 = i)) PQ na (adU ad k i a) (va_up S a (100 * k + i)) L K R I A Q N := by
  obtain ⟨h1, h2, h3, h4⟩ := h
  have old : ∀ {k2 i2}, P k2 i2 → adU ad k i a k2 i2 = ad k2 i2 := fun {k2 i2} z => adU_ne (by
    by_cases e : k2 = k
    · exact Or.inr (fun e2 => hP (e ▸ e2 ▸ z))
    · exact Or.inl e)
  refine ⟨fun k2 i2 z => ?_, Or.inl h2, fun c hc => ?_, fun c j z => ?_⟩
  · rcases z with z | ⟨rfl, rfl⟩
    · obtain ⟨q0, q1, q2, q3⟩ := h1 k2 i2 z
      rw [old z]
      exact ⟨q0, q1, q2, (va_up_ne _ _ (hne _ _ z)).trans q3⟩
    · rw [adU_eq]; exact ⟨hi, hm, hk, va_up_self _ _ _⟩
  · obtain ⟨q1, q2, q3⟩ := h3 c hc
    rw [old h2, old q1]
    exact ⟨Or.inl q1, q2, q3⟩
  · obtain ⟨q1, q2, q3, q4, q5⟩ := h4 c j z
    rw [old (h3 c q1).1, old q2]
    refine ⟨q1, Or.inl q2, q3, ?_, fun e => Or.inl (q5 e)⟩
    by_cases e : tk c = 9
    · obtain ⟨w1, w2, w3, w4, w5⟩ := q4
      exact ⟨fun y => absurd (e.symm.trans y) (by decide), fun y => absurd (e.symm.trans y) (by decide), fun y => absurd (e.symm.trans y) (by decide), w4, fun y => absurd (e.symm.trans y) (by decide)⟩
    · rw [old (q5 e)]; exact q4
/-- one of the book's own arrays more -/
theorem Bk.arr (h : Bk P PQ na ad S L K R I A Q N) {b : Nat} (hna : na < 6) (hP : ¬ P 1 na) (hne : ∀ k i, P k i → ad k i ≠ b) (hm : b ∈ L) (hk : K b = kd 1 na) (hN : N b = nk na) : Bk (fun k2 i2 => P k2 i2 ∨ (k2 = 1 ∧ i2 = na)) PQ (na + 1) (adU ad 1 na b) (va_up S b (100 * 1 + na)) L K (u2 R (13 + na) (ad 0 0) (some b)) I A Q N := by
  have h' := h.name (show na < 100 by omega) hP hne hm hk (by decide) (fun _ => Nat.le_refl _)
  obtain ⟨h1, h2, h3, h4⟩ := h'
  have e00 : adU ad 1 na b 0 0 = ad 0 0 := adU_ne (Or.inl (by decide))
  refine ⟨h1, h2, fun c hc => ?_, fun c j z => ?_⟩
  · by_cases e : c = na
    · subst e
      rw [e00, adU_eq]
      exact ⟨Or.inr ⟨rfl, rfl⟩, u2_eq, hN⟩
    · obtain ⟨q1, q2, q3⟩ := h3 c (by omega)
      exact ⟨q1, (congrFun (u2_ne (by omega)) _).trans q2, q3⟩
  · obtain ⟨q1, q2, q3, q4, q5⟩ := h4 c j z
    refine ⟨by omega, q2, q3, ?_, q5⟩
    obtain ⟨w1, w2, w3, w4, w5⟩ := q4
    exact ⟨fun y => by rw [u2_ne (by omega)]; exact w1 y, fun y => by rw [u2_ne (by omega)]; exact w2 y, fun y => by rw [u2_ne (by omega)]; exact w3 y, w4, fun y => by rw [u2_ne (by omega)]; exact w5 y⟩
/-- a place of one of them is filled -/
theorem Bk.fill (h : Bk P PQ na ad S L K R I A Q N) {c i a b : Nat} (hc : c < na) (hna : na ≤ 6) (hP : P (tk c) (to c i)) (ha : ad (tk c) (to c i) = a) (hb : tk c ≠ 9 → P (tk c + 1) (to c i)) (hb2 : tk c ≠ 9 → ad (tk c + 1) (to c i) = b) (hF : oF (tk c) a b R I N) : Bk P (fun c2 i2 => PQ c2 i2 ∨ (c2 = c ∧ i2 = i)) na ad S L K R I A (u2 Q (ad 1 c) i (some a)) N := by
  obtain ⟨h1, h2, h3, h4⟩ := h
  refine ⟨h1, h2, h3, fun c2 i2 z => ?_⟩
  by_cases e : c2 = c ∧ i2 = i
  · obtain ⟨rfl, rfl⟩ := e
    refine ⟨hc, hP, by rw [ha]; exact u2_eq, ?_, hb⟩
    by_cases e : tk c2 = 9
    · obtain ⟨w1, w2, w3, w4, w5⟩ := hF
      rw [ha]
      exact ⟨fun y => absurd (e.symm.trans y) (by decide), fun y => absurd (e.symm.trans y) (by decide), fun y => absurd (e.symm.trans y) (by decide), w4, fun y => absurd (e.symm.trans y) (by decide)⟩
    · rw [ha, hb2 e]; exact hF
  · have z : PQ c2 i2 := z.resolve_right e
    obtain ⟨q1, q2, q3, q4, q5⟩ := h4 c2 i2 z
    refine ⟨q1, q2, ?_, q4, q5⟩
    by_cases e1 : c2 = c
    · subst e1
      rw [u2_nj (fun y => e ⟨rfl, y⟩)]; exact q3
    · have s1 := (h1 1 c2 (h3 c2 q1).1).2.2.2
      have s2 := (h1 1 c (h3 c hc).1).2.2.2
      have n1 : ad 1 c2 ≠ ad 1 c := fun y => by rw [y] at s1; omega
      rw [u2_ne n1]; exact q3
end BK
