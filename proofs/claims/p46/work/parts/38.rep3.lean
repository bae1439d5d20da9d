/-! the streams after a call -/
section RP3
variable {T : mT} {D : mD} {ad : pD} {L : List Nat} {K : pN} {R : pR} {I : pI} {A : mD} {Q : pR} {N : pN}
theorem rpQ_c {T2 : mT} {Q2 : pR} (e2 : T2 2 = T 2) (e5 : T2 5 = T 5) (h0 : Q2 (ad 1 0) = Q (ad 1 0)) (h1 : Q2 (ad 1 1) = Q (ad 1 1)) (h : rpQ T ad Q) : rpQ T2 ad Q2 := by
  unfold rpQ; rw [e2, e5, h0, h1]; exact h
theorem rpS_c {T2 : mT} (e1 : T2 1 = T 1) (hS : ∀ z, uS T2 z → uS T z) (h : rpS T D ad R A N) : rpS T2 D ad R A N := fun z hz => by rw [e1]; exact h z (hS z hz)
theorem rpB_c {T2 : mT} (e4 : T2 4 = T 4) (hB : ∀ z, uB T2 z → uB T z) (h : rpB T D ad R A N) : rpB T2 D ad R A N := fun z hz => by rw [e4]; exact h z (hB z hz)
theorem rpW_c {T2 : mT} {I2 : pI} (e7 : T2 7 = T 7) (hI : ∀ w, w < 8 → I2 10 (ad 7 w) = I 10 (ad 7 w)) (h : rpW T D ad I A) : rpW T2 D ad I2 A :=
  ⟨fun w hw => by rw [e7, hI w (by omega)]; exact h.1 w hw, fun w h1 h2 => by rw [hI w h2]; exact h.2 w h1 h2⟩
theorem rpR_c {T2 : mT} {I2 : pI} (e : ∀ f, 8 ≤ f → f ≤ 12 → T2 f = T f) (hI : ∀ f i, 5 ≤ f → f ≤ 9 → i < 3 → I2 f (ad 9 i) = I f (ad 9 i)) (h : rpR T ad R I) : rpR T2 ad R I2 := fun i hi => by
  rw [e 8 (by decide) (by decide), e 9 (by decide) (by decide), e 10 (by decide) (by decide), e 11 (by decide) (by decide), e 12 (by decide) (by decide), hI 5 i (by decide) (by decide) hi, hI 6 i (by decide) (by decide) hi, hI 7 i (by decide) (by decide) hi, hI 8 i (by decide) (by decide) hi, hI 9 i (by decide) (by decide) hi]
  exact h i hi
theorem jI_at {th n t f b : Nat} : jI I th n t f b = if b = th then (if f = 4 then nI t else if f = 0 then nI n else if f ≤ 3 then nI 0 else I f b) else I f b := by
  by_cases hb : b = th
  · subst hb
    simp only [jI, u2, if_true]
    by_cases h4 : f = 4
    · simp only [if_pos h4]
    · simp only [if_neg h4]
      by_cases h3 : f = 3
      · subst h3; simp
      · simp only [if_neg h3]
        by_cases h2 : f = 2
        · subst h2; simp
        · simp only [if_neg h2]
          by_cases h1 : f = 1
          · subst h1; simp
          · simp only [if_neg h1]
            by_cases h0 : f = 0
            · simp only [if_pos h0]
            · simp only [if_neg h0]; rw [if_neg (by omega)]
  · rw [if_neg hb]
    have key : ∀ (J : pI) (k : Nat) (v : Int32), u2 J k th v f b = J f b := fun J k v => by
      by_cases e : f = k
      · subst e; exact u2_nj hb
      · exact congrFun (u2_ne e) _
    rw [jI, key, key, key, key, key]
theorem Rep.joined (HB : Rep T D ad L K R I A Q N) {j c t : Nat} {rr : Nat → Nat} {T2 : mT} {Q2 : pR} (hj : j < 2) (hc : c = 2 ∨ c = 3) (hrr : ∀ k, k < c → rr k < 4) (ht : t ≤ 192)
    (e : ∀ f, f < 13 ∨ 18 < f → T2 f = T f) (h13 : T2 13 j = c) (h16 : T2 16 j = 0) (h17 : T2 17 j = t) (h18 : T2 18 j = 0) (h14 : ∀ k, k < c → T2 14 (3 * j + k) = T 5 (rr k) + 1) (h14z : ∀ k, k < 3 → c ≤ k → T2 14 (3 * j + k) = 0) (h15 : ∀ k, k < c → T2 15 (3 * j + k) = 0)
    (ho : ∀ j2, j2 ≠ j → T2 13 j2 = T 13 j2 ∧ T2 16 j2 = T 16 j2 ∧ T2 17 j2 = T 17 j2 ∧ T2 18 j2 = T 18 j2) (ho2 : ∀ i, i < 3 * j ∨ 3 * j + 3 ≤ i → T2 14 i = T 14 i ∧ T2 15 i = T 15 i)
    (hQ : ∀ k, k < c → Q2 (ad 11 j) k = some (ad 5 (T 5 (rr k)))) (hQo : ∀ b, b ≠ ad 11 j → Q2 b = Q b) : Rep T2 D ad L K R (jI I (ad 10 j) c t) A Q2 N := by
  have hS : ∀ z, uS T2 z → uS T z := fun z hz => by unfold uS at hz; rw [e 2 (by decide), e 8 (by decide)] at hz; exact hz
  have hB : ∀ z, uB T2 z → uB T z := fun z hz => by
    unfold uB at hz
    rw [e 5 (by decide)] at hz
    rcases hz with hz | ⟨k, hk, hz⟩
    · exact Or.inl hz
    · by_cases hi : k < 3 * j ∨ 3 * j + 3 ≤ k
      · rw [(ho2 k hi).1] at hz; exact Or.inr ⟨k, hk, hz⟩
      · obtain ⟨k', rfl⟩ : ∃ k', k = 3 * j + k' := ⟨k - 3 * j, by omega⟩
        by_cases h9 : k' < c
        · rw [h14 k' h9] at hz; exact Or.inl ⟨rr k', hrr k' h9, by omega⟩
        · rw [h14z k' (by omega) (by omega)] at hz; omega
  have qk : ∀ k i, lv T k i → k ≠ 11 → Q2 (ad k i) = Q (ad k i) := fun k i hl hk => hQo _ (HB.ne hl (lv_11 (by omega)) (Or.inl hk))
  have jo : ∀ f b, b ≠ ad 10 j → jI I (ad 10 j) c t f b = I f b := fun f b hb => by rw [jI_at, if_neg hb]
  refine ⟨HB.1.less (lv_less hS hB), ?_, rpQ_c (e 2 (by decide)) (e 5 (by decide)) (qk 1 0 (lv_1 (by decide)) (by decide)) (qk 1 1 (lv_1 (by decide)) (by decide)) HB.rq, rpS_c (e 1 (by decide)) hS HB.rs, rpB_c (e 4 (by decide)) hB HB.rb, rpW_c (e 7 (by decide)) (fun w hw => jo _ _ (HB.ne (lv_7 hw) (lv_10 (by omega)) (Or.inl (by decide)))) HB.rw, rpR_c (fun f h1 h2 => e f (by omega)) (fun f i h1 h2 hi => jo _ _ (HB.ne (lv_9 (by omega)) (lv_10 (by omega)) (Or.inl (by decide)))) HB.rr, fun j2 hj2 => ?_, ?_, HB.md⟩
  · obtain ⟨c1, c2, c3, c9, c10, c11, c12, c13⟩ := HB.rc
    exact ⟨c1, c2, c3, fun w hw => by rw [qk 1 2 (lv_1 (by decide)) (by decide)]; exact c9 w hw, fun w hw => by rw [qk 1 3 (lv_1 (by decide)) (by decide)]; exact c10 w hw, fun w hw => by rw [qk 1 4 (lv_1 (by decide)) (by decide)]; exact c11 w hw, fun w hw => by rw [qk 1 5 (lv_1 (by decide)) (by decide)]; exact c12 w hw, c13⟩
  · by_cases q : j2 = j
    · subst q
      rw [h13, h16, h17, h18]
      refine ⟨by rw [jI_at, if_pos rfl]; rfl, by rw [jI_at, if_pos rfl]; rfl, ⟨0, by rw [jI_at, if_pos rfl]; rfl, by decide, fun z => ?_⟩, by rw [jI_at, if_pos rfl]; rfl, by rw [jI_at, if_pos rfl]; rfl, fun k hk => ?_⟩
      · exact (h15 0 (by omega)).symm
      · rw [h14 k hk]; exact hQ k hk
    · obtain ⟨g1, g2, g3, g4⟩ := ho j2 q
      obtain ⟨w1, w2, w3, w4, w5, w6⟩ := HB.rj j2 hj2
      have n10 := HB.ne (lv_10 (T := T) (show j2 < 3 by omega)) (lv_10 (show j < 3 by omega)) (Or.inr q)
      have n11 := HB.ne (lv_11 (T := T) (show j2 < 3 by omega)) (lv_11 (show j < 3 by omega)) (Or.inr q)
      have hle := (HB.mi.stI hj2).le
      have hst := (HB.mi.stI hj2).2.1
      rw [g1, g2, g3, g4, jo _ _ n10, jo _ _ n10, jo _ _ n10, jo _ _ n10, jo _ _ n10, hQo _ n11]
      refine ⟨w1, w2, ?_, w4, w5, fun k hk => ?_⟩
      · obtain ⟨pl, z1, z2, z3⟩ := w3
        exact ⟨pl, z1, z2, fun z => by rw [(ho2 (3 * j2 + T 16 j2) (by omega)).2]; exact z3 z⟩
      · rw [(ho2 (3 * j2 + k) (by omega)).1]; exact w6 k hk
  · have M := HB.mi
    unfold mI
    rw [e 1 (by decide), e 2 (by decide), e 4 (by decide), e 5 (by decide), e 7 (by decide), e 8 (by decide), e 9 (by decide), e 10 (by decide), e 11 (by decide), e 12 (by decide)]
    refine ⟨M.1, M.2.1, M.2.2.1, M.2.2.2.1, M.2.2.2.2.1, M.2.2.2.2.2.1, M.2.2.2.2.2.2.1, M.2.2.2.2.2.2.2.1, fun j2 hj2 => ?_⟩
    by_cases q : j2 = j
    · subst q
      rw [h13, h16, h17]
      refine ⟨by omega, Nat.zero_le _, ht, fun k hk => ?_⟩
      by_cases h9 : k < c
      · have := M.br (hrr k h9)
        rw [h14 k h9, h15 k h9]
        exact ⟨by omega, fun _ => by omega, fun _ => Nat.zero_le _, fun _ _ => rfl⟩
      · rw [h14z k hk (by omega)]
        exact ⟨Nat.zero_le _, fun z => absurd z h9, fun z => absurd z h9, fun _ z => absurd z h9⟩
    · obtain ⟨g1, g2, g3, g4⟩ := ho j2 q
      rw [g1, g2, g3]
      obtain ⟨w1, w2, w3, w4⟩ := M.st hj2
      refine ⟨w1, w2, w3, fun k hk => ?_⟩
      rw [(ho2 (3 * j2 + k) (by omega)).1, (ho2 (3 * j2 + k) (by omega)).2]
      exact w4 k hk
theorem Rep.join2 (HB : Rep T D ad L K R I A Q N) {j a b : Nat} (hj : j < 2) (ha : a < 4) (hb : b < 4) : Rep (jn2 T j a b) D ad L K R (jI I (ad 10 j) 2 (0 + bL T a + bL T b)) A (u2 (u2 Q (ad 11 j) 0 (some (ad 5 (T 5 a)))) (ad 11 j) 1 (some (ad 5 (T 5 b)))) N := by
  have ba := HB.mi.bl (HB.mi.br ha)
  have bb := HB.mi.bl (HB.mi.br hb)
  refine HB.joined (rr := fun k => if k = 0 then a else b) hj (Or.inl rfl) (fun k hk => by show (if k = 0 then a else b) < 4; split <;> assumption) (by unfold bL; omega) (fun f hf => ?_) ?_ ?_ ?_ ?_ (fun k hk => ?_) (fun k hk hc => ?_) (fun k hk => ?_) (fun j2 q => ?_) (fun i hi => ?_) (fun k hk => ?_) (fun q hq => ?_)
  · funext i
    have n13 : f ≠ 13 := by omega
    have n14 : f ≠ 14 := by omega
    have n15 : f ≠ 15 := by omega
    have n16 : f ≠ 16 := by omega
    have n17 : f ≠ 17 := by omega
    have n18 : f ≠ 18 := by omega
    simp [jn2, bgT, anT, cl3, u2, n13, n14, n15, n16, n17, n18]
  · simp [jn2, bgT, anT, cl3, u2]
  · simp [jn2, bgT, anT, cl3, u2]
  · simp [jn2, bgT, anT, cl3, u2, bL]
  · simp [jn2, bgT, anT, cl3, u2]
  · rcases (show k = 0 ∨ k = 1 by omega) with rfl | rfl <;> simp [jn2, bgT, anT, cl3, u2]
  · obtain rfl : k = 2 := by omega
    simp [jn2, bgT, anT, cl3, u2]
  · rcases (show k = 0 ∨ k = 1 by omega) with rfl | rfl <;> simp [jn2, bgT, anT, cl3, u2]
  · simp [jn2, bgT, anT, cl3, u2, q]
  · have n0 : i ≠ 3 * j := by omega
    have n1 : i ≠ 3 * j + 1 := by omega
    have n2 : i ≠ 3 * j + 2 := by omega
    simp [jn2, bgT, anT, cl3, u2, n0, n1, n2]
  · rcases (show k = 0 ∨ k = 1 by omega) with rfl | rfl <;> simp [u2]
  · exact (u2_ne hq).trans (u2_ne hq)
theorem Rep.join3 (HB : Rep T D ad L K R I A Q N) {j a b d : Nat} (hj : j < 2) (ha : a < 4) (hb : b < 4) (hd : d < 4) : Rep (jn3 T j a b d) D ad L K R (jI I (ad 10 j) 3 (0 + bL T a + bL T b + bL T d)) A (u2 (u2 (u2 Q (ad 11 j) 0 (some (ad 5 (T 5 a)))) (ad 11 j) 1 (some (ad 5 (T 5 b)))) (ad 11 j) 2 (some (ad 5 (T 5 d)))) N := by
  have ba := HB.mi.bl (HB.mi.br ha)
  have bb := HB.mi.bl (HB.mi.br hb)
  have bd := HB.mi.bl (HB.mi.br hd)
  refine HB.joined (rr := fun k => if k = 0 then a else if k = 1 then b else d) hj (Or.inr rfl) (fun k hk => by show (if k = 0 then a else if k = 1 then b else d) < 4; split; assumption; split <;> assumption) (by unfold bL; omega) (fun f hf => ?_) ?_ ?_ ?_ ?_ (fun k hk => ?_) (fun k hk hc => ?_) (fun k hk => ?_) (fun j2 q => ?_) (fun i hi => ?_) (fun k hk => ?_) (fun q hq => ?_)
  · funext i
    have n13 : f ≠ 13 := by omega
    have n14 : f ≠ 14 := by omega
    have n15 : f ≠ 15 := by omega
    have n16 : f ≠ 16 := by omega
    have n17 : f ≠ 17 := by omega
    have n18 : f ≠ 18 := by omega
    simp [jn3, bgT, anT, cl3, u2, n13, n14, n15, n16, n17, n18]
  · simp [jn3, bgT, anT, cl3, u2]
  · simp [jn3, bgT, anT, cl3, u2]
  · simp [jn3, bgT, anT, cl3, u2, bL]
  · simp [jn3, bgT, anT, cl3, u2]
  · rcases (show k = 0 ∨ k = 1 ∨ k = 2 by omega) with rfl | rfl | rfl <;> simp [jn3, bgT, anT, cl3, u2]
  · omega
  · rcases (show k = 0 ∨ k = 1 ∨ k = 2 by omega) with rfl | rfl | rfl <;> simp [jn3, bgT, anT, cl3, u2]
  · simp [jn3, bgT, anT, cl3, u2, q]
  · have n0 : i ≠ 3 * j := by omega
    have n1 : i ≠ 3 * j + 1 := by omega
    have n2 : i ≠ 3 * j + 2 := by omega
    simp [jn3, bgT, anT, cl3, u2, n0, n1, n2]
  · rcases (show k = 0 ∨ k = 1 ∨ k = 2 by omega) with rfl | rfl | rfl <;> simp [u2]
  · exact (u2_ne hq).trans ((u2_ne hq).trans (u2_ne hq))
/-- a stream went on: its part s2, its place p2, passed ps2 -/
theorem Rep.moved (HB : Rep T D ad L K R I A Q N) {j s2 p2 ps2 : Nat} {T2 : mT} (hj : j < 2) (e : ∀ f, f ≠ 15 → f ≠ 16 → f ≠ 18 → T2 f = T f) (h16 : T2 16 j = s2) (h18 : T2 18 j = ps2) (ho : ∀ j2, j2 ≠ j → T2 16 j2 = T 16 j2 ∧ T2 18 j2 = T 18 j2)
    (h15 : ∀ i, (s2 < T 13 j → i ≠ 3 * j + s2) → T2 15 i = T 15 i) (hs : T 16 j ≤ s2) (hs2 : s2 ≤ T 13 j) (h15s : s2 < T 13 j → T2 15 (3 * j + s2) = p2 ∧ p2 ≤ T 4 (T 14 (3 * j + s2) - 1)) (hp : p2 ≤ 64) : Rep T2 D ad L K R (jU I (ad 10 j) (s2, p2) ps2) A Q N := by
  have hS : ∀ z, uS T2 z → uS T z := fun z hz => by unfold uS at hz; rw [e 2 (by decide) (by decide) (by decide), e 8 (by decide) (by decide) (by decide)] at hz; exact hz
  have hB : ∀ z, uB T2 z → uB T z := fun z hz => by unfold uB at hz; rw [e 5 (by decide) (by decide) (by decide), e 14 (by decide) (by decide) (by decide)] at hz; exact hz
  have jo : ∀ f b, b ≠ ad 10 j → jU I (ad 10 j) (s2, p2) ps2 f b = I f b := fun f b hb => jU_b hb
  have E : ∀ f, f < 15 ∨ f = 17 ∨ 18 < f → T2 f = T f := fun f hf => e f (by omega) (by omega) (by omega)
  refine ⟨HB.1.less (lv_less hS hB), HB.rc, rpQ_c (E 2 (by decide)) (E 5 (by decide)) rfl rfl HB.rq, rpS_c (E 1 (by decide)) hS HB.rs, rpB_c (E 4 (by decide)) hB HB.rb, rpW_c (E 7 (by decide)) (fun w hw => jo _ _ (HB.ne (lv_7 hw) (lv_10 (by omega)) (Or.inl (by decide)))) HB.rw, rpR_c (fun f h1 h2 => E f (by omega)) (fun f i h1 h2 hi => jo _ _ (HB.ne (lv_9 (by omega)) (lv_10 (by omega)) (Or.inl (by decide)))) HB.rr, fun j2 hj2 => ?_, ?_, HB.md⟩
  · obtain ⟨w1, w2, w3, w4, w5, w6⟩ := HB.rj j2 hj2
    have hle := (HB.mi.stI hj2).le
    rw [E 13 (by decide), E 14 (by decide), E 17 (by decide)]
    by_cases q : j2 = j
    · subst q
      rw [h16, h18]
      exact ⟨(jU_k (Or.inl rfl)).trans w1, jU_1, ⟨p2, jU_2, hp, fun z => (h15s z).1.symm⟩, jU_3, (jU_k (Or.inr (by decide))).trans w5, w6⟩
    · obtain ⟨g1, g2⟩ := ho j2 q
      have n10 := HB.ne (lv_10 (T := T) (show j2 < 3 by omega)) (lv_10 (show j < 3 by omega)) (Or.inr q)
      rw [g1, g2, jo _ _ n10, jo _ _ n10, jo _ _ n10, jo _ _ n10, jo _ _ n10]
      refine ⟨w1, w2, ?_, w4, w5, w6⟩
      obtain ⟨pl, z1, z2, z3⟩ := w3
      have h3 := (HB.mi.stI hj).le
      exact ⟨pl, z1, z2, fun z => by rw [h15 _ (fun _ => by omega)]; exact z3 z⟩
  · have M := HB.mi
    unfold mI
    rw [E 1 (by decide), E 2 (by decide), E 4 (by decide), E 5 (by decide), E 7 (by decide), E 8 (by decide), E 9 (by decide), E 10 (by decide), E 11 (by decide), E 12 (by decide), E 13 (by decide), E 14 (by decide), E 17 (by decide)]
    refine ⟨M.1, M.2.1, M.2.2.1, M.2.2.2.1, M.2.2.2.2.1, M.2.2.2.2.2.1, M.2.2.2.2.2.2.1, M.2.2.2.2.2.2.2.1, fun j2 hj2 => ?_⟩
    obtain ⟨w1, w2, w3, w4⟩ := M.st hj2
    have h3 := (HB.mi.stI hj).le
    have h32 := (HB.mi.stI hj2).le
    by_cases q : j2 = j
    · subst q
      rw [h16]
      refine ⟨w1, hs2, w3, fun k hk => ?_⟩
      obtain ⟨g1, g2, g3, g4⟩ := w4 k hk
      refine ⟨g1, g2, fun z => ?_, fun z z2 => ?_⟩
      · by_cases q : k = s2
        · subst q; rw [(h15s z).1]; exact (h15s z).2
        · rw [h15 _ (fun _ => by omega)]; exact g3 z
      · rw [h15 _ (fun _ => by omega)]; exact g4 (by omega) z2
    · obtain ⟨g1, g2⟩ := ho j2 q
      rw [g1]
      refine ⟨w1, w2, w3, fun k hk => ?_⟩
      rw [h15 _ (fun _ => by omega)]
      exact w4 k hk
/-- a byte is wanted: the class finds the place that the reference finds -/
theorem fb_wn {j : Nat} : ∀ (n : Nat) (T : mT) (pl : Nat), (T 16 j < T 13 j → pl = T 15 (3 * j + T 16 j)) → (∀ k, T 16 j < k → k < T 13 j → T 15 (3 * j + k) = 0) → T 16 j ≤ T 13 j →
    (fbF (T 13 j) (fun k => T 4 (T 14 (3 * j + k) - 1)) n (T 16 j, pl)).1 = wnF j n T 16 j ∧ (wnF j n T 16 j < T 13 j → (fbF (T 13 j) (fun k => T 4 (T 14 (3 * j + k) - 1)) n (T 16 j, pl)).2 = T 15 (3 * j + wnF j n T 16 j)) ∧ T 16 j ≤ wnF j n T 16 j ∧ wnF j n T 16 j ≤ T 13 j
  | 0, T, pl, hp, _, hle => ⟨rfl, hp, Nat.le_refl _, hle⟩
  | n + 1, T, pl, hp, hz, hle => by
    rw [fbF, wnF]
    by_cases h1 : T 16 j < T 13 j
    · by_cases h2 : T 4 (T 14 (3 * j + T 16 j) - 1) ≤ pl
      · have h3 : lfN T j = 0 := by rw [lfN_at h1, ← hp h1]; omega
        have c1 : T 16 j < T 13 j ∧ T 4 (T 14 (3 * j + T 16 j) - 1) ≤ pl := ⟨h1, h2⟩
        rw [if_pos c1, if_pos ⟨h1, h3⟩]
        have e16 : u2 T 16 j (T 16 j + 1) 16 j = T 16 j + 1 := u2_eq
        have ih := fb_wn n (u2 T 16 j (T 16 j + 1)) 0 (fun z => by
          rw [e16]; rw [e16] at z
          exact (hz (T 16 j + 1) (by omega) z).symm) (fun k g1 g2 => by rw [e16] at g1; exact hz k (by omega) g2) (by rw [e16]; exact h1)
        rw [e16] at ih
        obtain ⟨i1, i2, i3, i4⟩ := ih
        exact ⟨i1, i2, by omega, i4⟩
      · have h3 : lfN T j ≠ 0 := by rw [lfN_at h1, ← hp h1]; omega
        rw [if_neg (fun z => h2 z.2), if_neg (fun z => h3 z.2)]
        exact ⟨rfl, hp, Nat.le_refl _, hle⟩
    · rw [if_neg (fun z => h1 z.1), if_neg (fun z => h1 z.1)]
      exact ⟨rfl, hp, Nat.le_refl _, hle⟩
theorem Rep.fbw (HB : Rep T D ad L K R I A Q N) {j pl : Nat} (hj : j < 2) (hpl : T 16 j < T 13 j → pl = T 15 (3 * j + T 16 j)) :
    (fb (T 13 j) (fun k => T 4 (T 14 (3 * j + k) - 1)) (T 16 j) pl).1 = wnT T j 16 j ∧ (wnT T j 16 j < T 13 j → (fb (T 13 j) (fun k => T 4 (T 14 (3 * j + k) - 1)) (T 16 j) pl).2 = T 15 (3 * j + wnT T j 16 j)) ∧ T 16 j ≤ wnT T j 16 j ∧ wnT T j 16 j ≤ T 13 j :=
  fb_wn 4 T pl hpl (fun k g1 g2 => ((HB.mi.st hj).2.2.2 k (by have := (HB.mi.stI hj).le; omega)).2.2.2 g1 g2) (HB.mi.stI hj).2.1
theorem wnT_13 {j i : Nat} : wnT T j 13 i = T 13 i := by rw [wnT_k (by decide)]
theorem Rep.next_e (HB : Rep T D ad L K R I A Q N) {j pl : Nat} (hj : j < 2) (h0 : I 3 (ad 10 j) = nI (T 18 j)) (hpl : T 16 j < T 13 j → pl = T 15 (3 * j + T 16 j)) (hp : pl ≤ 64) : Rep (wnT T j) D ad L K R (fbI I (ad 10 j) (fb (T 13 j) (fun k => T 4 (T 14 (3 * j + k) - 1)) (T 16 j) pl)) A Q N := by
  obtain ⟨f1, f2, f3, f4⟩ := HB.fbw hj hpl
  have f5 := fb_le (pn := fun k => T 4 (T 14 (3 * j + k) - 1)) (HB.mi.stI hj).2.1 hp
  rw [fbI_jU (w := (fb (T 13 j) (fun k => T 4 (T 14 (3 * j + k) - 1)) (T 16 j) pl)) h0]
  refine HB.moved (s2 := (fb (T 13 j) (fun k => T 4 (T 14 (3 * j + k) - 1)) (T 16 j) pl).1) (p2 := (fb (T 13 j) (fun k => T 4 (T 14 (3 * j + k) - 1)) (T 16 j) pl).2) hj (fun f g1 g2 g3 => wnT_k g2) f1.symm (by rw [wnT_k (by decide)]) (fun j2 q => ⟨wnF_b q 4 T, by rw [wnT_k (by decide)]⟩) (fun i _ => by rw [wnT_k (by decide)]) (by omega) (by omega) (fun z => ?_) f5.2
  rw [f1] at z
  rw [wnT_k (by decide), f1, f2 z]
  have g := (HB.mi.stI hj).le
  exact ⟨rfl, ((HB.mi.stI hj).2.2 _ (by omega)).2.2 z⟩
theorem Rep.next_n (HB : Rep T D ad L K R I A Q N) {j pl n : Nat} (hj : j < 2) (hpl : T 16 j < T 13 j → pl = T 15 (3 * j + T 16 j)) (hp : pl ≤ 64) (h : (fb (T 13 j) (fun k => T 4 (T 14 (3 * j + k) - 1)) (T 16 j) pl).1 < T 13 j) (hn : (fb (T 13 j) (fun k => T 4 (T 14 (3 * j + k) - 1)) (T 16 j) pl).2 + n ≤ T 4 (T 14 (3 * j + (fb (T 13 j) (fun k => T 4 (T 14 (3 * j + k) - 1)) (T 16 j) pl).1) - 1)) : Rep (gnT (wnT T j) j n) D ad L K R (jU I (ad 10 j) ((fb (T 13 j) (fun k => T 4 (T 14 (3 * j + k) - 1)) (T 16 j) pl).1, (fb (T 13 j) (fun k => T 4 (T 14 (3 * j + k) - 1)) (T 16 j) pl).2 + n) (T 18 j + n)) A Q N := by
  obtain ⟨f1, f2, f3, f4⟩ := HB.fbw hj hpl
  have g9 := (HB.mi.stI hj).le
  have b9 : T 4 (T 14 (3 * j + (fb (T 13 j) (fun k => T 4 (T 14 (3 * j + k) - 1)) (T 16 j) pl).1) - 1) ≤ 64 := by
    have := ((HB.mi.stI hj).2.2 (fb (T 13 j) (fun k => T 4 (T 14 (3 * j + k) - 1)) (T 16 j) pl).1 (by omega))
    have := this.2.1 h
    exact HB.mi.bl (by omega)
  have e16 : gnT (wnT T j) j n 16 = wnT T j 16 := (u2_ne (by decide)).trans (u2_ne (by decide))
  have w18 : wnT T j 18 = T 18 := wnT_k (by decide)
  have w15 : wnT T j 15 = T 15 := wnT_k (by decide)
  refine HB.moved (s2 := (fb (T 13 j) (fun k => T 4 (T 14 (3 * j + k) - 1)) (T 16 j) pl).1) (p2 := (fb (T 13 j) (fun k => T 4 (T 14 (3 * j + k) - 1)) (T 16 j) pl).2 + n) hj (fun f g1 g2 g3 => ((u2_ne g3).trans (u2_ne g1)).trans (wnT_k g2)) (by rw [e16, f1]) (by rw [gnT, u2_eq, w18]) (fun j2 q => ⟨by rw [e16]; exact wnF_b q 4 T, by rw [gnT, u2_nj q, u2_ne (by decide), w18]⟩) (fun i hi => ?_) (by omega) (by omega) (fun z => ⟨?_, hn⟩) (by omega)
  · have hi := hi h
    rw [f1] at hi
    rw [gnT, u2_ne (by decide), u2_nj hi, w15]
  · rw [f1, f2 (by omega), gnT, u2_ne (by decide), u2_eq, w15]
theorem gtT_gn {j : Nat} : gtT T j = gnT T j 1 := rfl
end RP3
