/-! the state after a call -/
section RP1
variable {T : mT} {D : mD} {ad : pD} {L : List Nat} {K : pN} {R : pR} {I : pI} {A : mD} {Q : pR} {N : pN}
theorem mJD.cp {D : mD} (h : mJD D) {k d n : Nat} {g : Nat → Int32} (hk : (k = 0 ∨ k = 6 ∨ k = 19) ∧ (∀ i, i < n → g i &&& nI 255 = g i) ∨ k = 3 ∧ ∀ i, i < n → (g i).toInt8.toInt32 = g i) : mJD (cpF D k d g n) := by
  have key : ∀ (m : Nat) (P : Int32 → Prop), (∀ i, P (D m i)) → (m = k → ∀ i, i < n → P (g i)) → ∀ i, P (cpF D k d g n m i) := by
    intro m P h1 h2 i
    by_cases hm : m = k
    · subst hm
      by_cases hi : d ≤ i ∧ i < d + n
      · rw [cpF_in hi.1 hi.2]; exact h2 rfl _ (by omega)
      · rw [cpF_out (by omega)]; exact h1 i
    · rw [cpF_ne hm]; exact h1 i
  refine ⟨key 0 (fun x => x &&& nI 255 = x) h.1 (fun e => ?_), key 3 (fun x => x.toInt8.toInt32 = x) h.2.1 (fun e => ?_), key 6 (fun x => x &&& nI 255 = x) h.2.2.1 (fun e => ?_), key 19 (fun x => x &&& nI 255 = x) h.2.2.2 (fun e => ?_)⟩
  all_goals (subst e; rcases hk with ⟨h1, h2⟩ | ⟨h1, h2⟩)
  · exact h2
  · exact absurd h1 (by decide)
  · exact absurd h1 (by decide)
  · exact h2
  · exact h2
  · exact absurd h1 (by decide)
  · exact h2
  · exact absurd h1 (by decide)
/-- a part of an array copied: what it holds against what the reference's row holds -/
theorem cp_hold {A D : mD} {x k b d n m z : Nat} {f g : Nat → Int32} (hfg : ∀ i, i < n → f i = g i) (hz : ∀ j, j < z → A x j = D k (b + j)) (hd : d + n ≤ m) : ∀ j, j < m → (j < d ∨ d + n ≤ j → j < z) → cpF A x d f n x j = cpF D k (b + d) g n k (b + j) := by
  intro j hj hz2
  by_cases h : d ≤ j ∧ j < d + n
  · rw [cpF_in h.1 h.2, cpF_in (by omega) (by omega), show b + j - (b + d) = j - d by omega]; exact hfg _ (by omega)
  · rw [cpF_out (by omega), cpF_out (by omega)]; exact hz j (hz2 (by omega))
theorem Rep.addW (HB : Rep T D ad L K R I A Q N) {a n : Nat} {f g : Nat → Int32} (ha : a < 6) (hn : T 7 a + n ≤ 256) (hfg : ∀ i, i < n → f i = g i) (hg : ∀ i, i < n → g i &&& nI 255 = g i) : Rep (adT T a n) (adD T D a g n) ad L K R (u2 I 10 (ad 7 a) (nI (T 7 a + n))) (cpF A (ad 8 a) (T 7 a) f n) Q N := by
  have hD6 : ∀ k, k ≠ 6 → adD T D a g n k = D k := fun k hk => cpF_ne hk
  have h8 : lv T 8 a := lv_8 (by omega)
  refine ⟨HB.1, HB.2.1, HB.2.2.1, fun z hz => ?_, fun z hz => ?_, ⟨fun w hw => ?_, fun w h1 h2 => ?_⟩, fun i hi => HB.rr i hi, fun j hj => HB.rj j hj, ?_, HB.md.cp (Or.inl ⟨Or.inr (Or.inl rfl), hg⟩)⟩
  · have hz : uS T z := hz
    obtain ⟨h1, h2, h3⟩ := HB.rs z hz
    exact ⟨h1, h2, fun j hj => by rw [cpF_ne (HB.ne (lv_4 hz) h8 (Or.inl (by decide))), hD6 0 (by decide)]; exact h3 j hj⟩
  · have hz : uB T z := hz
    obtain ⟨h1, h2, h3⟩ := HB.rb z hz
    exact ⟨h1, h2, fun j hj => by rw [cpF_ne (HB.ne (lv_6 hz) h8 (Or.inl (by decide))), hD6 3 (by decide)]; exact h3 j hj⟩
  · obtain ⟨h1, h2⟩ := HB.rw.1 w hw
    by_cases e : w = a
    · subst e
      have e7 : adT T w n 7 w = T 7 w + n := u2_eq
      refine ⟨by rw [e7]; exact u2_eq, fun j hj => ?_⟩
      rw [e7] at hj
      exact cp_hold (m := T 7 w + n) (z := T 7 w) hfg h2 (Nat.le_refl _) j hj (fun z => by omega)
    · have e7 : adT T a n 7 w = T 7 w := u2_nj e
      refine ⟨by rw [e7, u2_nj (HB.ne (lv_7 (by omega)) (lv_7 (by omega)) (Or.inr e))]; exact h1, fun j hj => ?_⟩
      rw [e7] at hj
      have h7 := HB.mi.wr hw
      rw [cpF_ne (HB.ne (lv_8 (by omega)) h8 (Or.inr e)), adD, cpF_out (by omega)]
      exact h2 j hj
  · obtain ⟨m, g1, g2⟩ := HB.rw.2 w h1 h2
    exact ⟨m, g1, by rw [u2_nj (HB.ne (lv_7 h2) (lv_7 (by omega)) (Or.inr (by omega)))]; exact g2⟩
  · have M := HB.mi
    refine ⟨M.1, M.2.1, M.2.2.1, M.2.2.2.1, M.2.2.2.2.1, M.2.2.2.2.2.1, fun w hw => ?_, M.2.2.2.2.2.2.2.1, M.2.2.2.2.2.2.2.2⟩
    show u2 T 7 a (T 7 a + n) 7 w ≤ 256
    rw [u2_at]
    split
    · exact hn
    · exact M.wr hw
theorem Rep.zeroW (HB : Rep T D ad L K R I A Q N) {a : Nat} (ha : a < 6) : Rep (u2 T 7 a 0) D ad L K R (u2 I 10 (ad 7 a) (nI 0)) A Q N := by
  refine ⟨HB.1, HB.2.1, HB.2.2.1, fun z hz => HB.rs z hz, fun z hz => HB.rb z hz, ⟨fun w hw => ?_, fun w h1 h2 => ?_⟩, fun i hi => HB.rr i hi, fun j hj => HB.rj j hj, ?_, HB.md⟩
  · obtain ⟨h1, h2⟩ := HB.rw.1 w hw
    by_cases e : w = a
    · subst e
      exact ⟨u2_eq.trans (congrArg nI u2_eq.symm), fun j hj => by rw [u2_eq] at hj; omega⟩
    · exact ⟨by rw [u2_nj (HB.ne (lv_7 (by omega)) (lv_7 (by omega)) (Or.inr e)), u2_nj e]; exact h1, fun j hj => by rw [u2_nj e] at hj; exact h2 j hj⟩
  · obtain ⟨m, g1, g2⟩ := HB.rw.2 w h1 h2
    exact ⟨m, g1, by rw [u2_nj (HB.ne (lv_7 h2) (lv_7 (by omega)) (Or.inr (by omega)))]; exact g2⟩
  · have M := HB.mi
    refine ⟨M.1, M.2.1, M.2.2.1, M.2.2.2.1, M.2.2.2.2.1, M.2.2.2.2.2.1, fun w hw => ?_, M.2.2.2.2.2.2.2.1, M.2.2.2.2.2.2.2.2⟩
    show u2 T 7 a 0 7 w ≤ 256
    rw [u2_at]
    split
    · exact Nat.zero_le _
    · exact M.wr hw
theorem Rep.putS (HB : Rep T D ad L K R I A Q N) {z d n : Nat} {f g : Nat → Int32} (hz : uS T z) (hn : d + n ≤ T 1 z) (hfg : ∀ i, i < n → f i = g i) (hg : ∀ i, i < n → g i &&& nI 255 = g i) : Rep T (cpF D 0 (256 * z + d) g n) ad L K R I (cpF A (ad 4 z) d f n) Q N := by
  have h4 : lv T 4 z := lv_4 hz
  have l9 := HB.mi.sl (uS_lt HB.mi hz)
  refine ⟨HB.1, HB.2.1, HB.2.2.1, fun y hy => ?_, fun y hy => ?_, ⟨fun w hw => ?_, HB.rw.2⟩, HB.rr, HB.rj, HB.mi, HB.md.cp (Or.inl ⟨Or.inl rfl, hg⟩)⟩
  · obtain ⟨h1, h2, h3⟩ := HB.rs y hy
    refine ⟨h1, h2, fun j hj => ?_⟩
    by_cases e : y = z
    · subst e
      exact cp_hold hfg h3 hn j hj (fun _ => hj)
    · have l8 := HB.mi.sl (uS_lt HB.mi hy)
      rw [cpF_ne (HB.ne (lv_4 hy) h4 (Or.inr e)), cpF_out (by omega)]
      exact h3 j hj
  · obtain ⟨h1, h2, h3⟩ := HB.rb y hy
    exact ⟨h1, h2, fun j hj => by rw [cpF_ne (HB.ne (lv_6 hy) h4 (Or.inl (by decide))), cpF_ne (show 3 ≠ 0 by decide)]; exact h3 j hj⟩
  · obtain ⟨h1, h2⟩ := HB.rw.1 w hw
    exact ⟨h1, fun j hj => by rw [cpF_ne (HB.ne (lv_8 (by omega)) h4 (Or.inl (by decide))), cpF_ne (show 6 ≠ 0 by decide)]; exact h2 j hj⟩
theorem Rep.putB (HB : Rep T D ad L K R I A Q N) {z d n : Nat} {f g : Nat → Int32} (hz : uB T z) (hn : d + n ≤ T 4 z) (hfg : ∀ i, i < n → f i = g i) (hg : ∀ i, i < n → (g i).toInt8.toInt32 = g i) : Rep T (cpF D 3 (64 * z + d) g n) ad L K R I (cpF A (ad 6 z) d f n) Q N := by
  have h4 : lv T 6 z := lv_6 hz
  have l9 := HB.mi.bl (uB_lt HB.mi hz)
  refine ⟨HB.1, HB.2.1, HB.2.2.1, fun y hy => ?_, fun y hy => ?_, ⟨fun w hw => ?_, HB.rw.2⟩, HB.rr, HB.rj, HB.mi, HB.md.cp (Or.inr ⟨rfl, hg⟩)⟩
  · obtain ⟨h1, h2, h3⟩ := HB.rs y hy
    exact ⟨h1, h2, fun j hj => by rw [cpF_ne (HB.ne (lv_4 hy) h4 (Or.inl (by decide))), cpF_ne (show 0 ≠ 3 by decide)]; exact h3 j hj⟩
  · obtain ⟨h1, h2, h3⟩ := HB.rb y hy
    refine ⟨h1, h2, fun j hj => ?_⟩
    by_cases e : y = z
    · subst e
      exact cp_hold hfg h3 hn j hj (fun _ => hj)
    · have l8 := HB.mi.bl (uB_lt HB.mi hy)
      rw [cpF_ne (HB.ne (lv_6 hy) h4 (Or.inr e)), cpF_out (by omega)]
      exact h3 j hj
  · obtain ⟨h1, h2⟩ := HB.rw.1 w hw
    exact ⟨h1, fun j hj => by rw [cpF_ne (HB.ne (lv_8 (by omega)) h4 (Or.inl (by decide))), cpF_ne (show 6 ≠ 3 by decide)]; exact h2 j hj⟩
theorem u2_cp {F : mD} {k d : Nat} {v : Int32} : u2 F k d v = cpF F k d (fun _ => v) 1 := by
  have h := cpF_S (D := F) (a := k) (d0 := d) (n := 0) (f := fun _ => v)
  rw [cpF_0, Nat.add_zero] at h
  exact h
/-- the other readers' fields stay -/
theorem rd_ne (HB : Rep T D ad L K R I A Q N) {i i2 f : Nat} {v : Int32} (hi : i < 3) (hi2 : i2 < 3) (h : i2 ≠ i) (g : Nat) : u2 I f (ad 9 i) v g (ad 9 i2) = I g (ad 9 i2) := by
  by_cases e : g = f
  · subst e; exact u2_nj (HB.ne (lv_9 (by omega)) (lv_9 (by omega)) (Or.inr h))
  · exact congrFun (u2_ne e) _
/-- a reader's place, or its mark, is a -/
theorem Rep.place (HB : Rep T D ad L K R I A Q N) {i a : Nat} (hi : i < 3) (ha : a ≤ T 10 i) : Rep (u2 T 9 i a) D ad L K R (u2 I 5 (ad 9 i) (nI a)) A Q N := by
  refine ⟨HB.1, HB.2.1, HB.2.2.1, fun z hz => HB.rs z hz, fun z hz => HB.rb z hz, ⟨fun w hw => HB.rw.1 w hw, fun w h1 h2 => HB.rw.2 w h1 h2⟩, fun y hy => ?_, fun j hj => HB.rj j hj, ?_, HB.md⟩
  · by_cases e : y = i
    · subst e
      refine ⟨(HB.rr y hy).1, fun z => ?_⟩
      obtain ⟨g1, g2, g3, g4, g5, g6⟩ := (HB.rr y hy).2 z
      exact ⟨g1, g2, u2_eq.trans (congrArg nI u2_eq.symm), g4, g5, g6⟩
    · refine ⟨fun z => (HB.rr y hy).1 z, fun z => ?_⟩
      obtain ⟨g1, g2, g3, g4, g5, g6⟩ := (HB.rr y hy).2 z
      exact ⟨g1, g2, by rw [rd_ne HB hi hy e, u2_nj e]; exact g3, g4, g5, g6⟩
  · have M := HB.mi
    refine ⟨M.1, M.2.1, M.2.2.1, M.2.2.2.1, M.2.2.2.2.1, M.2.2.2.2.2.1, M.2.2.2.2.2.2.1, fun y hy => ?_, M.2.2.2.2.2.2.2.2⟩
    obtain ⟨h1, h2, h3⟩ := M.rd hy
    refine ⟨h1, ?_, h3⟩
    show u2 T 9 i a 9 y ≤ T 10 y
    by_cases e : y = i
    · subst e; rw [u2_eq]; exact ha
    · rw [u2_nj e]; exact h2
theorem Rep.marked (HB : Rep T D ad L K R I A Q N) {i a : Nat} (hi : i < 3) (ha : a ≤ T 10 i) : Rep (u2 T 11 i a) D ad L K R (u2 I 7 (ad 9 i) (nI a)) A Q N := by
  refine ⟨HB.1, HB.2.1, HB.2.2.1, fun z hz => HB.rs z hz, fun z hz => HB.rb z hz, ⟨fun w hw => HB.rw.1 w hw, fun w h1 h2 => HB.rw.2 w h1 h2⟩, fun y hy => ?_, fun j hj => HB.rj j hj, ?_, HB.md⟩
  · by_cases e : y = i
    · subst e
      refine ⟨(HB.rr y hy).1, fun z => ?_⟩
      obtain ⟨g1, g2, g3, g4, g5, g6⟩ := (HB.rr y hy).2 z
      exact ⟨g1, g2, g3, g4, u2_eq.trans (congrArg nI u2_eq.symm), g6⟩
    · refine ⟨fun z => (HB.rr y hy).1 z, fun z => ?_⟩
      obtain ⟨g1, g2, g3, g4, g5, g6⟩ := (HB.rr y hy).2 z
      exact ⟨g1, g2, g3, g4, by rw [rd_ne HB hi hy e, u2_nj e]; exact g5, g6⟩
  · have M := HB.mi
    refine ⟨M.1, M.2.1, M.2.2.1, M.2.2.2.1, M.2.2.2.2.1, M.2.2.2.2.2.1, M.2.2.2.2.2.2.1, fun y hy => ?_, M.2.2.2.2.2.2.2.2⟩
    obtain ⟨h1, h2, h3, h4⟩ := M.rd hy
    refine ⟨h1, h2, ?_, h4⟩
    show u2 T 11 i a 11 y ≤ T 10 y
    by_cases e : y = i
    · subst e; rw [u2_eq]; exact ha
    · rw [u2_nj e]; exact h3
theorem Rep.shut (HB : Rep T D ad L K R I A Q N) {i : Nat} (hi : i < 3) : Rep (u2 T 12 i 1) D ad L K R (u2 I 9 (ad 9 i) (nI 1)) A Q N := by
  refine ⟨HB.1, HB.2.1, HB.2.2.1, fun z hz => HB.rs z hz, fun z hz => HB.rb z hz, ⟨fun w hw => HB.rw.1 w hw, fun w h1 h2 => HB.rw.2 w h1 h2⟩, fun y hy => ?_, fun j hj => HB.rj j hj, ?_, HB.md⟩
  · by_cases e : y = i
    · subst e
      refine ⟨(HB.rr y hy).1, fun z => ?_⟩
      obtain ⟨g1, g2, g3, g4, g5, g6⟩ := (HB.rr y hy).2 z
      exact ⟨g1, g2, g3, g4, g5, u2_eq.trans (congrArg nI u2_eq.symm)⟩
    · refine ⟨fun z => (HB.rr y hy).1 z, fun z => ?_⟩
      obtain ⟨g1, g2, g3, g4, g5, g6⟩ := (HB.rr y hy).2 z
      exact ⟨g1, g2, g3, g4, g5, by rw [rd_ne HB hi hy e, u2_nj e]; exact g6⟩
  · have M := HB.mi
    refine ⟨M.1, M.2.1, M.2.2.1, M.2.2.2.1, M.2.2.2.2.1, M.2.2.2.2.2.1, M.2.2.2.2.2.2.1, fun y hy => ?_, M.2.2.2.2.2.2.2.2⟩
    obtain ⟨h1, h2, h3, h4, h5, h6⟩ := M.rd hy
    refine ⟨h1, h2, h3, h4, ?_, h6⟩
    show u2 T 12 i 1 12 y ≤ 1
    rw [u2_at]
    split
    · exact Nat.le_refl _
    · exact h5
/-- fewer names -/
theorem rpA.less {T2 : mT} (h : rpA T ad L K) (hl : ∀ k i, lv T2 k i → lv T k i) : rpA T2 ad L K := ⟨fun k i z => h.1 k i (hl k i z), fun k i k2 i2 z z2 => h.2 k i k2 i2 (hl k i z) (hl k2 i2 z2)⟩
theorem lv_less {T2 : mT} (hS : ∀ z, uS T2 z → uS T z) (hB : ∀ z, uB T2 z → uB T z) : ∀ k i, lv T2 k i → lv T k i := by
  intro k i h
  rcases h with h | h | h | ⟨h1, h2⟩ | ⟨h1, h2⟩ | h | h | h | h
  · exact Or.inl h
  · exact Or.inr (Or.inl h)
  · exact Or.inr (Or.inr (Or.inl h))
  · exact Or.inr (Or.inr (Or.inr (Or.inl ⟨h1, hS _ h2⟩)))
  · exact Or.inr (Or.inr (Or.inr (Or.inr (Or.inl ⟨h1, hB _ h2⟩))))
  · exact Or.inr (Or.inr (Or.inr (Or.inr (Or.inr (Or.inl h)))))
  · exact Or.inr (Or.inr (Or.inr (Or.inr (Or.inr (Or.inr (Or.inl h))))))
  · exact Or.inr (Or.inr (Or.inr (Or.inr (Or.inr (Or.inr (Or.inr (Or.inl h)))))))
  · exact Or.inr (Or.inr (Or.inr (Or.inr (Or.inr (Or.inr (Or.inr (Or.inr h)))))))
theorem opI_ne (HB : Rep T D ad L K R I A Q N) {i i2 f e : Nat} (hi : i < 3) (hi2 : i2 < 3) (h : i2 ≠ i) (g : Nat) : opI I (ad 9 i) f e g (ad 9 i2) = I g (ad 9 i2) := by
  have hne := HB.ne (lv_9 (show i2 < 4 by omega)) (lv_9 (show i < 4 by omega)) (Or.inr h)
  have key : ∀ (J : pI) (k : Nat) (v : Int32), u2 J k (ad 9 i) v g (ad 9 i2) = J g (ad 9 i2) := fun J k v => by
    by_cases e : g = k
    · subst e; exact u2_nj hne
    · exact congrFun (u2_ne e) _
  rw [opI, key, key, key, key, key]
theorem opI_k {i f e g : Nat} (h : g < 5 ∨ 9 < g) (b : Nat) : opI I (ad 9 i) f e g b = I g b := by
  rw [opI, u2_ne (by omega), u2_ne (by omega), u2_ne (by omega), u2_ne (by omega), u2_ne (by omega)]
theorem Rep.opened (HB : Rep T D ad L K R I A Q N) {i r f e : Nat} (hi : i < 3) (hr : r < 4) (hf : f ≤ e) (he : e ≤ T 1 (T 2 r)) : Rep (opT T i r f e) D ad L K (u2 R 2 (ad 9 i) (some (ad 3 (T 2 r)))) (opI I (ad 9 i) f e) A Q N := by
  have h9 : lv T 9 i := lv_9 (by omega)
  have l9 := HB.mi.sl (HB.mi.sr hr)
  have hS : ∀ z, uS (opT T i r f e) z → uS T z := fun z hz => by
    rcases hz with ⟨r2, h1, h2⟩ | ⟨i2, h1, h2⟩
    · exact Or.inl ⟨r2, h1, h2⟩
    · have h2 : u2 T 8 i (T 2 r + 1) 8 i2 = z + 1 := h2
      rw [u2_at] at h2
      split at h2
      · exact Or.inl ⟨r, hr, by omega⟩
      · exact Or.inr ⟨i2, h1, h2⟩
  have hk : ∀ g b, g ≠ 2 → u2 R 2 (ad 9 i) (some (ad 3 (T 2 r))) g b = R g b := fun g b hg => congrFun (u2_ne hg) b
  have hk2 : ∀ {b}, b ≠ ad 9 i → u2 R 2 (ad 9 i) (some (ad 3 (T 2 r))) 2 b = R 2 b := fun hb => u2_nj hb
  refine ⟨HB.1.less (lv_less hS (fun z hz => hz)), ?_, HB.2.2.1, fun z hz => HB.rs z (hS z hz), fun z hz => HB.rb z hz, ⟨fun w hw => HB.rw.1 w hw, fun w h1 h2 => HB.rw.2 w h1 h2⟩, fun y hy => ?_, fun j hj => HB.rj j hj, ?_, HB.md⟩
  · exact ⟨fun k hk6 => (hk _ _ (by omega)).trans (HB.rc.1 k hk6), HB.rc.2⟩
  · by_cases q : y = i
    · subst q
      refine ⟨fun z => ?_, fun z => ?_⟩
      · have z : u2 T 8 y (T 2 r + 1) 8 y = 0 := z
        rw [u2_eq] at z; omega
      · have e8 : opT T y r f e 8 y = T 2 r + 1 := by simp [opT, u2]
        have e9 : opT T y r f e 9 y = f := by simp [opT, u2]
        have e10 : opT T y r f e 10 y = e := by simp [opT, u2]
        have e11 : opT T y r f e 11 y = f := by simp [opT, u2]
        have e12 : opT T y r f e 12 y = 0 := by simp [opT, u2]
        refine ⟨?_, ?_, ?_, ?_, ?_, ?_⟩
        · simp [opI, u2]
        · rw [e8]; exact u2_eq
        · rw [e9]; exact opI_5
        · rw [e10]; exact opI_6
        · rw [e11]; simp [opI, u2]
        · rw [e12]; exact u2_eq
    · have q8 : opT T i r f e 8 y = T 8 y := by simp [opT, u2, q]
      have q9 : opT T i r f e 9 y = T 9 y := by simp [opT, u2, q]
      have q10 : opT T i r f e 10 y = T 10 y := by simp [opT, u2, q]
      have q11 : opT T i r f e 11 y = T 11 y := by simp [opT, u2, q]
      have q12 : opT T i r f e 12 y = T 12 y := by simp [opT, u2, q]
      rw [q8, q9, q10, q11, q12]
      refine ⟨fun z => (opI_ne HB hi hy q 8).trans ((HB.rr y hy).1 z), fun z => ?_⟩
      obtain ⟨g1, g2, g3, g4, g5, g6⟩ := (HB.rr y hy).2 z
      exact ⟨(opI_ne HB hi hy q _).trans g1, (hk2 (HB.ne (lv_9 (by omega)) h9 (Or.inr q))).trans g2, (opI_ne HB hi hy q _).trans g3, (opI_ne HB hi hy q _).trans g4, (opI_ne HB hi hy q _).trans g5, (opI_ne HB hi hy q _).trans g6⟩
  · have M := HB.mi
    refine ⟨M.1, M.2.1, M.2.2.1, M.2.2.2.1, M.2.2.2.2.1, M.2.2.2.2.2.1, M.2.2.2.2.2.2.1, fun y hy => ?_, M.2.2.2.2.2.2.2.2⟩
    by_cases q : y = i
    · subst q
      have e8 : opT T y r f e 8 y = T 2 r + 1 := by simp [opT, u2]
      have e9 : opT T y r f e 9 y = f := by simp [opT, u2]
      have e10 : opT T y r f e 10 y = e := by simp [opT, u2]
      have e11 : opT T y r f e 11 y = f := by simp [opT, u2]
      have e12 : opT T y r f e 12 y = 0 := by simp [opT, u2]
      have s9 := M.sr hr
      rw [e8, e9, e10, e11, e12]
      exact ⟨by omega, hf, hf, by omega, by omega, fun _ => he⟩
    · have q8 : opT T i r f e 8 y = T 8 y := by simp [opT, u2, q]
      have q9 : opT T i r f e 9 y = T 9 y := by simp [opT, u2, q]
      have q10 : opT T i r f e 10 y = T 10 y := by simp [opT, u2, q]
      have q11 : opT T i r f e 11 y = T 11 y := by simp [opT, u2, q]
      have q12 : opT T i r f e 12 y = T 12 y := by simp [opT, u2, q]
      rw [q8, q9, q10, q11, q12]
      exact M.rd hy
end RP1
