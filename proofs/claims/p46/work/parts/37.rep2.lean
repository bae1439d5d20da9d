/-! a row made anew -/
section RP2
variable {T : mT} {D : mD} {ad : pD} {L : List Nat} {K : pN} {R : pR} {I : pI} {A : mD} {Q : pR} {N : pN}
theorem Rep.kept19 (HB : Rep T D ad L K R I A Q N) {d n : Nat} {g : Nat → Int32} (hg : ∀ i, i < n → g i &&& nI 255 = g i) : Rep T (cpF D 19 d g n) ad L K R I A Q N :=
  ⟨HB.1, HB.2.1, HB.2.2.1, fun z hz => HB.rs z hz, fun z hz => HB.rb z hz, ⟨fun w hw => HB.rw.1 w hw, HB.rw.2⟩, HB.rr, HB.rj, HB.mi, HB.md.cp (Or.inl ⟨Or.inr (Or.inr rfl), hg⟩)⟩
theorem rpC_c {ad2 : pD} (h : ∀ k i, k ≠ 3 → k ≠ 4 → k ≠ 5 → k ≠ 6 → ad2 k i = ad k i) (hC : rpC ad R Q N) : rpC ad2 R Q N := by
  obtain ⟨c1, c2, ⟨c3, c4, c5, c6, c7, c8⟩, c9, c10, c11, c12, c13, c14, t1, t2, t3, t4, t5, t6, t7, t8, t9, t10, t11, t12, t13⟩ := hC
  have e : ∀ k i, (k < 3 ∨ 6 < k) → ad2 k i = ad k i := fun k i hk => h k i (by omega) (by omega) (by omega) (by omega)
  have e0 := e 0 0 (by decide)
  have e1 := fun i => e 1 i (by decide)
  have e2 := e 2 0 (by decide)
  have e7 := fun i => e 7 i (by decide)
  have e8 := fun i => e 8 i (by decide)
  have e9 := fun i => e 9 i (by decide)
  have e10 := fun i => e 10 i (by decide)
  have e11 := fun i => e 11 i (by decide)
  have e12 := e 12 0 (by decide)
  have e13 := e 13 0 (by decide)
  have e14 := e 14 0 (by decide)
  have e15 := e 15 0 (by decide)
  have e16 := e 16 0 (by decide)
  refine ⟨?_, ?_, ?_, ?_, ?_, ?_, ?_, ?_, ?_, ?_⟩
  · intro k hk; rw [e0, e1]; exact c1 k hk
  · rw [e0, e2]; exact c2
  · rw [e1, e1, e1, e1, e1, e1]; exact ⟨c3, c4, c5, c6, c7, c8⟩
  · intro w hw; rw [e1, e7]; exact c9 w hw
  · intro w hw; rw [e1, e7]; exact c10 w hw
  · intro w hw; rw [e1, e9]; exact c11 w hw
  · intro w hw; rw [e1, e10]; exact c12 w hw
  · intro w hw; rw [e7, e8]; exact c13 w hw
  · intro w hw; rw [e10, e11]; exact c14 w hw
  · unfold rpT
    rw [e2, e12, e14, e9, e7, e7, e15, e16, e10, e13]
    exact ⟨t1, t2, t3, t4, t5, t6, t7, t8, t9, t10, t11, t12, t13⟩
/-- a change of a row of the book's own rows leaves what is constant -/
theorem rpC_q {q j : Nat} {v : Option Nat} (h2 : ad 1 2 ≠ q) (h3 : ad 1 3 ≠ q) (h4 : ad 1 4 ≠ q) (h5 : ad 1 5 ≠ q) (hC : rpC ad R Q N) : rpC ad R (u2 Q q j v) N := by
  obtain ⟨c1, c2, c3, c9, c10, c11, c12, c13⟩ := hC
  exact ⟨c1, c2, c3, fun w hw => by rw [u2_ne h2]; exact c9 w hw, fun w hw => by rw [u2_ne h3]; exact c10 w hw, fun w hw => by rw [u2_ne h4]; exact c11 w hw, fun w hw => by rw [u2_ne h5]; exact c12 w hw, c13⟩
def adS (ad : pD) (z a b : Nat) : pD := fun k i => if k = 3 ∧ i = z then a else if k = 4 ∧ i = z then b else ad k i
theorem adS_3 {z a b : Nat} : adS ad z a b 3 z = a := if_pos ⟨rfl, rfl⟩
theorem adS_4 {z a b : Nat} : adS ad z a b 4 z = b := (if_neg (fun h => absurd h.1 (by decide))).trans (if_pos ⟨rfl, rfl⟩)
theorem adS_k {z a b k i : Nat} (h : k ≠ 3 ∧ k ≠ 4 ∨ i ≠ z) : adS ad z a b k i = ad k i := by
  rw [adS, if_neg (fun y => h.elim (fun h => h.1 y.1) (fun h => h y.2)), if_neg (fun y => h.elim (fun h => h.2 y.1) (fun h => h y.2))]
theorem Rep.newS (HB : Rep T D ad L K R I A Q N) {r n a b : Nat} {h : Nat → Int32} (hr : r < 4) (hs : isSR L K R N a b n) (ha : ∀ k i, lv T k i → ad k i ≠ a) (hb : ∀ k i, lv T k i → ad k i ≠ b) (hab : a ≠ b) (hA : ∀ j, j < n → A b j = h j) (hh : ∀ j, j < n → h j &&& nI 255 = h j) :
    Rep (u2 (u2 T 1 (fS T) n) 2 r (fS T)) (cpF D 0 (256 * fS T) h n) (adS ad (fS T) a b) L K R I A (u2 Q (ad 1 0) r (some a)) N := by
  obtain ⟨f1, f2, f3⟩ := fS_ok T
  generalize hz : fS T = z at f1 f2 f3 ⊢
  have hn : n ≤ 256 := hs.2.2.2.2.2.2
  have hu : ¬ uS T z := fun y => y.elim (fun ⟨r2, g1, g2⟩ => f2 r2 g1 g2) (fun ⟨i, g1, g2⟩ => f3 i g1 g2)
  have hU : ∀ y, uS (u2 (u2 T 1 z n) 2 r z) y → y = z ∨ uS T y := fun y hy => by
    rcases hy with ⟨r2, g1, g2⟩ | ⟨i, g1, g2⟩
    · have g2 : u2 (u2 T 1 z n) 2 r z 2 r2 = y := g2
      rw [u2_at] at g2
      split at g2
      · exact Or.inl g2.symm
      · exact Or.inr (Or.inl ⟨r2, g1, g2⟩)
    · exact Or.inr (Or.inr ⟨i, g1, g2⟩)
  have hlv : ∀ k i, lv (u2 (u2 T 1 z n) 2 r z) k i → (k = 3 ∨ k = 4) ∧ i = z ∨ lv T k i ∧ adS ad z a b k i = ad k i := by
    intro k i hl
    have key : ∀ {k i}, (k ≠ 3 ∧ k ≠ 4) → lv T k i → (k = 3 ∨ k = 4) ∧ i = z ∨ lv T k i ∧ adS ad z a b k i = ad k i := fun hk hl => Or.inr ⟨hl, adS_k (Or.inl hk)⟩
    rcases hl with g | g | g | ⟨g1, g2⟩ | ⟨g1, g2⟩ | g | g | g | g
    · exact key (by omega) (Or.inl g)
    · exact key (by omega) (Or.inr (Or.inl g))
    · exact key (by omega) (Or.inr (Or.inr (Or.inl g)))
    · rcases hU i g2 with e | e
      · exact Or.inl ⟨g1, e⟩
      · exact Or.inr ⟨Or.inr (Or.inr (Or.inr (Or.inl ⟨g1, e⟩))), adS_k (Or.inr (fun q => hu (q ▸ e)))⟩
    · exact key (by omega) (Or.inr (Or.inr (Or.inr (Or.inr (Or.inl ⟨g1, g2⟩)))))
    · exact key (by omega) (Or.inr (Or.inr (Or.inr (Or.inr (Or.inr (Or.inl g))))))
    · exact key (by omega) (Or.inr (Or.inr (Or.inr (Or.inr (Or.inr (Or.inr (Or.inl g)))))))
    · exact key (by omega) (Or.inr (Or.inr (Or.inr (Or.inr (Or.inr (Or.inr (Or.inr (Or.inl g))))))))
    · exact key (by omega) (Or.inr (Or.inr (Or.inr (Or.inr (Or.inr (Or.inr (Or.inr (Or.inr g))))))))
  have n12 := HB.ne (lv_1 (T := T) (show 2 < 6 by decide)) (lv_1 (show 0 < 6 by decide)) (Or.inr (by decide))
  have n13 := HB.ne (lv_1 (T := T) (show 3 < 6 by decide)) (lv_1 (show 0 < 6 by decide)) (Or.inr (by decide))
  have n14 := HB.ne (lv_1 (T := T) (show 4 < 6 by decide)) (lv_1 (show 0 < 6 by decide)) (Or.inr (by decide))
  have n15 := HB.ne (lv_1 (T := T) (show 5 < 6 by decide)) (lv_1 (show 0 < 6 by decide)) (Or.inr (by decide))
  have n10 := HB.ne (lv_1 (T := T) (show 1 < 6 by decide)) (lv_1 (show 0 < 6 by decide)) (Or.inr (by decide))
  have old3 : ∀ {y}, uS T y → adS ad z a b 3 y = ad 3 y := fun hy => adS_k (Or.inr (fun q => hu (q ▸ hy)))
  have old4 : ∀ {y}, uS T y → adS ad z a b 4 y = ad 4 y := fun hy => adS_k (Or.inr (fun q => hu (q ▸ hy)))
  refine ⟨⟨fun k i hl => ?_, fun k i k2 i2 hl hl2 he => ?_⟩, rpC_c (fun k i g1 g2 g3 g4 => adS_k (Or.inl ⟨g1, g2⟩)) (rpC_q n12 n13 n14 n15 HB.rc), ⟨?_, ?_⟩, ?_, ?_, ⟨fun w hw => ?_, HB.rw.2⟩, ?_, ?_, ?_, HB.md.cp (Or.inl ⟨Or.inl rfl, hh⟩)⟩
  · rcases hlv k i hl with ⟨g1 | g1, g2⟩ | ⟨g1, g2⟩
    · subst g1; subst g2; rw [adS_3]; exact ⟨hs.1, hs.2.1⟩
    · subst g1; subst g2; rw [adS_4]; exact ⟨hs.2.2.2.1, hs.2.2.2.2.1⟩
    · rw [g2]; exact HB.1.1 k i g1
  · rcases hlv k i hl with ⟨g1 | g1, g2⟩ | ⟨g1, g2⟩ <;> rcases hlv k2 i2 hl2 with ⟨g3 | g3, g4⟩ | ⟨g3, g4⟩
    · exact ⟨g1.trans g3.symm, g2.trans g4.symm⟩
    · subst g1; subst g2; subst g3; subst g4; rw [adS_3, adS_4] at he; exact absurd he hab
    · subst g1; subst g2; rw [adS_3, g4] at he; exact absurd he.symm (ha _ _ g3)
    · subst g1; subst g2; subst g3; subst g4; rw [adS_3, adS_4] at he; exact absurd he.symm hab
    · exact ⟨g1.trans g3.symm, g2.trans g4.symm⟩
    · subst g1; subst g2; rw [adS_4, g4] at he; exact absurd he.symm (hb _ _ g3)
    · subst g3; subst g4; rw [adS_3, g2] at he; exact absurd he (ha _ _ g1)
    · subst g3; subst g4; rw [adS_4, g2] at he; exact absurd he (hb _ _ g1)
    · rw [g2, g4] at he; exact HB.1.2 k i k2 i2 g1 g3 he
  · intro y hy
    by_cases e : y = r
    · subst e
      show u2 Q (ad 1 0) y (some a) (ad 1 0) y = some (adS ad z a b 3 (u2 (u2 T 1 z n) 2 y z 2 y))
      rw [u2_eq, u2_eq, adS_3]
    · show u2 Q (ad 1 0) r (some a) (ad 1 0) y = some (adS ad z a b 3 (u2 (u2 T 1 z n) 2 r z 2 y))
      rw [u2_nj e, u2_nj e]
      show _ = some (adS ad z a b 3 (T 2 y))
      rw [old3 (Or.inl ⟨y, hy, rfl⟩)]
      exact HB.rq.1 y hy
  · intro y hy
    show u2 Q (ad 1 0) r (some a) (ad 1 1) y = some (adS ad z a b 5 (T 5 y))
    rw [u2_ne n10, adS_k (Or.inl ⟨by decide, by decide⟩)]
    exact HB.rq.2 y hy
  · intro y hy
    rcases hU y hy with e | e
    · subst e
      rw [adS_3, adS_4]
      have e1 : u2 (u2 T 1 y n) 2 r y 1 y = n := (congrFun (u2_ne (by decide)) _).trans u2_eq
      rw [e1]
      refine ⟨hs.2.2.1, hs.2.2.2.2.2.1, fun j hj => ?_⟩
      rw [cpF_in (by omega) (by omega), show 256 * y + j - 256 * y = j by omega]
      exact hA j hj
    · have ne : y ≠ z := fun q => hu (q ▸ e)
      obtain ⟨h1, h2, h3⟩ := HB.rs y e
      have e1 : u2 (u2 T 1 z n) 2 r z 1 y = T 1 y := (congrFun (u2_ne (by decide)) _).trans (u2_nj ne)
      have l8 := HB.mi.sl (uS_lt HB.mi e)
      rw [old3 e, old4 e, e1]
      refine ⟨h1, h2, fun j hj => ?_⟩
      rw [cpF_out (by omega)]
      exact h3 j hj
  · intro y hy
    have hy : uB T y := hy
    obtain ⟨h1, h2, h3⟩ := HB.rb y hy
    rw [adS_k (Or.inl ⟨by decide, by decide⟩), adS_k (Or.inl ⟨by decide, by decide⟩)]
    exact ⟨h1, h2, fun j hj => by rw [cpF_ne (show 3 ≠ 0 by decide)]; exact h3 j hj⟩
  · obtain ⟨h1, h2⟩ := HB.rw.1 w hw
    exact ⟨h1, fun j hj => by rw [cpF_ne (show 6 ≠ 0 by decide)]; exact h2 j hj⟩
  · intro i hi
    refine ⟨(HB.rr i hi).1, fun y => ?_⟩
    have y : T 8 i ≠ 0 := y
    obtain ⟨g1, g2, g3⟩ := (HB.rr i hi).2 y
    refine ⟨g1, ?_, g3⟩
    show R 2 (ad 9 i) = some (adS ad z a b 3 (T 8 i - 1))
    rw [old3 (uS_rd hi y)]
    exact g2
  · intro j hj
    obtain ⟨g1, g2, g3, g4, g5, g6⟩ := HB.rj j hj
    refine ⟨g1, g2, g3, g4, g5, fun k hk => ?_⟩
    show u2 Q (ad 1 0) r (some a) (ad 11 j) k = some (adS ad z a b 5 (T 14 (3 * j + k) - 1))
    rw [u2_ne (HB.ne (lv_11 (by omega)) (lv_1 (by decide)) (Or.inl (by decide))), adS_k (Or.inl ⟨by decide, by decide⟩)]
    exact g6 k hk
  · have M := HB.mi
    refine ⟨fun y hy => ?_, fun y y2 hy hy2 e => ?_, fun k hk => ?_, M.2.2.2.1, M.2.2.2.2.1, M.2.2.2.2.2.1, M.2.2.2.2.2.2.1, fun i hi => ?_, M.2.2.2.2.2.2.2.2⟩
    · show u2 (u2 T 1 z n) 2 r z 2 y < 8
      rw [u2_at]; split
      · exact f1
      · exact M.sr hy
    · have e : u2 (u2 T 1 z n) 2 r z 2 y = u2 (u2 T 1 z n) 2 r z 2 y2 := e
      rw [u2_at, u2_at] at e
      split at e <;> split at e
      · omega
      · exact absurd e.symm (f2 y2 hy2)
      · exact absurd e (f2 y hy)
      · exact M.srj hy hy2 e
    · show u2 T 1 z n 1 k ≤ 256
      rw [u2_at]; split
      · exact hn
      · exact M.sl hk
    · obtain ⟨h1, h2, h3, h4, h5, h6⟩ := M.rd hi
      refine ⟨h1, h2, h3, h4, h5, fun y => ?_⟩
      have y : T 8 i ≠ 0 := y
      show T 10 i ≤ u2 T 1 z n 1 (T 8 i - 1)
      have := f3 i hi
      rw [u2_nj (by omega)]
      exact h6 y
def adB (ad : pD) (z a b : Nat) : pD := fun k i => if k = 5 ∧ i = z then a else if k = 6 ∧ i = z then b else ad k i
theorem adB_3 {z a b : Nat} : adB ad z a b 5 z = a := if_pos ⟨rfl, rfl⟩
theorem adB_4 {z a b : Nat} : adB ad z a b 6 z = b := (if_neg (fun h => absurd h.1 (by decide))).trans (if_pos ⟨rfl, rfl⟩)
theorem adB_k {z a b k i : Nat} (h : k ≠ 5 ∧ k ≠ 6 ∨ i ≠ z) : adB ad z a b k i = ad k i := by
  rw [adB, if_neg (fun y => h.elim (fun h => h.1 y.1) (fun h => h y.2)), if_neg (fun y => h.elim (fun h => h.2 y.1) (fun h => h y.2))]
theorem Rep.newB (HB : Rep T D ad L K R I A Q N) {r n a b : Nat} {h : Nat → Int32} (hr : r < 4) (hs : isBR L K R N a b n) (ha : ∀ k i, lv T k i → ad k i ≠ a) (hb : ∀ k i, lv T k i → ad k i ≠ b) (hab : a ≠ b) (hA : ∀ j, j < n → A b j = h j) (hh : ∀ j, j < n → (h j).toInt8.toInt32 = h j) :
    Rep (u2 (u2 T 4 (fB T) n) 5 r (fB T)) (cpF D 3 (64 * fB T) h n) (adB ad (fB T) a b) L K R I A (u2 Q (ad 1 1) r (some a)) N := by
  obtain ⟨f1, f2, f3⟩ := fB_ok T
  generalize hz : fB T = z at f1 f2 f3 ⊢
  have hn : n ≤ 64 := hs.2.2.2.2.2.2
  have hu : ¬ uB T z := fun y => y.elim (fun ⟨r2, g1, g2⟩ => f2 r2 g1 g2) (fun ⟨i, g1, g2⟩ => f3 i g1 g2)
  have hU : ∀ y, uB (u2 (u2 T 4 z n) 5 r z) y → y = z ∨ uB T y := fun y hy => by
    rcases hy with ⟨r2, g1, g2⟩ | ⟨i, g1, g2⟩
    · have g2 : u2 (u2 T 4 z n) 5 r z 5 r2 = y := g2
      rw [u2_at] at g2
      split at g2
      · exact Or.inl g2.symm
      · exact Or.inr (Or.inl ⟨r2, g1, g2⟩)
    · exact Or.inr (Or.inr ⟨i, g1, g2⟩)
  have hlv : ∀ k i, lv (u2 (u2 T 4 z n) 5 r z) k i → (k = 5 ∨ k = 6) ∧ i = z ∨ lv T k i ∧ adB ad z a b k i = ad k i := by
    intro k i hl
    have key : ∀ {k i}, (k ≠ 5 ∧ k ≠ 6) → lv T k i → (k = 5 ∨ k = 6) ∧ i = z ∨ lv T k i ∧ adB ad z a b k i = ad k i := fun hk hl => Or.inr ⟨hl, adB_k (Or.inl hk)⟩
    rcases hl with g | g | g | ⟨g1, g2⟩ | ⟨g1, g2⟩ | g | g | g | g
    · exact key (by omega) (Or.inl g)
    · exact key (by omega) (Or.inr (Or.inl g))
    · exact key (by omega) (Or.inr (Or.inr (Or.inl g)))
    · exact key (by omega) (Or.inr (Or.inr (Or.inr (Or.inl ⟨g1, g2⟩))))
    · rcases hU i g2 with e | e
      · exact Or.inl ⟨g1, e⟩
      · exact Or.inr ⟨Or.inr (Or.inr (Or.inr (Or.inr (Or.inl ⟨g1, e⟩)))), adB_k (Or.inr (fun q => hu (q ▸ e)))⟩
    · exact key (by omega) (Or.inr (Or.inr (Or.inr (Or.inr (Or.inr (Or.inl g))))))
    · exact key (by omega) (Or.inr (Or.inr (Or.inr (Or.inr (Or.inr (Or.inr (Or.inl g)))))))
    · exact key (by omega) (Or.inr (Or.inr (Or.inr (Or.inr (Or.inr (Or.inr (Or.inr (Or.inl g))))))))
    · exact key (by omega) (Or.inr (Or.inr (Or.inr (Or.inr (Or.inr (Or.inr (Or.inr (Or.inr g))))))))
  have n12 := HB.ne (lv_1 (T := T) (show 2 < 6 by decide)) (lv_1 (show 1 < 6 by decide)) (Or.inr (by decide))
  have n13 := HB.ne (lv_1 (T := T) (show 3 < 6 by decide)) (lv_1 (show 1 < 6 by decide)) (Or.inr (by decide))
  have n14 := HB.ne (lv_1 (T := T) (show 4 < 6 by decide)) (lv_1 (show 1 < 6 by decide)) (Or.inr (by decide))
  have n15 := HB.ne (lv_1 (T := T) (show 5 < 6 by decide)) (lv_1 (show 1 < 6 by decide)) (Or.inr (by decide))
  have n10 := HB.ne (lv_1 (T := T) (show 0 < 6 by decide)) (lv_1 (show 1 < 6 by decide)) (Or.inr (by decide))
  have old3 : ∀ {y}, uB T y → adB ad z a b 5 y = ad 5 y := fun hy => adB_k (Or.inr (fun q => hu (q ▸ hy)))
  have old4 : ∀ {y}, uB T y → adB ad z a b 6 y = ad 6 y := fun hy => adB_k (Or.inr (fun q => hu (q ▸ hy)))
  refine ⟨⟨fun k i hl => ?_, fun k i k2 i2 hl hl2 he => ?_⟩, rpC_c (fun k i g1 g2 g3 g4 => adB_k (Or.inl ⟨g3, g4⟩)) (rpC_q n12 n13 n14 n15 HB.rc), ⟨?_, ?_⟩, ?_, ?_, ⟨fun w hw => ?_, HB.rw.2⟩, ?_, ?_, ?_, HB.md.cp (Or.inr ⟨rfl, hh⟩)⟩
  · rcases hlv k i hl with ⟨g1 | g1, g2⟩ | ⟨g1, g2⟩
    · subst g1; subst g2; rw [adB_3]; exact ⟨hs.1, hs.2.1⟩
    · subst g1; subst g2; rw [adB_4]; exact ⟨hs.2.2.2.1, hs.2.2.2.2.1⟩
    · rw [g2]; exact HB.1.1 k i g1
  · rcases hlv k i hl with ⟨g1 | g1, g2⟩ | ⟨g1, g2⟩ <;> rcases hlv k2 i2 hl2 with ⟨g3 | g3, g4⟩ | ⟨g3, g4⟩
    · exact ⟨g1.trans g3.symm, g2.trans g4.symm⟩
    · subst g1; subst g2; subst g3; subst g4; rw [adB_3, adB_4] at he; exact absurd he hab
    · subst g1; subst g2; rw [adB_3, g4] at he; exact absurd he.symm (ha _ _ g3)
    · subst g1; subst g2; subst g3; subst g4; rw [adB_3, adB_4] at he; exact absurd he.symm hab
    · exact ⟨g1.trans g3.symm, g2.trans g4.symm⟩
    · subst g1; subst g2; rw [adB_4, g4] at he; exact absurd he.symm (hb _ _ g3)
    · subst g3; subst g4; rw [adB_3, g2] at he; exact absurd he (ha _ _ g1)
    · subst g3; subst g4; rw [adB_4, g2] at he; exact absurd he (hb _ _ g1)
    · rw [g2, g4] at he; exact HB.1.2 k i k2 i2 g1 g3 he
  · intro y hy
    show u2 Q (ad 1 1) r (some a) (ad 1 0) y = some (adB ad z a b 3 (T 2 y))
    rw [u2_ne n10, adB_k (Or.inl ⟨by decide, by decide⟩)]
    exact HB.rq.1 y hy
  · intro y hy
    by_cases e : y = r
    · subst e
      show u2 Q (ad 1 1) y (some a) (ad 1 1) y = some (adB ad z a b 5 (u2 (u2 T 4 z n) 5 y z 5 y))
      rw [u2_eq, u2_eq, adB_3]
    · show u2 Q (ad 1 1) r (some a) (ad 1 1) y = some (adB ad z a b 5 (u2 (u2 T 4 z n) 5 r z 5 y))
      rw [u2_nj e, u2_nj e]
      show _ = some (adB ad z a b 5 (T 5 y))
      rw [old3 (Or.inl ⟨y, hy, rfl⟩)]
      exact HB.rq.2 y hy
  · intro y hy
    have hy : uS T y := hy
    obtain ⟨h1, h2, h3⟩ := HB.rs y hy
    rw [adB_k (Or.inl ⟨by decide, by decide⟩), adB_k (Or.inl ⟨by decide, by decide⟩)]
    exact ⟨h1, h2, fun j hj => by rw [cpF_ne (show 0 ≠ 3 by decide)]; exact h3 j hj⟩
  · intro y hy
    rcases hU y hy with e | e
    · subst e
      rw [adB_3, adB_4]
      have e1 : u2 (u2 T 4 y n) 5 r y 4 y = n := (congrFun (u2_ne (by decide)) _).trans u2_eq
      rw [e1]
      refine ⟨hs.2.2.1, hs.2.2.2.2.2.1, fun j hj => ?_⟩
      rw [cpF_in (by omega) (by omega), show 64 * y + j - 64 * y = j by omega]
      exact hA j hj
    · have ne : y ≠ z := fun q => hu (q ▸ e)
      obtain ⟨h1, h2, h3⟩ := HB.rb y e
      have e1 : u2 (u2 T 4 z n) 5 r z 4 y = T 4 y := (congrFun (u2_ne (by decide)) _).trans (u2_nj ne)
      have l8 := HB.mi.bl (uB_lt HB.mi e)
      rw [old3 e, old4 e, e1]
      refine ⟨h1, h2, fun j hj => ?_⟩
      rw [cpF_out (by omega)]
      exact h3 j hj
  · obtain ⟨h1, h2⟩ := HB.rw.1 w hw
    exact ⟨h1, fun j hj => by rw [cpF_ne (show 6 ≠ 3 by decide)]; exact h2 j hj⟩
  · intro i hi
    refine ⟨(HB.rr i hi).1, fun y => ?_⟩
    obtain ⟨g1, g2, g3⟩ := (HB.rr i hi).2 y
    refine ⟨g1, ?_, g3⟩
    show R 2 (ad 9 i) = some (adB ad z a b 3 (T 8 i - 1))
    rw [adB_k (Or.inl ⟨by decide, by decide⟩)]
    exact g2
  · intro j hj
    obtain ⟨g1, g2, g3, g4, g5, g6⟩ := HB.rj j hj
    refine ⟨g1, g2, g3, g4, g5, fun k hk => ?_⟩
    show u2 Q (ad 1 1) r (some a) (ad 11 j) k = some (adB ad z a b 5 (T 14 (3 * j + k) - 1))
    rw [u2_ne (HB.ne (lv_11 (by omega)) (lv_1 (by decide)) (Or.inl (by decide))), old3 (HB.up hj hk)]
    exact g6 k hk
  · have M := HB.mi
    refine ⟨M.1, M.2.1, M.2.2.1, fun y hy => ?_, fun y y2 hy hy2 e => ?_, fun k hk => ?_, M.2.2.2.2.2.2.1, M.2.2.2.2.2.2.2.1, fun j hj => ?_⟩
    · show u2 (u2 T 4 z n) 5 r z 5 y < 11
      rw [u2_at]; split
      · exact f1
      · exact M.br hy
    · have e : u2 (u2 T 4 z n) 5 r z 5 y = u2 (u2 T 4 z n) 5 r z 5 y2 := e
      rw [u2_at, u2_at] at e
      split at e <;> split at e
      · omega
      · exact absurd e.symm (f2 y2 hy2)
      · exact absurd e (f2 y hy)
      · exact M.brj hy hy2 e
    · show u2 T 4 z n 4 k ≤ 64
      rw [u2_at]; split
      · exact hn
      · exact M.bl hk
    · obtain ⟨h1, h2, h3, h4⟩ := M.st hj
      refine ⟨h1, h2, h3, fun k hk => ?_⟩
      obtain ⟨g1, g2, g3, g4⟩ := h4 k hk
      refine ⟨g1, g2, fun y => ?_, g4⟩
      show T 15 (3 * j + k) ≤ u2 T 4 z n 4 (T 14 (3 * j + k) - 1)
      have y : k < T 13 j := y
      have := f3 (3 * j + k) (by omega)
      have := g2 y
      rw [u2_nj (by omega)]
      exact g3 y
end RP2
