/-! the law's own state beside the book's: signs f, written g, their number n, place, mark, end -/
def jJ (T : mT) (D : mD) (f g : Nat → Int32) (n pl mk en : Nat) : Prop :=
  (T 1 (T 2 0) = 40 ∧ T 1 (T 2 1) = 9) ∧ (T 8 0 = T 2 0 + 1 ∧ T 9 0 = pl ∧ T 10 0 = en ∧ T 11 0 = mk ∧ T 12 0 = 0) ∧ (T 7 0 = n ∧ T 7 (3 + 0) = n) ∧ (∀ i, i < 40 → f i = D 0 (256 * T 2 0 + i)) ∧ (∀ i, i < n → D 6 (256 * 0 + i) = g i ∧ D 6 (256 * (3 + 0) + i) = g i) ∧ pl ≤ en ∧ mk ≤ en ∧ en ≤ 40 ∧ n ≤ 256
section PU
variable {T : mT} {D : mD} {f g : Nat → Int32} {n pl mk en : Nat}
theorem jJ.open_ (h : jJ T D f g n pl mk en) : ¬ clo T 0 := fun z => z.elim (fun z => by have := h.2.1.1; omega) (fun z => z h.2.1.2.2.2.2)
theorem jJ.ne (h : jJ T D f g n pl mk en) (I : mI T) : T 2 1 ≠ T 2 0 := fun z => absurd (I.srj (by decide) (by decide) z) (by decide)
theorem jJ.put (h : jJ T D f g n pl mk en) (I : mI T) {a : Nat} {v : Int32} : jJ T (u2 D 0 (256 * T 2 0 + a) v) (upd f a v) g n pl mk en := by
  obtain ⟨h1, h2, h3, h4, h5, h6⟩ := h
  refine ⟨h1, h2, h3, fun i hi => ?_, fun i hi => ?_, h6⟩
  · by_cases e : i = a
    · subst e; rw [pk_us, u2_eq]
    · rw [pk_un e, u2_nj (by omega)]; exact h4 i hi
  · rw [u2_ne (by decide)]; exact h5 i hi
theorem jJ.at_ (h : jJ T D f g n pl mk en) {x : Nat} (hx : x ≤ en) : jJ (u2 T 9 0 x) D f g n x mk en := by
  obtain ⟨h1, h2, h3, h4, h5, h6, h7, h8⟩ := h
  exact ⟨h1, ⟨h2.1, u2_eq, h2.2.2⟩, h3, h4, h5, hx, h7, h8⟩
theorem jJ.marked (h : jJ T D f g n pl mk en) : jJ (u2 T 11 0 (T 9 0)) D f g n pl pl en := by
  obtain ⟨h1, h2, h3, h4, h5, h6, h7, h8⟩ := h
  exact ⟨h1, ⟨h2.1, h2.2.1, h2.2.2.1, u2_eq.trans h2.2.1, h2.2.2.2.2⟩, h3, h4, h5, h6, h6, h8⟩
theorem jJ.none (h : jJ T D f g n pl mk en) : jJ (u2 (u2 T 7 0 0) 7 (3 + 0) 0) D f g 0 pl mk en := by
  obtain ⟨h1, h2, h3, h4, h5, h6, h7, h8, h9⟩ := h
  exact ⟨h1, h2, ⟨(u2_nj (by decide)).trans u2_eq, u2_eq⟩, h4, fun i hi => absurd hi (Nat.not_lt_zero i), h6, h7, h8, Nat.zero_le _⟩
theorem jJ.like (h : jJ T D f g n pl mk en) : sk_like T D 0 (3 + 0) = 1 := by
  obtain ⟨h1, h2, h3, h4, h5, h6⟩ := h
  rw [sk_like, if_pos (h3.1.trans h3.2.symm), h3.1]
  exact (lkF_iff n).mpr (fun i hi => (h5 i hi).1.trans (h5 i hi).2.symm)
/-- a part read into row 1, and written to both writers -/
theorem jJ.part (h : jJ T D f g n pl mk en) (I : mI T) (J : mJD D) {t : Nat} {g2 : Nat → Int32} (h8 : t ≤ 9) (ht : pl + t ≤ en) (hn : n + t ≤ 256) (g1 : ∀ i, i < n → g2 i = g i) (gt : ∀ i, i < t → g2 (n + i) = f (pl + i)) {T1 T2 T3 : mT} {D1 D2 D3 : mD} (e1 : T1 = u2 T 9 0 (T 9 0 + t)) (d1 : D1 = cpF D 0 (256 * T 2 1 + 0) (rpF T D 0) t) (e2 : T2 = adT T1 0 t) (d2 : D2 = adD T1 D1 0 (fun i => D1 0 (256 * T1 2 1 + 0 + i) &&& nI 255) t) (e3 : T3 = adT T2 (3 + 0) t) (d3 : D3 = adD T2 D2 (3 + 0) (fun i => D2 0 (256 * T2 2 1 + 0 + i) &&& nI 255) t) : jJ T3 D3 f g2 (n + t) (pl + t) mk en := by
  have hne := h.ne I
  obtain ⟨h1, h2, h3, h4, h5, h6, h7, hx, hy⟩ := h
  obtain ⟨r1, r2, r3, r4, r5⟩ := h2
  have a2 : T1 2 = T 2 := by rw [e1, u2_ne (by decide)]
  have b2 : T2 2 = T 2 := by rw [e2, adT, u2_ne (by decide), a2]
  have c2 : T3 2 = T 2 := by rw [e3, adT, u2_ne (by decide), b2]
  have c1 : T3 1 = T 1 := by rw [e3, adT, u2_ne (by decide), e2, adT, u2_ne (by decide), e1, u2_ne (by decide)]
  have a7 : T1 7 = T 7 := by rw [e1, u2_ne (by decide)]
  have b7 : T2 7 0 = n + t := by rw [e2, adT, u2_eq, a7, h3.1]
  have b73 : T2 7 (3 + 0) = n := by rw [e2, adT, u2_nj (by decide), a7, h3.2]
  have c7 : T3 7 0 = n + t := by rw [e3, adT, u2_nj (by decide), b7]
  have c73 : T3 7 (3 + 0) = n + t := by rw [e3, adT, u2_eq, b73]
  have c8 : ∀ k, k ≠ 7 → k ≠ 9 → T3 k = T k := fun k k7 k9 => by rw [e3, adT, u2_ne k7, e2, adT, u2_ne k7, e1, u2_ne k9]
  have c9 : T3 9 0 = pl + t := by rw [e3, adT, u2_ne (by decide), e2, adT, u2_ne (by decide), e1, u2_eq, r2]
  have D10 : ∀ i, i < t → D1 0 (256 * T 2 1 + 0 + i) = f (pl + i) := fun i hi => by
    rw [d1, cpF_in (by omega) (by omega), rpF, r1, r2, show 256 * T 2 1 + 0 + i - (256 * T 2 1 + 0) = i by omega, h4 (pl + i) (by omega), show 256 * (T 2 0 + 1 - 1) + pl + i = 256 * T 2 0 + (pl + i) by omega]
  have f255 : ∀ i, i < 40 → f i &&& nI 255 = f i := fun i hi => by rw [h4 i hi]; exact J.1 _
  have D26 : ∀ i, D2 0 i = D1 0 i := fun i => by rw [d2, adD, cpF_ne (by decide)]
  have D36 : ∀ i, D3 0 i = D1 0 i := fun i => by rw [d3, adD, cpF_ne (by decide), D26]
  have D16 : D1 6 = D 6 := by rw [d1, cpF_ne (by decide)]
  refine ⟨⟨by rw [c1, c2]; exact h1.1, by rw [c1, c2]; exact h1.2⟩, ⟨by rw [c8 8 (by decide) (by decide), c2]; exact r1, c9, by rw [c8 10 (by decide) (by decide)]; exact r3, by rw [c8 11 (by decide) (by decide)]; exact r4, by rw [c8 12 (by decide) (by decide)]; exact r5⟩, ⟨c7, c73⟩, fun i hi => ?_, fun i hi => ?_, by omega, h7, hx, hn⟩
  · have s0 := I.sr (r := 0) (by decide)
    have s1 := I.sr (r := 1) (by decide)
    rw [c2, D36, d1, cpF_out (by omega)]
    exact h4 i hi
  · have s9 : D2 6 (256 * 0 + i) = g2 i ∧ D2 6 (256 * (3 + 0) + i) = D 6 (256 * (3 + 0) + i) := by
      refine ⟨?_, ?_⟩
      · rw [d2, adD, a7, h3.1, a2]
        by_cases hj : i < n
        · rw [cpF_out (by omega), D16, (h5 i hj).1, g1 i hj]
        · obtain ⟨j, rfl⟩ : ∃ j, i = n + j := ⟨i - n, by omega⟩
          rw [cpF_in (by omega) (by omega), show 256 * 0 + (n + j) - (256 * 0 + n) = j by omega, D10 j (by omega), f255 _ (by omega), gt j (by omega)]
      · rw [d2, adD, a7, h3.1, cpF_out (by omega), D16]
    have s8 : D3 6 (256 * 0 + i) = D2 6 (256 * 0 + i) := by rw [d3, adD, b73, cpF_out (by omega)]
    refine ⟨s8.trans s9.1, ?_⟩
    rw [d3, adD, b73, b2]
    by_cases hj : i < n
    · rw [cpF_out (by omega), s9.2, (h5 i hj).2, g1 i hj]
    · obtain ⟨j, rfl⟩ : ∃ j, i = n + j := ⟨i - n, by omega⟩
      rw [cpF_in (by omega) (by omega), show 256 * (3 + 0) + (n + j) - (256 * (3 + 0) + n) = j by omega, D26, D10 j (by omega), f255 _ (by omega), gt j (by omega)]
/-- the reader alone -/
def jR (T : mT) (D : mD) (f : Nat → Int32) (pl en : Nat) : Prop := (T 8 0 ≠ 0 ∧ T 9 0 = pl ∧ T 10 0 = en ∧ T 12 0 = 0) ∧ pl ≤ en ∧ en ≤ 40 ∧ ∀ i, i < 40 → f i = D 0 (256 * (T 8 0 - 1) + i)
theorem jR.open_ (h : jR T D f pl en) : ¬ clo T 0 := fun z => z.elim (fun z => h.1.1 z) (fun z => z h.1.2.2.2)
theorem jJ.rd (h : jJ T D f g n pl mk en) : jR T D f pl en := by
  obtain ⟨h1, h2, h3, h4, h5, h6, h7, h8, h9⟩ := h
  exact ⟨⟨by rw [h2.1]; omega, h2.2.1, h2.2.2.1, h2.2.2.2.2⟩, h6, h8, fun i hi => by rw [h2.1, Nat.add_sub_cancel]; exact h4 i hi⟩
theorem jR.next (h : jR T D f pl en) (hx : pl + 1 ≤ en) : jR (u2 T 9 0 (T 9 0 + 1)) D f (pl + 1) en := by
  obtain ⟨h1, h2, h3, h4⟩ := h
  exact ⟨⟨h1.1, u2_eq.trans (by rw [h1.2.1]), h1.2.2⟩, hx, h3, h4⟩
theorem beT_2 {r m : Nat} : beT T r m 2 r = fS T := u2_eq
theorem beT_2n {r r2 m : Nat} (h : r2 ≠ r) : beT T r m 2 r2 = T 2 r2 := by rw [beT, u2_nj h, u2_ne (by decide)]
theorem beT_1 {r m : Nat} : beT T r m 1 (fS T) = m := by rw [beT, u2_ne (by decide), u2_eq]
theorem beT_1n {r m z : Nat} (h : z ≠ fS T) : beT T r m 1 z = T 1 z := by rw [beT, u2_ne (by decide), u2_nj h]
theorem beT_k {r m k : Nat} (h1 : k ≠ 1) (h2 : k ≠ 2) : beT T r m k = T k := by rw [beT, u2_ne h2, u2_ne h1]
theorem beD_in {D0 : mD} {m i : Nat} (h : i < m) : beD T D0 m 0 (256 * fS T + i) = D0 19 i := by rw [beD, cpF_in (by omega) (by omega), Nat.add_sub_cancel_left]
theorem beD_out {D0 : mD} {m z i : Nat} (hz : z ≠ fS T) (hm : m ≤ 256) (hi : i < 256) : beD T D0 m 0 (256 * z + i) = D0 0 (256 * z + i) := by rw [beD, cpF_out (by omega)]
theorem beD_k {D0 : mD} {m k : Nat} (h : k ≠ 0) : beD T D0 m k = D0 k := by rw [beD, cpF_ne h]
theorem jR.make (h : jR T D f pl en) {r m : Nat} {F : Nat → Int32} (hm : m ≤ 256) : jR (beT T r m) (beD T (cpF D 19 0 F m) m) f pl en := by
  obtain ⟨h1, h2, h3, h4⟩ := h
  have e8 : beT T r m 8 = T 8 := beT_k (by decide) (by decide)
  refine ⟨⟨by rw [e8]; exact h1.1, by rw [beT_k (by decide) (by decide)]; exact h1.2.1, by rw [beT_k (by decide) (by decide)]; exact h1.2.2.1, by rw [beT_k (by decide) (by decide)]; exact h1.2.2.2⟩, h2, h3, fun i hi => ?_⟩
  have hz : T 8 0 - 1 ≠ fS T := fun z => (fS_ok T).2.2 0 (by decide) (by have := h1.1; omega)
  rw [e8, beD_out hz hm (by omega), cpF_ne (by decide)]
  exact h4 i hi
/-- a row holds these signs -/
def jW (T : mT) (D : mD) (r n : Nat) (g : Nat → Int32) : Prop := T 1 (T 2 r) = n ∧ ∀ i, i < n → D 0 (256 * T 2 r + i) = g i
theorem jW.take {a r : Nat} (hg : ∀ i, i < n → D 6 (256 * a + i) = g i) (e7 : T 7 a = n) : jW (beT T r (T 7 a)) (beD T (cpF D 19 0 (fun i => D 6 (256 * a + i)) (T 7 a)) (T 7 a)) r n g := by
  refine ⟨by rw [beT_2, beT_1, e7], fun i hi => ?_⟩
  rw [beT_2, beD_in (by omega), cpF_in (Nat.zero_le _) (by omega), Nat.sub_zero]
  exact hg i hi
theorem jW.make {r : Nat} (h : jW T D r n g) {r2 m : Nat} {F : Nat → Int32} (hr : r < 4) (h2 : r ≠ r2) (hm : m ≤ 256) (hn : n ≤ 256) : jW (beT T r2 m) (beD T (cpF D 19 0 F m) m) r n g := by
  have hz : T 2 r ≠ fS T := (fS_ok T).2.1 r hr
  refine ⟨by rw [beT_2n h2, beT_1n hz]; exact h.1, fun i hi => ?_⟩
  rw [beT_2n h2, beD_out hz hm (by omega), cpF_ne (by decide)]
  exact h.2 i hi
/-- the start -/
theorem jJ.start {b e : Nat} (hb : b ≤ 9) (he : e ≤ 40) (h31 : 31 ≤ e) {T1 T2 T3 : mT} {D1 D2 : mD} (e1 : T1 = beT T0 0 40) (d1 : D1 = beD T0 (cpF D0 19 0 (fun _ => nI 0) 40) 40) (e2 : T2 = beT T1 1 9) (d2 : D2 = beD T1 (cpF D1 19 0 (fun _ => nI 0) 9) 9) (I1 : mI T1) (e3 : T3 = opT T2 0 0 b (min (b + (e - b)) (T2 1 (T2 2 0)))) : T2 1 (T2 2 0) = 40 ∧ jJ T3 D2 (fun _ => 0) g 0 b b e := by
  have z1 : T1 2 0 = fS T0 := by rw [e1]; exact beT_2
  have z2 : T2 2 0 = T1 2 0 := by rw [e2, beT_2n (by decide)]
  have q1 : T1 1 (T1 2 0) = 40 := by rw [z1, e1]; exact beT_1
  have hz : T1 2 0 ≠ fS T1 := (fS_ok T1).2.1 0 (by decide)
  have q2 : T2 1 (T2 2 0) = 40 := by rw [z2, e2, beT_1n hz]; exact q1
  have q3 : T2 1 (T2 2 1) = 9 := by rw [e2, beT_2, beT_1]
  have em : min (b + (e - b)) (T2 1 (T2 2 0)) = e := by rw [q2]; omega
  rw [em] at e3
  have k7 : ∀ k, k < 8 → T3 k = T2 k := fun k hk => by rw [e3, opT, u2_ne (by omega), u2_ne (by omega), u2_ne (by omega), u2_ne (by omega), u2_ne (by omega)]
  have t7 : T2 7 = T0 7 := by rw [e2, beT_k (by decide) (by decide), e1, beT_k (by decide) (by decide)]
  refine ⟨q2, ⟨by rw [k7 1 (by decide), k7 2 (by decide)]; exact q2, by rw [k7 1 (by decide), k7 2 (by decide)]; exact q3⟩, ⟨?_, ?_, ?_, ?_, ?_⟩, ⟨?_, ?_⟩, fun i hi => ?_, fun i hi => absurd hi (Nat.not_lt_zero i), by omega, by omega, he, Nat.zero_le _⟩
  · rw [k7 2 (by decide), e3, opT, u2_ne (by decide), u2_ne (by decide), u2_ne (by decide), u2_ne (by decide), u2_eq]
  · rw [e3, opT, u2_ne (by decide), u2_ne (by decide), u2_ne (by decide), u2_eq]
  · rw [e3, opT, u2_ne (by decide), u2_eq]
  · rw [e3, opT, u2_ne (by decide), u2_ne (by decide), u2_eq]
  · rw [e3, opT, u2_eq]
  · rw [k7 7 (by decide), t7]; rfl
  · rw [k7 7 (by decide), t7]; rfl
  · rw [k7 2 (by decide), z2, d2, beD_out hz (by decide) (by omega), cpF_ne (by decide), d1, z1, beD_in hi, cpF_in (Nat.zero_le _) (by omega)]
    rfl
end PU
