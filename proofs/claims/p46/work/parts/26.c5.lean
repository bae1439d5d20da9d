/-! the class's streams, in the good case -/
def jU (I : pI) (th : Nat) (z : Nat × Nat) (ps : Nat) : pI := u2 (fbI I th z) 3 th (nI ps)
theorem jU_at {I : pI} {th ps a b : Nat} {z : Nat × Nat} : jU I th z ps a b = if b = th then (if a = 3 then nI ps else if a = 2 then nI z.2 else if a = 1 then nI z.1 else I a b) else I a b := by
  simp only [jU, fbI, u2]
  by_cases hb : b = th
  · simp only [if_pos hb]
  · simp only [if_neg hb]
    by_cases h3 : a = 3
    · subst h3; rfl
    · simp only [if_neg h3]
      by_cases h2 : a = 2
      · subst h2; rfl
      · simp only [if_neg h2]
        by_cases h1 : a = 1
        · subst h1; simp only [if_true]
        · simp only [if_neg h1]
theorem jU_self {I : pI} {th pt pl ps : Nat} (h1 : I 1 th = nI pt) (h2 : I 2 th = nI pl) (h3 : I 3 th = nI ps) : jU I th (pt, pl) ps = I := by
  rw [jU, fbI_self h1 h2, ← h3]; exact u2_self
theorem jU_jU {I : pI} {th a b : Nat} {z w : Nat × Nat} : jU (jU I th z a) th w b = jU I th w b := by
  funext x y
  simp only [jU_at]
  by_cases hb : y = th
  · simp only [if_pos hb]
    by_cases h3 : x = 3
    · simp only [if_pos h3]
    · simp only [if_neg h3]
      by_cases h2 : x = 2
      · simp only [if_pos h2]
      · simp only [if_neg h2]
        by_cases h1 : x = 1
        · simp only [if_pos h1]
        · simp only [if_neg h1]
  · simp only [if_neg hb]
theorem jU_one {I : pI} {th x y : Nat} {w : Nat × Nat} : u2 (u2 (fbI I th w) 2 th (nI x)) 3 th (nI y) = jU I th (w.1, x) y := by
  rw [jU, fbI, u2_uu]; rfl
theorem fbI_jU {I : pI} {th ps : Nat} {w : Nat × Nat} (h3 : I 3 th = nI ps) : fbI I th w = jU I th w ps := by
  have e : fbI I th w 3 th = nI ps := by rw [fbI_k (by decide) (by decide)]; exact h3
  rw [jU, ← e, u2_self]
theorem jU_k {I : pI} {th ps a b : Nat} {z : Nat × Nat} (h : a = 0 ∨ 3 < a) : jU I th z ps a b = I a b := by
  rw [jU_at]
  by_cases hb : b = th
  · rw [if_pos hb, if_neg (by omega), if_neg (by omega), if_neg (by omega)]
  · rw [if_neg hb]
theorem jU_b {I : pI} {th ps a b : Nat} {z : Nat × Nat} (h : b ≠ th) : jU I th z ps a b = I a b := by rw [jU_at, if_neg h]
theorem jU_1 {I : pI} {th ps : Nat} {z : Nat × Nat} : jU I th z ps 1 th = nI z.1 := by rw [jU_at, if_pos rfl]; rfl
theorem jU_2 {I : pI} {th ps : Nat} {z : Nat × Nat} : jU I th z ps 2 th = nI z.2 := by rw [jU_at, if_pos rfl]; rfl
theorem jU_3 {I : pI} {th ps : Nat} {z : Nat × Nat} : jU I th z ps 3 th = nI ps := by rw [jU_at, if_pos rfl]; rfl
theorem isJS.jU {L : List Nat} {K : Nat → Nat} {R : pR} {I : pI} {N : Nat → Nat} {th pa pc pt pl ps : Nat} {z : Nat × Nat} (h : isJS L K R I N th pa pc pt pl) (hz : z.1 ≤ pc) (hz2 : z.2 ≤ 64) : isJS L K R (jU I th z ps) N th pa pc z.1 z.2 := by
  obtain ⟨h1, h2, h3, h4, h5, h6, h7, h8, h9, h10, h11, h12⟩ := h
  exact ⟨h1, h2, h3, h4, h5, h6, (jU_k (Or.inl rfl)).trans h7, jU_1, jU_2, h10, hz, hz2⟩
/-- n bytes are wanted: how many there are, and where it stands then -/
def gqF (pc : Nat) (pn : Nat → Nat) : Nat → Nat × Nat → Nat × (Nat × Nat) | 0, z => (0, z) | n + 1, z => if (fb pc pn z.1 z.2).1 < pc then ((gqF pc pn n ((fb pc pn z.1 z.2).1, (fb pc pn z.1 z.2).2 + 1)).1 + 1, (gqF pc pn n ((fb pc pn z.1 z.2).1, (fb pc pn z.1 z.2).2 + 1)).2) else (0, fb pc pn z.1 z.2)
theorem and_nn (x : Int32) : 0 ≤ x &&& nI 255 := by
  rw [pk_and x (m := nI 255) 8 rfl]
  exact nI_pos' (by omega)
def smP (T : mT) : Nat → Nat | 0 => 0 | k + 1 => smP T k + (T 7 k + T 7 (3 + k))
theorem smP_3 (T : mT) : smP T 3 = smN T 6 := by show 0 + (T 7 0 + T 7 3) + (T 7 1 + T 7 4) + (T 7 2 + T 7 5) = 0 + T 7 0 + T 7 1 + T 7 2 + T 7 3 + T 7 4 + T 7 5; omega
