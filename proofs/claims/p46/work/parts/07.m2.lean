/-! the reference's calls: what each answers, and what it leaves -/
abbrev mR : Type := Nat × Int32 × mT × mD
/-- refused -/
def no (T : mT) (D : mD) (c : Nat) : mR := (c, nI 0, T, D)
def mJD (D : mD) : Prop := (∀ i, D 0 i &&& nI 255 = D 0 i) ∧ (∀ i, (D 3 i).toInt8.toInt32 = D 3 i) ∧ (∀ i, D 6 i &&& nI 255 = D 6 i) ∧ (∀ i, D 19 i &&& nI 255 = D 19 i)
def cvc (x : Int32) : Int32 := (x.toUInt32 % 65536).toInt32
theorem cvc_255 {x : Int32} (h : x &&& nI 255 = x) : cvc x = x := by
  have := sc_c2 x
  rw [show (255 : Int32) = nI 255 from rfl, h] at this
  exact this
theorem nar_255 {x : Int32} (h : x &&& nI 255 = x) : narrow .char (.int x) = .int x := by
  have := sc_nar x
  rw [show (255 : Int32) = nI 255 from rfl, h] at this
  exact this
/-- a row becomes a new array of so many of what is kept -/
def beT (T : mT) (r n : Nat) : mT := u2 (u2 T 1 (fS T) n) 2 r (fS T)
def beD (T : mT) (D : mD) (n : Nat) : mD := cpF D 0 (256 * fS T) (fun k => D 19 k) n
def sk_make (T : mT) (D : mD) (r n : Nat) : mR := (0, nI (T 1 (T 2 r)), beT T r n, beD T (cpF D 19 0 (fun _ => nI 0) n) n)
def sp_make (T : mT) (D : mD) (row len : Int32) : mR := if oN row 4 then no T D 1 else if oN len 257 then no T D 2 else sk_make T D row.toNatClampNeg len.toNatClampNeg
def rI (T : mT) (row : Int32) : Nat := T 1 (T 2 row.toNatClampNeg)
def bI (T : mT) (row : Int32) : Nat := T 4 (T 5 row.toNatClampNeg)
def sk_put (T : mT) (D : mD) (r f : Nat) (x : Int32) : mR := (0, D 0 (256 * T 2 r + f), T, u2 D 0 (256 * T 2 r + f) (x &&& nI 255))
def sp_put (T : mT) (D : mD) (row f x : Int32) : mR := if oN row 4 ∨ oN f (rI T row) then no T D 1 else sk_put T D row.toNatClampNeg f.toNatClampNeg x
def flS (f : Nat → Int32) : Nat → Int32 | 0 => nI 0 | k + 1 => flS f k + f k
def sk_fill (T : mT) (D : mD) (r f n : Nat) (x step : Int32) : mR := (0, flS (fun i => D 0 (256 * T 2 r + f + i)) n, T, cpF D 0 (256 * T 2 r + f) (fun i => (x + nI i * step) &&& nI 255) n)
def sp_fill (T : mT) (D : mD) (row f n x step : Int32) : mR := if oN row 4 ∨ oP (rI T row) f n then no T D 1 else sk_fill T D row.toNatClampNeg f.toNatClampNeg n.toNatClampNeg x step
def sp_get (T : mT) (D : mD) (row f : Int32) : mR := if oN row 4 ∨ oN f (rI T row) then no T D 1 else (0, D 0 (256 * T 2 row.toNatClampNeg + f.toNatClampNeg), T, D)
def sp_length (T : mT) (D : mD) (row : Int32) : mR := if oN row 4 then no T D 1 else (0, nI (rI T row), T, D)
def sk_makeBytes (T : mT) (D : mD) (r n : Nat) (x step : Int32) : mR := (0, nI (T 4 (T 5 r)), u2 (u2 T 4 (fB T) n) 5 r (fB T), cpF D 3 (64 * fB T) (fun i => (x + nI i * step).toInt8.toInt32) n)
def sp_makeBytes (T : mT) (D : mD) (row n x step : Int32) : mR := if oN row 4 then no T D 1 else if oN n 65 then no T D 2 else sk_makeBytes T D row.toNatClampNeg n.toNatClampNeg x step
def sk_putByte (T : mT) (D : mD) (r f : Nat) (x : Int32) : mR := (0, D 3 (64 * T 5 r + f), T, u2 D 3 (64 * T 5 r + f) x.toInt8.toInt32)
def sp_putByte (T : mT) (D : mD) (row f x : Int32) : mR := if oN row 4 ∨ oN f (bI T row) then no T D 1 else sk_putByte T D row.toNatClampNeg f.toNatClampNeg x
def sp_getByte (T : mT) (D : mD) (row f : Int32) : mR := if oN row 4 ∨ oN f (bI T row) then no T D 1 else (0, D 3 (64 * T 5 row.toNatClampNeg + f.toNatClampNeg), T, D)
/-- n signs more for the writer a -/
def adT (T : mT) (a n : Nat) : mT := u2 T 7 a (T 7 a + n)
def adD (T : mT) (D : mD) (a : Nat) (f : Nat → Int32) (n : Nat) : mD := cpF D 6 (256 * a + T 7 a) f n
theorem adT_0 {T : mT} {a : Nat} : adT T a 0 = T := u2_self
theorem adT_a {T : mT} {a n : Nat} : adT T a n 7 a = T 7 a + n := u2_eq
theorem adT_S {T : mT} {a n : Nat} : u2 (adT T a n) 7 a (adT T a n 7 a + 1) = adT T a (n + 1) := by rw [adT_a]; exact u2_uu
theorem adD_0 {T : mT} {D : mD} {a : Nat} {f : Nat → Int32} : adD T D a f 0 = D := cpF_0
theorem adD_S {T : mT} {D : mD} {a n : Nat} {f : Nat → Int32} {x : Int32} (hx : x = f n) : u2 (adD T D a f n) 6 (256 * a + adT T a n 7 a) x = adD T D a f (n + 1) := by
  rw [adT_a]; exact cpF_S' (by omega) hx
def sk_one (T : mT) (D : mD) (a t : Nat) (x : Int32) : mR := (0, nI (T 7 a + t), adT T a t, adD T D a (fun _ => x &&& nI 255) t)
def sp_one (T : mT) (D : mD) (off t : Nat) (w x : Int32) : mR := if oN w 3 then no T D 1 else if 256 < T 7 (off + w.toNatClampNeg) + t then no T D 2 else sk_one T D (off + w.toNatClampNeg) t x
def sk_part (T : mT) (D : mD) (a r f n : Nat) : mR := (0, nI (T 7 a + n), adT T a n, adD T D a (fun i => D 0 (256 * T 2 r + f + i) &&& nI 255) n)
def sp_part (T : mT) (D : mD) (off : Nat) (w row f n : Int32) : mR := if oN w 3 ∨ oN row 4 ∨ oP (rI T row) f n then no T D 1 else if 256 < T 7 (off + w.toNatClampNeg) + n.toNatClampNeg then no T D 2 else sk_part T D (off + w.toNatClampNeg) row.toNatClampNeg f.toNatClampNeg n.toNatClampNeg
def sk_taken (T : mT) (D : mD) (a r : Nat) : mR := (0, nI (T 7 a), beT T r (T 7 a), beD T (cpF D 19 0 (fun i => D 6 (256 * a + i)) (T 7 a)) (T 7 a))
def sp_taken (T : mT) (D : mD) (off : Nat) (w row : Int32) : mR := if oN w 3 ∨ oN row 4 then no T D 1 else sk_taken T D (off + w.toNatClampNeg) row.toNatClampNeg
def sp_size (T : mT) (D : mD) (off : Nat) (w : Int32) : mR := if oN w 3 then no T D 1 else (0, nI (T 7 (off + w.toNatClampNeg)), T, D)
def sp_begin (T : mT) (D : mD) (off : Nat) (w : Int32) : mR := if oN w 3 then no T D 1 else (0, nI (T 7 (off + w.toNatClampNeg)), u2 T 7 (off + w.toNatClampNeg) 0, D)
def sk_pour (T : mT) (D : mD) (a b : Nat) : mR := (0, nI (T 7 b + T 7 a), adT T b (T 7 a), adD T D b (fun i => D 6 (256 * a + i) &&& nI 255) (T 7 a))
def sp_pour (T : mT) (D : mD) (w w2 : Int32) : mR := if oN w 3 ∨ oN w2 3 then no T D 1 else if 256 < T 7 w2.toNatClampNeg + T 7 (3 + w.toNatClampNeg) then no T D 2 else sk_pour T D (3 + w.toNatClampNeg) w2.toNatClampNeg
def sp_pourOver (T : mT) (D : mD) (w w2 : Int32) : mR := if oN w 3 ∨ oN w2 3 then no T D 1 else if w = w2 then no T D 2 else if 256 < T 7 (3 + w2.toNatClampNeg) + T 7 (3 + w.toNatClampNeg) then no T D 3 else sk_pour T D (3 + w.toNatClampNeg) (3 + w2.toNatClampNeg)
/-- the first n of two rows are alike -/
def lkF (f g : Nat → Int32) : Nat → Nat | 0 => 1 | k + 1 => if f k = g k then lkF f g k else 0
theorem lkF_le {f g : Nat → Int32} : ∀ n, lkF f g n ≤ 1
  | 0 => Nat.le_refl 1
  | n + 1 => by
    simp only [lkF]
    by_cases h : f n = g n
    · rw [if_pos h]; exact lkF_le n
    · rw [if_neg h]; omega
theorem lkF_iff {f g : Nat → Int32} : ∀ n, lkF f g n = 1 ↔ ∀ i, i < n → f i = g i
  | 0 => by simp [lkF]
  | n + 1 => by
    simp only [lkF]
    by_cases h : f n = g n
    · rw [if_pos h, lkF_iff n]
      refine ⟨fun g1 i hi => ?_, fun g1 i hi => g1 i (by omega)⟩
      by_cases e : i = n
      · subst e; exact h
      · exact g1 i (by omega)
    · rw [if_neg h]
      exact ⟨fun z => by omega, fun z => absurd (z n (by omega)) h⟩
theorem lkF_0 {f g : Nat → Int32} {k : Nat} (h : lkF f g k = 0) : ∀ n, k ≤ n → lkF f g n = 0 := by
  intro n hn
  have h1 := lkF_le (f := f) (g := g) n
  refine Classical.byContradiction (fun z => ?_)
  have h2 : lkF f g n = 1 := by omega
  have h3 : lkF f g k = 1 := (lkF_iff k).mpr (fun i hi => (lkF_iff n).mp h2 i (by omega))
  omega
def sk_like (T : mT) (D : mD) (a b : Nat) : Nat := if T 7 a = T 7 b then lkF (fun i => D 6 (256 * a + i)) (fun i => D 6 (256 * b + i)) (T 7 a) else 0
def sp_areLike (T : mT) (D : mD) (w w2 : Int32) : mR := if oN w 3 ∨ oN w2 3 then no T D 1 else (0, nI (sk_like T D w.toNatClampNeg (3 + w2.toNatClampNeg)), T, D)
theorem mI_pr_freeSigns : True := trivial
theorem mI_pr_freeBytes : True := trivial
theorem mI_pr {T : mT} (h : mI T) {k : Nat} (hk : k < 6) : T 14 k ≤ 11 := by
  rcases (show k < 3 ∨ 3 ≤ k by omega) with g | g
  · have := ((h.st (show 0 < 2 by decide)).2.2.2 k g).1
    simpa using this
  · have := ((h.st (show 1 < 2 by decide)).2.2.2 (k - 3) (by omega)).1
    rw [show 3 * 1 + (k - 3) = k by omega] at this
    exact this
theorem oP1 {len : Nat} {f : Int32} (h : oN f len) : oP len f (nI 1) := by
  rcases h with h | h
  · exact Or.inl h
  · exact Or.inr (Or.inr (by rw [nI_clamp (by decide)]; omega))
