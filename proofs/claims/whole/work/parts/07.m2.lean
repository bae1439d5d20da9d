/-! the reference's calls: what each answers, and what it leaves -/
abbrev mR : Type := Nat × Int32 × mT × mD
/-- refused -/
def no (T : mT) (D : mD) (c : Nat) : mR := (c, nI 0, T, D)
def mJD (D : mD) : Prop := (∀ i, D 0 i &&& nI 255 = D 0 i) ∧ (∀ i, (D 3 i).toInt8.toInt32 = D 3 i) ∧ (∀ i, D 6 i &&& nI 255 = D 6 i) ∧ (∀ i, D 19 i &&& nI 255 = D 19 i)
/-- a call of the reference: out of the numbers T, the rows D -/
abbrev mO (l : Launch) (y : MethodName) (ws : List Cond) (rm : Room) (G : va_G) (cI cZ : ClassId) (q : Nat → Nat) (as : List Value) (T : mT) (D : mD) (th : Int32) (r : mR) : Prop := mMi l y ws rm G cI cZ q as T D th r.2.1 r.2.2.1 r.2.2.2 (nI r.1)
def cvc (x : Int32) : Int32 := (x.toUInt32 % 65536).toInt32
theorem cvc_255 {x : Int32} (h : x &&& nI 255 = x) : cvc x = x := by
  have := sc_c2 x
  rw [show (255 : Int32) = nI 255 from rfl, h] at this
  exact this
theorem nar_255 {x : Int32} (h : x &&& nI 255 = x) : narrow .char (.int x) = .int x := by
  have := sc_nar x
  rw [show (255 : Int32) = nI 255 from rfl, h] at this
  exact this
/-- a row becomes a new array of so many of what is kept -/
def beT (T : mT) (r n : Nat) : mT := u2 (u2 T 1 (fS T) n) 2 r (fS T)
def beD (T : mT) (D : mD) (n : Nat) : mD := cpF D 0 (256 * fS T) (fun k => D 19 k) n
def sk_make (T : mT) (D : mD) (r n : Nat) : mR := (0, nI (T 1 (T 2 r)), beT T r n, beD T (cpF D 19 0 (fun _ => nI 0) n) n)
def sp_make (T : mT) (D : mD) (row len : Int32) : mR := if oN row 4 then no T D 1 else if oN len 257 then no T D 2 else sk_make T D row.toNatClampNeg len.toNatClampNeg
def rI (T : mT) (row : Int32) : Nat := T 1 (T 2 row.toNatClampNeg)
def bI (T : mT) (row : Int32) : Nat := T 4 (T 5 row.toNatClampNeg)
def sk_put (T : mT) (D : mD) (r f : Nat) (x : Int32) : mR := (0, D 0 (256 * T 2 r + f), T, u2 D 0 (256 * T 2 r + f) (x &&& nI 255))
def sp_put (T : mT) (D : mD) (row f x : Int32) : mR := if oN row 4 ∨ oN f (rI T row) then no T D 1 else sk_put T D row.toNatClampNeg f.toNatClampNeg x
def flS (f : Nat → Int32) : Nat → Int32 | 0 => nI 0 | k + 1 => flS f k + f k
def sk_fill (T : mT) (D : mD) (r f n : Nat) (x step : Int32) : mR := (0, flS (fun i => D 0 (256 * T 2 r + f + i)) n, T, cpF D 0 (256 * T 2 r + f) (fun i => (x + nI i * step) &&& nI 255) n)
def sp_fill (T : mT) (D : mD) (row f n x step : Int32) : mR := if oN row 4 ∨ oP (rI T row) f n then no T D 1 else sk_fill T D row.toNatClampNeg f.toNatClampNeg n.toNatClampNeg x step
def sp_get (T : mT) (D : mD) (row f : Int32) : mR := if oN row 4 ∨ oN f (rI T row) then no T D 1 else (0, D 0 (256 * T 2 row.toNatClampNeg + f.toNatClampNeg), T, D)
def sp_length (T : mT) (D : mD) (row : Int32) : mR := if oN row 4 then no T D 1 else (0, nI (rI T row), T, D)
def sk_makeBytes (T : mT) (D : mD) (r n : Nat) (x step : Int32) : mR := (0, nI (T 4 (T 5 r)), u2 (u2 T 4 (fB T) n) 5 r (fB T), cpF D 3 (64 * fB T) (fun i => (x + nI i * step).toInt8.toInt32) n)
def sp_makeBytes (T : mT) (D : mD) (row n x step : Int32) : mR := if oN row 4 then no T D 1 else if oN n 65 then no T D 2 else sk_makeBytes T D row.toNatClampNeg n.toNatClampNeg x step
def sk_putByte (T : mT) (D : mD) (r f : Nat) (x : Int32) : mR := (0, D 3 (64 * T 5 r + f), T, u2 D 3 (64 * T 5 r + f) x.toInt8.toInt32)
def sp_putByte (T : mT) (D : mD) (row f x : Int32) : mR := if oN row 4 ∨ oN f (bI T row) then no T D 1 else sk_putByte T D row.toNatClampNeg f.toNatClampNeg x
def sp_getByte (T : mT) (D : mD) (row f : Int32) : mR := if oN row 4 ∨ oN f (bI T row) then no T D 1 else (0, D 3 (64 * T 5 row.toNatClampNeg + f.toNatClampNeg), T, D)
/-- n signs more for the writer a -/
def adT (T : mT) (a n : Nat) : mT := u2 T 7 a (T 7 a + n)
def adD (T : mT) (D : mD) (a : Nat) (f : Nat → Int32) (n : Nat) : mD := cpF D 6 (256 * a + T 7 a) f n
theorem adT_0 {T : mT} {a : Nat} : adT T a 0 = T := u2_self
theorem adT_a {T : mT} {a n : Nat} : adT T a n 7 a = T 7 a + n := u2_eq
theorem adT_S {T : mT} {a n : Nat} : u2 (adT T a n) 7 a (adT T a n 7 a + 1) = adT T a (n + 1) := by rw [adT_a]; exact u2_uu
theorem adD_0 {T : mT} {D : mD} {a : Nat} {f : Nat → Int32} : adD T D a f 0 = D := cpF_0
theorem adD_S {T : mT} {D : mD} {a n : Nat} {f : Nat → Int32} {x : Int32} (hx : x = f n) : u2 (adD T D a f n) 6 (256 * a + adT T a n 7 a) x = adD T D a f (n + 1) := by
  rw [adT_a]; exact cpF_S' (by omega) hx
def sk_one (T : mT) (D : mD) (a t : Nat) (x : Int32) : mR := (0, nI (T 7 a + t), adT T a t, adD T D a (fun _ => x &&& nI 255) t)
def sp_one (T : mT) (D : mD) (off t : Nat) (w x : Int32) : mR := if oN w 3 then no T D 1 else if 256 < T 7 (off + w.toNatClampNeg) + t then no T D 2 else sk_one T D (off + w.toNatClampNeg) t x
def sk_part (T : mT) (D : mD) (a r f n : Nat) : mR := (0, nI (T 7 a + n), adT T a n, adD T D a (fun i => D 0 (256 * T 2 r + f + i) &&& nI 255) n)
def sp_part (T : mT) (D : mD) (off : Nat) (w row f n : Int32) : mR := if oN w 3 ∨ oN row 4 ∨ oP (rI T row) f n then no T D 1 else if 256 < T 7 (off + w.toNatClampNeg) + n.toNatClampNeg then no T D 2 else sk_part T D (off + w.toNatClampNeg) row.toNatClampNeg f.toNatClampNeg n.toNatClampNeg
def sk_taken (T : mT) (D : mD) (a r : Nat) : mR := (0, nI (T 7 a), beT T r (T 7 a), beD T (cpF D 19 0 (fun i => D 6 (256 * a + i)) (T 7 a)) (T 7 a))
def sp_taken (T : mT) (D : mD) (off : Nat) (w row : Int32) : mR := if oN w 3 ∨ oN row 4 then no T D 1 else sk_taken T D (off + w.toNatClampNeg) row.toNatClampNeg
def sp_size (T : mT) (D : mD) (off : Nat) (w : Int32) : mR := if oN w 3 then no T D 1 else (0, nI (T 7 (off + w.toNatClampNeg)), T, D)
def sp_begin (T : mT) (D : mD) (off : Nat) (w : Int32) : mR := if oN w 3 then no T D 1 else (0, nI (T 7 (off + w.toNatClampNeg)), u2 T 7 (off + w.toNatClampNeg) 0, D)
def sk_pour (T : mT) (D : mD) (a b : Nat) : mR := (0, nI (T 7 b + T 7 a), adT T b (T 7 a), adD T D b (fun i => D 6 (256 * a + i) &&& nI 255) (T 7 a))
def sp_pour (T : mT) (D : mD) (w w2 : Int32) : mR := if oN w 3 ∨ oN w2 3 then no T D 1 else if 256 < T 7 w2.toNatClampNeg + T 7 (3 + w.toNatClampNeg) then no T D 2 else sk_pour T D (3 + w.toNatClampNeg) w2.toNatClampNeg
def sp_pourOver (T : mT) (D : mD) (w w2 : Int32) : mR := if oN w 3 ∨ oN w2 3 then no T D 1 else if w = w2 then no T D 2 else if 256 < T 7 (3 + w2.toNatClampNeg) + T 7 (3 + w.toNatClampNeg) then no T D 3 else sk_pour T D (3 + w.toNatClampNeg) (3 + w2.toNatClampNeg)
/-- the first n of two rows are alike -/
def lkF (f g : Nat → Int32) : Nat → Nat | 0 => 1 | k + 1 => if f k = g k then lkF f g k else 0
theorem lkF_le {f g : Nat → Int32} : ∀ n, lkF f g n ≤ 1
  | 0 => Nat.le_refl 1
  | n + 1 => by
    simp only [lkF]
    by_cases h : f n = g n
    · rw [if_pos h]; exact lkF_le n
    · rw [if_neg h]; omega
theorem lkF_iff {f g : Nat → Int32} : ∀ n, lkF f g n = 1 ↔ ∀ i, i < n → f i = g i
  | 0 => by simp [lkF]
  | n + 1 => by
    simp only [lkF]
    by_cases h : f n = g n
    · rw [if_pos h, lkF_iff n]
      refine ⟨fun g1 i hi => ?_, fun g1 i hi => g1 i (by omega)⟩
      by_cases e : i = n
      · subst e; exact h
      · exact g1 i (by omega)
    · rw [if_neg h]
      exact ⟨fun z => by omega, fun z => absurd (z n (by omega)) h⟩
theorem lkF_0 {f g : Nat → Int32} {k : Nat} (h : lkF f g k = 0) : ∀ n, k ≤ n → lkF f g n = 0 := by
  intro n hn
  have h1 := lkF_le (f := f) (g := g) n
  refine Classical.byContradiction (fun z => ?_)
  have h2 : lkF f g n = 1 := by omega
  have h3 : lkF f g k = 1 := (lkF_iff k).mpr (fun i hi => (lkF_iff n).mp h2 i (by omega))
  omega
def sk_like (T : mT) (D : mD) (a b : Nat) : Nat := if T 7 a = T 7 b then lkF (fun i => D 6 (256 * a + i)) (fun i => D 6 (256 * b + i)) (T 7 a) else 0
def sp_areLike (T : mT) (D : mD) (w w2 : Int32) : mR := if oN w 3 ∨ oN w2 3 then no T D 1 else (0, nI (sk_like T D w.toNatClampNeg (3 + w2.toNatClampNeg)), T, D)

theorem mI_pr_freeSigns : True := trivial

set_option maxHeartbeats 4000000 in
set_option maxRecDepth 100000 in
theorem mt_freeSigns (l : Launch) {G : va_G} {cI cZ : ClassId} {q : Nat → Nat} (hq : mJ q) (T : mT) (D : mD) (th : Int32) (I : mI T) : mMi l yX7_freeSigns wsX7_freeSigns ({ frames := 0, cells := 0, slots := 0, locals := 0 } : Room) G cI cZ q [] (T) (D) (th) (nI (fS T)) (T) (D) (th) := by
  refine mstarti (cc := cX7_freeSigns) (maxL := 4) (ret := (some .int)) (by decide) rfl rfl ⟨_, rfl⟩ (Nat.le_of_ble_eq_true rfl) (fun p e s m args below meth c Q hE X hW ls hl => ?_)
  have hl : lv_has ls 4 [(0, .ref (q 0))] := hl
  have hin : ∀ w ∈ wsX70, w ∈ wsX7_freeSigns := fun w h => List.mem_cons_of_mem _ (List.mem_append_left _ (List.mem_append_right _ (h)))
  refine lv_iconst (v := nI 0) X.1 X.2.1 dX7_freeSigns_0 (by decide) ?_
  refine lv_istore_n (lv' := [(1, .int (nI (0))), (0, .ref (q 0))]) X.1 X.2.1 dX7_freeSigns_1 rfl hl (by decide) rfl (fun ls hl => ?_)
  have loop2 : ∀ (n2 k2 : Nat), k2 + n2 = 8 → (∀ z, z < k2 → frS T z = false) → ∀ (H : Heap) (locs : List Loc), mH G cI cZ q (T) (D) (th) s H locs → ∀ ls : Array Slot, lv_has ls 4 [(0, .ref (q 0)), (1, .int (nI (k2)))] → W p l e ({ frames := 0, cells := 0, slots := 0, locals := 0 } : Room) s m args below meth c H locs 0 0 Q (F0 m 2 ls []) := by
    intro n2
    induction n2 with
    | zero =>
      intro k2 hk2 hi2_0 H locs hW ls hl
      obtain rfl : 8 = k2 := by omega
      obtain ⟨z, hz1, hz2⟩ := frS_ex T
      exact absurd hz2 (by rw [hi2_0 z hz1]; decide)
    | succ n2 ih2 =>
      intro k2 hk2 hi2_0 H locs hW ls hl
      refine lv_iload_n X.1 X.2.1 dX7_freeSigns_2 rfl (lv_at hl 1 rfl) ?_
      refine lv_bipush (v := nI 8) X.1 X.2.1 dX7_freeSigns_3 (by decide) ?_
      refine n_icmp_ge_f (tgt := 84) X.1 X.2.1 dX7_freeSigns_5 (by decide) (by omega) (by omega) (by omega) ?_
      refine lv_iconst (v := nI 1) X.1 X.2.1 dX7_freeSigns_8 (by decide) ?_
      refine lv_istore_n (lv' := [(2, .int (nI (1))), (0, .ref (q 0)), (1, .int (nI (k2)))]) X.1 X.2.1 dX7_freeSigns_9 rfl hl (by decide) rfl (fun ls hl => ?_)
      refine lv_iconst (v := nI 0) X.1 X.2.1 dX7_freeSigns_10 (by decide) ?_
      refine lv_istore_n (lv' := [(3, .int (nI (0))), (2, .int (nI (1))), (0, .ref (q 0)), (1, .int (nI (k2)))]) X.1 X.2.1 dX7_freeSigns_11 rfl hl (by decide) rfl (fun ls hl => ?_)
      have loop12 : ∀ (n12 k12 : Nat), k12 + n12 = 4 → ∀ (H : Heap) (locs : List Loc), mH G cI cZ q (T) (D) (th) s H locs → ∀ ls : Array Slot, lv_has ls 4 [(0, .ref (q 0)), (1, .int (nI (k2))), (2, .int (nI (fa 1 (fun i => decide (T 2 i ≠ k2)) k12))), (3, .int (nI (k12)))] → W p l e ({ frames := 0, cells := 0, slots := 0, locals := 0 } : Room) s m args below meth c H locs 0 0 Q (F0 m 12 ls []) := by
        intro n12
        induction n12 with
        | zero =>
          intro k12 hk12  H locs hW ls hl
          obtain rfl : 4 = k12 := by omega
          refine lv_iload_n X.1 X.2.1 dX7_freeSigns_12 rfl (lv_at hl 3 rfl) ?_
          refine lv_iconst (v := nI 4) X.1 X.2.1 dX7_freeSigns_13 (by decide) ?_
          refine n_icmp_ge_t (tgt := 41) X.1 X.2.1 dX7_freeSigns_14 (by decide) (by omega) (by omega) (by omega) ?_
          refine lv_iconst (v := nI 0) X.1 X.2.1 dX7_freeSigns_41 (by decide) ?_
          refine lv_istore_n (lv' := [(3, .int (nI (0))), (0, .ref (q 0)), (1, .int (nI (k2))), (2, .int (nI (fa 1 (fun i => decide (T 2 i ≠ k2)) 4)))]) X.1 X.2.1 dX7_freeSigns_42 rfl hl (by decide) rfl (fun ls hl => ?_)
          have loop43 : ∀ (n43 k43 : Nat), k43 + n43 = 3 → ∀ (H : Heap) (locs : List Loc), mH G cI cZ q (T) (D) (th) s H locs → ∀ ls : Array Slot, lv_has ls 4 [(0, .ref (q 0)), (1, .int (nI (k2))), (2, .int (nI (fa (fa 1 (fun i => decide (T 2 i ≠ k2)) 4) (fun i => decide (T 8 i ≠ k2 + 1)) k43))), (3, .int (nI (k43)))] → W p l e ({ frames := 0, cells := 0, slots := 0, locals := 0 } : Room) s m args below meth c H locs 0 0 Q (F0 m 43 ls []) := by
            intro n43
            induction n43 with
            | zero =>
              intro k43 hk43  H locs hW ls hl
              obtain rfl : 3 = k43 := by omega
              have F8 := fa_le (Nat.le_refl 1) (fun i => decide (T 2 i ≠ k2)) 4
              have F9 := fa_le F8 (fun i => decide (T 8 i ≠ k2 + 1)) 3
              refine lv_iload_n X.1 X.2.1 dX7_freeSigns_43 rfl (lv_at hl 3 rfl) ?_
              refine lv_iconst (v := nI 3) X.1 X.2.1 dX7_freeSigns_44 (by decide) ?_
              refine n_icmp_ge_t (tgt := 72) X.1 X.2.1 dX7_freeSigns_45 (by decide) (by omega) (by omega) (by omega) ?_
              rcases Decidable.em (fa (fa 1 (fun i => decide (T 2 i ≠ k2)) 4) (fun i => decide (T 8 i ≠ k2 + 1)) 3 = 0) with hs | hs
              · have hfr : frS T k2 = false := by simp only [frS, hs]; decide
                refine lv_iload_n X.1 X.2.1 dX7_freeSigns_72 rfl (lv_at hl 2 rfl) ?_
                refine n_if_eq_t (tgt := 78) X.1 X.2.1 dX7_freeSigns_73 (by decide) (hs) (by omega) ?_
                refine lv_iinc (v := nI (k2 + 1)) (lv' := [(1, .int (nI (k2 + 1))), (0, .ref (q 0)), (2, .int (nI (fa (fa 1 (fun i => decide (T 2 i ≠ k2)) 4) (fun i => decide (T 8 i ≠ k2 + 1)) 3))), (3, .int (nI (3)))]) X.1 X.2.1 dX7_freeSigns_78 hl (k := 1) rfl (nI_1 _) (by decide) rfl (fun ls hl => ?_)
                refine lv_goto (tgt := 2) X.1 X.2.1 dX7_freeSigns_81 (by decide) ?_
                exact ih2 (k2 + 1) (by omega) (fun z hz => by
                              by_cases e : z = k2
                              · subst e; exact hfr
                              · exact hi2_0 z (by omega)) _ _ (hW.eq (rfl) (rfl) rfl) ls (lv_sub hl [1, 0] rfl)
              · have hfr : frS T k2 = true := by simp only [frS]; exact decide_eq_true hs
                refine lv_iload_n X.1 X.2.1 dX7_freeSigns_72 rfl (lv_at hl 2 rfl) ?_
                refine n_if_eq_f (tgt := 78) X.1 X.2.1 dX7_freeSigns_73 (by decide) (hs) (by omega) ?_
                refine lv_iload_n X.1 X.2.1 dX7_freeSigns_76 rfl (lv_at hl 1 rfl) ?_
                exact hE _ _ _ _ _ (congrArg nI (lsF_hit 8 0 k2 (by omega) (by omega) (fun z _ hz => hi2_0 z hz) hfr).symm) (fun ty hty => by cases hty; exact rfl) hW dX7_freeSigns_77
            | succ n43 ih43 =>
              intro k43 hk43  H locs hW ls hl
              have I9 := (I.rd (show k43 < 3 by omega)).1
              have F8 := fa_le (Nat.le_refl 1) (fun i => decide (T 2 i ≠ k2)) 4
              have F9 := fa_le F8 (fun i => decide (T 8 i ≠ k2 + 1)) k43
              refine lv_iload_n X.1 X.2.1 dX7_freeSigns_43 rfl (lv_at hl 3 rfl) ?_
              refine lv_iconst (v := nI 3) X.1 X.2.1 dX7_freeSigns_44 (by decide) ?_
              refine n_icmp_ge_f (tgt := 72) X.1 X.2.1 dX7_freeSigns_45 (by decide) (by omega) (by omega) (by omega) ?_
              rcases (show T 8 k43 = 0 ∨ T 8 k43 = k2 + 1 ∨ ∃ z, T 8 k43 = z + 1 ∧ z ≠ k2 by rcases Nat.eq_zero_or_pos (T 8 k43) with h | h; exact Or.inl h; by_cases e : T 8 k43 = k2 + 1; exact Or.inr (Or.inl e); exact Or.inr (Or.inr ⟨T 8 k43 - 1, by omega, by omega⟩)) with hs | hs | ⟨z, hs, hs2⟩
              · have hs9 : ¬ T 8 k43 = k2 + 1 := by omega
                have hfa : fa (fa 1 (fun i => decide (T 2 i ≠ k2)) 4) (fun i => decide (T 8 i ≠ k2 + 1)) (k43 + 1) = fa (fa 1 (fun i => decide (T 2 i ≠ k2)) 4) (fun i => decide (T 8 i ≠ k2 + 1)) k43 := if_pos (by simpa using hs9)
                refine lv_iload_n X.1 X.2.1 dX7_freeSigns_48 rfl (lv_at hl 2 rfl) ?_
                refine lv_aload_n X.1 X.2.1 dX7_freeSigns_49 rfl (lv_at hl 0 rfl) ?_
                refine mget 8 (by decide) rfl X hin hW (X.2.2.2.2 (.fieldLink RX7 34 "StrandbookModel" "reads" "[I") (List.mem_cons_of_mem _ (List.mem_append_left _ (List.mem_append_left _ (List.mem_of_getElem? (i := 1) rfl))))) dX7_freeSigns_50 ?_
                refine lv_iload_n X.1 X.2.1 dX7_freeSigns_53 rfl (lv_at hl 3 rfl) ?_
                refine mld8_0 X hW (by omega) (hs) dX7_freeSigns_54 ?_
                refine lv_iload_n X.1 X.2.1 dX7_freeSigns_55 rfl (lv_at hl 1 rfl) ?_
                refine x_icmp_eq_f (tgt := 63) X.1 X.2.1 dX7_freeSigns_56 (by decide) (fun z => absurd (congrArg Int32.toInt z) (by rw [nI_toInt (by omega)]; show ¬ (-1 : Int) = _; omega)) ?_
                refine lv_iconst (v := nI 1) X.1 X.2.1 dX7_freeSigns_59 (by decide) ?_
                refine lv_goto (tgt := 64) X.1 X.2.1 dX7_freeSigns_60 (by decide) ?_
                refine lv_iand X.1 X.2.1 dX7_freeSigns_64 ?_
                refine n_cv (y := nI (fa (fa 1 (fun i => decide (T 2 i ≠ k2)) 4) (fun i => decide (T 8 i ≠ k2 + 1)) k43)) (nI_and1 (by omega)) ?_
                refine lv_istore_n (lv' := [(2, .int (nI (fa (fa 1 (fun i => decide (T 2 i ≠ k2)) 4) (fun i => decide (T 8 i ≠ k2 + 1)) k43))), (0, .ref (q 0)), (1, .int (nI (k2))), (3, .int (nI (k43)))]) X.1 X.2.1 dX7_freeSigns_65 rfl hl (by decide) rfl (fun ls hl => ?_)
                refine lv_iinc (v := nI (k43 + 1)) (lv' := [(3, .int (nI (k43 + 1))), (2, .int (nI (fa (fa 1 (fun i => decide (T 2 i ≠ k2)) 4) (fun i => decide (T 8 i ≠ k2 + 1)) k43))), (0, .ref (q 0)), (1, .int (nI (k2)))]) X.1 X.2.1 dX7_freeSigns_66 hl (k := 3) rfl (nI_1 _) (by decide) rfl (fun ls hl => ?_)
                refine lv_goto (tgt := 43) X.1 X.2.1 dX7_freeSigns_69 (by decide) ?_
                exact ih43 (k43 + 1) (by omega) _ _ (hW.eq (rfl) (rfl) rfl) ls (by have h9 := lv_sub hl [2, 3, 1, 0] rfl; rw [hfa]; exact h9)
              · have hfa : fa (fa 1 (fun i => decide (T 2 i ≠ k2)) 4) (fun i => decide (T 8 i ≠ k2 + 1)) (k43 + 1) = 0 := if_neg (by simp [hs])
                refine lv_iload_n X.1 X.2.1 dX7_freeSigns_48 rfl (lv_at hl 2 rfl) ?_
                refine lv_aload_n X.1 X.2.1 dX7_freeSigns_49 rfl (lv_at hl 0 rfl) ?_
                refine mget 8 (by decide) rfl X hin hW (X.2.2.2.2 (.fieldLink RX7 34 "StrandbookModel" "reads" "[I") (List.mem_cons_of_mem _ (List.mem_append_left _ (List.mem_append_left _ (List.mem_of_getElem? (i := 1) rfl))))) dX7_freeSigns_50 ?_
                refine lv_iload_n X.1 X.2.1 dX7_freeSigns_53 rfl (lv_at hl 3 rfl) ?_
                refine mld8_s X hW (by omega) (z := k2) (hs) dX7_freeSigns_54 ?_
                refine lv_iload_n X.1 X.2.1 dX7_freeSigns_55 rfl (lv_at hl 1 rfl) ?_
                refine n_icmp_eq_t (tgt := 63) X.1 X.2.1 dX7_freeSigns_56 (by decide) (rfl) (by omega) (by omega) ?_
                refine lv_iconst (v := nI 0) X.1 X.2.1 dX7_freeSigns_63 (by decide) ?_
                refine lv_iand X.1 X.2.1 dX7_freeSigns_64 ?_
                refine n_cv (y := nI (0)) (nI_and0 _ (by omega)) ?_
                refine lv_istore_n (lv' := [(2, .int (nI (0))), (0, .ref (q 0)), (1, .int (nI (k2))), (3, .int (nI (k43)))]) X.1 X.2.1 dX7_freeSigns_65 rfl hl (by decide) rfl (fun ls hl => ?_)
                refine lv_iinc (v := nI (k43 + 1)) (lv' := [(3, .int (nI (k43 + 1))), (2, .int (nI (0))), (0, .ref (q 0)), (1, .int (nI (k2)))]) X.1 X.2.1 dX7_freeSigns_66 hl (k := 3) rfl (nI_1 _) (by decide) rfl (fun ls hl => ?_)
                refine lv_goto (tgt := 43) X.1 X.2.1 dX7_freeSigns_69 (by decide) ?_
                exact ih43 (k43 + 1) (by omega) _ _ (hW.eq (rfl) (rfl) rfl) ls (by have h9 := lv_sub hl [2, 3, 1, 0] rfl; rw [hfa]; exact h9)
              · have hs9 : ¬ T 8 k43 = k2 + 1 := by omega
                have hfa : fa (fa 1 (fun i => decide (T 2 i ≠ k2)) 4) (fun i => decide (T 8 i ≠ k2 + 1)) (k43 + 1) = fa (fa 1 (fun i => decide (T 2 i ≠ k2)) 4) (fun i => decide (T 8 i ≠ k2 + 1)) k43 := if_pos (by simpa using hs9)
                refine lv_iload_n X.1 X.2.1 dX7_freeSigns_48 rfl (lv_at hl 2 rfl) ?_
                refine lv_aload_n X.1 X.2.1 dX7_freeSigns_49 rfl (lv_at hl 0 rfl) ?_
                refine mget 8 (by decide) rfl X hin hW (X.2.2.2.2 (.fieldLink RX7 34 "StrandbookModel" "reads" "[I") (List.mem_cons_of_mem _ (List.mem_append_left _ (List.mem_append_left _ (List.mem_of_getElem? (i := 1) rfl))))) dX7_freeSigns_50 ?_
                refine lv_iload_n X.1 X.2.1 dX7_freeSigns_53 rfl (lv_at hl 3 rfl) ?_
                refine mld8_s X hW (by omega) (z := z) (hs) dX7_freeSigns_54 ?_
                refine lv_iload_n X.1 X.2.1 dX7_freeSigns_55 rfl (lv_at hl 1 rfl) ?_
                refine n_icmp_eq_f (tgt := 63) X.1 X.2.1 dX7_freeSigns_56 (by decide) (hs2) (by omega) (by omega) ?_
                refine lv_iconst (v := nI 1) X.1 X.2.1 dX7_freeSigns_59 (by decide) ?_
                refine lv_goto (tgt := 64) X.1 X.2.1 dX7_freeSigns_60 (by decide) ?_
                refine lv_iand X.1 X.2.1 dX7_freeSigns_64 ?_
                refine n_cv (y := nI (fa (fa 1 (fun i => decide (T 2 i ≠ k2)) 4) (fun i => decide (T 8 i ≠ k2 + 1)) k43)) (nI_and1 (by omega)) ?_
                refine lv_istore_n (lv' := [(2, .int (nI (fa (fa 1 (fun i => decide (T 2 i ≠ k2)) 4) (fun i => decide (T 8 i ≠ k2 + 1)) k43))), (0, .ref (q 0)), (1, .int (nI (k2))), (3, .int (nI (k43)))]) X.1 X.2.1 dX7_freeSigns_65 rfl hl (by decide) rfl (fun ls hl => ?_)
                refine lv_iinc (v := nI (k43 + 1)) (lv' := [(3, .int (nI (k43 + 1))), (2, .int (nI (fa (fa 1 (fun i => decide (T 2 i ≠ k2)) 4) (fun i => decide (T 8 i ≠ k2 + 1)) k43))), (0, .ref (q 0)), (1, .int (nI (k2)))]) X.1 X.2.1 dX7_freeSigns_66 hl (k := 3) rfl (nI_1 _) (by decide) rfl (fun ls hl => ?_)
                refine lv_goto (tgt := 43) X.1 X.2.1 dX7_freeSigns_69 (by decide) ?_
                exact ih43 (k43 + 1) (by omega) _ _ (hW.eq (rfl) (rfl) rfl) ls (by have h9 := lv_sub hl [2, 3, 1, 0] rfl; rw [hfa]; exact h9)
          exact loop43 ((3) - (0)) (0) (by omega) _ _ (hW.eq (rfl) (rfl) rfl) ls (lv_sub hl [1, 2, 3, 0] rfl)
        | succ n12 ih12 =>
          intro k12 hk12  H locs hW ls hl
          have I9 := I.sr (show k12 < 4 by omega)
          have F9 := fa_le (Nat.le_refl 1) (fun i => decide (T 2 i ≠ k2)) k12
          refine lv_iload_n X.1 X.2.1 dX7_freeSigns_12 rfl (lv_at hl 3 rfl) ?_
          refine lv_iconst (v := nI 4) X.1 X.2.1 dX7_freeSigns_13 (by decide) ?_
          refine n_icmp_ge_f (tgt := 41) X.1 X.2.1 dX7_freeSigns_14 (by decide) (by omega) (by omega) (by omega) ?_
          rcases Decidable.em (T 2 k12 = k2) with hs | hs
          · have hfa : fa 1 (fun i => decide (T 2 i ≠ k2)) (k12 + 1) = 0 := if_neg (by simp [hs])
            refine lv_iload_n X.1 X.2.1 dX7_freeSigns_17 rfl (lv_at hl 2 rfl) ?_
            refine lv_aload_n X.1 X.2.1 dX7_freeSigns_18 rfl (lv_at hl 0 rfl) ?_
            refine mget 2 (by decide) rfl X hin hW (X.2.2.2.2 (.fieldLink RX7 16 "StrandbookModel" "signRooms" "[I") (List.mem_cons_of_mem _ (List.mem_append_left _ (List.mem_append_left _ (List.mem_of_getElem? (i := 0) rfl))))) dX7_freeSigns_19 ?_
            refine lv_iload_n X.1 X.2.1 dX7_freeSigns_22 rfl (lv_at hl 3 rfl) ?_
            refine mld2 X hW (by omega) dX7_freeSigns_23 ?_
            refine lv_iload_n X.1 X.2.1 dX7_freeSigns_24 rfl (lv_at hl 1 rfl) ?_
            refine n_icmp_eq_t (tgt := 32) X.1 X.2.1 dX7_freeSigns_25 (by decide) (hs) (by omega) (by omega) ?_
            refine lv_iconst (v := nI 0) X.1 X.2.1 dX7_freeSigns_32 (by decide) ?_
            refine lv_iand X.1 X.2.1 dX7_freeSigns_33 ?_
            refine n_cv (y := nI (0)) (nI_and0 _ (by omega)) ?_
            refine lv_istore_n (lv' := [(2, .int (nI (0))), (0, .ref (q 0)), (1, .int (nI (k2))), (3, .int (nI (k12)))]) X.1 X.2.1 dX7_freeSigns_34 rfl hl (by decide) rfl (fun ls hl => ?_)
            refine lv_iinc (v := nI (k12 + 1)) (lv' := [(3, .int (nI (k12 + 1))), (2, .int (nI (0))), (0, .ref (q 0)), (1, .int (nI (k2)))]) X.1 X.2.1 dX7_freeSigns_35 hl (k := 3) rfl (nI_1 _) (by decide) rfl (fun ls hl => ?_)
            refine lv_goto (tgt := 12) X.1 X.2.1 dX7_freeSigns_38 (by decide) ?_
            exact ih12 (k12 + 1) (by omega) _ _ (hW.eq (rfl) (rfl) rfl) ls (by have h9 := lv_sub hl [2, 3, 1, 0] rfl; rw [hfa]; exact h9)
          · have hfa : fa 1 (fun i => decide (T 2 i ≠ k2)) (k12 + 1) = fa 1 (fun i => decide (T 2 i ≠ k2)) k12 := if_pos (by simpa using hs)
            refine lv_iload_n X.1 X.2.1 dX7_freeSigns_17 rfl (lv_at hl 2 rfl) ?_
            refine lv_aload_n X.1 X.2.1 dX7_freeSigns_18 rfl (lv_at hl 0 rfl) ?_
            refine mget 2 (by decide) rfl X hin hW (X.2.2.2.2 (.fieldLink RX7 16 "StrandbookModel" "signRooms" "[I") (List.mem_cons_of_mem _ (List.mem_append_left _ (List.mem_append_left _ (List.mem_of_getElem? (i := 0) rfl))))) dX7_freeSigns_19 ?_
            refine lv_iload_n X.1 X.2.1 dX7_freeSigns_22 rfl (lv_at hl 3 rfl) ?_
            refine mld2 X hW (by omega) dX7_freeSigns_23 ?_
            refine lv_iload_n X.1 X.2.1 dX7_freeSigns_24 rfl (lv_at hl 1 rfl) ?_
            refine n_icmp_eq_f (tgt := 32) X.1 X.2.1 dX7_freeSigns_25 (by decide) (hs) (by omega) (by omega) ?_
            refine lv_iconst (v := nI 1) X.1 X.2.1 dX7_freeSigns_28 (by decide) ?_
            refine lv_goto (tgt := 33) X.1 X.2.1 dX7_freeSigns_29 (by decide) ?_
            refine lv_iand X.1 X.2.1 dX7_freeSigns_33 ?_
            refine n_cv (y := nI (fa 1 (fun i => decide (T 2 i ≠ k2)) k12)) (nI_and1 (by omega)) ?_
            refine lv_istore_n (lv' := [(2, .int (nI (fa 1 (fun i => decide (T 2 i ≠ k2)) k12))), (0, .ref (q 0)), (1, .int (nI (k2))), (3, .int (nI (k12)))]) X.1 X.2.1 dX7_freeSigns_34 rfl hl (by decide) rfl (fun ls hl => ?_)
            refine lv_iinc (v := nI (k12 + 1)) (lv' := [(3, .int (nI (k12 + 1))), (2, .int (nI (fa 1 (fun i => decide (T 2 i ≠ k2)) k12))), (0, .ref (q 0)), (1, .int (nI (k2)))]) X.1 X.2.1 dX7_freeSigns_35 hl (k := 3) rfl (nI_1 _) (by decide) rfl (fun ls hl => ?_)
            refine lv_goto (tgt := 12) X.1 X.2.1 dX7_freeSigns_38 (by decide) ?_
            exact ih12 (k12 + 1) (by omega) _ _ (hW.eq (rfl) (rfl) rfl) ls (by have h9 := lv_sub hl [2, 3, 1, 0] rfl; rw [hfa]; exact h9)
      exact loop12 ((4) - (0)) (0) (by omega) _ _ (hW.eq (rfl) (rfl) rfl) ls (lv_sub hl [2, 3, 1, 0] rfl)
  exact loop2 ((8) - (0)) (0) (by omega) (fun z hz => absurd hz (Nat.not_lt_zero z)) _ _ (hW.eq (rfl) (rfl) rfl) ls (lv_sub hl [1, 0] rfl)

theorem mI_pr_freeBytes : True := trivial

theorem mI_pr {T : mT} (h : mI T) {k : Nat} (hk : k < 6) : T 14 k ≤ 11 := by
  rcases (show k < 3 ∨ 3 ≤ k by omega) with g | g
  · have := ((h.st (show 0 < 2 by decide)).2.2.2 k g).1
    simpa using this
  · have := ((h.st (show 1 < 2 by decide)).2.2.2 (k - 3) (by omega)).1
    rw [show 3 * 1 + (k - 3) = k by omega] at this
    exact this

set_option maxHeartbeats 4000000 in
set_option maxRecDepth 100000 in
theorem mt_freeBytes (l : Launch) {G : va_G} {cI cZ : ClassId} {q : Nat → Nat} (hq : mJ q) (T : mT) (D : mD) (th : Int32) (I : mI T) : mMi l yX7_freeBytes wsX7_freeBytes ({ frames := 0, cells := 0, slots := 0, locals := 0 } : Room) G cI cZ q [] (T) (D) (th) (nI (fB T)) (T) (D) (th) := by
  refine mstarti (cc := cX7_freeBytes) (maxL := 4) (ret := (some .int)) (by decide) rfl rfl ⟨_, rfl⟩ (Nat.le_of_ble_eq_true rfl) (fun p e s m args below meth c Q hE X hW ls hl => ?_)
  have hl : lv_has ls 4 [(0, .ref (q 0))] := hl
  have hin : ∀ w ∈ wsX70, w ∈ wsX7_freeBytes := fun w h => List.mem_cons_of_mem _ (List.mem_append_left _ (List.mem_append_right _ (h)))
  refine lv_iconst (v := nI 0) X.1 X.2.1 dX7_freeBytes_0 (by decide) ?_
  refine lv_istore_n (lv' := [(1, .int (nI (0))), (0, .ref (q 0))]) X.1 X.2.1 dX7_freeBytes_1 rfl hl (by decide) rfl (fun ls hl => ?_)
  have loop2 : ∀ (n2 k2 : Nat), k2 + n2 = 11 → (∀ z, z < k2 → frB T z = false) → ∀ (H : Heap) (locs : List Loc), mH G cI cZ q (T) (D) (th) s H locs → ∀ ls : Array Slot, lv_has ls 4 [(0, .ref (q 0)), (1, .int (nI (k2)))] → W p l e ({ frames := 0, cells := 0, slots := 0, locals := 0 } : Room) s m args below meth c H locs 0 0 Q (F0 m 2 ls []) := by
    intro n2
    induction n2 with
    | zero =>
      intro k2 hk2 hi2_0 H locs hW ls hl
      obtain rfl : 11 = k2 := by omega
      obtain ⟨z, hz1, hz2⟩ := frB_ex T
      exact absurd hz2 (by rw [hi2_0 z hz1]; decide)
    | succ n2 ih2 =>
      intro k2 hk2 hi2_0 H locs hW ls hl
      refine lv_iload_n X.1 X.2.1 dX7_freeBytes_2 rfl (lv_at hl 1 rfl) ?_
      refine lv_bipush (v := nI 11) X.1 X.2.1 dX7_freeBytes_3 (by decide) ?_
      refine n_icmp_ge_f (tgt := 85) X.1 X.2.1 dX7_freeBytes_5 (by decide) (by omega) (by omega) (by omega) ?_
      refine lv_iconst (v := nI 1) X.1 X.2.1 dX7_freeBytes_8 (by decide) ?_
      refine lv_istore_n (lv' := [(2, .int (nI (1))), (0, .ref (q 0)), (1, .int (nI (k2)))]) X.1 X.2.1 dX7_freeBytes_9 rfl hl (by decide) rfl (fun ls hl => ?_)
      refine lv_iconst (v := nI 0) X.1 X.2.1 dX7_freeBytes_10 (by decide) ?_
      refine lv_istore_n (lv' := [(3, .int (nI (0))), (2, .int (nI (1))), (0, .ref (q 0)), (1, .int (nI (k2)))]) X.1 X.2.1 dX7_freeBytes_11 rfl hl (by decide) rfl (fun ls hl => ?_)
      have loop12 : ∀ (n12 k12 : Nat), k12 + n12 = 4 → ∀ (H : Heap) (locs : List Loc), mH G cI cZ q (T) (D) (th) s H locs → ∀ ls : Array Slot, lv_has ls 4 [(0, .ref (q 0)), (1, .int (nI (k2))), (2, .int (nI (fa 1 (fun i => decide (T 5 i ≠ k2)) k12))), (3, .int (nI (k12)))] → W p l e ({ frames := 0, cells := 0, slots := 0, locals := 0 } : Room) s m args below meth c H locs 0 0 Q (F0 m 12 ls []) := by
        intro n12
        induction n12 with
        | zero =>
          intro k12 hk12  H locs hW ls hl
          obtain rfl : 4 = k12 := by omega
          refine lv_iload_n X.1 X.2.1 dX7_freeBytes_12 rfl (lv_at hl 3 rfl) ?_
          refine lv_iconst (v := nI 4) X.1 X.2.1 dX7_freeBytes_13 (by decide) ?_
          refine n_icmp_ge_t (tgt := 41) X.1 X.2.1 dX7_freeBytes_14 (by decide) (by omega) (by omega) (by omega) ?_
          refine lv_iconst (v := nI 0) X.1 X.2.1 dX7_freeBytes_41 (by decide) ?_
          refine lv_istore_n (lv' := [(3, .int (nI (0))), (0, .ref (q 0)), (1, .int (nI (k2))), (2, .int (nI (fa 1 (fun i => decide (T 5 i ≠ k2)) 4)))]) X.1 X.2.1 dX7_freeBytes_42 rfl hl (by decide) rfl (fun ls hl => ?_)
          have loop43 : ∀ (n43 k43 : Nat), k43 + n43 = 6 → ∀ (H : Heap) (locs : List Loc), mH G cI cZ q (T) (D) (th) s H locs → ∀ ls : Array Slot, lv_has ls 4 [(0, .ref (q 0)), (1, .int (nI (k2))), (2, .int (nI (fa (fa 1 (fun i => decide (T 5 i ≠ k2)) 4) (fun i => decide (T 14 i ≠ k2 + 1)) k43))), (3, .int (nI (k43)))] → W p l e ({ frames := 0, cells := 0, slots := 0, locals := 0 } : Room) s m args below meth c H locs 0 0 Q (F0 m 43 ls []) := by
            intro n43
            induction n43 with
            | zero =>
              intro k43 hk43  H locs hW ls hl
              obtain rfl : 6 = k43 := by omega
              have F8 := fa_le (Nat.le_refl 1) (fun i => decide (T 5 i ≠ k2)) 4
              have F9 := fa_le F8 (fun i => decide (T 14 i ≠ k2 + 1)) 6
              refine lv_iload_n X.1 X.2.1 dX7_freeBytes_43 rfl (lv_at hl 3 rfl) ?_
              refine lv_bipush (v := nI 6) X.1 X.2.1 dX7_freeBytes_44 (by decide) ?_
              refine n_icmp_ge_t (tgt := 73) X.1 X.2.1 dX7_freeBytes_46 (by decide) (by omega) (by omega) (by omega) ?_
              rcases Decidable.em (fa (fa 1 (fun i => decide (T 5 i ≠ k2)) 4) (fun i => decide (T 14 i ≠ k2 + 1)) 6 = 0) with hs | hs
              · have hfr : frB T k2 = false := by simp only [frB, hs]; decide
                refine lv_iload_n X.1 X.2.1 dX7_freeBytes_73 rfl (lv_at hl 2 rfl) ?_
                refine n_if_eq_t (tgt := 79) X.1 X.2.1 dX7_freeBytes_74 (by decide) (hs) (by omega) ?_
                refine lv_iinc (v := nI (k2 + 1)) (lv' := [(1, .int (nI (k2 + 1))), (0, .ref (q 0)), (2, .int (nI (fa (fa 1 (fun i => decide (T 5 i ≠ k2)) 4) (fun i => decide (T 14 i ≠ k2 + 1)) 6))), (3, .int (nI (6)))]) X.1 X.2.1 dX7_freeBytes_79 hl (k := 1) rfl (nI_1 _) (by decide) rfl (fun ls hl => ?_)
                refine lv_goto (tgt := 2) X.1 X.2.1 dX7_freeBytes_82 (by decide) ?_
                exact ih2 (k2 + 1) (by omega) (fun z hz => by
                              by_cases e : z = k2
                              · subst e; exact hfr
                              · exact hi2_0 z (by omega)) _ _ (hW.eq (rfl) (rfl) rfl) ls (lv_sub hl [1, 0] rfl)
              · have hfr : frB T k2 = true := by simp only [frB]; exact decide_eq_true hs
                refine lv_iload_n X.1 X.2.1 dX7_freeBytes_73 rfl (lv_at hl 2 rfl) ?_
                refine n_if_eq_f (tgt := 79) X.1 X.2.1 dX7_freeBytes_74 (by decide) (hs) (by omega) ?_
                refine lv_iload_n X.1 X.2.1 dX7_freeBytes_77 rfl (lv_at hl 1 rfl) ?_
                exact hE _ _ _ _ _ (congrArg nI (lsF_hit 11 0 k2 (by omega) (by omega) (fun z _ hz => hi2_0 z hz) hfr).symm) (fun ty hty => by cases hty; exact rfl) hW dX7_freeBytes_78
            | succ n43 ih43 =>
              intro k43 hk43  H locs hW ls hl
              have I9 : T 14 k43 ≤ 11 := mI_pr I (by omega)
              have F8 := fa_le (Nat.le_refl 1) (fun i => decide (T 5 i ≠ k2)) 4
              have F9 := fa_le F8 (fun i => decide (T 14 i ≠ k2 + 1)) k43
              refine lv_iload_n X.1 X.2.1 dX7_freeBytes_43 rfl (lv_at hl 3 rfl) ?_
              refine lv_bipush (v := nI 6) X.1 X.2.1 dX7_freeBytes_44 (by decide) ?_
              refine n_icmp_ge_f (tgt := 73) X.1 X.2.1 dX7_freeBytes_46 (by decide) (by omega) (by omega) (by omega) ?_
              rcases (show T 14 k43 = 0 ∨ T 14 k43 = k2 + 1 ∨ ∃ z, T 14 k43 = z + 1 ∧ z ≠ k2 by rcases Nat.eq_zero_or_pos (T 14 k43) with h | h; exact Or.inl h; by_cases e : T 14 k43 = k2 + 1; exact Or.inr (Or.inl e); exact Or.inr (Or.inr ⟨T 14 k43 - 1, by omega, by omega⟩)) with hs | hs | ⟨z, hs, hs2⟩
              · have hs9 : ¬ T 14 k43 = k2 + 1 := by omega
                have hfa : fa (fa 1 (fun i => decide (T 5 i ≠ k2)) 4) (fun i => decide (T 14 i ≠ k2 + 1)) (k43 + 1) = fa (fa 1 (fun i => decide (T 5 i ≠ k2)) 4) (fun i => decide (T 14 i ≠ k2 + 1)) k43 := if_pos (by simpa using hs9)
                refine lv_iload_n X.1 X.2.1 dX7_freeBytes_49 rfl (lv_at hl 2 rfl) ?_
                refine lv_aload_n X.1 X.2.1 dX7_freeBytes_50 rfl (lv_at hl 0 rfl) ?_
                refine mget 14 (by decide) rfl X hin hW (X.2.2.2.2 (.fieldLink RX7 53 "StrandbookModel" "partRooms" "[I") (List.mem_cons_of_mem _ (List.mem_append_left _ (List.mem_append_left _ (List.mem_of_getElem? (i := 1) rfl))))) dX7_freeBytes_51 ?_
                refine lv_iload_n X.1 X.2.1 dX7_freeBytes_54 rfl (lv_at hl 3 rfl) ?_
                refine mld14_0 X hW (by omega) (hs) dX7_freeBytes_55 ?_
                refine lv_iload_n X.1 X.2.1 dX7_freeBytes_56 rfl (lv_at hl 1 rfl) ?_
                refine x_icmp_eq_f (tgt := 64) X.1 X.2.1 dX7_freeBytes_57 (by decide) (fun z => absurd (congrArg Int32.toInt z) (by rw [nI_toInt (by omega)]; show ¬ (-1 : Int) = _; omega)) ?_
                refine lv_iconst (v := nI 1) X.1 X.2.1 dX7_freeBytes_60 (by decide) ?_
                refine lv_goto (tgt := 65) X.1 X.2.1 dX7_freeBytes_61 (by decide) ?_
                refine lv_iand X.1 X.2.1 dX7_freeBytes_65 ?_
                refine n_cv (y := nI (fa (fa 1 (fun i => decide (T 5 i ≠ k2)) 4) (fun i => decide (T 14 i ≠ k2 + 1)) k43)) (nI_and1 (by omega)) ?_
                refine lv_istore_n (lv' := [(2, .int (nI (fa (fa 1 (fun i => decide (T 5 i ≠ k2)) 4) (fun i => decide (T 14 i ≠ k2 + 1)) k43))), (0, .ref (q 0)), (1, .int (nI (k2))), (3, .int (nI (k43)))]) X.1 X.2.1 dX7_freeBytes_66 rfl hl (by decide) rfl (fun ls hl => ?_)
                refine lv_iinc (v := nI (k43 + 1)) (lv' := [(3, .int (nI (k43 + 1))), (2, .int (nI (fa (fa 1 (fun i => decide (T 5 i ≠ k2)) 4) (fun i => decide (T 14 i ≠ k2 + 1)) k43))), (0, .ref (q 0)), (1, .int (nI (k2)))]) X.1 X.2.1 dX7_freeBytes_67 hl (k := 3) rfl (nI_1 _) (by decide) rfl (fun ls hl => ?_)
                refine lv_goto (tgt := 43) X.1 X.2.1 dX7_freeBytes_70 (by decide) ?_
                exact ih43 (k43 + 1) (by omega) _ _ (hW.eq (rfl) (rfl) rfl) ls (by have h9 := lv_sub hl [2, 3, 1, 0] rfl; rw [hfa]; exact h9)
              · have hfa : fa (fa 1 (fun i => decide (T 5 i ≠ k2)) 4) (fun i => decide (T 14 i ≠ k2 + 1)) (k43 + 1) = 0 := if_neg (by simp [hs])
                refine lv_iload_n X.1 X.2.1 dX7_freeBytes_49 rfl (lv_at hl 2 rfl) ?_
                refine lv_aload_n X.1 X.2.1 dX7_freeBytes_50 rfl (lv_at hl 0 rfl) ?_
                refine mget 14 (by decide) rfl X hin hW (X.2.2.2.2 (.fieldLink RX7 53 "StrandbookModel" "partRooms" "[I") (List.mem_cons_of_mem _ (List.mem_append_left _ (List.mem_append_left _ (List.mem_of_getElem? (i := 1) rfl))))) dX7_freeBytes_51 ?_
                refine lv_iload_n X.1 X.2.1 dX7_freeBytes_54 rfl (lv_at hl 3 rfl) ?_
                refine mld14_s X hW (by omega) (z := k2) (hs) dX7_freeBytes_55 ?_
                refine lv_iload_n X.1 X.2.1 dX7_freeBytes_56 rfl (lv_at hl 1 rfl) ?_
                refine n_icmp_eq_t (tgt := 64) X.1 X.2.1 dX7_freeBytes_57 (by decide) (rfl) (by omega) (by omega) ?_
                refine lv_iconst (v := nI 0) X.1 X.2.1 dX7_freeBytes_64 (by decide) ?_
                refine lv_iand X.1 X.2.1 dX7_freeBytes_65 ?_
                refine n_cv (y := nI (0)) (nI_and0 _ (by omega)) ?_
                refine lv_istore_n (lv' := [(2, .int (nI (0))), (0, .ref (q 0)), (1, .int (nI (k2))), (3, .int (nI (k43)))]) X.1 X.2.1 dX7_freeBytes_66 rfl hl (by decide) rfl (fun ls hl => ?_)
                refine lv_iinc (v := nI (k43 + 1)) (lv' := [(3, .int (nI (k43 + 1))), (2, .int (nI (0))), (0, .ref (q 0)), (1, .int (nI (k2)))]) X.1 X.2.1 dX7_freeBytes_67 hl (k := 3) rfl (nI_1 _) (by decide) rfl (fun ls hl => ?_)
                refine lv_goto (tgt := 43) X.1 X.2.1 dX7_freeBytes_70 (by decide) ?_
                exact ih43 (k43 + 1) (by omega) _ _ (hW.eq (rfl) (rfl) rfl) ls (by have h9 := lv_sub hl [2, 3, 1, 0] rfl; rw [hfa]; exact h9)
              · have hs9 : ¬ T 14 k43 = k2 + 1 := by omega
                have hfa : fa (fa 1 (fun i => decide (T 5 i ≠ k2)) 4) (fun i => decide (T 14 i ≠ k2 + 1)) (k43 + 1) = fa (fa 1 (fun i => decide (T 5 i ≠ k2)) 4) (fun i => decide (T 14 i ≠ k2 + 1)) k43 := if_pos (by simpa using hs9)
                refine lv_iload_n X.1 X.2.1 dX7_freeBytes_49 rfl (lv_at hl 2 rfl) ?_
                refine lv_aload_n X.1 X.2.1 dX7_freeBytes_50 rfl (lv_at hl 0 rfl) ?_
                refine mget 14 (by decide) rfl X hin hW (X.2.2.2.2 (.fieldLink RX7 53 "StrandbookModel" "partRooms" "[I") (List.mem_cons_of_mem _ (List.mem_append_left _ (List.mem_append_left _ (List.mem_of_getElem? (i := 1) rfl))))) dX7_freeBytes_51 ?_
                refine lv_iload_n X.1 X.2.1 dX7_freeBytes_54 rfl (lv_at hl 3 rfl) ?_
                refine mld14_s X hW (by omega) (z := z) (hs) dX7_freeBytes_55 ?_
                refine lv_iload_n X.1 X.2.1 dX7_freeBytes_56 rfl (lv_at hl 1 rfl) ?_
                refine n_icmp_eq_f (tgt := 64) X.1 X.2.1 dX7_freeBytes_57 (by decide) (hs2) (by omega) (by omega) ?_
                refine lv_iconst (v := nI 1) X.1 X.2.1 dX7_freeBytes_60 (by decide) ?_
                refine lv_goto (tgt := 65) X.1 X.2.1 dX7_freeBytes_61 (by decide) ?_
                refine lv_iand X.1 X.2.1 dX7_freeBytes_65 ?_
                refine n_cv (y := nI (fa (fa 1 (fun i => decide (T 5 i ≠ k2)) 4) (fun i => decide (T 14 i ≠ k2 + 1)) k43)) (nI_and1 (by omega)) ?_
                refine lv_istore_n (lv' := [(2, .int (nI (fa (fa 1 (fun i => decide (T 5 i ≠ k2)) 4) (fun i => decide (T 14 i ≠ k2 + 1)) k43))), (0, .ref (q 0)), (1, .int (nI (k2))), (3, .int (nI (k43)))]) X.1 X.2.1 dX7_freeBytes_66 rfl hl (by decide) rfl (fun ls hl => ?_)
                refine lv_iinc (v := nI (k43 + 1)) (lv' := [(3, .int (nI (k43 + 1))), (2, .int (nI (fa (fa 1 (fun i => decide (T 5 i ≠ k2)) 4) (fun i => decide (T 14 i ≠ k2 + 1)) k43))), (0, .ref (q 0)), (1, .int (nI (k2)))]) X.1 X.2.1 dX7_freeBytes_67 hl (k := 3) rfl (nI_1 _) (by decide) rfl (fun ls hl => ?_)
                refine lv_goto (tgt := 43) X.1 X.2.1 dX7_freeBytes_70 (by decide) ?_
                exact ih43 (k43 + 1) (by omega) _ _ (hW.eq (rfl) (rfl) rfl) ls (by have h9 := lv_sub hl [2, 3, 1, 0] rfl; rw [hfa]; exact h9)
          exact loop43 ((6) - (0)) (0) (by omega) _ _ (hW.eq (rfl) (rfl) rfl) ls (lv_sub hl [1, 2, 3, 0] rfl)
        | succ n12 ih12 =>
          intro k12 hk12  H locs hW ls hl
          have I9 := I.br (show k12 < 4 by omega)
          have F9 := fa_le (Nat.le_refl 1) (fun i => decide (T 5 i ≠ k2)) k12
          refine lv_iload_n X.1 X.2.1 dX7_freeBytes_12 rfl (lv_at hl 3 rfl) ?_
          refine lv_iconst (v := nI 4) X.1 X.2.1 dX7_freeBytes_13 (by decide) ?_
          refine n_icmp_ge_f (tgt := 41) X.1 X.2.1 dX7_freeBytes_14 (by decide) (by omega) (by omega) (by omega) ?_
          rcases Decidable.em (T 5 k12 = k2) with hs | hs
          · have hfa : fa 1 (fun i => decide (T 5 i ≠ k2)) (k12 + 1) = 0 := if_neg (by simp [hs])
            refine lv_iload_n X.1 X.2.1 dX7_freeBytes_17 rfl (lv_at hl 2 rfl) ?_
            refine lv_aload_n X.1 X.2.1 dX7_freeBytes_18 rfl (lv_at hl 0 rfl) ?_
            refine mget 5 (by decide) rfl X hin hW (X.2.2.2.2 (.fieldLink RX7 25 "StrandbookModel" "byteRooms" "[I") (List.mem_cons_of_mem _ (List.mem_append_left _ (List.mem_append_left _ (List.mem_of_getElem? (i := 0) rfl))))) dX7_freeBytes_19 ?_
            refine lv_iload_n X.1 X.2.1 dX7_freeBytes_22 rfl (lv_at hl 3 rfl) ?_
            refine mld5 X hW (by omega) dX7_freeBytes_23 ?_
            refine lv_iload_n X.1 X.2.1 dX7_freeBytes_24 rfl (lv_at hl 1 rfl) ?_
            refine n_icmp_eq_t (tgt := 32) X.1 X.2.1 dX7_freeBytes_25 (by decide) (hs) (by omega) (by omega) ?_
            refine lv_iconst (v := nI 0) X.1 X.2.1 dX7_freeBytes_32 (by decide) ?_
            refine lv_iand X.1 X.2.1 dX7_freeBytes_33 ?_
            refine n_cv (y := nI (0)) (nI_and0 _ (by omega)) ?_
            refine lv_istore_n (lv' := [(2, .int (nI (0))), (0, .ref (q 0)), (1, .int (nI (k2))), (3, .int (nI (k12)))]) X.1 X.2.1 dX7_freeBytes_34 rfl hl (by decide) rfl (fun ls hl => ?_)
            refine lv_iinc (v := nI (k12 + 1)) (lv' := [(3, .int (nI (k12 + 1))), (2, .int (nI (0))), (0, .ref (q 0)), (1, .int (nI (k2)))]) X.1 X.2.1 dX7_freeBytes_35 hl (k := 3) rfl (nI_1 _) (by decide) rfl (fun ls hl => ?_)
            refine lv_goto (tgt := 12) X.1 X.2.1 dX7_freeBytes_38 (by decide) ?_
            exact ih12 (k12 + 1) (by omega) _ _ (hW.eq (rfl) (rfl) rfl) ls (by have h9 := lv_sub hl [2, 3, 1, 0] rfl; rw [hfa]; exact h9)
          · have hfa : fa 1 (fun i => decide (T 5 i ≠ k2)) (k12 + 1) = fa 1 (fun i => decide (T 5 i ≠ k2)) k12 := if_pos (by simpa using hs)
            refine lv_iload_n X.1 X.2.1 dX7_freeBytes_17 rfl (lv_at hl 2 rfl) ?_
            refine lv_aload_n X.1 X.2.1 dX7_freeBytes_18 rfl (lv_at hl 0 rfl) ?_
            refine mget 5 (by decide) rfl X hin hW (X.2.2.2.2 (.fieldLink RX7 25 "StrandbookModel" "byteRooms" "[I") (List.mem_cons_of_mem _ (List.mem_append_left _ (List.mem_append_left _ (List.mem_of_getElem? (i := 0) rfl))))) dX7_freeBytes_19 ?_
            refine lv_iload_n X.1 X.2.1 dX7_freeBytes_22 rfl (lv_at hl 3 rfl) ?_
            refine mld5 X hW (by omega) dX7_freeBytes_23 ?_
            refine lv_iload_n X.1 X.2.1 dX7_freeBytes_24 rfl (lv_at hl 1 rfl) ?_
            refine n_icmp_eq_f (tgt := 32) X.1 X.2.1 dX7_freeBytes_25 (by decide) (hs) (by omega) (by omega) ?_
            refine lv_iconst (v := nI 1) X.1 X.2.1 dX7_freeBytes_28 (by decide) ?_
            refine lv_goto (tgt := 33) X.1 X.2.1 dX7_freeBytes_29 (by decide) ?_
            refine lv_iand X.1 X.2.1 dX7_freeBytes_33 ?_
            refine n_cv (y := nI (fa 1 (fun i => decide (T 5 i ≠ k2)) k12)) (nI_and1 (by omega)) ?_
            refine lv_istore_n (lv' := [(2, .int (nI (fa 1 (fun i => decide (T 5 i ≠ k2)) k12))), (0, .ref (q 0)), (1, .int (nI (k2))), (3, .int (nI (k12)))]) X.1 X.2.1 dX7_freeBytes_34 rfl hl (by decide) rfl (fun ls hl => ?_)
            refine lv_iinc (v := nI (k12 + 1)) (lv' := [(3, .int (nI (k12 + 1))), (2, .int (nI (fa 1 (fun i => decide (T 5 i ≠ k2)) k12))), (0, .ref (q 0)), (1, .int (nI (k2)))]) X.1 X.2.1 dX7_freeBytes_35 hl (k := 3) rfl (nI_1 _) (by decide) rfl (fun ls hl => ?_)
            refine lv_goto (tgt := 12) X.1 X.2.1 dX7_freeBytes_38 (by decide) ?_
            exact ih12 (k12 + 1) (by omega) _ _ (hW.eq (rfl) (rfl) rfl) ls (by have h9 := lv_sub hl [2, 3, 1, 0] rfl; rw [hfa]; exact h9)
      exact loop12 ((4) - (0)) (0) (by omega) _ _ (hW.eq (rfl) (rfl) rfl) ls (lv_sub hl [2, 3, 1, 0] rfl)
  exact loop2 ((11) - (0)) (0) (by omega) (fun z hz => absurd hz (Nat.not_lt_zero z)) _ _ (hW.eq (rfl) (rfl) rfl) ls (lv_sub hl [1, 0] rfl)

set_option maxHeartbeats 4000000 in
set_option maxRecDepth 100000 in
theorem mt_becomes (l : Launch) {G : va_G} {cI cZ : ClassId} {q : Nat → Nat} (hq : mJ q) (T : mT) (D : mD) (th : Int32) (I : mI T) {r n : Nat} (hr : r < 4) (hn : n ≤ 256) : mMv l yX7_becomes wsX7_becomes ({ frames := 1, cells := 0, slots := 0, locals := 23 } : Room) G cI cZ q [.int (nI (r)), .int (nI (n))] (T) (D) (th) (beT T r n) (beD T D n) (th) := by
  refine mstartv (cc := cX7_becomes) (maxL := 5) (ret := none) (by decide) rfl rfl rfl (Nat.le_of_ble_eq_true rfl) (fun p e s m args below meth c Q hE X hW ls hl => ?_)
  have hl : lv_has ls 5 [(0, .ref (q 0)), (1, .int (nI (r))), (2, .int (nI (n)))] := hl
  have hin : ∀ w ∈ wsX70, w ∈ wsX7_becomes := fun w h => List.mem_cons_of_mem _ (List.mem_append_left _ (List.mem_append_right _ (h)))
  have F := (fS_ok T).1
  refine lv_aload_n X.1 X.2.1 dX7_becomes_0 rfl (lv_at hl 0 rfl) ?_
  refine mcalli hq X hW (mt_freeSigns l hq (T) (D) (th) I) (cwV 0 X.2.2.2.2 gX7_becomes_X7_freeSigns rfl rfl rfl (by decide +kernel) ⟨Nat.le_of_ble_eq_true rfl, Nat.le_of_ble_eq_true rfl⟩) rfl rfl hl.1 (Nat.le_of_ble_eq_true rfl) dX7_becomes_1 ⟨Nat.zero_le _, Nat.zero_le _⟩ (fun H locs hW => ?_)
  refine lv_istore_n (lv' := [(3, .int (nI (fS T))), (0, .ref (q 0)), (1, .int (nI (r))), (2, .int (nI (n)))]) X.1 X.2.1 dX7_becomes_4 rfl hl (by decide) rfl (fun ls hl => ?_)
  refine lv_iconst (v := nI 0) X.1 X.2.1 dX7_becomes_5 (by decide) ?_
  refine lv_istore (lv' := [(4, .int (nI (0))), (3, .int (nI (fS T))), (0, .ref (q 0)), (1, .int (nI (r))), (2, .int (nI (n)))]) X.1 X.2.1 dX7_becomes_6 hl (by decide) rfl (fun ls hl => ?_)
  have loop8 : ∀ (n8 k8 : Nat), k8 + n8 = n → ∀ (H : Heap) (locs : List Loc), mH G cI cZ q (T) (cpF D 0 (256 * fS T) (fun k => D 19 k) k8) (th) s H locs → ∀ ls : Array Slot, lv_has ls 5 [(0, .ref (q 0)), (1, .int (nI (r))), (2, .int (nI (n))), (3, .int (nI (fS T))), (4, .int (nI (k8)))] → W p l e ({ frames := 1, cells := 0, slots := 0, locals := 23 } : Room) s m args below meth c H locs 0 0 Q (F0 m 8 ls []) := by
    intro n8
    induction n8 with
    | zero =>
      intro k8 hk8  H locs hW ls hl
      obtain rfl : n = k8 := by omega
      refine lv_iload X.1 X.2.1 dX7_becomes_8 (lv_at hl 4 rfl) ?_
      refine lv_iload_n X.1 X.2.1 dX7_becomes_10 rfl (lv_at hl 2 rfl) ?_
      refine n_icmp_ge_t (tgt := 40) X.1 X.2.1 dX7_becomes_11 (by decide) (by omega) (by omega) (by omega) ?_
      refine lv_aload_n X.1 X.2.1 dX7_becomes_40 rfl (lv_at hl 0 rfl) ?_
      refine mget 1 (by decide) rfl X hin hW (X.2.2.2.2 (.fieldLink RX7 13 "StrandbookModel" "signLengths" "[I") (List.mem_cons_of_mem _ (List.mem_append_left _ (List.mem_append_left _ (List.mem_of_getElem? (i := 2) rfl))))) dX7_becomes_41 ?_
      refine lv_iload_n X.1 X.2.1 dX7_becomes_44 rfl (lv_at hl 3 rfl) ?_
      refine lv_iload_n X.1 X.2.1 dX7_becomes_45 rfl (lv_at hl 2 rfl) ?_
      refine mst1 hq X hW (by omega) dX7_becomes_46 (fun H locs hW => ?_)
      refine lv_aload_n X.1 X.2.1 dX7_becomes_47 rfl (lv_at hl 0 rfl) ?_
      refine mget 2 (by decide) rfl X hin hW (X.2.2.2.2 (.fieldLink RX7 16 "StrandbookModel" "signRooms" "[I") (List.mem_cons_of_mem _ (List.mem_append_left _ (List.mem_append_left _ (List.mem_of_getElem? (i := 3) rfl))))) dX7_becomes_48 ?_
      refine lv_iload_n X.1 X.2.1 dX7_becomes_51 rfl (lv_at hl 1 rfl) ?_
      refine lv_iload_n X.1 X.2.1 dX7_becomes_52 rfl (lv_at hl 3 rfl) ?_
      refine mst2 hq X hW (by omega) dX7_becomes_53 (fun H locs hW => ?_)
      exact hE _ _ _ _ hW dX7_becomes_54
    | succ n8 ih8 =>
      intro k8 hk8  H locs hW ls hl
      refine lv_iload X.1 X.2.1 dX7_becomes_8 (lv_at hl 4 rfl) ?_
      refine lv_iload_n X.1 X.2.1 dX7_becomes_10 rfl (lv_at hl 2 rfl) ?_
      refine n_icmp_ge_f (tgt := 40) X.1 X.2.1 dX7_becomes_11 (by decide) (by omega) (by omega) (by omega) ?_
      refine lv_aload_n X.1 X.2.1 dX7_becomes_14 rfl (lv_at hl 0 rfl) ?_
      refine mget 0 (by decide) rfl X hin hW (X.2.2.2.2 (.fieldLink RX7 7 "StrandbookModel" "signs" "[I") (List.mem_cons_of_mem _ (List.mem_append_left _ (List.mem_append_left _ (List.mem_of_getElem? (i := 0) rfl))))) dX7_becomes_15 ?_
      refine lv_sipush (v := nI 256) X.1 X.2.1 dX7_becomes_18 (by decide) ?_
      refine lv_iload_n X.1 X.2.1 dX7_becomes_21 rfl (lv_at hl 3 rfl) ?_
      refine n_imul X.1 X.2.1 dX7_becomes_22 ?_
      refine lv_iload X.1 X.2.1 dX7_becomes_23 (lv_at hl 4 rfl) ?_
      refine n_iadd X.1 X.2.1 dX7_becomes_25 ?_
      refine lv_aload_n X.1 X.2.1 dX7_becomes_26 rfl (lv_at hl 0 rfl) ?_
      refine mget 19 (by decide) rfl X hin hW (X.2.2.2.2 (.fieldLink RX7 68 "StrandbookModel" "kept" "[I") (List.mem_cons_of_mem _ (List.mem_append_left _ (List.mem_append_left _ (List.mem_of_getElem? (i := 1) rfl))))) dX7_becomes_27 ?_
      refine lv_iload X.1 X.2.1 dX7_becomes_30 (lv_at hl 4 rfl) ?_
      refine mld19 X hW (by omega) dX7_becomes_32 ?_
      refine mst0 hq X hW (by omega) dX7_becomes_33 (fun H locs hW => ?_)
      refine lv_iinc (v := nI (k8 + 1)) (lv' := [(4, .int (nI (k8 + 1))), (0, .ref (q 0)), (1, .int (nI (r))), (2, .int (nI (n))), (3, .int (nI (fS T)))]) X.1 X.2.1 dX7_becomes_34 hl (k := 4) rfl (nI_1 _) (by decide) rfl (fun ls hl => ?_)
      refine lv_goto (tgt := 8) X.1 X.2.1 dX7_becomes_37 (by decide) ?_
      exact ih8 (k8 + 1) (by omega) _ _ (hW.eq (rfl) (cpF_S' rfl (congrFun (cpF_ne (by decide)) _)) rfl) ls (lv_sub hl [1, 2, 3, 4, 0] rfl)
  exact loop8 ((n) - (0)) (0) (by omega) _ _ (hW.eq (rfl) (cpF_0.symm) rfl) ls (lv_sub hl [2, 3, 4, 1, 0] rfl)

set_option maxHeartbeats 4000000 in
set_option maxRecDepth 100000 in
theorem mt_make_1 (l : Launch) {G : va_G} {cI cZ : ClassId} {q : Nat → Nat} (hq : mJ q) (T : mT) (D : mD) (th : Int32) {row len : Int32} (h : oN row 4) : mMi l yX7_make wsX7_make ({ frames := 2, cells := 0, slots := 0, locals := 47 } : Room) G cI cZ q [.int (row), .int (len)] (T) (D) (th) (nI 0) (T) (D) (nI 1) := by
  refine mstarti (cc := cX7_make) (maxL := 5) (ret := (some .int)) (by decide) rfl rfl ⟨_, rfl⟩ (Nat.le_of_ble_eq_true rfl) (fun p e s m args below meth c Q hE X hW ls hl => ?_)
  have hl : lv_has ls 5 [(0, .ref (q 0)), (1, .int (row)), (2, .int (len))] := hl
  have hin : ∀ w ∈ wsX70, w ∈ wsX7_make := fun w h => List.mem_cons_of_mem _ (List.mem_append_left _ (List.mem_append_right _ (h)))
  refine lv_aload_n X.1 X.2.1 dX7_make_0 rfl (lv_at hl 0 rfl) ?_
  refine lv_aload_n X.1 X.2.1 dX7_make_1 rfl (lv_at hl 0 rfl) ?_
  refine lv_iload_n X.1 X.2.1 dX7_make_2 rfl (lv_at hl 1 rfl) ?_
  refine mcalli hq X hW (mt_isRow_bad l hq (T) (D) (th) (x := row) (h)) (cwV 1 X.2.2.2.2 gX7_make_X7_isRow rfl rfl rfl (by decide +kernel) ⟨Nat.le_of_ble_eq_true rfl, Nat.le_of_ble_eq_true rfl⟩) rfl rfl hl.1 (Nat.le_of_ble_eq_true rfl) dX7_make_3 ⟨Nat.zero_le _, Nat.zero_le _⟩ (fun H locs hW => ?_)
  refine n_if_ne_f (tgt := 13) X.1 X.2.1 dX7_make_6 (by decide) (by decide) (by omega) ?_
  refine lv_iconst (v := nI 1) X.1 X.2.1 dX7_make_9 (by decide) ?_
  refine lv_goto (tgt := 29) X.1 X.2.1 dX7_make_10 (by decide) ?_
  refine mcalli hq X hW (mt_isWrong_s l hq (T) (D) (th) (n := 1) (by decide) (by decide)) (cwV 1 X.2.2.2.2 gX7_make_X7_isWrong rfl rfl rfl (by decide +kernel) ⟨Nat.le_of_ble_eq_true rfl, Nat.le_of_ble_eq_true rfl⟩) rfl rfl hl.1 (Nat.le_of_ble_eq_true rfl) dX7_make_29 ⟨Nat.zero_le _, Nat.zero_le _⟩ (fun H locs hW => ?_)
  refine n_if_eq_f (tgt := 37) X.1 X.2.1 dX7_make_32 (by decide) (by decide) (by omega) ?_
  refine lv_iconst (v := nI 0) X.1 X.2.1 dX7_make_35 (by decide) ?_
  exact hE _ _ _ _ _ (rfl) (fun ty hty => by cases hty; exact rfl) hW dX7_make_36

set_option maxHeartbeats 4000000 in
set_option maxRecDepth 100000 in
theorem mt_make_2a (l : Launch) {G : va_G} {cI cZ : ClassId} {q : Nat → Nat} (hq : mJ q) (T : mT) (D : mD) (th : Int32) {r : Nat} {len : Int32} (hr : r < 4) (h : len < 0) : mMi l yX7_make wsX7_make ({ frames := 2, cells := 0, slots := 0, locals := 47 } : Room) G cI cZ q [.int (nI (r)), .int (len)] (T) (D) (th) (nI 0) (T) (D) (nI 2) := by
  refine mstarti (cc := cX7_make) (maxL := 5) (ret := (some .int)) (by decide) rfl rfl ⟨_, rfl⟩ (Nat.le_of_ble_eq_true rfl) (fun p e s m args below meth c Q hE X hW ls hl => ?_)
  have hl : lv_has ls 5 [(0, .ref (q 0)), (1, .int (nI (r))), (2, .int (len))] := hl
  have hin : ∀ w ∈ wsX70, w ∈ wsX7_make := fun w h => List.mem_cons_of_mem _ (List.mem_append_left _ (List.mem_append_right _ (h)))
  refine lv_aload_n X.1 X.2.1 dX7_make_0 rfl (lv_at hl 0 rfl) ?_
  refine lv_aload_n X.1 X.2.1 dX7_make_1 rfl (lv_at hl 0 rfl) ?_
  refine lv_iload_n X.1 X.2.1 dX7_make_2 rfl (lv_at hl 1 rfl) ?_
  refine mcalli hq X hW (mt_isRow_ok l hq (T) (D) (th) (r := r) (by omega)) (cwV 1 X.2.2.2.2 gX7_make_X7_isRow rfl rfl rfl (by decide +kernel) ⟨Nat.le_of_ble_eq_true rfl, Nat.le_of_ble_eq_true rfl⟩) rfl rfl hl.1 (Nat.le_of_ble_eq_true rfl) dX7_make_3 ⟨Nat.zero_le _, Nat.zero_le _⟩ (fun H locs hW => ?_)
  refine n_if_ne_t (tgt := 13) X.1 X.2.1 dX7_make_6 (by decide) (by decide) (by omega) ?_
  refine lv_iload_n X.1 X.2.1 dX7_make_13 rfl (lv_at hl 2 rfl) ?_
  refine x_if_lt_t (tgt := 24) X.1 X.2.1 dX7_make_14 (by decide) (h) ?_
  refine lv_iconst (v := nI 2) X.1 X.2.1 dX7_make_24 (by decide) ?_
  refine lv_goto (tgt := 29) X.1 X.2.1 dX7_make_25 (by decide) ?_
  refine mcalli hq X hW (mt_isWrong_s l hq (T) (D) (th) (n := 2) (by decide) (by decide)) (cwV 1 X.2.2.2.2 gX7_make_X7_isWrong rfl rfl rfl (by decide +kernel) ⟨Nat.le_of_ble_eq_true rfl, Nat.le_of_ble_eq_true rfl⟩) rfl rfl hl.1 (Nat.le_of_ble_eq_true rfl) dX7_make_29 ⟨Nat.zero_le _, Nat.zero_le _⟩ (fun H locs hW => ?_)
  refine n_if_eq_f (tgt := 37) X.1 X.2.1 dX7_make_32 (by decide) (by decide) (by omega) ?_
  refine lv_iconst (v := nI 0) X.1 X.2.1 dX7_make_35 (by decide) ?_
  exact hE _ _ _ _ _ (rfl) (fun ty hty => by cases hty; exact rfl) hW dX7_make_36

set_option maxHeartbeats 4000000 in
set_option maxRecDepth 100000 in
theorem mt_make_2b (l : Launch) {G : va_G} {cI cZ : ClassId} {q : Nat → Nat} (hq : mJ q) (T : mT) (D : mD) (th : Int32) {r n : Nat} (hr : r < 4) (hn : n < 2 ^ 31) (h : 257 ≤ n) : mMi l yX7_make wsX7_make ({ frames := 2, cells := 0, slots := 0, locals := 47 } : Room) G cI cZ q [.int (nI (r)), .int (nI (n))] (T) (D) (th) (nI 0) (T) (D) (nI 2) := by
  refine mstarti (cc := cX7_make) (maxL := 5) (ret := (some .int)) (by decide) rfl rfl ⟨_, rfl⟩ (Nat.le_of_ble_eq_true rfl) (fun p e s m args below meth c Q hE X hW ls hl => ?_)
  have hl : lv_has ls 5 [(0, .ref (q 0)), (1, .int (nI (r))), (2, .int (nI (n)))] := hl
  have hin : ∀ w ∈ wsX70, w ∈ wsX7_make := fun w h => List.mem_cons_of_mem _ (List.mem_append_left _ (List.mem_append_right _ (h)))
  refine lv_aload_n X.1 X.2.1 dX7_make_0 rfl (lv_at hl 0 rfl) ?_
  refine lv_aload_n X.1 X.2.1 dX7_make_1 rfl (lv_at hl 0 rfl) ?_
  refine lv_iload_n X.1 X.2.1 dX7_make_2 rfl (lv_at hl 1 rfl) ?_
  refine mcalli hq X hW (mt_isRow_ok l hq (T) (D) (th) (r := r) (by omega)) (cwV 1 X.2.2.2.2 gX7_make_X7_isRow rfl rfl rfl (by decide +kernel) ⟨Nat.le_of_ble_eq_true rfl, Nat.le_of_ble_eq_true rfl⟩) rfl rfl hl.1 (Nat.le_of_ble_eq_true rfl) dX7_make_3 ⟨Nat.zero_le _, Nat.zero_le _⟩ (fun H locs hW => ?_)
  refine n_if_ne_t (tgt := 13) X.1 X.2.1 dX7_make_6 (by decide) (by decide) (by omega) ?_
  refine lv_iload_n X.1 X.2.1 dX7_make_13 rfl (lv_at hl 2 rfl) ?_
  refine n_if_lt_f (tgt := 24) X.1 X.2.1 dX7_make_14 (by decide) (by omega) ?_
  refine lv_iload_n X.1 X.2.1 dX7_make_17 rfl (lv_at hl 2 rfl) ?_
  refine lv_sipush (v := nI 256) X.1 X.2.1 dX7_make_18 (by decide) ?_
  refine n_icmp_le_f (tgt := 28) X.1 X.2.1 dX7_make_21 (by decide) (by omega) (by omega) (by omega) ?_
  refine lv_iconst (v := nI 2) X.1 X.2.1 dX7_make_24 (by decide) ?_
  refine lv_goto (tgt := 29) X.1 X.2.1 dX7_make_25 (by decide) ?_
  refine mcalli hq X hW (mt_isWrong_s l hq (T) (D) (th) (n := 2) (by decide) (by decide)) (cwV 1 X.2.2.2.2 gX7_make_X7_isWrong rfl rfl rfl (by decide +kernel) ⟨Nat.le_of_ble_eq_true rfl, Nat.le_of_ble_eq_true rfl⟩) rfl rfl hl.1 (Nat.le_of_ble_eq_true rfl) dX7_make_29 ⟨Nat.zero_le _, Nat.zero_le _⟩ (fun H locs hW => ?_)
  refine n_if_eq_f (tgt := 37) X.1 X.2.1 dX7_make_32 (by decide) (by decide) (by omega) ?_
  refine lv_iconst (v := nI 0) X.1 X.2.1 dX7_make_35 (by decide) ?_
  exact hE _ _ _ _ _ (rfl) (fun ty hty => by cases hty; exact rfl) hW dX7_make_36

set_option maxHeartbeats 4000000 in
set_option maxRecDepth 100000 in
theorem mt_make (l : Launch) {G : va_G} {cI cZ : ClassId} {q : Nat → Nat} (hq : mJ q) (T : mT) (D : mD) (th : Int32) (I : mI T) {r n : Nat} (hr : r < 4) (hn : n < 257) : mMi l yX7_make wsX7_make ({ frames := 2, cells := 0, slots := 0, locals := 47 } : Room) G cI cZ q [.int (nI (r)), .int (nI (n))] (T) (D) (th) (nI (T 1 (T 2 r))) (beT T r n) (beD T (cpF D 19 0 (fun _ => nI 0) n) n) (nI 0) := by
  refine mstarti (cc := cX7_make) (maxL := 5) (ret := (some .int)) (by decide) rfl rfl ⟨_, rfl⟩ (Nat.le_of_ble_eq_true rfl) (fun p e s m args below meth c Q hE X hW ls hl => ?_)
  have hl : lv_has ls 5 [(0, .ref (q 0)), (1, .int (nI (r))), (2, .int (nI (n)))] := hl
  have hin : ∀ w ∈ wsX70, w ∈ wsX7_make := fun w h => List.mem_cons_of_mem _ (List.mem_append_left _ (List.mem_append_right _ (h)))
  refine lv_aload_n X.1 X.2.1 dX7_make_0 rfl (lv_at hl 0 rfl) ?_
  refine lv_aload_n X.1 X.2.1 dX7_make_1 rfl (lv_at hl 0 rfl) ?_
  refine lv_iload_n X.1 X.2.1 dX7_make_2 rfl (lv_at hl 1 rfl) ?_
  refine mcalli hq X hW (mt_isRow_ok l hq (T) (D) (th) (r := r) (by omega)) (cwV 1 X.2.2.2.2 gX7_make_X7_isRow rfl rfl rfl (by decide +kernel) ⟨Nat.le_of_ble_eq_true rfl, Nat.le_of_ble_eq_true rfl⟩) rfl rfl hl.1 (Nat.le_of_ble_eq_true rfl) dX7_make_3 ⟨Nat.zero_le _, Nat.zero_le _⟩ (fun H locs hW => ?_)
  refine n_if_ne_t (tgt := 13) X.1 X.2.1 dX7_make_6 (by decide) (by decide) (by omega) ?_
  refine lv_iload_n X.1 X.2.1 dX7_make_13 rfl (lv_at hl 2 rfl) ?_
  refine n_if_lt_f (tgt := 24) X.1 X.2.1 dX7_make_14 (by decide) (by omega) ?_
  refine lv_iload_n X.1 X.2.1 dX7_make_17 rfl (lv_at hl 2 rfl) ?_
  refine lv_sipush (v := nI 256) X.1 X.2.1 dX7_make_18 (by decide) ?_
  refine n_icmp_le_t (tgt := 28) X.1 X.2.1 dX7_make_21 (by decide) (by omega) (by omega) (by omega) ?_
  refine lv_iconst (v := nI 0) X.1 X.2.1 dX7_make_28 (by decide) ?_
  refine mcalli hq X hW (mt_isWrong_0 l hq (T) (D) (th)) (cwV 1 X.2.2.2.2 gX7_make_X7_isWrong rfl rfl rfl (by decide +kernel) ⟨Nat.le_of_ble_eq_true rfl, Nat.le_of_ble_eq_true rfl⟩) rfl rfl hl.1 (Nat.le_of_ble_eq_true rfl) dX7_make_29 ⟨Nat.zero_le _, Nat.zero_le _⟩ (fun H locs hW => ?_)
  refine n_if_eq_t (tgt := 37) X.1 X.2.1 dX7_make_32 (by decide) (by decide) (by omega) ?_
  refine lv_aload_n X.1 X.2.1 dX7_make_37 rfl (lv_at hl 0 rfl) ?_
  refine lv_iload_n X.1 X.2.1 dX7_make_38 rfl (lv_at hl 1 rfl) ?_
  refine mcalli hq X hW (mt_signLength l hq (T) (D) (nI 0) I (r := r) (by omega)) (cwV 1 X.2.2.2.2 gX7_make_X7_signLength rfl rfl rfl (by decide +kernel) ⟨Nat.le_of_ble_eq_true rfl, Nat.le_of_ble_eq_true rfl⟩) rfl rfl hl.1 (Nat.le_of_ble_eq_true rfl) dX7_make_39 ⟨Nat.zero_le _, Nat.zero_le _⟩ (fun H locs hW => ?_)
  refine lv_istore_n (lv' := [(3, .int (nI (T 1 (T 2 r)))), (0, .ref (q 0)), (1, .int (nI (r))), (2, .int (nI (n)))]) X.1 X.2.1 dX7_make_42 rfl hl (by decide) rfl (fun ls hl => ?_)
  refine lv_iconst (v := nI 0) X.1 X.2.1 dX7_make_43 (by decide) ?_
  refine lv_istore (lv' := [(4, .int (nI (0))), (3, .int (nI (T 1 (T 2 r)))), (0, .ref (q 0)), (1, .int (nI (r))), (2, .int (nI (n)))]) X.1 X.2.1 dX7_make_44 hl (by decide) rfl (fun ls hl => ?_)
  have loop46 : ∀ (n46 k46 : Nat), k46 + n46 = n → ∀ (H : Heap) (locs : List Loc), mH G cI cZ q (T) (cpF D 19 0 (fun _ => nI 0) k46) (nI 0) s H locs → ∀ ls : Array Slot, lv_has ls 5 [(0, .ref (q 0)), (1, .int (nI (r))), (2, .int (nI (n))), (3, .int (nI (T 1 (T 2 r)))), (4, .int (nI (k46)))] → W p l e ({ frames := 2, cells := 0, slots := 0, locals := 47 } : Room) s m args below meth c H locs 0 0 Q (F0 m 46 ls []) := by
    intro n46
    induction n46 with
    | zero =>
      intro k46 hk46  H locs hW ls hl
      obtain rfl : n = k46 := by omega
      refine lv_iload X.1 X.2.1 dX7_make_46 (lv_at hl 4 rfl) ?_
      refine lv_iload_n X.1 X.2.1 dX7_make_48 rfl (lv_at hl 2 rfl) ?_
      refine n_icmp_ge_t (tgt := 66) X.1 X.2.1 dX7_make_49 (by decide) (by omega) (by omega) (by omega) ?_
      refine lv_aload_n X.1 X.2.1 dX7_make_66 rfl (lv_at hl 0 rfl) ?_
      refine lv_iload_n X.1 X.2.1 dX7_make_67 rfl (lv_at hl 1 rfl) ?_
      refine lv_iload_n X.1 X.2.1 dX7_make_68 rfl (lv_at hl 2 rfl) ?_
      refine mcallv hq X hW (mt_becomes l hq (T) (cpF D 19 0 (fun _ => nI 0) n) (nI 0) I (r := r) (n := n) (by omega) (by omega)) (cwV 2 X.2.2.2.2 gX7_make_X7_becomes rfl rfl rfl (by decide +kernel) ⟨Nat.le_of_ble_eq_true rfl, Nat.le_of_ble_eq_true rfl⟩) rfl rfl hl.1 (Nat.le_of_ble_eq_true rfl) dX7_make_69 ⟨Nat.zero_le _, Nat.zero_le _⟩ (fun H locs hW => ?_)
      refine lv_iload_n X.1 X.2.1 dX7_make_72 rfl (lv_at hl 3 rfl) ?_
      exact hE _ _ _ _ _ (rfl) (fun ty hty => by cases hty; exact rfl) hW dX7_make_73
    | succ n46 ih46 =>
      intro k46 hk46  H locs hW ls hl
      refine lv_iload X.1 X.2.1 dX7_make_46 (lv_at hl 4 rfl) ?_
      refine lv_iload_n X.1 X.2.1 dX7_make_48 rfl (lv_at hl 2 rfl) ?_
      refine n_icmp_ge_f (tgt := 66) X.1 X.2.1 dX7_make_49 (by decide) (by omega) (by omega) (by omega) ?_
      refine lv_aload_n X.1 X.2.1 dX7_make_52 rfl (lv_at hl 0 rfl) ?_
      refine mget 19 (by decide) rfl X hin hW (X.2.2.2.2 (.fieldLink RX7 68 "StrandbookModel" "kept" "[I") (List.mem_cons_of_mem _ (List.mem_append_left _ (List.mem_append_left _ (List.mem_append_left _ (List.mem_of_getElem? (i := 0) rfl)))))) dX7_make_53 ?_
      refine lv_iload X.1 X.2.1 dX7_make_56 (lv_at hl 4 rfl) ?_
      refine lv_iconst (v := nI 0) X.1 X.2.1 dX7_make_58 (by decide) ?_
      refine mst19 hq X hW (by omega) dX7_make_59 (fun H locs hW => ?_)
      refine lv_iinc (v := nI (k46 + 1)) (lv' := [(4, .int (nI (k46 + 1))), (0, .ref (q 0)), (1, .int (nI (r))), (2, .int (nI (n))), (3, .int (nI (T 1 (T 2 r))))]) X.1 X.2.1 dX7_make_60 hl (k := 4) rfl (nI_1 _) (by decide) rfl (fun ls hl => ?_)
      refine lv_goto (tgt := 46) X.1 X.2.1 dX7_make_63 (by decide) ?_
      exact ih46 (k46 + 1) (by omega) _ _ (hW.eq (rfl) (cpF_S' (by omega) rfl) rfl) ls (lv_sub hl [1, 2, 3, 4, 0] rfl)
  exact loop46 ((n) - (0)) (0) (by omega) _ _ (hW.eq (rfl) (cpF_0.symm) rfl) ls (lv_sub hl [2, 3, 4, 1, 0] rfl)

theorem mo_make (l : Launch) {G : va_G} {cI cZ : ClassId} {q : Nat → Nat} (hq : mJ q) (T : mT) (D : mD) (th : Int32) (I : mI T) (J : mJD D) (row len : Int32) : mO l yX7_make wsX7_make ({ frames := 2, cells := 0, slots := 0, locals := 47 } : Room) G cI cZ q [.int row, .int len] T D th (sp_make T D row len) := by
  by_cases h1 : oN row 4
  · rw [show sp_make T D row len = no T D 1 from if_pos h1]; exact mt_make_1 l hq T D th h1
  · obtain ⟨r, hr, rfl⟩ := oN_in (by decide) h1
    by_cases h2 : oN len 257
    · rw [show sp_make T D (nI r) len = no T D 2 from (if_neg h1).trans (if_pos h2)]
      by_cases h3 : len < 0
      · exact mt_make_2a l hq T D th hr h3
      · obtain ⟨n, g1, g2, rfl⟩ := oN_ge h2 h3
        exact mt_make_2b l hq T D th hr g1 g2
    · obtain ⟨n, hn, rfl⟩ := oN_in (by decide) h2
      rw [show sp_make T D (nI r) (nI n) = sk_make T D r n from (if_neg h1).trans ((if_neg h2).trans (by rw [nI_clamp (by omega), nI_clamp (by omega)]))]
      exact mt_make l hq T D th I hr hn

theorem oP1 {len : Nat} {f : Int32} (h : oN f len) : oP len f (nI 1) := by
  rcases h with h | h
  · exact Or.inl h
  · exact Or.inr (Or.inr (by rw [nI_clamp (by decide)]; omega))

set_option maxHeartbeats 4000000 in
set_option maxRecDepth 100000 in
theorem mt_put_1 (l : Launch) {G : va_G} {cI cZ : ClassId} {q : Nat → Nat} (hq : mJ q) (T : mT) (D : mD) (th : Int32) {row f : Int32} {x : Int32} (h : oN row 4) : mMi l yX7_put wsX7_put ({ frames := 2, cells := 0, slots := 0, locals := 44 } : Room) G cI cZ q [.int (row), .int (f), .int (x)] (T) (D) (th) (nI 0) (T) (D) (nI 1) := by
  refine mstarti (cc := cX7_put) (maxL := 6) (ret := (some .char)) (by decide) rfl rfl ⟨_, rfl⟩ (Nat.le_of_ble_eq_true rfl) (fun p e s m args below meth c Q hE X hW ls hl => ?_)
  have hl : lv_has ls 6 [(0, .ref (q 0)), (1, .int (row)), (2, .int (f)), (3, .int (x))] := hl
  have hin : ∀ w ∈ wsX70, w ∈ wsX7_put := fun w h => List.mem_cons_of_mem _ (List.mem_append_left _ (List.mem_append_right _ (h)))
  refine lv_aload_n X.1 X.2.1 dX7_put_0 rfl (lv_at hl 0 rfl) ?_
  refine lv_aload_n X.1 X.2.1 dX7_put_1 rfl (lv_at hl 0 rfl) ?_
  refine lv_iload_n X.1 X.2.1 dX7_put_2 rfl (lv_at hl 1 rfl) ?_
  refine lv_iload_n X.1 X.2.1 dX7_put_3 rfl (lv_at hl 2 rfl) ?_
  refine lv_iconst (v := nI 1) X.1 X.2.1 dX7_put_4 (by decide) ?_
  refine mcalli hq X hW (mt_isPart_b0 l hq (T) (D) (th) (x := row) (h)) (cwV 3 X.2.2.2.2 gX7_put_X7_isPart rfl rfl rfl (by decide +kernel) ⟨Nat.le_of_ble_eq_true rfl, Nat.le_of_ble_eq_true rfl⟩) rfl rfl hl.1 (Nat.le_of_ble_eq_true rfl) dX7_put_5 ⟨Nat.zero_le _, Nat.zero_le _⟩ (fun H locs hW => ?_)
  refine n_if_eq_t (tgt := 15) X.1 X.2.1 dX7_put_8 (by decide) (by decide) (by omega) ?_
  refine lv_iconst (v := nI 1) X.1 X.2.1 dX7_put_15 (by decide) ?_
  refine mcalli hq X hW (mt_isWrong_s l hq (T) (D) (th) (n := 1) (by decide) (by decide)) (cwV 1 X.2.2.2.2 gX7_put_X7_isWrong rfl rfl rfl (by decide +kernel) ⟨Nat.le_of_ble_eq_true rfl, Nat.le_of_ble_eq_true rfl⟩) rfl rfl hl.1 (Nat.le_of_ble_eq_true rfl) dX7_put_16 ⟨Nat.zero_le _, Nat.zero_le _⟩ (fun H locs hW => ?_)
  refine n_if_eq_f (tgt := 24) X.1 X.2.1 dX7_put_19 (by decide) (by decide) (by omega) ?_
  refine lv_iconst (v := nI 0) X.1 X.2.1 dX7_put_22 (by decide) ?_
  exact hE _ _ _ _ _ (rfl) (fun ty hty => by cases hty; exact rfl) hW dX7_put_23

set_option maxHeartbeats 4000000 in
set_option maxRecDepth 100000 in
theorem mt_put_1b (l : Launch) {G : va_G} {cI cZ : ClassId} {q : Nat → Nat} (hq : mJ q) (T : mT) (D : mD) (th : Int32) (I : mI T) {r : Nat} {f : Int32} {x : Int32} (hr : r < 4) (h : oN f (T 1 (T 2 r))) : mMi l yX7_put wsX7_put ({ frames := 2, cells := 0, slots := 0, locals := 44 } : Room) G cI cZ q [.int (nI (r)), .int (f), .int (x)] (T) (D) (th) (nI 0) (T) (D) (nI 1) := by
  refine mstarti (cc := cX7_put) (maxL := 6) (ret := (some .char)) (by decide) rfl rfl ⟨_, rfl⟩ (Nat.le_of_ble_eq_true rfl) (fun p e s m args below meth c Q hE X hW ls hl => ?_)
  have hl : lv_has ls 6 [(0, .ref (q 0)), (1, .int (nI (r))), (2, .int (f)), (3, .int (x))] := hl
  have hin : ∀ w ∈ wsX70, w ∈ wsX7_put := fun w h => List.mem_cons_of_mem _ (List.mem_append_left _ (List.mem_append_right _ (h)))
  refine lv_aload_n X.1 X.2.1 dX7_put_0 rfl (lv_at hl 0 rfl) ?_
  refine lv_aload_n X.1 X.2.1 dX7_put_1 rfl (lv_at hl 0 rfl) ?_
  refine lv_iload_n X.1 X.2.1 dX7_put_2 rfl (lv_at hl 1 rfl) ?_
  refine lv_iload_n X.1 X.2.1 dX7_put_3 rfl (lv_at hl 2 rfl) ?_
  refine lv_iconst (v := nI 1) X.1 X.2.1 dX7_put_4 (by decide) ?_
  refine mcalli hq X hW (mt_isPart_bad l hq (T) (D) (th) I (r := r) (by omega) (oP1 h)) (cwV 3 X.2.2.2.2 gX7_put_X7_isPart rfl rfl rfl (by decide +kernel) ⟨Nat.le_of_ble_eq_true rfl, Nat.le_of_ble_eq_true rfl⟩) rfl rfl hl.1 (Nat.le_of_ble_eq_true rfl) dX7_put_5 ⟨Nat.zero_le _, Nat.zero_le _⟩ (fun H locs hW => ?_)
  refine n_if_eq_t (tgt := 15) X.1 X.2.1 dX7_put_8 (by decide) (by decide) (by omega) ?_
  refine lv_iconst (v := nI 1) X.1 X.2.1 dX7_put_15 (by decide) ?_
  refine mcalli hq X hW (mt_isWrong_s l hq (T) (D) (th) (n := 1) (by decide) (by decide)) (cwV 1 X.2.2.2.2 gX7_put_X7_isWrong rfl rfl rfl (by decide +kernel) ⟨Nat.le_of_ble_eq_true rfl, Nat.le_of_ble_eq_true rfl⟩) rfl rfl hl.1 (Nat.le_of_ble_eq_true rfl) dX7_put_16 ⟨Nat.zero_le _, Nat.zero_le _⟩ (fun H locs hW => ?_)
  refine n_if_eq_f (tgt := 24) X.1 X.2.1 dX7_put_19 (by decide) (by decide) (by omega) ?_
  refine lv_iconst (v := nI 0) X.1 X.2.1 dX7_put_22 (by decide) ?_
  exact hE _ _ _ _ _ (rfl) (fun ty hty => by cases hty; exact rfl) hW dX7_put_23

set_option maxHeartbeats 4000000 in
set_option maxRecDepth 100000 in
theorem mt_put (l : Launch) {G : va_G} {cI cZ : ClassId} {q : Nat → Nat} (hq : mJ q) (T : mT) (D : mD) (th : Int32) (I : mI T) (J : mJD D) {r f : Nat} {x : Int32} (hr : r < 4) (h : f < T 1 (T 2 r)) : mMi l yX7_put wsX7_put ({ frames := 2, cells := 0, slots := 0, locals := 44 } : Room) G cI cZ q [.int (nI (r)), .int (nI (f)), .int (x)] (T) (D) (th) (D 0 (256 * T 2 r + f)) (T) (u2 D 0 (256 * T 2 r + f) (x &&& nI 255)) (nI 0) := by
  refine mstarti (cc := cX7_put) (maxL := 6) (ret := (some .char)) (by decide) rfl rfl ⟨_, rfl⟩ (Nat.le_of_ble_eq_true rfl) (fun p e s m args below meth c Q hE X hW ls hl => ?_)
  have hl : lv_has ls 6 [(0, .ref (q 0)), (1, .int (nI (r))), (2, .int (nI (f))), (3, .int (x))] := hl
  have hin : ∀ w ∈ wsX70, w ∈ wsX7_put := fun w h => List.mem_cons_of_mem _ (List.mem_append_left _ (List.mem_append_right _ (h)))
  have I1 := I.sr hr
  have I2 := I.sl I1
  refine lv_aload_n X.1 X.2.1 dX7_put_0 rfl (lv_at hl 0 rfl) ?_
  refine lv_aload_n X.1 X.2.1 dX7_put_1 rfl (lv_at hl 0 rfl) ?_
  refine lv_iload_n X.1 X.2.1 dX7_put_2 rfl (lv_at hl 1 rfl) ?_
  refine lv_iload_n X.1 X.2.1 dX7_put_3 rfl (lv_at hl 2 rfl) ?_
  refine lv_iconst (v := nI 1) X.1 X.2.1 dX7_put_4 (by decide) ?_
  refine mcalli hq X hW (mt_isPart_ok l hq (T) (D) (th) I (r := r) (f := f) (n := 1) (by omega) (by omega)) (cwV 3 X.2.2.2.2 gX7_put_X7_isPart rfl rfl rfl (by decide +kernel) ⟨Nat.le_of_ble_eq_true rfl, Nat.le_of_ble_eq_true rfl⟩) rfl rfl hl.1 (Nat.le_of_ble_eq_true rfl) dX7_put_5 ⟨Nat.zero_le _, Nat.zero_le _⟩ (fun H locs hW => ?_)
  refine n_if_eq_f (tgt := 15) X.1 X.2.1 dX7_put_8 (by decide) (by decide) (by omega) ?_
  refine lv_iconst (v := nI 0) X.1 X.2.1 dX7_put_11 (by decide) ?_
  refine lv_goto (tgt := 16) X.1 X.2.1 dX7_put_12 (by decide) ?_
  refine mcalli hq X hW (mt_isWrong_0 l hq (T) (D) (th)) (cwV 1 X.2.2.2.2 gX7_put_X7_isWrong rfl rfl rfl (by decide +kernel) ⟨Nat.le_of_ble_eq_true rfl, Nat.le_of_ble_eq_true rfl⟩) rfl rfl hl.1 (Nat.le_of_ble_eq_true rfl) dX7_put_16 ⟨Nat.zero_le _, Nat.zero_le _⟩ (fun H locs hW => ?_)
  refine n_if_eq_t (tgt := 24) X.1 X.2.1 dX7_put_19 (by decide) (by decide) (by omega) ?_
  refine lv_sipush (v := nI 256) X.1 X.2.1 dX7_put_24 (by decide) ?_
  refine lv_aload_n X.1 X.2.1 dX7_put_27 rfl (lv_at hl 0 rfl) ?_
  refine mget 2 (by decide) rfl X hin hW (X.2.2.2.2 (.fieldLink RX7 16 "StrandbookModel" "signRooms" "[I") (List.mem_cons_of_mem _ (List.mem_append_left _ (List.mem_append_left _ (List.mem_of_getElem? (i := 0) rfl))))) dX7_put_28 ?_
  refine lv_iload_n X.1 X.2.1 dX7_put_31 rfl (lv_at hl 1 rfl) ?_
  refine mld2 X hW (by omega) dX7_put_32 ?_
  refine n_imul X.1 X.2.1 dX7_put_33 ?_
  refine lv_iload_n X.1 X.2.1 dX7_put_34 rfl (lv_at hl 2 rfl) ?_
  refine n_iadd X.1 X.2.1 dX7_put_35 ?_
  refine lv_istore (lv' := [(4, .int (nI ((256 * (T 2 (r))) + f))), (0, .ref (q 0)), (1, .int (nI (r))), (2, .int (nI (f))), (3, .int (x))]) X.1 X.2.1 dX7_put_36 hl (by decide) rfl (fun ls hl => ?_)
  refine lv_aload_n X.1 X.2.1 dX7_put_38 rfl (lv_at hl 1 rfl) ?_
  refine mget 0 (by decide) rfl X hin hW (X.2.2.2.2 (.fieldLink RX7 7 "StrandbookModel" "signs" "[I") (List.mem_cons_of_mem _ (List.mem_append_left _ (List.mem_append_left _ (List.mem_of_getElem? (i := 1) rfl))))) dX7_put_39 ?_
  refine lv_iload X.1 X.2.1 dX7_put_42 (lv_at hl 0 rfl) ?_
  refine mld0 X hW (by omega) dX7_put_44 ?_
  refine lv_istore (lv' := [(5, .int (D 0 ((256 * (T 2 (r))) + f))), (4, .int (nI ((256 * (T 2 (r))) + f))), (0, .ref (q 0)), (1, .int (nI (r))), (2, .int (nI (f))), (3, .int (x))]) X.1 X.2.1 dX7_put_45 hl (by decide) rfl (fun ls hl => ?_)
  refine lv_aload_n X.1 X.2.1 dX7_put_47 rfl (lv_at hl 2 rfl) ?_
  refine mget 0 (by decide) rfl X hin hW (X.2.2.2.2 (.fieldLink RX7 7 "StrandbookModel" "signs" "[I") (List.mem_cons_of_mem _ (List.mem_append_left _ (List.mem_append_left _ (List.mem_of_getElem? (i := 1) rfl))))) dX7_put_48 ?_
  refine lv_iload X.1 X.2.1 dX7_put_51 (lv_at hl 1 rfl) ?_
  refine lv_iload_n X.1 X.2.1 dX7_put_53 rfl (lv_at hl 5 rfl) ?_
  refine lv_sipush (v := nI 255) X.1 X.2.1 dX7_put_54 (by decide) ?_
  refine lv_iand X.1 X.2.1 dX7_put_57 ?_
  refine mst0 hq X hW (by omega) dX7_put_58 (fun H locs hW => ?_)
  refine lv_iload X.1 X.2.1 dX7_put_59 (lv_at hl 0 rfl) ?_
  refine lv_i2c (v := D 0 (256 * T 2 r + f)) X.1 X.2.1 dX7_put_61 (cvc_255 (J.1 _)) ?_
  exact hE _ _ _ _ _ (rfl) (fun ty hty => by cases hty; exact nar_255 (J.1 _)) hW dX7_put_62

theorem mo_put (l : Launch) {G : va_G} {cI cZ : ClassId} {q : Nat → Nat} (hq : mJ q) (T : mT) (D : mD) (th : Int32) (I : mI T) (J : mJD D) (row f x : Int32) : mO l yX7_put wsX7_put ({ frames := 2, cells := 0, slots := 0, locals := 44 } : Room) G cI cZ q [.int row, .int f, .int x] T D th (sp_put T D row f x) := by
  by_cases h1 : oN row 4
  · rw [show sp_put T D row f x = no T D 1 from if_pos (Or.inl h1)]; exact mt_put_1 l hq T D th h1
  · obtain ⟨r, hr, rfl⟩ := oN_in (by decide) h1
    have hl : rI T (nI r) = T 1 (T 2 r) := by simp only [rI, nI_clamp (show r < 2 ^ 31 by omega)]
    by_cases h2 : oN f (T 1 (T 2 r))
    · rw [show sp_put T D (nI r) f x = no T D 1 from if_pos (Or.inr (by rw [hl]; exact h2))]
      exact mt_put_1b l hq T D th I hr h2
    · have I1 := I.sr hr
      have I2 := I.sl I1
      obtain ⟨n, hn, rfl⟩ := oN_in (by omega) h2
      rw [show sp_put T D (nI r) (nI n) x = sk_put T D r n x from (if_neg (by rw [hl]; exact fun z => z.elim h1 h2)).trans (by rw [nI_clamp (by omega), nI_clamp (by omega)])]
      exact mt_put l hq T D th I J hr hn

set_option maxHeartbeats 4000000 in
set_option maxRecDepth 100000 in
theorem mt_get_1 (l : Launch) {G : va_G} {cI cZ : ClassId} {q : Nat → Nat} (hq : mJ q) (T : mT) (D : mD) (th : Int32) {row f : Int32} (h : oN row 4) : mMi l yX7_get wsX7_get ({ frames := 2, cells := 0, slots := 0, locals := 44 } : Room) G cI cZ q [.int (row), .int (f)] (T) (D) (th) (nI 0) (T) (D) (nI 1) := by
  refine mstarti (cc := cX7_get) (maxL := 3) (ret := (some .char)) (by decide) rfl rfl ⟨_, rfl⟩ (Nat.le_of_ble_eq_true rfl) (fun p e s m args below meth c Q hE X hW ls hl => ?_)
  have hl : lv_has ls 3 [(0, .ref (q 0)), (1, .int (row)), (2, .int (f))] := hl
  have hin : ∀ w ∈ wsX70, w ∈ wsX7_get := fun w h => List.mem_cons_of_mem _ (List.mem_append_left _ (List.mem_append_right _ (h)))
  refine lv_aload_n X.1 X.2.1 dX7_get_0 rfl (lv_at hl 0 rfl) ?_
  refine lv_aload_n X.1 X.2.1 dX7_get_1 rfl (lv_at hl 0 rfl) ?_
  refine lv_iload_n X.1 X.2.1 dX7_get_2 rfl (lv_at hl 1 rfl) ?_
  refine lv_iload_n X.1 X.2.1 dX7_get_3 rfl (lv_at hl 2 rfl) ?_
  refine lv_iconst (v := nI 1) X.1 X.2.1 dX7_get_4 (by decide) ?_
  refine mcalli hq X hW (mt_isPart_b0 l hq (T) (D) (th) (x := row) (h)) (cwV 3 X.2.2.2.2 gX7_get_X7_isPart rfl rfl rfl (by decide +kernel) ⟨Nat.le_of_ble_eq_true rfl, Nat.le_of_ble_eq_true rfl⟩) rfl rfl hl.1 (Nat.le_of_ble_eq_true rfl) dX7_get_5 ⟨Nat.zero_le _, Nat.zero_le _⟩ (fun H locs hW => ?_)
  refine n_if_eq_t (tgt := 15) X.1 X.2.1 dX7_get_8 (by decide) (by decide) (by omega) ?_
  refine lv_iconst (v := nI 1) X.1 X.2.1 dX7_get_15 (by decide) ?_
  refine mcalli hq X hW (mt_isWrong_s l hq (T) (D) (th) (n := 1) (by decide) (by decide)) (cwV 1 X.2.2.2.2 gX7_get_X7_isWrong rfl rfl rfl (by decide +kernel) ⟨Nat.le_of_ble_eq_true rfl, Nat.le_of_ble_eq_true rfl⟩) rfl rfl hl.1 (Nat.le_of_ble_eq_true rfl) dX7_get_16 ⟨Nat.zero_le _, Nat.zero_le _⟩ (fun H locs hW => ?_)
  refine n_if_eq_f (tgt := 26) X.1 X.2.1 dX7_get_19 (by decide) (by decide) (by omega) ?_
  refine lv_iconst (v := nI 0) X.1 X.2.1 dX7_get_22 (by decide) ?_
  refine lv_goto (tgt := 44) X.1 X.2.1 dX7_get_23 (by decide) ?_
  exact hE _ _ _ _ _ (rfl) (fun ty hty => by cases hty; exact rfl) hW dX7_get_44

set_option maxHeartbeats 4000000 in
set_option maxRecDepth 100000 in
theorem mt_get_1b (l : Launch) {G : va_G} {cI cZ : ClassId} {q : Nat → Nat} (hq : mJ q) (T : mT) (D : mD) (th : Int32) (I : mI T) {r : Nat} {f : Int32} (hr : r < 4) (h : oN f (T 1 (T 2 r))) : mMi l yX7_get wsX7_get ({ frames := 2, cells := 0, slots := 0, locals := 44 } : Room) G cI cZ q [.int (nI (r)), .int (f)] (T) (D) (th) (nI 0) (T) (D) (nI 1) := by
  refine mstarti (cc := cX7_get) (maxL := 3) (ret := (some .char)) (by decide) rfl rfl ⟨_, rfl⟩ (Nat.le_of_ble_eq_true rfl) (fun p e s m args below meth c Q hE X hW ls hl => ?_)
  have hl : lv_has ls 3 [(0, .ref (q 0)), (1, .int (nI (r))), (2, .int (f))] := hl
  have hin : ∀ w ∈ wsX70, w ∈ wsX7_get := fun w h => List.mem_cons_of_mem _ (List.mem_append_left _ (List.mem_append_right _ (h)))
  refine lv_aload_n X.1 X.2.1 dX7_get_0 rfl (lv_at hl 0 rfl) ?_
  refine lv_aload_n X.1 X.2.1 dX7_get_1 rfl (lv_at hl 0 rfl) ?_
  refine lv_iload_n X.1 X.2.1 dX7_get_2 rfl (lv_at hl 1 rfl) ?_
  refine lv_iload_n X.1 X.2.1 dX7_get_3 rfl (lv_at hl 2 rfl) ?_
  refine lv_iconst (v := nI 1) X.1 X.2.1 dX7_get_4 (by decide) ?_
  refine mcalli hq X hW (mt_isPart_bad l hq (T) (D) (th) I (r := r) (by omega) (oP1 h)) (cwV 3 X.2.2.2.2 gX7_get_X7_isPart rfl rfl rfl (by decide +kernel) ⟨Nat.le_of_ble_eq_true rfl, Nat.le_of_ble_eq_true rfl⟩) rfl rfl hl.1 (Nat.le_of_ble_eq_true rfl) dX7_get_5 ⟨Nat.zero_le _, Nat.zero_le _⟩ (fun H locs hW => ?_)
  refine n_if_eq_t (tgt := 15) X.1 X.2.1 dX7_get_8 (by decide) (by decide) (by omega) ?_
  refine lv_iconst (v := nI 1) X.1 X.2.1 dX7_get_15 (by decide) ?_
  refine mcalli hq X hW (mt_isWrong_s l hq (T) (D) (th) (n := 1) (by decide) (by decide)) (cwV 1 X.2.2.2.2 gX7_get_X7_isWrong rfl rfl rfl (by decide +kernel) ⟨Nat.le_of_ble_eq_true rfl, Nat.le_of_ble_eq_true rfl⟩) rfl rfl hl.1 (Nat.le_of_ble_eq_true rfl) dX7_get_16 ⟨Nat.zero_le _, Nat.zero_le _⟩ (fun H locs hW => ?_)
  refine n_if_eq_f (tgt := 26) X.1 X.2.1 dX7_get_19 (by decide) (by decide) (by omega) ?_
  refine lv_iconst (v := nI 0) X.1 X.2.1 dX7_get_22 (by decide) ?_
  refine lv_goto (tgt := 44) X.1 X.2.1 dX7_get_23 (by decide) ?_
  exact hE _ _ _ _ _ (rfl) (fun ty hty => by cases hty; exact rfl) hW dX7_get_44

set_option maxHeartbeats 4000000 in
set_option maxRecDepth 100000 in
theorem mt_get (l : Launch) {G : va_G} {cI cZ : ClassId} {q : Nat → Nat} (hq : mJ q) (T : mT) (D : mD) (th : Int32) (I : mI T) (J : mJD D) {r f : Nat} (hr : r < 4) (h : f < T 1 (T 2 r)) : mMi l yX7_get wsX7_get ({ frames := 2, cells := 0, slots := 0, locals := 44 } : Room) G cI cZ q [.int (nI (r)), .int (nI (f))] (T) (D) (th) (D 0 (256 * T 2 r + f)) (T) (D) (nI 0) := by
  refine mstarti (cc := cX7_get) (maxL := 3) (ret := (some .char)) (by decide) rfl rfl ⟨_, rfl⟩ (Nat.le_of_ble_eq_true rfl) (fun p e s m args below meth c Q hE X hW ls hl => ?_)
  have hl : lv_has ls 3 [(0, .ref (q 0)), (1, .int (nI (r))), (2, .int (nI (f)))] := hl
  have hin : ∀ w ∈ wsX70, w ∈ wsX7_get := fun w h => List.mem_cons_of_mem _ (List.mem_append_left _ (List.mem_append_right _ (h)))
  have I1 := I.sr hr
  have I2 := I.sl I1
  refine lv_aload_n X.1 X.2.1 dX7_get_0 rfl (lv_at hl 0 rfl) ?_
  refine lv_aload_n X.1 X.2.1 dX7_get_1 rfl (lv_at hl 0 rfl) ?_
  refine lv_iload_n X.1 X.2.1 dX7_get_2 rfl (lv_at hl 1 rfl) ?_
  refine lv_iload_n X.1 X.2.1 dX7_get_3 rfl (lv_at hl 2 rfl) ?_
  refine lv_iconst (v := nI 1) X.1 X.2.1 dX7_get_4 (by decide) ?_
  refine mcalli hq X hW (mt_isPart_ok l hq (T) (D) (th) I (r := r) (f := f) (n := 1) (by omega) (by omega)) (cwV 3 X.2.2.2.2 gX7_get_X7_isPart rfl rfl rfl (by decide +kernel) ⟨Nat.le_of_ble_eq_true rfl, Nat.le_of_ble_eq_true rfl⟩) rfl rfl hl.1 (Nat.le_of_ble_eq_true rfl) dX7_get_5 ⟨Nat.zero_le _, Nat.zero_le _⟩ (fun H locs hW => ?_)
  refine n_if_eq_f (tgt := 15) X.1 X.2.1 dX7_get_8 (by decide) (by decide) (by omega) ?_
  refine lv_iconst (v := nI 0) X.1 X.2.1 dX7_get_11 (by decide) ?_
  refine lv_goto (tgt := 16) X.1 X.2.1 dX7_get_12 (by decide) ?_
  refine mcalli hq X hW (mt_isWrong_0 l hq (T) (D) (th)) (cwV 1 X.2.2.2.2 gX7_get_X7_isWrong rfl rfl rfl (by decide +kernel) ⟨Nat.le_of_ble_eq_true rfl, Nat.le_of_ble_eq_true rfl⟩) rfl rfl hl.1 (Nat.le_of_ble_eq_true rfl) dX7_get_16 ⟨Nat.zero_le _, Nat.zero_le _⟩ (fun H locs hW => ?_)
  refine n_if_eq_t (tgt := 26) X.1 X.2.1 dX7_get_19 (by decide) (by decide) (by omega) ?_
  refine lv_aload_n X.1 X.2.1 dX7_get_26 rfl (lv_at hl 0 rfl) ?_
  refine mget 0 (by decide) rfl X hin hW (X.2.2.2.2 (.fieldLink RX7 7 "StrandbookModel" "signs" "[I") (List.mem_cons_of_mem _ (List.mem_append_left _ (List.mem_append_left _ (List.mem_of_getElem? (i := 0) rfl))))) dX7_get_27 ?_
  refine lv_sipush (v := nI 256) X.1 X.2.1 dX7_get_30 (by decide) ?_
  refine lv_aload_n X.1 X.2.1 dX7_get_33 rfl (lv_at hl 0 rfl) ?_
  refine mget 2 (by decide) rfl X hin hW (X.2.2.2.2 (.fieldLink RX7 16 "StrandbookModel" "signRooms" "[I") (List.mem_cons_of_mem _ (List.mem_append_left _ (List.mem_append_left _ (List.mem_of_getElem? (i := 1) rfl))))) dX7_get_34 ?_
  refine lv_iload_n X.1 X.2.1 dX7_get_37 rfl (lv_at hl 1 rfl) ?_
  refine mld2 X hW (by omega) dX7_get_38 ?_
  refine n_imul X.1 X.2.1 dX7_get_39 ?_
  refine lv_iload_n X.1 X.2.1 dX7_get_40 rfl (lv_at hl 2 rfl) ?_
  refine n_iadd X.1 X.2.1 dX7_get_41 ?_
  refine mld0 X hW (by omega) dX7_get_42 ?_
  refine lv_i2c (v := D 0 (256 * T 2 r + f)) X.1 X.2.1 dX7_get_43 (cvc_255 (J.1 _)) ?_
  exact hE _ _ _ _ _ (rfl) (fun ty hty => by cases hty; exact nar_255 (J.1 _)) hW dX7_get_44

theorem mo_get (l : Launch) {G : va_G} {cI cZ : ClassId} {q : Nat → Nat} (hq : mJ q) (T : mT) (D : mD) (th : Int32) (I : mI T) (J : mJD D) (row f : Int32) : mO l yX7_get wsX7_get ({ frames := 2, cells := 0, slots := 0, locals := 44 } : Room) G cI cZ q [.int row, .int f] T D th (sp_get T D row f) := by
  by_cases h1 : oN row 4
  · rw [show sp_get T D row f = no T D 1 from if_pos (Or.inl h1)]; exact mt_get_1 l hq T D th h1
  · obtain ⟨r, hr, rfl⟩ := oN_in (by decide) h1
    have hl : rI T (nI r) = T 1 (T 2 r) := by simp only [rI, nI_clamp (show r < 2 ^ 31 by omega)]
    by_cases h2 : oN f (T 1 (T 2 r))
    · rw [show sp_get T D (nI r) f = no T D 1 from if_pos (Or.inr (by rw [hl]; exact h2))]
      exact mt_get_1b l hq T D th I hr h2
    · have I1 := I.sr hr
      have I2 := I.sl I1
      obtain ⟨n, hn, rfl⟩ := oN_in (by omega) h2
      rw [show sp_get T D (nI r) (nI n) = (0, D 0 (256 * T 2 r + n), T, D) from (if_neg (by rw [hl]; exact fun z => z.elim h1 h2)).trans (by rw [nI_clamp (by omega), nI_clamp (by omega)])]
      exact mt_get l hq T D th I J hr hn

set_option maxHeartbeats 4000000 in
set_option maxRecDepth 100000 in
theorem mt_putByte_1 (l : Launch) {G : va_G} {cI cZ : ClassId} {q : Nat → Nat} (hq : mJ q) (T : mT) (D : mD) (th : Int32) {row f : Int32} {x : Int32} (h : oN row 4) : mMi l yX7_putByte wsX7_putByte ({ frames := 2, cells := 0, slots := 0, locals := 44 } : Room) G cI cZ q [.int (row), .int (f), .int (x)] (T) (D) (th) (nI 0) (T) (D) (nI 1) := by
  refine mstarti (cc := cX7_putByte) (maxL := 6) (ret := (some .int)) (by decide) rfl rfl ⟨_, rfl⟩ (Nat.le_of_ble_eq_true rfl) (fun p e s m args below meth c Q hE X hW ls hl => ?_)
  have hl : lv_has ls 6 [(0, .ref (q 0)), (1, .int (row)), (2, .int (f)), (3, .int (x))] := hl
  have hin : ∀ w ∈ wsX70, w ∈ wsX7_putByte := fun w h => List.mem_cons_of_mem _ (List.mem_append_left _ (List.mem_append_right _ (h)))
  refine lv_aload_n X.1 X.2.1 dX7_putByte_0 rfl (lv_at hl 0 rfl) ?_
  refine lv_aload_n X.1 X.2.1 dX7_putByte_1 rfl (lv_at hl 0 rfl) ?_
  refine lv_iload_n X.1 X.2.1 dX7_putByte_2 rfl (lv_at hl 1 rfl) ?_
  refine lv_iload_n X.1 X.2.1 dX7_putByte_3 rfl (lv_at hl 2 rfl) ?_
  refine lv_iconst (v := nI 1) X.1 X.2.1 dX7_putByte_4 (by decide) ?_
  refine mcalli hq X hW (mt_isBytePart_b0 l hq (T) (D) (th) (x := row) (h)) (cwV 3 X.2.2.2.2 gX7_putByte_X7_isBytePart rfl rfl rfl (by decide +kernel) ⟨Nat.le_of_ble_eq_true rfl, Nat.le_of_ble_eq_true rfl⟩) rfl rfl hl.1 (Nat.le_of_ble_eq_true rfl) dX7_putByte_5 ⟨Nat.zero_le _, Nat.zero_le _⟩ (fun H locs hW => ?_)
  refine n_if_eq_t (tgt := 15) X.1 X.2.1 dX7_putByte_8 (by decide) (by decide) (by omega) ?_
  refine lv_iconst (v := nI 1) X.1 X.2.1 dX7_putByte_15 (by decide) ?_
  refine mcalli hq X hW (mt_isWrong_s l hq (T) (D) (th) (n := 1) (by decide) (by decide)) (cwV 1 X.2.2.2.2 gX7_putByte_X7_isWrong rfl rfl rfl (by decide +kernel) ⟨Nat.le_of_ble_eq_true rfl, Nat.le_of_ble_eq_true rfl⟩) rfl rfl hl.1 (Nat.le_of_ble_eq_true rfl) dX7_putByte_16 ⟨Nat.zero_le _, Nat.zero_le _⟩ (fun H locs hW => ?_)
  refine n_if_eq_f (tgt := 24) X.1 X.2.1 dX7_putByte_19 (by decide) (by decide) (by omega) ?_
  refine lv_iconst (v := nI 0) X.1 X.2.1 dX7_putByte_22 (by decide) ?_
  exact hE _ _ _ _ _ (rfl) (fun ty hty => by cases hty; exact rfl) hW dX7_putByte_23

set_option maxHeartbeats 4000000 in
set_option maxRecDepth 100000 in
theorem mt_putByte_1b (l : Launch) {G : va_G} {cI cZ : ClassId} {q : Nat → Nat} (hq : mJ q) (T : mT) (D : mD) (th : Int32) (I : mI T) {r : Nat} {f : Int32} {x : Int32} (hr : r < 4) (h : oN f (T 4 (T 5 r))) : mMi l yX7_putByte wsX7_putByte ({ frames := 2, cells := 0, slots := 0, locals := 44 } : Room) G cI cZ q [.int (nI (r)), .int (f), .int (x)] (T) (D) (th) (nI 0) (T) (D) (nI 1) := by
  refine mstarti (cc := cX7_putByte) (maxL := 6) (ret := (some .int)) (by decide) rfl rfl ⟨_, rfl⟩ (Nat.le_of_ble_eq_true rfl) (fun p e s m args below meth c Q hE X hW ls hl => ?_)
  have hl : lv_has ls 6 [(0, .ref (q 0)), (1, .int (nI (r))), (2, .int (f)), (3, .int (x))] := hl
  have hin : ∀ w ∈ wsX70, w ∈ wsX7_putByte := fun w h => List.mem_cons_of_mem _ (List.mem_append_left _ (List.mem_append_right _ (h)))
  refine lv_aload_n X.1 X.2.1 dX7_putByte_0 rfl (lv_at hl 0 rfl) ?_
  refine lv_aload_n X.1 X.2.1 dX7_putByte_1 rfl (lv_at hl 0 rfl) ?_
  refine lv_iload_n X.1 X.2.1 dX7_putByte_2 rfl (lv_at hl 1 rfl) ?_
  refine lv_iload_n X.1 X.2.1 dX7_putByte_3 rfl (lv_at hl 2 rfl) ?_
  refine lv_iconst (v := nI 1) X.1 X.2.1 dX7_putByte_4 (by decide) ?_
  refine mcalli hq X hW (mt_isBytePart_bad l hq (T) (D) (th) I (r := r) (by omega) (oP1 h)) (cwV 3 X.2.2.2.2 gX7_putByte_X7_isBytePart rfl rfl rfl (by decide +kernel) ⟨Nat.le_of_ble_eq_true rfl, Nat.le_of_ble_eq_true rfl⟩) rfl rfl hl.1 (Nat.le_of_ble_eq_true rfl) dX7_putByte_5 ⟨Nat.zero_le _, Nat.zero_le _⟩ (fun H locs hW => ?_)
  refine n_if_eq_t (tgt := 15) X.1 X.2.1 dX7_putByte_8 (by decide) (by decide) (by omega) ?_
  refine lv_iconst (v := nI 1) X.1 X.2.1 dX7_putByte_15 (by decide) ?_
  refine mcalli hq X hW (mt_isWrong_s l hq (T) (D) (th) (n := 1) (by decide) (by decide)) (cwV 1 X.2.2.2.2 gX7_putByte_X7_isWrong rfl rfl rfl (by decide +kernel) ⟨Nat.le_of_ble_eq_true rfl, Nat.le_of_ble_eq_true rfl⟩) rfl rfl hl.1 (Nat.le_of_ble_eq_true rfl) dX7_putByte_16 ⟨Nat.zero_le _, Nat.zero_le _⟩ (fun H locs hW => ?_)
  refine n_if_eq_f (tgt := 24) X.1 X.2.1 dX7_putByte_19 (by decide) (by decide) (by omega) ?_
  refine lv_iconst (v := nI 0) X.1 X.2.1 dX7_putByte_22 (by decide) ?_
  exact hE _ _ _ _ _ (rfl) (fun ty hty => by cases hty; exact rfl) hW dX7_putByte_23

set_option maxHeartbeats 4000000 in
set_option maxRecDepth 100000 in
theorem mt_putByte (l : Launch) {G : va_G} {cI cZ : ClassId} {q : Nat → Nat} (hq : mJ q) (T : mT) (D : mD) (th : Int32) (I : mI T) (J : mJD D) {r f : Nat} {x : Int32} (hr : r < 4) (h : f < T 4 (T 5 r)) : mMi l yX7_putByte wsX7_putByte ({ frames := 2, cells := 0, slots := 0, locals := 44 } : Room) G cI cZ q [.int (nI (r)), .int (nI (f)), .int (x)] (T) (D) (th) (D 3 (64 * T 5 r + f)) (T) (u2 D 3 (64 * T 5 r + f) (x.toInt8.toInt32)) (nI 0) := by
  refine mstarti (cc := cX7_putByte) (maxL := 6) (ret := (some .int)) (by decide) rfl rfl ⟨_, rfl⟩ (Nat.le_of_ble_eq_true rfl) (fun p e s m args below meth c Q hE X hW ls hl => ?_)
  have hl : lv_has ls 6 [(0, .ref (q 0)), (1, .int (nI (r))), (2, .int (nI (f))), (3, .int (x))] := hl
  have hin : ∀ w ∈ wsX70, w ∈ wsX7_putByte := fun w h => List.mem_cons_of_mem _ (List.mem_append_left _ (List.mem_append_right _ (h)))
  have I1 := I.br hr
  have I2 := I.bl I1
  refine lv_aload_n X.1 X.2.1 dX7_putByte_0 rfl (lv_at hl 0 rfl) ?_
  refine lv_aload_n X.1 X.2.1 dX7_putByte_1 rfl (lv_at hl 0 rfl) ?_
  refine lv_iload_n X.1 X.2.1 dX7_putByte_2 rfl (lv_at hl 1 rfl) ?_
  refine lv_iload_n X.1 X.2.1 dX7_putByte_3 rfl (lv_at hl 2 rfl) ?_
  refine lv_iconst (v := nI 1) X.1 X.2.1 dX7_putByte_4 (by decide) ?_
  refine mcalli hq X hW (mt_isBytePart_ok l hq (T) (D) (th) I (r := r) (f := f) (n := 1) (by omega) (by omega)) (cwV 3 X.2.2.2.2 gX7_putByte_X7_isBytePart rfl rfl rfl (by decide +kernel) ⟨Nat.le_of_ble_eq_true rfl, Nat.le_of_ble_eq_true rfl⟩) rfl rfl hl.1 (Nat.le_of_ble_eq_true rfl) dX7_putByte_5 ⟨Nat.zero_le _, Nat.zero_le _⟩ (fun H locs hW => ?_)
  refine n_if_eq_f (tgt := 15) X.1 X.2.1 dX7_putByte_8 (by decide) (by decide) (by omega) ?_
  refine lv_iconst (v := nI 0) X.1 X.2.1 dX7_putByte_11 (by decide) ?_
  refine lv_goto (tgt := 16) X.1 X.2.1 dX7_putByte_12 (by decide) ?_
  refine mcalli hq X hW (mt_isWrong_0 l hq (T) (D) (th)) (cwV 1 X.2.2.2.2 gX7_putByte_X7_isWrong rfl rfl rfl (by decide +kernel) ⟨Nat.le_of_ble_eq_true rfl, Nat.le_of_ble_eq_true rfl⟩) rfl rfl hl.1 (Nat.le_of_ble_eq_true rfl) dX7_putByte_16 ⟨Nat.zero_le _, Nat.zero_le _⟩ (fun H locs hW => ?_)
  refine n_if_eq_t (tgt := 24) X.1 X.2.1 dX7_putByte_19 (by decide) (by decide) (by omega) ?_
  refine lv_bipush (v := nI 64) X.1 X.2.1 dX7_putByte_24 (by decide) ?_
  refine lv_aload_n X.1 X.2.1 dX7_putByte_26 rfl (lv_at hl 0 rfl) ?_
  refine mget 5 (by decide) rfl X hin hW (X.2.2.2.2 (.fieldLink RX7 25 "StrandbookModel" "byteRooms" "[I") (List.mem_cons_of_mem _ (List.mem_append_left _ (List.mem_append_left _ (List.mem_of_getElem? (i := 0) rfl))))) dX7_putByte_27 ?_
  refine lv_iload_n X.1 X.2.1 dX7_putByte_30 rfl (lv_at hl 1 rfl) ?_
  refine mld5 X hW (by omega) dX7_putByte_31 ?_
  refine n_imul X.1 X.2.1 dX7_putByte_32 ?_
  refine lv_iload_n X.1 X.2.1 dX7_putByte_33 rfl (lv_at hl 2 rfl) ?_
  refine n_iadd X.1 X.2.1 dX7_putByte_34 ?_
  refine lv_istore (lv' := [(4, .int (nI ((64 * (T 5 (r))) + f))), (0, .ref (q 0)), (1, .int (nI (r))), (2, .int (nI (f))), (3, .int (x))]) X.1 X.2.1 dX7_putByte_35 hl (by decide) rfl (fun ls hl => ?_)
  refine lv_aload_n X.1 X.2.1 dX7_putByte_37 rfl (lv_at hl 1 rfl) ?_
  refine mget 3 (by decide) rfl X hin hW (X.2.2.2.2 (.fieldLink RX7 19 "StrandbookModel" "bytes" "[I") (List.mem_cons_of_mem _ (List.mem_append_left _ (List.mem_append_left _ (List.mem_of_getElem? (i := 1) rfl))))) dX7_putByte_38 ?_
  refine lv_iload X.1 X.2.1 dX7_putByte_41 (lv_at hl 0 rfl) ?_
  refine mld3 X hW (by omega) dX7_putByte_43 ?_
  refine lv_istore (lv' := [(5, .int (D 3 ((64 * (T 5 (r))) + f))), (4, .int (nI ((64 * (T 5 (r))) + f))), (0, .ref (q 0)), (1, .int (nI (r))), (2, .int (nI (f))), (3, .int (x))]) X.1 X.2.1 dX7_putByte_44 hl (by decide) rfl (fun ls hl => ?_)
  refine lv_aload_n X.1 X.2.1 dX7_putByte_46 rfl (lv_at hl 2 rfl) ?_
  refine mget 3 (by decide) rfl X hin hW (X.2.2.2.2 (.fieldLink RX7 19 "StrandbookModel" "bytes" "[I") (List.mem_cons_of_mem _ (List.mem_append_left _ (List.mem_append_left _ (List.mem_of_getElem? (i := 1) rfl))))) dX7_putByte_47 ?_
  refine lv_iload X.1 X.2.1 dX7_putByte_50 (lv_at hl 1 rfl) ?_
  refine lv_aload_n X.1 X.2.1 dX7_putByte_52 rfl (lv_at hl 2 rfl) ?_
  refine lv_iload_n X.1 X.2.1 dX7_putByte_53 rfl (lv_at hl 5 rfl) ?_
  refine mcalli hq X hW (mt_low l hq (T) (D) (nI 0) (x)) (cwV 1 X.2.2.2.2 gX7_putByte_X7_low rfl rfl rfl (by decide +kernel) ⟨Nat.le_of_ble_eq_true rfl, Nat.le_of_ble_eq_true rfl⟩) rfl rfl hl.1 (Nat.le_of_ble_eq_true rfl) dX7_putByte_54 ⟨Nat.zero_le _, Nat.zero_le _⟩ (fun H locs hW => ?_)
  refine mst3 hq X hW (by omega) dX7_putByte_57 (fun H locs hW => ?_)
  refine lv_iload X.1 X.2.1 dX7_putByte_58 (lv_at hl 0 rfl) ?_
  exact hE _ _ _ _ _ (rfl) (fun ty hty => by cases hty; exact rfl) hW dX7_putByte_60

theorem mo_putByte (l : Launch) {G : va_G} {cI cZ : ClassId} {q : Nat → Nat} (hq : mJ q) (T : mT) (D : mD) (th : Int32) (I : mI T) (J : mJD D) (row f x : Int32) : mO l yX7_putByte wsX7_putByte ({ frames := 2, cells := 0, slots := 0, locals := 44 } : Room) G cI cZ q [.int row, .int f, .int x] T D th (sp_putByte T D row f x) := by
  by_cases h1 : oN row 4
  · rw [show sp_putByte T D row f x = no T D 1 from if_pos (Or.inl h1)]; exact mt_putByte_1 l hq T D th h1
  · obtain ⟨r, hr, rfl⟩ := oN_in (by decide) h1
    have hl : bI T (nI r) = T 4 (T 5 r) := by simp only [bI, nI_clamp (show r < 2 ^ 31 by omega)]
    by_cases h2 : oN f (T 4 (T 5 r))
    · rw [show sp_putByte T D (nI r) f x = no T D 1 from if_pos (Or.inr (by rw [hl]; exact h2))]
      exact mt_putByte_1b l hq T D th I hr h2
    · have I1 := I.br hr
      have I2 := I.bl I1
      obtain ⟨n, hn, rfl⟩ := oN_in (by omega) h2
      rw [show sp_putByte T D (nI r) (nI n) x = sk_putByte T D r n x from (if_neg (by rw [hl]; exact fun z => z.elim h1 h2)).trans (by rw [nI_clamp (by omega), nI_clamp (by omega)])]
      exact mt_putByte l hq T D th I J hr hn

set_option maxHeartbeats 4000000 in
set_option maxRecDepth 100000 in
theorem mt_getByte_1 (l : Launch) {G : va_G} {cI cZ : ClassId} {q : Nat → Nat} (hq : mJ q) (T : mT) (D : mD) (th : Int32) {row f : Int32} (h : oN row 4) : mMi l yX7_getByte wsX7_getByte ({ frames := 2, cells := 0, slots := 0, locals := 44 } : Room) G cI cZ q [.int (row), .int (f)] (T) (D) (th) (nI 0) (T) (D) (nI 1) := by
  refine mstarti (cc := cX7_getByte) (maxL := 3) (ret := (some .int)) (by decide) rfl rfl ⟨_, rfl⟩ (Nat.le_of_ble_eq_true rfl) (fun p e s m args below meth c Q hE X hW ls hl => ?_)
  have hl : lv_has ls 3 [(0, .ref (q 0)), (1, .int (row)), (2, .int (f))] := hl
  have hin : ∀ w ∈ wsX70, w ∈ wsX7_getByte := fun w h => List.mem_cons_of_mem _ (List.mem_append_left _ (List.mem_append_right _ (h)))
  refine lv_aload_n X.1 X.2.1 dX7_getByte_0 rfl (lv_at hl 0 rfl) ?_
  refine lv_aload_n X.1 X.2.1 dX7_getByte_1 rfl (lv_at hl 0 rfl) ?_
  refine lv_iload_n X.1 X.2.1 dX7_getByte_2 rfl (lv_at hl 1 rfl) ?_
  refine lv_iload_n X.1 X.2.1 dX7_getByte_3 rfl (lv_at hl 2 rfl) ?_
  refine lv_iconst (v := nI 1) X.1 X.2.1 dX7_getByte_4 (by decide) ?_
  refine mcalli hq X hW (mt_isBytePart_b0 l hq (T) (D) (th) (x := row) (h)) (cwV 3 X.2.2.2.2 gX7_getByte_X7_isBytePart rfl rfl rfl (by decide +kernel) ⟨Nat.le_of_ble_eq_true rfl, Nat.le_of_ble_eq_true rfl⟩) rfl rfl hl.1 (Nat.le_of_ble_eq_true rfl) dX7_getByte_5 ⟨Nat.zero_le _, Nat.zero_le _⟩ (fun H locs hW => ?_)
  refine n_if_eq_t (tgt := 15) X.1 X.2.1 dX7_getByte_8 (by decide) (by decide) (by omega) ?_
  refine lv_iconst (v := nI 1) X.1 X.2.1 dX7_getByte_15 (by decide) ?_
  refine mcalli hq X hW (mt_isWrong_s l hq (T) (D) (th) (n := 1) (by decide) (by decide)) (cwV 1 X.2.2.2.2 gX7_getByte_X7_isWrong rfl rfl rfl (by decide +kernel) ⟨Nat.le_of_ble_eq_true rfl, Nat.le_of_ble_eq_true rfl⟩) rfl rfl hl.1 (Nat.le_of_ble_eq_true rfl) dX7_getByte_16 ⟨Nat.zero_le _, Nat.zero_le _⟩ (fun H locs hW => ?_)
  refine n_if_eq_f (tgt := 26) X.1 X.2.1 dX7_getByte_19 (by decide) (by decide) (by omega) ?_
  refine lv_iconst (v := nI 0) X.1 X.2.1 dX7_getByte_22 (by decide) ?_
  refine lv_goto (tgt := 42) X.1 X.2.1 dX7_getByte_23 (by decide) ?_
  exact hE _ _ _ _ _ (rfl) (fun ty hty => by cases hty; exact rfl) hW dX7_getByte_42

set_option maxHeartbeats 4000000 in
set_option maxRecDepth 100000 in
theorem mt_getByte_1b (l : Launch) {G : va_G} {cI cZ : ClassId} {q : Nat → Nat} (hq : mJ q) (T : mT) (D : mD) (th : Int32) (I : mI T) {r : Nat} {f : Int32} (hr : r < 4) (h : oN f (T 4 (T 5 r))) : mMi l yX7_getByte wsX7_getByte ({ frames := 2, cells := 0, slots := 0, locals := 44 } : Room) G cI cZ q [.int (nI (r)), .int (f)] (T) (D) (th) (nI 0) (T) (D) (nI 1) := by
  refine mstarti (cc := cX7_getByte) (maxL := 3) (ret := (some .int)) (by decide) rfl rfl ⟨_, rfl⟩ (Nat.le_of_ble_eq_true rfl) (fun p e s m args below meth c Q hE X hW ls hl => ?_)
  have hl : lv_has ls 3 [(0, .ref (q 0)), (1, .int (nI (r))), (2, .int (f))] := hl
  have hin : ∀ w ∈ wsX70, w ∈ wsX7_getByte := fun w h => List.mem_cons_of_mem _ (List.mem_append_left _ (List.mem_append_right _ (h)))
  refine lv_aload_n X.1 X.2.1 dX7_getByte_0 rfl (lv_at hl 0 rfl) ?_
  refine lv_aload_n X.1 X.2.1 dX7_getByte_1 rfl (lv_at hl 0 rfl) ?_
  refine lv_iload_n X.1 X.2.1 dX7_getByte_2 rfl (lv_at hl 1 rfl) ?_
  refine lv_iload_n X.1 X.2.1 dX7_getByte_3 rfl (lv_at hl 2 rfl) ?_
  refine lv_iconst (v := nI 1) X.1 X.2.1 dX7_getByte_4 (by decide) ?_
  refine mcalli hq X hW (mt_isBytePart_bad l hq (T) (D) (th) I (r := r) (by omega) (oP1 h)) (cwV 3 X.2.2.2.2 gX7_getByte_X7_isBytePart rfl rfl rfl (by decide +kernel) ⟨Nat.le_of_ble_eq_true rfl, Nat.le_of_ble_eq_true rfl⟩) rfl rfl hl.1 (Nat.le_of_ble_eq_true rfl) dX7_getByte_5 ⟨Nat.zero_le _, Nat.zero_le _⟩ (fun H locs hW => ?_)
  refine n_if_eq_t (tgt := 15) X.1 X.2.1 dX7_getByte_8 (by decide) (by decide) (by omega) ?_
  refine lv_iconst (v := nI 1) X.1 X.2.1 dX7_getByte_15 (by decide) ?_
  refine mcalli hq X hW (mt_isWrong_s l hq (T) (D) (th) (n := 1) (by decide) (by decide)) (cwV 1 X.2.2.2.2 gX7_getByte_X7_isWrong rfl rfl rfl (by decide +kernel) ⟨Nat.le_of_ble_eq_true rfl, Nat.le_of_ble_eq_true rfl⟩) rfl rfl hl.1 (Nat.le_of_ble_eq_true rfl) dX7_getByte_16 ⟨Nat.zero_le _, Nat.zero_le _⟩ (fun H locs hW => ?_)
  refine n_if_eq_f (tgt := 26) X.1 X.2.1 dX7_getByte_19 (by decide) (by decide) (by omega) ?_
  refine lv_iconst (v := nI 0) X.1 X.2.1 dX7_getByte_22 (by decide) ?_
  refine lv_goto (tgt := 42) X.1 X.2.1 dX7_getByte_23 (by decide) ?_
  exact hE _ _ _ _ _ (rfl) (fun ty hty => by cases hty; exact rfl) hW dX7_getByte_42

set_option maxHeartbeats 4000000 in
set_option maxRecDepth 100000 in
theorem mt_getByte (l : Launch) {G : va_G} {cI cZ : ClassId} {q : Nat → Nat} (hq : mJ q) (T : mT) (D : mD) (th : Int32) (I : mI T) (J : mJD D) {r f : Nat} (hr : r < 4) (h : f < T 4 (T 5 r)) : mMi l yX7_getByte wsX7_getByte ({ frames := 2, cells := 0, slots := 0, locals := 44 } : Room) G cI cZ q [.int (nI (r)), .int (nI (f))] (T) (D) (th) (D 3 (64 * T 5 r + f)) (T) (D) (nI 0) := by
  refine mstarti (cc := cX7_getByte) (maxL := 3) (ret := (some .int)) (by decide) rfl rfl ⟨_, rfl⟩ (Nat.le_of_ble_eq_true rfl) (fun p e s m args below meth c Q hE X hW ls hl => ?_)
  have hl : lv_has ls 3 [(0, .ref (q 0)), (1, .int (nI (r))), (2, .int (nI (f)))] := hl
  have hin : ∀ w ∈ wsX70, w ∈ wsX7_getByte := fun w h => List.mem_cons_of_mem _ (List.mem_append_left _ (List.mem_append_right _ (h)))
  have I1 := I.br hr
  have I2 := I.bl I1
  refine lv_aload_n X.1 X.2.1 dX7_getByte_0 rfl (lv_at hl 0 rfl) ?_
  refine lv_aload_n X.1 X.2.1 dX7_getByte_1 rfl (lv_at hl 0 rfl) ?_
  refine lv_iload_n X.1 X.2.1 dX7_getByte_2 rfl (lv_at hl 1 rfl) ?_
  refine lv_iload_n X.1 X.2.1 dX7_getByte_3 rfl (lv_at hl 2 rfl) ?_
  refine lv_iconst (v := nI 1) X.1 X.2.1 dX7_getByte_4 (by decide) ?_
  refine mcalli hq X hW (mt_isBytePart_ok l hq (T) (D) (th) I (r := r) (f := f) (n := 1) (by omega) (by omega)) (cwV 3 X.2.2.2.2 gX7_getByte_X7_isBytePart rfl rfl rfl (by decide +kernel) ⟨Nat.le_of_ble_eq_true rfl, Nat.le_of_ble_eq_true rfl⟩) rfl rfl hl.1 (Nat.le_of_ble_eq_true rfl) dX7_getByte_5 ⟨Nat.zero_le _, Nat.zero_le _⟩ (fun H locs hW => ?_)
  refine n_if_eq_f (tgt := 15) X.1 X.2.1 dX7_getByte_8 (by decide) (by decide) (by omega) ?_
  refine lv_iconst (v := nI 0) X.1 X.2.1 dX7_getByte_11 (by decide) ?_
  refine lv_goto (tgt := 16) X.1 X.2.1 dX7_getByte_12 (by decide) ?_
  refine mcalli hq X hW (mt_isWrong_0 l hq (T) (D) (th)) (cwV 1 X.2.2.2.2 gX7_getByte_X7_isWrong rfl rfl rfl (by decide +kernel) ⟨Nat.le_of_ble_eq_true rfl, Nat.le_of_ble_eq_true rfl⟩) rfl rfl hl.1 (Nat.le_of_ble_eq_true rfl) dX7_getByte_16 ⟨Nat.zero_le _, Nat.zero_le _⟩ (fun H locs hW => ?_)
  refine n_if_eq_t (tgt := 26) X.1 X.2.1 dX7_getByte_19 (by decide) (by decide) (by omega) ?_
  refine lv_aload_n X.1 X.2.1 dX7_getByte_26 rfl (lv_at hl 0 rfl) ?_
  refine mget 3 (by decide) rfl X hin hW (X.2.2.2.2 (.fieldLink RX7 19 "StrandbookModel" "bytes" "[I") (List.mem_cons_of_mem _ (List.mem_append_left _ (List.mem_append_left _ (List.mem_of_getElem? (i := 0) rfl))))) dX7_getByte_27 ?_
  refine lv_bipush (v := nI 64) X.1 X.2.1 dX7_getByte_30 (by decide) ?_
  refine lv_aload_n X.1 X.2.1 dX7_getByte_32 rfl (lv_at hl 0 rfl) ?_
  refine mget 5 (by decide) rfl X hin hW (X.2.2.2.2 (.fieldLink RX7 25 "StrandbookModel" "byteRooms" "[I") (List.mem_cons_of_mem _ (List.mem_append_left _ (List.mem_append_left _ (List.mem_of_getElem? (i := 1) rfl))))) dX7_getByte_33 ?_
  refine lv_iload_n X.1 X.2.1 dX7_getByte_36 rfl (lv_at hl 1 rfl) ?_
  refine mld5 X hW (by omega) dX7_getByte_37 ?_
  refine n_imul X.1 X.2.1 dX7_getByte_38 ?_
  refine lv_iload_n X.1 X.2.1 dX7_getByte_39 rfl (lv_at hl 2 rfl) ?_
  refine n_iadd X.1 X.2.1 dX7_getByte_40 ?_
  refine mld3 X hW (by omega) dX7_getByte_41 ?_
  exact hE _ _ _ _ _ (rfl) (fun ty hty => by cases hty; exact rfl) hW dX7_getByte_42

theorem mo_getByte (l : Launch) {G : va_G} {cI cZ : ClassId} {q : Nat → Nat} (hq : mJ q) (T : mT) (D : mD) (th : Int32) (I : mI T) (J : mJD D) (row f : Int32) : mO l yX7_getByte wsX7_getByte ({ frames := 2, cells := 0, slots := 0, locals := 44 } : Room) G cI cZ q [.int row, .int f] T D th (sp_getByte T D row f) := by
  by_cases h1 : oN row 4
  · rw [show sp_getByte T D row f = no T D 1 from if_pos (Or.inl h1)]; exact mt_getByte_1 l hq T D th h1
  · obtain ⟨r, hr, rfl⟩ := oN_in (by decide) h1
    have hl : bI T (nI r) = T 4 (T 5 r) := by simp only [bI, nI_clamp (show r < 2 ^ 31 by omega)]
    by_cases h2 : oN f (T 4 (T 5 r))
    · rw [show sp_getByte T D (nI r) f = no T D 1 from if_pos (Or.inr (by rw [hl]; exact h2))]
      exact mt_getByte_1b l hq T D th I hr h2
    · have I1 := I.br hr
      have I2 := I.bl I1
      obtain ⟨n, hn, rfl⟩ := oN_in (by omega) h2
      rw [show sp_getByte T D (nI r) (nI n) = (0, D 3 (64 * T 5 r + n), T, D) from (if_neg (by rw [hl]; exact fun z => z.elim h1 h2)).trans (by rw [nI_clamp (by omega), nI_clamp (by omega)])]
      exact mt_getByte l hq T D th I J hr hn

set_option maxHeartbeats 4000000 in
set_option maxRecDepth 100000 in
theorem mt_fill_1 (l : Launch) {G : va_G} {cI cZ : ClassId} {q : Nat → Nat} (hq : mJ q) (T : mT) (D : mD) (th : Int32) {row f n x step : Int32} (h : oN row 4) : mMi l yX7_fill wsX7_fill ({ frames := 2, cells := 0, slots := 0, locals := 44 } : Room) G cI cZ q [.int (row), .int (f), .int (n), .int (x), .int (step)] (T) (D) (th) (nI 0) (T) (D) (nI 1) := by
  refine mstarti (cc := cX7_fill) (maxL := 9) (ret := (some .int)) (by decide) rfl rfl ⟨_, rfl⟩ (Nat.le_of_ble_eq_true rfl) (fun p e s m args below meth c Q hE X hW ls hl => ?_)
  have hl : lv_has ls 9 [(0, .ref (q 0)), (1, .int (row)), (2, .int (f)), (3, .int (n)), (4, .int (x)), (5, .int (step))] := hl
  have hin : ∀ w ∈ wsX70, w ∈ wsX7_fill := fun w h => List.mem_cons_of_mem _ (List.mem_append_left _ (List.mem_append_right _ (h)))
  refine lv_aload_n X.1 X.2.1 dX7_fill_0 rfl (lv_at hl 0 rfl) ?_
  refine lv_aload_n X.1 X.2.1 dX7_fill_1 rfl (lv_at hl 0 rfl) ?_
  refine lv_iload_n X.1 X.2.1 dX7_fill_2 rfl (lv_at hl 1 rfl) ?_
  refine lv_iload_n X.1 X.2.1 dX7_fill_3 rfl (lv_at hl 2 rfl) ?_
  refine lv_iload_n X.1 X.2.1 dX7_fill_4 rfl (lv_at hl 3 rfl) ?_
  refine mcalli hq X hW (mt_isPart_b0 l hq (T) (D) (th) (x := row) (h)) (cwV 3 X.2.2.2.2 gX7_fill_X7_isPart rfl rfl rfl (by decide +kernel) ⟨Nat.le_of_ble_eq_true rfl, Nat.le_of_ble_eq_true rfl⟩) rfl rfl hl.1 (Nat.le_of_ble_eq_true rfl) dX7_fill_5 ⟨Nat.zero_le _, Nat.zero_le _⟩ (fun H locs hW => ?_)
  refine n_if_eq_t (tgt := 15) X.1 X.2.1 dX7_fill_8 (by decide) (by decide) (by omega) ?_
  refine lv_iconst (v := nI 1) X.1 X.2.1 dX7_fill_15 (by decide) ?_
  refine mcalli hq X hW (mt_isWrong_s l hq (T) (D) (th) (n := 1) (by decide) (by decide)) (cwV 1 X.2.2.2.2 gX7_fill_X7_isWrong rfl rfl rfl (by decide +kernel) ⟨Nat.le_of_ble_eq_true rfl, Nat.le_of_ble_eq_true rfl⟩) rfl rfl hl.1 (Nat.le_of_ble_eq_true rfl) dX7_fill_16 ⟨Nat.zero_le _, Nat.zero_le _⟩ (fun H locs hW => ?_)
  refine n_if_eq_f (tgt := 24) X.1 X.2.1 dX7_fill_19 (by decide) (by decide) (by omega) ?_
  refine lv_iconst (v := nI 0) X.1 X.2.1 dX7_fill_22 (by decide) ?_
  exact hE _ _ _ _ _ (rfl) (fun ty hty => by cases hty; exact rfl) hW dX7_fill_23

set_option maxHeartbeats 4000000 in
set_option maxRecDepth 100000 in
theorem mt_fill_1b (l : Launch) {G : va_G} {cI cZ : ClassId} {q : Nat → Nat} (hq : mJ q) (T : mT) (D : mD) (th : Int32) (I : mI T) {r : Nat} {f n x step : Int32} (hr : r < 4) (h : oP (T 1 (T 2 r)) f n) : mMi l yX7_fill wsX7_fill ({ frames := 2, cells := 0, slots := 0, locals := 44 } : Room) G cI cZ q [.int (nI (r)), .int (f), .int (n), .int (x), .int (step)] (T) (D) (th) (nI 0) (T) (D) (nI 1) := by
  refine mstarti (cc := cX7_fill) (maxL := 9) (ret := (some .int)) (by decide) rfl rfl ⟨_, rfl⟩ (Nat.le_of_ble_eq_true rfl) (fun p e s m args below meth c Q hE X hW ls hl => ?_)
  have hl : lv_has ls 9 [(0, .ref (q 0)), (1, .int (nI (r))), (2, .int (f)), (3, .int (n)), (4, .int (x)), (5, .int (step))] := hl
  have hin : ∀ w ∈ wsX70, w ∈ wsX7_fill := fun w h => List.mem_cons_of_mem _ (List.mem_append_left _ (List.mem_append_right _ (h)))
  refine lv_aload_n X.1 X.2.1 dX7_fill_0 rfl (lv_at hl 0 rfl) ?_
  refine lv_aload_n X.1 X.2.1 dX7_fill_1 rfl (lv_at hl 0 rfl) ?_
  refine lv_iload_n X.1 X.2.1 dX7_fill_2 rfl (lv_at hl 1 rfl) ?_
  refine lv_iload_n X.1 X.2.1 dX7_fill_3 rfl (lv_at hl 2 rfl) ?_
  refine lv_iload_n X.1 X.2.1 dX7_fill_4 rfl (lv_at hl 3 rfl) ?_
  refine mcalli hq X hW (mt_isPart_bad l hq (T) (D) (th) I (r := r) (by omega) (h)) (cwV 3 X.2.2.2.2 gX7_fill_X7_isPart rfl rfl rfl (by decide +kernel) ⟨Nat.le_of_ble_eq_true rfl, Nat.le_of_ble_eq_true rfl⟩) rfl rfl hl.1 (Nat.le_of_ble_eq_true rfl) dX7_fill_5 ⟨Nat.zero_le _, Nat.zero_le _⟩ (fun H locs hW => ?_)
  refine n_if_eq_t (tgt := 15) X.1 X.2.1 dX7_fill_8 (by decide) (by decide) (by omega) ?_
  refine lv_iconst (v := nI 1) X.1 X.2.1 dX7_fill_15 (by decide) ?_
  refine mcalli hq X hW (mt_isWrong_s l hq (T) (D) (th) (n := 1) (by decide) (by decide)) (cwV 1 X.2.2.2.2 gX7_fill_X7_isWrong rfl rfl rfl (by decide +kernel) ⟨Nat.le_of_ble_eq_true rfl, Nat.le_of_ble_eq_true rfl⟩) rfl rfl hl.1 (Nat.le_of_ble_eq_true rfl) dX7_fill_16 ⟨Nat.zero_le _, Nat.zero_le _⟩ (fun H locs hW => ?_)
  refine n_if_eq_f (tgt := 24) X.1 X.2.1 dX7_fill_19 (by decide) (by decide) (by omega) ?_
  refine lv_iconst (v := nI 0) X.1 X.2.1 dX7_fill_22 (by decide) ?_
  exact hE _ _ _ _ _ (rfl) (fun ty hty => by cases hty; exact rfl) hW dX7_fill_23

set_option maxHeartbeats 4000000 in
set_option maxRecDepth 100000 in
theorem mt_fill (l : Launch) {G : va_G} {cI cZ : ClassId} {q : Nat → Nat} (hq : mJ q) (T : mT) (D : mD) (th : Int32) (I : mI T) {r f n : Nat} {x step : Int32} (hr : r < 4) (h : f + n ≤ T 1 (T 2 r)) : mMi l yX7_fill wsX7_fill ({ frames := 2, cells := 0, slots := 0, locals := 44 } : Room) G cI cZ q [.int (nI (r)), .int (nI (f)), .int (nI (n)), .int (x), .int (step)] (T) (D) (th) (flS (fun i => D 0 (256 * T 2 r + f + i)) n) (T) (cpF D 0 (256 * T 2 r + f) (fun i => (x + nI i * step) &&& nI 255) n) (nI 0) := by
  refine mstarti (cc := cX7_fill) (maxL := 9) (ret := (some .int)) (by decide) rfl rfl ⟨_, rfl⟩ (Nat.le_of_ble_eq_true rfl) (fun p e s m args below meth c Q hE X hW ls hl => ?_)
  have hl : lv_has ls 9 [(0, .ref (q 0)), (1, .int (nI (r))), (2, .int (nI (f))), (3, .int (nI (n))), (4, .int (x)), (5, .int (step))] := hl
  have hin : ∀ w ∈ wsX70, w ∈ wsX7_fill := fun w h => List.mem_cons_of_mem _ (List.mem_append_left _ (List.mem_append_right _ (h)))
  have I1 := I.sr hr
  have I2 := I.sl I1
  refine lv_aload_n X.1 X.2.1 dX7_fill_0 rfl (lv_at hl 0 rfl) ?_
  refine lv_aload_n X.1 X.2.1 dX7_fill_1 rfl (lv_at hl 0 rfl) ?_
  refine lv_iload_n X.1 X.2.1 dX7_fill_2 rfl (lv_at hl 1 rfl) ?_
  refine lv_iload_n X.1 X.2.1 dX7_fill_3 rfl (lv_at hl 2 rfl) ?_
  refine lv_iload_n X.1 X.2.1 dX7_fill_4 rfl (lv_at hl 3 rfl) ?_
  refine mcalli hq X hW (mt_isPart_ok l hq (T) (D) (th) I (r := r) (f := f) (n := n) (by omega) (by omega)) (cwV 3 X.2.2.2.2 gX7_fill_X7_isPart rfl rfl rfl (by decide +kernel) ⟨Nat.le_of_ble_eq_true rfl, Nat.le_of_ble_eq_true rfl⟩) rfl rfl hl.1 (Nat.le_of_ble_eq_true rfl) dX7_fill_5 ⟨Nat.zero_le _, Nat.zero_le _⟩ (fun H locs hW => ?_)
  refine n_if_eq_f (tgt := 15) X.1 X.2.1 dX7_fill_8 (by decide) (by decide) (by omega) ?_
  refine lv_iconst (v := nI 0) X.1 X.2.1 dX7_fill_11 (by decide) ?_
  refine lv_goto (tgt := 16) X.1 X.2.1 dX7_fill_12 (by decide) ?_
  refine mcalli hq X hW (mt_isWrong_0 l hq (T) (D) (th)) (cwV 1 X.2.2.2.2 gX7_fill_X7_isWrong rfl rfl rfl (by decide +kernel) ⟨Nat.le_of_ble_eq_true rfl, Nat.le_of_ble_eq_true rfl⟩) rfl rfl hl.1 (Nat.le_of_ble_eq_true rfl) dX7_fill_16 ⟨Nat.zero_le _, Nat.zero_le _⟩ (fun H locs hW => ?_)
  refine n_if_eq_t (tgt := 24) X.1 X.2.1 dX7_fill_19 (by decide) (by decide) (by omega) ?_
  refine lv_iconst (v := nI 0) X.1 X.2.1 dX7_fill_24 (by decide) ?_
  refine lv_istore (lv' := [(6, .int (nI (0))), (0, .ref (q 0)), (1, .int (nI (r))), (2, .int (nI (f))), (3, .int (nI (n))), (4, .int (x)), (5, .int (step))]) X.1 X.2.1 dX7_fill_25 hl (by decide) rfl (fun ls hl => ?_)
  refine lv_iconst (v := nI 0) X.1 X.2.1 dX7_fill_27 (by decide) ?_
  refine lv_istore (lv' := [(7, .int (nI (0))), (6, .int (nI (0))), (0, .ref (q 0)), (1, .int (nI (r))), (2, .int (nI (f))), (3, .int (nI (n))), (4, .int (x)), (5, .int (step))]) X.1 X.2.1 dX7_fill_28 hl (by decide) rfl (fun ls hl => ?_)
  have loop30 : ∀ (n30 k30 : Nat), k30 + n30 = n → ∀ (H : Heap) (locs : List Loc), mH G cI cZ q (T) (cpF D 0 (256 * T 2 r + f) (fun i => (x + nI i * step) &&& nI 255) k30) (nI 0) s H locs → ∀ ls : Array Slot, lv_has ls 9 [(0, .ref (q 0)), (1, .int (nI (r))), (2, .int (nI (f))), (3, .int (nI (n))), (4, .int (x)), (5, .int (step)), (6, .int (flS (fun i => D 0 (256 * T 2 r + f + i)) k30)), (7, .int (nI (k30)))] → W p l e ({ frames := 2, cells := 0, slots := 0, locals := 44 } : Room) s m args below meth c H locs 0 0 Q (F0 m 30 ls []) := by
    intro n30
    induction n30 with
    | zero =>
      intro k30 hk30  H locs hW ls hl
      obtain rfl : n = k30 := by omega
      refine lv_iload X.1 X.2.1 dX7_fill_30 (lv_at hl 7 rfl) ?_
      refine lv_iload_n X.1 X.2.1 dX7_fill_32 rfl (lv_at hl 3 rfl) ?_
      refine n_icmp_ge_t (tgt := 90) X.1 X.2.1 dX7_fill_33 (by decide) (by omega) (by omega) (by omega) ?_
      refine lv_iload X.1 X.2.1 dX7_fill_90 (lv_at hl 6 rfl) ?_
      exact hE _ _ _ _ _ (rfl) (fun ty hty => by cases hty; exact rfl) hW dX7_fill_92
    | succ n30 ih30 =>
      intro k30 hk30  H locs hW ls hl
      refine lv_iload X.1 X.2.1 dX7_fill_30 (lv_at hl 7 rfl) ?_
      refine lv_iload_n X.1 X.2.1 dX7_fill_32 rfl (lv_at hl 3 rfl) ?_
      refine n_icmp_ge_f (tgt := 90) X.1 X.2.1 dX7_fill_33 (by decide) (by omega) (by omega) (by omega) ?_
      refine lv_sipush (v := nI 256) X.1 X.2.1 dX7_fill_36 (by decide) ?_
      refine lv_aload_n X.1 X.2.1 dX7_fill_39 rfl (lv_at hl 0 rfl) ?_
      refine mget 2 (by decide) rfl X hin hW (X.2.2.2.2 (.fieldLink RX7 16 "StrandbookModel" "signRooms" "[I") (List.mem_cons_of_mem _ (List.mem_append_left _ (List.mem_append_left _ (List.mem_of_getElem? (i := 0) rfl))))) dX7_fill_40 ?_
      refine lv_iload_n X.1 X.2.1 dX7_fill_43 rfl (lv_at hl 1 rfl) ?_
      refine mld2 X hW (by omega) dX7_fill_44 ?_
      refine n_imul X.1 X.2.1 dX7_fill_45 ?_
      refine lv_iload_n X.1 X.2.1 dX7_fill_46 rfl (lv_at hl 2 rfl) ?_
      refine n_iadd X.1 X.2.1 dX7_fill_47 ?_
      refine lv_iload X.1 X.2.1 dX7_fill_48 (lv_at hl 7 rfl) ?_
      refine n_iadd X.1 X.2.1 dX7_fill_50 ?_
      refine lv_istore (lv' := [(8, .int (nI (((256 * (T 2 (r))) + f) + k30))), (0, .ref (q 0)), (1, .int (nI (r))), (2, .int (nI (f))), (3, .int (nI (n))), (4, .int (x)), (5, .int (step)), (6, .int (flS (fun i => D 0 (256 * T 2 r + f + i)) k30)), (7, .int (nI (k30)))]) X.1 X.2.1 dX7_fill_51 hl (by decide) rfl (fun ls hl => ?_)
      refine lv_iload X.1 X.2.1 dX7_fill_53 (lv_at hl 7 rfl) ?_
      refine lv_aload_n X.1 X.2.1 dX7_fill_55 rfl (lv_at hl 1 rfl) ?_
      refine mget 0 (by decide) rfl X hin hW (X.2.2.2.2 (.fieldLink RX7 7 "StrandbookModel" "signs" "[I") (List.mem_cons_of_mem _ (List.mem_append_left _ (List.mem_append_left _ (List.mem_of_getElem? (i := 1) rfl))))) dX7_fill_56 ?_
      refine lv_iload X.1 X.2.1 dX7_fill_59 (lv_at hl 0 rfl) ?_
      refine mld0 X hW (by omega) dX7_fill_61 ?_
      refine n_cv (y := D 0 (256 * T 2 r + f + k30)) (cpF_out (by omega)) ?_
      refine lv_iadd X.1 X.2.1 dX7_fill_62 ?_
      refine lv_istore (lv' := [(6, .int (((flS (fun i => D 0 (256 * T 2 r + f + i)) k30) + (D 0 (256 * T 2 r + f + k30))))), (8, .int (nI (((256 * (T 2 (r))) + f) + k30))), (0, .ref (q 0)), (1, .int (nI (r))), (2, .int (nI (f))), (3, .int (nI (n))), (4, .int (x)), (5, .int (step)), (7, .int (nI (k30)))]) X.1 X.2.1 dX7_fill_63 hl (by decide) rfl (fun ls hl => ?_)
      refine lv_aload_n X.1 X.2.1 dX7_fill_65 rfl (lv_at hl 2 rfl) ?_
      refine mget 0 (by decide) rfl X hin hW (X.2.2.2.2 (.fieldLink RX7 7 "StrandbookModel" "signs" "[I") (List.mem_cons_of_mem _ (List.mem_append_left _ (List.mem_append_left _ (List.mem_of_getElem? (i := 1) rfl))))) dX7_fill_66 ?_
      refine lv_iload X.1 X.2.1 dX7_fill_69 (lv_at hl 1 rfl) ?_
      refine lv_iload X.1 X.2.1 dX7_fill_71 (lv_at hl 6 rfl) ?_
      refine lv_iload X.1 X.2.1 dX7_fill_73 (lv_at hl 8 rfl) ?_
      refine lv_iload X.1 X.2.1 dX7_fill_75 (lv_at hl 7 rfl) ?_
      refine lv_imul X.1 X.2.1 dX7_fill_77 ?_
      refine lv_iadd X.1 X.2.1 dX7_fill_78 ?_
      refine lv_sipush (v := nI 255) X.1 X.2.1 dX7_fill_79 (by decide) ?_
      refine lv_iand X.1 X.2.1 dX7_fill_82 ?_
      refine mst0 hq X hW (by omega) dX7_fill_83 (fun H locs hW => ?_)
      refine lv_iinc (v := nI (k30 + 1)) (lv' := [(7, .int (nI (k30 + 1))), (6, .int (((flS (fun i => D 0 (256 * T 2 r + f + i)) k30) + (D 0 (256 * T 2 r + f + k30))))), (8, .int (nI (((256 * (T 2 (r))) + f) + k30))), (0, .ref (q 0)), (1, .int (nI (r))), (2, .int (nI (f))), (3, .int (nI (n))), (4, .int (x)), (5, .int (step))]) X.1 X.2.1 dX7_fill_84 hl (k := 8) rfl (nI_1 _) (by decide) rfl (fun ls hl => ?_)
      refine lv_goto (tgt := 30) X.1 X.2.1 dX7_fill_87 (by decide) ?_
      exact ih30 (k30 + 1) (by omega) _ _ (hW.eq (rfl) (cpF_S' rfl rfl) rfl) ls (lv_sub hl [3, 4, 5, 6, 7, 8, 1, 0] rfl)
  exact loop30 ((n) - (0)) (0) (by omega) _ _ (hW.eq (rfl) (cpF_0.symm) rfl) ls (lv_sub hl [2, 3, 4, 5, 6, 7, 1, 0] rfl)

theorem mo_fill (l : Launch) {G : va_G} {cI cZ : ClassId} {q : Nat → Nat} (hq : mJ q) (T : mT) (D : mD) (th : Int32) (I : mI T) (J : mJD D) (row f n x step : Int32) : mO l yX7_fill wsX7_fill ({ frames := 2, cells := 0, slots := 0, locals := 44 } : Room) G cI cZ q [.int row, .int f, .int n, .int x, .int step] T D th (sp_fill T D row f n x step) := by
  by_cases h1 : oN row 4
  · rw [show sp_fill T D row f n x step = no T D 1 from if_pos (Or.inl h1)]; exact mt_fill_1 l hq T D th h1
  · obtain ⟨r, hr, rfl⟩ := oN_in (by decide) h1
    have hl : rI T (nI r) = T 1 (T 2 r) := by simp only [rI, nI_clamp (show r < 2 ^ 31 by omega)]
    by_cases h2 : oP (T 1 (T 2 r)) f n
    · rw [show sp_fill T D (nI r) f n x step = no T D 1 from if_pos (Or.inr (by rw [hl]; exact h2))]
      exact mt_fill_1b l hq T D th I hr h2
    · have I1 := I.sr hr
      have I2 := I.sl I1
      obtain ⟨f0, hf, rfl⟩ := nI_of (fun z => h2 (Or.inl z))
      obtain ⟨n0, hn, rfl⟩ := nI_of (fun z => h2 (Or.inr (Or.inl z)))
      have h3 : f0 + n0 ≤ T 1 (T 2 r) := Nat.not_lt.mp (fun z => h2 (Or.inr (Or.inr (by rw [nI_clamp hf, nI_clamp hn]; exact z))))
      rw [show sp_fill T D (nI r) (nI f0) (nI n0) x step = sk_fill T D r f0 n0 x step from (if_neg (by rw [hl]; exact fun z => z.elim h1 h2)).trans (by rw [nI_clamp (by omega), nI_clamp hf, nI_clamp hn])]
      exact mt_fill l hq T D th I hr h3

set_option maxHeartbeats 4000000 in
set_option maxRecDepth 100000 in
theorem mt_length_1 (l : Launch) {G : va_G} {cI cZ : ClassId} {q : Nat → Nat} (hq : mJ q) (T : mT) (D : mD) (th : Int32) {row : Int32} (h : oN row 4) : mMi l yX7_length wsX7_length ({ frames := 1, cells := 0, slots := 0, locals := 21 } : Room) G cI cZ q [.int (row)] (T) (D) (th) (nI 0) (T) (D) (nI 1) := by
  refine mstarti (cc := cX7_length) (maxL := 2) (ret := (some .int)) (by decide) rfl rfl ⟨_, rfl⟩ (Nat.le_of_ble_eq_true rfl) (fun p e s m args below meth c Q hE X hW ls hl => ?_)
  have hl : lv_has ls 2 [(0, .ref (q 0)), (1, .int (row))] := hl
  have hin : ∀ w ∈ wsX70, w ∈ wsX7_length := fun w h => List.mem_cons_of_mem _ (List.mem_append_left _ (List.mem_append_right _ (h)))
  refine lv_aload_n X.1 X.2.1 dX7_length_0 rfl (lv_at hl 0 rfl) ?_
  refine lv_aload_n X.1 X.2.1 dX7_length_1 rfl (lv_at hl 0 rfl) ?_
  refine lv_iload_n X.1 X.2.1 dX7_length_2 rfl (lv_at hl 1 rfl) ?_
  refine mcalli hq X hW (mt_isRow_bad l hq (T) (D) (th) (x := row) (h)) (cwV 1 X.2.2.2.2 gX7_length_X7_isRow rfl rfl rfl (by decide +kernel) ⟨Nat.le_of_ble_eq_true rfl, Nat.le_of_ble_eq_true rfl⟩) rfl rfl hl.1 (Nat.le_of_ble_eq_true rfl) dX7_length_3 ⟨Nat.zero_le _, Nat.zero_le _⟩ (fun H locs hW => ?_)
  refine n_if_eq_t (tgt := 13) X.1 X.2.1 dX7_length_6 (by decide) (by decide) (by omega) ?_
  refine lv_iconst (v := nI 1) X.1 X.2.1 dX7_length_13 (by decide) ?_
  refine mcalli hq X hW (mt_isWrong_s l hq (T) (D) (th) (n := 1) (by decide) (by decide)) (cwV 1 X.2.2.2.2 gX7_length_X7_isWrong rfl rfl rfl (by decide +kernel) ⟨Nat.le_of_ble_eq_true rfl, Nat.le_of_ble_eq_true rfl⟩) rfl rfl hl.1 (Nat.le_of_ble_eq_true rfl) dX7_length_14 ⟨Nat.zero_le _, Nat.zero_le _⟩ (fun H locs hW => ?_)
  refine n_if_eq_f (tgt := 24) X.1 X.2.1 dX7_length_17 (by decide) (by decide) (by omega) ?_
  refine lv_iconst (v := nI 0) X.1 X.2.1 dX7_length_20 (by decide) ?_
  refine lv_goto (tgt := 29) X.1 X.2.1 dX7_length_21 (by decide) ?_
  exact hE _ _ _ _ _ (rfl) (fun ty hty => by cases hty; exact rfl) hW dX7_length_29

set_option maxHeartbeats 4000000 in
set_option maxRecDepth 100000 in
theorem mt_length (l : Launch) {G : va_G} {cI cZ : ClassId} {q : Nat → Nat} (hq : mJ q) (T : mT) (D : mD) (th : Int32) (I : mI T) {r : Nat} (hr : r < 4) : mMi l yX7_length wsX7_length ({ frames := 1, cells := 0, slots := 0, locals := 21 } : Room) G cI cZ q [.int (nI (r))] (T) (D) (th) (nI (T 1 (T 2 r))) (T) (D) (nI 0) := by
  refine mstarti (cc := cX7_length) (maxL := 2) (ret := (some .int)) (by decide) rfl rfl ⟨_, rfl⟩ (Nat.le_of_ble_eq_true rfl) (fun p e s m args below meth c Q hE X hW ls hl => ?_)
  have hl : lv_has ls 2 [(0, .ref (q 0)), (1, .int (nI (r)))] := hl
  have hin : ∀ w ∈ wsX70, w ∈ wsX7_length := fun w h => List.mem_cons_of_mem _ (List.mem_append_left _ (List.mem_append_right _ (h)))
  refine lv_aload_n X.1 X.2.1 dX7_length_0 rfl (lv_at hl 0 rfl) ?_
  refine lv_aload_n X.1 X.2.1 dX7_length_1 rfl (lv_at hl 0 rfl) ?_
  refine lv_iload_n X.1 X.2.1 dX7_length_2 rfl (lv_at hl 1 rfl) ?_
  refine mcalli hq X hW (mt_isRow_ok l hq (T) (D) (th) (r := r) (by omega)) (cwV 1 X.2.2.2.2 gX7_length_X7_isRow rfl rfl rfl (by decide +kernel) ⟨Nat.le_of_ble_eq_true rfl, Nat.le_of_ble_eq_true rfl⟩) rfl rfl hl.1 (Nat.le_of_ble_eq_true rfl) dX7_length_3 ⟨Nat.zero_le _, Nat.zero_le _⟩ (fun H locs hW => ?_)
  refine n_if_eq_f (tgt := 13) X.1 X.2.1 dX7_length_6 (by decide) (by decide) (by omega) ?_
  refine lv_iconst (v := nI 0) X.1 X.2.1 dX7_length_9 (by decide) ?_
  refine lv_goto (tgt := 14) X.1 X.2.1 dX7_length_10 (by decide) ?_
  refine mcalli hq X hW (mt_isWrong_0 l hq (T) (D) (th)) (cwV 1 X.2.2.2.2 gX7_length_X7_isWrong rfl rfl rfl (by decide +kernel) ⟨Nat.le_of_ble_eq_true rfl, Nat.le_of_ble_eq_true rfl⟩) rfl rfl hl.1 (Nat.le_of_ble_eq_true rfl) dX7_length_14 ⟨Nat.zero_le _, Nat.zero_le _⟩ (fun H locs hW => ?_)
  refine n_if_eq_t (tgt := 24) X.1 X.2.1 dX7_length_17 (by decide) (by decide) (by omega) ?_
  refine lv_aload_n X.1 X.2.1 dX7_length_24 rfl (lv_at hl 0 rfl) ?_
  refine lv_iload_n X.1 X.2.1 dX7_length_25 rfl (lv_at hl 1 rfl) ?_
  refine mcalli hq X hW (mt_signLength l hq (T) (D) (nI 0) I (r := r) (by omega)) (cwV 1 X.2.2.2.2 gX7_length_X7_signLength rfl rfl rfl (by decide +kernel) ⟨Nat.le_of_ble_eq_true rfl, Nat.le_of_ble_eq_true rfl⟩) rfl rfl hl.1 (Nat.le_of_ble_eq_true rfl) dX7_length_26 ⟨Nat.zero_le _, Nat.zero_le _⟩ (fun H locs hW => ?_)
  exact hE _ _ _ _ _ (rfl) (fun ty hty => by cases hty; exact rfl) hW dX7_length_29

theorem mo_length (l : Launch) {G : va_G} {cI cZ : ClassId} {q : Nat → Nat} (hq : mJ q) (T : mT) (D : mD) (th : Int32) (I : mI T) (J : mJD D) (row : Int32) : mO l yX7_length wsX7_length ({ frames := 1, cells := 0, slots := 0, locals := 21 } : Room) G cI cZ q [.int row] T D th (sp_length T D row) := by
  by_cases h1 : oN row 4
  · rw [show sp_length T D row = no T D 1 from if_pos h1]; exact mt_length_1 l hq T D th h1
  · obtain ⟨r, hr, rfl⟩ := oN_in (by decide) h1
    rw [show sp_length T D (nI r) = (0, nI (T 1 (T 2 r)), T, D) from (if_neg h1).trans (by simp only [rI, nI_clamp (show r < 2 ^ 31 by omega)])]
    exact mt_length l hq T D th I hr

set_option maxHeartbeats 4000000 in
set_option maxRecDepth 100000 in
theorem mt_makeBytes_1 (l : Launch) {G : va_G} {cI cZ : ClassId} {q : Nat → Nat} (hq : mJ q) (T : mT) (D : mD) (th : Int32) {row n x step : Int32} (h : oN row 4) : mMi l yX7_makeBytes wsX7_makeBytes ({ frames := 1, cells := 0, slots := 0, locals := 23 } : Room) G cI cZ q [.int (row), .int (n), .int (x), .int (step)] (T) (D) (th) (nI 0) (T) (D) (nI 1) := by
  refine mstarti (cc := cX7_makeBytes) (maxL := 8) (ret := (some .int)) (by decide) rfl rfl ⟨_, rfl⟩ (Nat.le_of_ble_eq_true rfl) (fun p e s m args below meth c Q hE X hW ls hl => ?_)
  have hl : lv_has ls 8 [(0, .ref (q 0)), (1, .int (row)), (2, .int (n)), (3, .int (x)), (4, .int (step))] := hl
  have hin : ∀ w ∈ wsX70, w ∈ wsX7_makeBytes := fun w h => List.mem_cons_of_mem _ (List.mem_append_left _ (List.mem_append_right _ (h)))
  refine lv_aload_n X.1 X.2.1 dX7_makeBytes_0 rfl (lv_at hl 0 rfl) ?_
  refine lv_aload_n X.1 X.2.1 dX7_makeBytes_1 rfl (lv_at hl 0 rfl) ?_
  refine lv_iload_n X.1 X.2.1 dX7_makeBytes_2 rfl (lv_at hl 1 rfl) ?_
  refine mcalli hq X hW (mt_isRow_bad l hq (T) (D) (th) (x := row) (h)) (cwV 1 X.2.2.2.2 gX7_makeBytes_X7_isRow rfl rfl rfl (by decide +kernel) ⟨Nat.le_of_ble_eq_true rfl, Nat.le_of_ble_eq_true rfl⟩) rfl rfl hl.1 (Nat.le_of_ble_eq_true rfl) dX7_makeBytes_3 ⟨Nat.zero_le _, Nat.zero_le _⟩ (fun H locs hW => ?_)
  refine n_if_ne_f (tgt := 13) X.1 X.2.1 dX7_makeBytes_6 (by decide) (by decide) (by omega) ?_
  refine lv_iconst (v := nI 1) X.1 X.2.1 dX7_makeBytes_9 (by decide) ?_
  refine lv_goto (tgt := 28) X.1 X.2.1 dX7_makeBytes_10 (by decide) ?_
  refine mcalli hq X hW (mt_isWrong_s l hq (T) (D) (th) (n := 1) (by decide) (by decide)) (cwV 1 X.2.2.2.2 gX7_makeBytes_X7_isWrong rfl rfl rfl (by decide +kernel) ⟨Nat.le_of_ble_eq_true rfl, Nat.le_of_ble_eq_true rfl⟩) rfl rfl hl.1 (Nat.le_of_ble_eq_true rfl) dX7_makeBytes_28 ⟨Nat.zero_le _, Nat.zero_le _⟩ (fun H locs hW => ?_)
  refine n_if_eq_f (tgt := 36) X.1 X.2.1 dX7_makeBytes_31 (by decide) (by decide) (by omega) ?_
  refine lv_iconst (v := nI 0) X.1 X.2.1 dX7_makeBytes_34 (by decide) ?_
  exact hE _ _ _ _ _ (rfl) (fun ty hty => by cases hty; exact rfl) hW dX7_makeBytes_35

set_option maxHeartbeats 4000000 in
set_option maxRecDepth 100000 in
theorem mt_makeBytes_2a (l : Launch) {G : va_G} {cI cZ : ClassId} {q : Nat → Nat} (hq : mJ q) (T : mT) (D : mD) (th : Int32) {r : Nat} {n x step : Int32} (hr : r < 4) (h : n < 0) : mMi l yX7_makeBytes wsX7_makeBytes ({ frames := 1, cells := 0, slots := 0, locals := 23 } : Room) G cI cZ q [.int (nI (r)), .int (n), .int (x), .int (step)] (T) (D) (th) (nI 0) (T) (D) (nI 2) := by
  refine mstarti (cc := cX7_makeBytes) (maxL := 8) (ret := (some .int)) (by decide) rfl rfl ⟨_, rfl⟩ (Nat.le_of_ble_eq_true rfl) (fun p e s m args below meth c Q hE X hW ls hl => ?_)
  have hl : lv_has ls 8 [(0, .ref (q 0)), (1, .int (nI (r))), (2, .int (n)), (3, .int (x)), (4, .int (step))] := hl
  have hin : ∀ w ∈ wsX70, w ∈ wsX7_makeBytes := fun w h => List.mem_cons_of_mem _ (List.mem_append_left _ (List.mem_append_right _ (h)))
  refine lv_aload_n X.1 X.2.1 dX7_makeBytes_0 rfl (lv_at hl 0 rfl) ?_
  refine lv_aload_n X.1 X.2.1 dX7_makeBytes_1 rfl (lv_at hl 0 rfl) ?_
  refine lv_iload_n X.1 X.2.1 dX7_makeBytes_2 rfl (lv_at hl 1 rfl) ?_
  refine mcalli hq X hW (mt_isRow_ok l hq (T) (D) (th) (r := r) (by omega)) (cwV 1 X.2.2.2.2 gX7_makeBytes_X7_isRow rfl rfl rfl (by decide +kernel) ⟨Nat.le_of_ble_eq_true rfl, Nat.le_of_ble_eq_true rfl⟩) rfl rfl hl.1 (Nat.le_of_ble_eq_true rfl) dX7_makeBytes_3 ⟨Nat.zero_le _, Nat.zero_le _⟩ (fun H locs hW => ?_)
  refine n_if_ne_t (tgt := 13) X.1 X.2.1 dX7_makeBytes_6 (by decide) (by decide) (by omega) ?_
  refine lv_iload_n X.1 X.2.1 dX7_makeBytes_13 rfl (lv_at hl 2 rfl) ?_
  refine x_if_lt_t (tgt := 23) X.1 X.2.1 dX7_makeBytes_14 (by decide) (h) ?_
  refine lv_iconst (v := nI 2) X.1 X.2.1 dX7_makeBytes_23 (by decide) ?_
  refine lv_goto (tgt := 28) X.1 X.2.1 dX7_makeBytes_24 (by decide) ?_
  refine mcalli hq X hW (mt_isWrong_s l hq (T) (D) (th) (n := 2) (by decide) (by decide)) (cwV 1 X.2.2.2.2 gX7_makeBytes_X7_isWrong rfl rfl rfl (by decide +kernel) ⟨Nat.le_of_ble_eq_true rfl, Nat.le_of_ble_eq_true rfl⟩) rfl rfl hl.1 (Nat.le_of_ble_eq_true rfl) dX7_makeBytes_28 ⟨Nat.zero_le _, Nat.zero_le _⟩ (fun H locs hW => ?_)
  refine n_if_eq_f (tgt := 36) X.1 X.2.1 dX7_makeBytes_31 (by decide) (by decide) (by omega) ?_
  refine lv_iconst (v := nI 0) X.1 X.2.1 dX7_makeBytes_34 (by decide) ?_
  exact hE _ _ _ _ _ (rfl) (fun ty hty => by cases hty; exact rfl) hW dX7_makeBytes_35

set_option maxHeartbeats 4000000 in
set_option maxRecDepth 100000 in
theorem mt_makeBytes_2b (l : Launch) {G : va_G} {cI cZ : ClassId} {q : Nat → Nat} (hq : mJ q) (T : mT) (D : mD) (th : Int32) {r n : Nat} {x step : Int32} (hr : r < 4) (hn : n < 2 ^ 31) (h : 65 ≤ n) : mMi l yX7_makeBytes wsX7_makeBytes ({ frames := 1, cells := 0, slots := 0, locals := 23 } : Room) G cI cZ q [.int (nI (r)), .int (nI (n)), .int (x), .int (step)] (T) (D) (th) (nI 0) (T) (D) (nI 2) := by
  refine mstarti (cc := cX7_makeBytes) (maxL := 8) (ret := (some .int)) (by decide) rfl rfl ⟨_, rfl⟩ (Nat.le_of_ble_eq_true rfl) (fun p e s m args below meth c Q hE X hW ls hl => ?_)
  have hl : lv_has ls 8 [(0, .ref (q 0)), (1, .int (nI (r))), (2, .int (nI (n))), (3, .int (x)), (4, .int (step))] := hl
  have hin : ∀ w ∈ wsX70, w ∈ wsX7_makeBytes := fun w h => List.mem_cons_of_mem _ (List.mem_append_left _ (List.mem_append_right _ (h)))
  refine lv_aload_n X.1 X.2.1 dX7_makeBytes_0 rfl (lv_at hl 0 rfl) ?_
  refine lv_aload_n X.1 X.2.1 dX7_makeBytes_1 rfl (lv_at hl 0 rfl) ?_
  refine lv_iload_n X.1 X.2.1 dX7_makeBytes_2 rfl (lv_at hl 1 rfl) ?_
  refine mcalli hq X hW (mt_isRow_ok l hq (T) (D) (th) (r := r) (by omega)) (cwV 1 X.2.2.2.2 gX7_makeBytes_X7_isRow rfl rfl rfl (by decide +kernel) ⟨Nat.le_of_ble_eq_true rfl, Nat.le_of_ble_eq_true rfl⟩) rfl rfl hl.1 (Nat.le_of_ble_eq_true rfl) dX7_makeBytes_3 ⟨Nat.zero_le _, Nat.zero_le _⟩ (fun H locs hW => ?_)
  refine n_if_ne_t (tgt := 13) X.1 X.2.1 dX7_makeBytes_6 (by decide) (by decide) (by omega) ?_
  refine lv_iload_n X.1 X.2.1 dX7_makeBytes_13 rfl (lv_at hl 2 rfl) ?_
  refine n_if_lt_f (tgt := 23) X.1 X.2.1 dX7_makeBytes_14 (by decide) (by omega) ?_
  refine lv_iload_n X.1 X.2.1 dX7_makeBytes_17 rfl (lv_at hl 2 rfl) ?_
  refine lv_bipush (v := nI 64) X.1 X.2.1 dX7_makeBytes_18 (by decide) ?_
  refine n_icmp_le_f (tgt := 27) X.1 X.2.1 dX7_makeBytes_20 (by decide) (by omega) (by omega) (by omega) ?_
  refine lv_iconst (v := nI 2) X.1 X.2.1 dX7_makeBytes_23 (by decide) ?_
  refine lv_goto (tgt := 28) X.1 X.2.1 dX7_makeBytes_24 (by decide) ?_
  refine mcalli hq X hW (mt_isWrong_s l hq (T) (D) (th) (n := 2) (by decide) (by decide)) (cwV 1 X.2.2.2.2 gX7_makeBytes_X7_isWrong rfl rfl rfl (by decide +kernel) ⟨Nat.le_of_ble_eq_true rfl, Nat.le_of_ble_eq_true rfl⟩) rfl rfl hl.1 (Nat.le_of_ble_eq_true rfl) dX7_makeBytes_28 ⟨Nat.zero_le _, Nat.zero_le _⟩ (fun H locs hW => ?_)
  refine n_if_eq_f (tgt := 36) X.1 X.2.1 dX7_makeBytes_31 (by decide) (by decide) (by omega) ?_
  refine lv_iconst (v := nI 0) X.1 X.2.1 dX7_makeBytes_34 (by decide) ?_
  exact hE _ _ _ _ _ (rfl) (fun ty hty => by cases hty; exact rfl) hW dX7_makeBytes_35

set_option maxHeartbeats 4000000 in
set_option maxRecDepth 100000 in
theorem mt_makeBytes (l : Launch) {G : va_G} {cI cZ : ClassId} {q : Nat → Nat} (hq : mJ q) (T : mT) (D : mD) (th : Int32) (I : mI T) {r n : Nat} {x step : Int32} (hr : r < 4) (hn : n < 65) : mMi l yX7_makeBytes wsX7_makeBytes ({ frames := 1, cells := 0, slots := 0, locals := 23 } : Room) G cI cZ q [.int (nI (r)), .int (nI (n)), .int (x), .int (step)] (T) (D) (th) (nI (T 4 (T 5 r))) (u2 (u2 T 4 (fB T) n) 5 r (fB T)) (cpF D 3 (64 * fB T) (fun i => (x + nI i * step).toInt8.toInt32) n) (nI 0) := by
  refine mstarti (cc := cX7_makeBytes) (maxL := 8) (ret := (some .int)) (by decide) rfl rfl ⟨_, rfl⟩ (Nat.le_of_ble_eq_true rfl) (fun p e s m args below meth c Q hE X hW ls hl => ?_)
  have hl : lv_has ls 8 [(0, .ref (q 0)), (1, .int (nI (r))), (2, .int (nI (n))), (3, .int (x)), (4, .int (step))] := hl
  have hin : ∀ w ∈ wsX70, w ∈ wsX7_makeBytes := fun w h => List.mem_cons_of_mem _ (List.mem_append_left _ (List.mem_append_right _ (h)))
  have I1 := I.br hr
  have F := (fB_ok T).1
  refine lv_aload_n X.1 X.2.1 dX7_makeBytes_0 rfl (lv_at hl 0 rfl) ?_
  refine lv_aload_n X.1 X.2.1 dX7_makeBytes_1 rfl (lv_at hl 0 rfl) ?_
  refine lv_iload_n X.1 X.2.1 dX7_makeBytes_2 rfl (lv_at hl 1 rfl) ?_
  refine mcalli hq X hW (mt_isRow_ok l hq (T) (D) (th) (r := r) (by omega)) (cwV 1 X.2.2.2.2 gX7_makeBytes_X7_isRow rfl rfl rfl (by decide +kernel) ⟨Nat.le_of_ble_eq_true rfl, Nat.le_of_ble_eq_true rfl⟩) rfl rfl hl.1 (Nat.le_of_ble_eq_true rfl) dX7_makeBytes_3 ⟨Nat.zero_le _, Nat.zero_le _⟩ (fun H locs hW => ?_)
  refine n_if_ne_t (tgt := 13) X.1 X.2.1 dX7_makeBytes_6 (by decide) (by decide) (by omega) ?_
  refine lv_iload_n X.1 X.2.1 dX7_makeBytes_13 rfl (lv_at hl 2 rfl) ?_
  refine n_if_lt_f (tgt := 23) X.1 X.2.1 dX7_makeBytes_14 (by decide) (by omega) ?_
  refine lv_iload_n X.1 X.2.1 dX7_makeBytes_17 rfl (lv_at hl 2 rfl) ?_
  refine lv_bipush (v := nI 64) X.1 X.2.1 dX7_makeBytes_18 (by decide) ?_
  refine n_icmp_le_t (tgt := 27) X.1 X.2.1 dX7_makeBytes_20 (by decide) (by omega) (by omega) (by omega) ?_
  refine lv_iconst (v := nI 0) X.1 X.2.1 dX7_makeBytes_27 (by decide) ?_
  refine mcalli hq X hW (mt_isWrong_0 l hq (T) (D) (th)) (cwV 1 X.2.2.2.2 gX7_makeBytes_X7_isWrong rfl rfl rfl (by decide +kernel) ⟨Nat.le_of_ble_eq_true rfl, Nat.le_of_ble_eq_true rfl⟩) rfl rfl hl.1 (Nat.le_of_ble_eq_true rfl) dX7_makeBytes_28 ⟨Nat.zero_le _, Nat.zero_le _⟩ (fun H locs hW => ?_)
  refine n_if_eq_t (tgt := 36) X.1 X.2.1 dX7_makeBytes_31 (by decide) (by decide) (by omega) ?_
  refine lv_aload_n X.1 X.2.1 dX7_makeBytes_36 rfl (lv_at hl 0 rfl) ?_
  refine mget 4 (by decide) rfl X hin hW (X.2.2.2.2 (.fieldLink RX7 22 "StrandbookModel" "byteLengths" "[I") (List.mem_cons_of_mem _ (List.mem_append_left _ (List.mem_append_left _ (List.mem_of_getElem? (i := 0) rfl))))) dX7_makeBytes_37 ?_
  refine lv_aload_n X.1 X.2.1 dX7_makeBytes_40 rfl (lv_at hl 0 rfl) ?_
  refine mget 5 (by decide) rfl X hin hW (X.2.2.2.2 (.fieldLink RX7 25 "StrandbookModel" "byteRooms" "[I") (List.mem_cons_of_mem _ (List.mem_append_left _ (List.mem_append_left _ (List.mem_of_getElem? (i := 1) rfl))))) dX7_makeBytes_41 ?_
  refine lv_iload_n X.1 X.2.1 dX7_makeBytes_44 rfl (lv_at hl 1 rfl) ?_
  refine mld5 X hW (by omega) dX7_makeBytes_45 ?_
  refine mld4 X hW (by omega) dX7_makeBytes_46 ?_
  refine lv_istore (lv' := [(5, .int (nI (T 4 (T 5 (r))))), (0, .ref (q 0)), (1, .int (nI (r))), (2, .int (nI (n))), (3, .int (x)), (4, .int (step))]) X.1 X.2.1 dX7_makeBytes_47 hl (by decide) rfl (fun ls hl => ?_)
  refine lv_aload_n X.1 X.2.1 dX7_makeBytes_49 rfl (lv_at hl 1 rfl) ?_
  refine mcalli hq X hW (mt_freeBytes l hq (T) (D) (nI 0) I) (cwV 0 X.2.2.2.2 gX7_makeBytes_X7_freeBytes rfl rfl rfl (by decide +kernel) ⟨Nat.le_of_ble_eq_true rfl, Nat.le_of_ble_eq_true rfl⟩) rfl rfl hl.1 (Nat.le_of_ble_eq_true rfl) dX7_makeBytes_50 ⟨Nat.zero_le _, Nat.zero_le _⟩ (fun H locs hW => ?_)
  refine lv_istore (lv' := [(6, .int (nI (fB T))), (5, .int (nI (T 4 (T 5 (r))))), (0, .ref (q 0)), (1, .int (nI (r))), (2, .int (nI (n))), (3, .int (x)), (4, .int (step))]) X.1 X.2.1 dX7_makeBytes_53 hl (by decide) rfl (fun ls hl => ?_)
  refine lv_iconst (v := nI 0) X.1 X.2.1 dX7_makeBytes_55 (by decide) ?_
  refine lv_istore (lv' := [(7, .int (nI (0))), (6, .int (nI (fB T))), (5, .int (nI (T 4 (T 5 (r))))), (0, .ref (q 0)), (1, .int (nI (r))), (2, .int (nI (n))), (3, .int (x)), (4, .int (step))]) X.1 X.2.1 dX7_makeBytes_56 hl (by decide) rfl (fun ls hl => ?_)
  have loop58 : ∀ (n58 k58 : Nat), k58 + n58 = n → ∀ (H : Heap) (locs : List Loc), mH G cI cZ q (T) (cpF D 3 (64 * fB T) (fun i => (x + nI i * step).toInt8.toInt32) k58) (nI 0) s H locs → ∀ ls : Array Slot, lv_has ls 8 [(0, .ref (q 0)), (1, .int (nI (r))), (2, .int (nI (n))), (3, .int (x)), (4, .int (step)), (5, .int (nI (T 4 (T 5 (r))))), (6, .int (nI (fB T))), (7, .int (nI (k58)))] → W p l e ({ frames := 1, cells := 0, slots := 0, locals := 23 } : Room) s m args below meth c H locs 0 0 Q (F0 m 58 ls []) := by
    intro n58
    induction n58 with
    | zero =>
      intro k58 hk58  H locs hW ls hl
      obtain rfl : n = k58 := by omega
      refine lv_iload X.1 X.2.1 dX7_makeBytes_58 (lv_at hl 7 rfl) ?_
      refine lv_iload_n X.1 X.2.1 dX7_makeBytes_60 rfl (lv_at hl 2 rfl) ?_
      refine n_icmp_ge_t (tgt := 94) X.1 X.2.1 dX7_makeBytes_61 (by decide) (by omega) (by omega) (by omega) ?_
      refine lv_aload_n X.1 X.2.1 dX7_makeBytes_94 rfl (lv_at hl 0 rfl) ?_
      refine mget 4 (by decide) rfl X hin hW (X.2.2.2.2 (.fieldLink RX7 22 "StrandbookModel" "byteLengths" "[I") (List.mem_cons_of_mem _ (List.mem_append_left _ (List.mem_append_left _ (List.mem_of_getElem? (i := 0) rfl))))) dX7_makeBytes_95 ?_
      refine lv_iload X.1 X.2.1 dX7_makeBytes_98 (lv_at hl 6 rfl) ?_
      refine lv_iload_n X.1 X.2.1 dX7_makeBytes_100 rfl (lv_at hl 2 rfl) ?_
      refine mst4 hq X hW (by omega) dX7_makeBytes_101 (fun H locs hW => ?_)
      refine lv_aload_n X.1 X.2.1 dX7_makeBytes_102 rfl (lv_at hl 0 rfl) ?_
      refine mget 5 (by decide) rfl X hin hW (X.2.2.2.2 (.fieldLink RX7 25 "StrandbookModel" "byteRooms" "[I") (List.mem_cons_of_mem _ (List.mem_append_left _ (List.mem_append_left _ (List.mem_of_getElem? (i := 1) rfl))))) dX7_makeBytes_103 ?_
      refine lv_iload_n X.1 X.2.1 dX7_makeBytes_106 rfl (lv_at hl 1 rfl) ?_
      refine lv_iload X.1 X.2.1 dX7_makeBytes_107 (lv_at hl 6 rfl) ?_
      refine mst5 hq X hW (by omega) dX7_makeBytes_109 (fun H locs hW => ?_)
      refine lv_iload X.1 X.2.1 dX7_makeBytes_110 (lv_at hl 5 rfl) ?_
      exact hE _ _ _ _ _ (rfl) (fun ty hty => by cases hty; exact rfl) hW dX7_makeBytes_112
    | succ n58 ih58 =>
      intro k58 hk58  H locs hW ls hl
      refine lv_iload X.1 X.2.1 dX7_makeBytes_58 (lv_at hl 7 rfl) ?_
      refine lv_iload_n X.1 X.2.1 dX7_makeBytes_60 rfl (lv_at hl 2 rfl) ?_
      refine n_icmp_ge_f (tgt := 94) X.1 X.2.1 dX7_makeBytes_61 (by decide) (by omega) (by omega) (by omega) ?_
      refine lv_aload_n X.1 X.2.1 dX7_makeBytes_64 rfl (lv_at hl 0 rfl) ?_
      refine mget 3 (by decide) rfl X hin hW (X.2.2.2.2 (.fieldLink RX7 19 "StrandbookModel" "bytes" "[I") (List.mem_cons_of_mem _ (List.mem_append_left _ (List.mem_append_left _ (List.mem_of_getElem? (i := 2) rfl))))) dX7_makeBytes_65 ?_
      refine lv_bipush (v := nI 64) X.1 X.2.1 dX7_makeBytes_68 (by decide) ?_
      refine lv_iload X.1 X.2.1 dX7_makeBytes_70 (lv_at hl 6 rfl) ?_
      refine n_imul X.1 X.2.1 dX7_makeBytes_72 ?_
      refine lv_iload X.1 X.2.1 dX7_makeBytes_73 (lv_at hl 7 rfl) ?_
      refine n_iadd X.1 X.2.1 dX7_makeBytes_75 ?_
      refine lv_aload_n X.1 X.2.1 dX7_makeBytes_76 rfl (lv_at hl 0 rfl) ?_
      refine lv_iload_n X.1 X.2.1 dX7_makeBytes_77 rfl (lv_at hl 3 rfl) ?_
      refine lv_iload X.1 X.2.1 dX7_makeBytes_78 (lv_at hl 7 rfl) ?_
      refine lv_iload X.1 X.2.1 dX7_makeBytes_80 (lv_at hl 4 rfl) ?_
      refine lv_imul X.1 X.2.1 dX7_makeBytes_82 ?_
      refine lv_iadd X.1 X.2.1 dX7_makeBytes_83 ?_
      refine mcalli hq X hW (mt_low l hq (T) (cpF D 3 (64 * fB T) (fun i => (x + nI i * step).toInt8.toInt32) k58) (nI 0) ((x + ((nI (k58)) * step)))) (cwV 1 X.2.2.2.2 gX7_makeBytes_X7_low rfl rfl rfl (by decide +kernel) ⟨Nat.le_of_ble_eq_true rfl, Nat.le_of_ble_eq_true rfl⟩) rfl rfl hl.1 (Nat.le_of_ble_eq_true rfl) dX7_makeBytes_84 ⟨Nat.zero_le _, Nat.zero_le _⟩ (fun H locs hW => ?_)
      refine mst3 hq X hW (by omega) dX7_makeBytes_87 (fun H locs hW => ?_)
      refine lv_iinc (v := nI (k58 + 1)) (lv' := [(7, .int (nI (k58 + 1))), (0, .ref (q 0)), (1, .int (nI (r))), (2, .int (nI (n))), (3, .int (x)), (4, .int (step)), (5, .int (nI (T 4 (T 5 (r))))), (6, .int (nI (fB T)))]) X.1 X.2.1 dX7_makeBytes_88 hl (k := 7) rfl (nI_1 _) (by decide) rfl (fun ls hl => ?_)
      refine lv_goto (tgt := 58) X.1 X.2.1 dX7_makeBytes_91 (by decide) ?_
      exact ih58 (k58 + 1) (by omega) _ _ (hW.eq (rfl) (cpF_S' rfl rfl) rfl) ls (lv_sub hl [1, 2, 3, 4, 5, 6, 7, 0] rfl)
  exact loop58 ((n) - (0)) (0) (by omega) _ _ (hW.eq (rfl) (cpF_0.symm) rfl) ls (lv_sub hl [3, 4, 5, 6, 7, 2, 1, 0] rfl)

theorem mo_makeBytes (l : Launch) {G : va_G} {cI cZ : ClassId} {q : Nat → Nat} (hq : mJ q) (T : mT) (D : mD) (th : Int32) (I : mI T) (J : mJD D) (row n x step : Int32) : mO l yX7_makeBytes wsX7_makeBytes ({ frames := 1, cells := 0, slots := 0, locals := 23 } : Room) G cI cZ q [.int row, .int n, .int x, .int step] T D th (sp_makeBytes T D row n x step) := by
  by_cases h1 : oN row 4
  · rw [show sp_makeBytes T D row n x step = no T D 1 from if_pos h1]; exact mt_makeBytes_1 l hq T D th h1
  · obtain ⟨r, hr, rfl⟩ := oN_in (by decide) h1
    by_cases h2 : oN n 65
    · rw [show sp_makeBytes T D (nI r) n x step = no T D 2 from (if_neg h1).trans (if_pos h2)]
      by_cases h3 : n < 0
      · exact mt_makeBytes_2a l hq T D th hr h3
      · obtain ⟨n, g1, g2, rfl⟩ := oN_ge h2 h3
        exact mt_makeBytes_2b l hq T D th hr g1 g2
    · obtain ⟨n, hn, rfl⟩ := oN_in (by decide) h2
      rw [show sp_makeBytes T D (nI r) (nI n) x step = sk_makeBytes T D r n x step from (if_neg h1).trans ((if_neg h2).trans (by rw [nI_clamp (by omega), nI_clamp (by omega)]))]
      exact mt_makeBytes l hq T D th I hr hn
