/-! the class's cells hold the state T, D of the reference -/
def uS (T : mT) (z : Nat) : Prop := (∃ r, r < 4 ∧ T 2 r = z) ∨ ∃ i, i < 3 ∧ T 8 i = z + 1
def uB (T : mT) (z : Nat) : Prop := (∃ r, r < 4 ∧ T 5 r = z) ∨ ∃ k, k < 6 ∧ T 14 k = z + 1
/-- the cells by their names: the book 0, its rows 1, its trial 2, rows of signs 3 with arrays 4, of bytes 5 with 6, writers 7 with 8, readers 9, streams 10 with parts 11, the trial's row 12 with 13, three 14, together 15, two 16 -/
def lv (T : mT) (k i : Nat) : Prop := (k = 0 ∧ i = 0) ∨ (k = 1 ∧ i < 6) ∨ (k = 2 ∧ i = 0) ∨ ((k = 3 ∨ k = 4) ∧ uS T i) ∨ ((k = 5 ∨ k = 6) ∧ uB T i) ∨ ((k = 7 ∨ k = 8) ∧ i < 8) ∨ (k = 9 ∧ i < 4) ∨ ((k = 10 ∨ k = 11) ∧ i < 3) ∨ (12 ≤ k ∧ k ≤ 16 ∧ i = 0)
def kd (k i : Nat) : Nat := if k = 0 then 6 else if k = 1 then (if i = 0 then 13 else if i = 1 then 10 else if i ≤ 3 then 14 else if i = 4 then 12 else 11) else if k = 2 then 5 else if k = 3 then 3 else if k = 4 then 8 else if k = 5 then 0 else if k = 6 then 7 else if k = 7 then 4 else if k = 8 then 8 else if k = 9 then 2 else if k = 10 then 1 else if k = 11 then 10 else if k = 12 then 3 else if k = 13 then 8 else if k = 14 then 8 else 7
abbrev pN : Type := Nat → Nat
abbrev pD : Type := Nat → Nat → Nat
def rpA (T : mT) (ad : pD) (L : List Nat) (K : pN) : Prop := (∀ k i, lv T k i → ad k i ∈ L ∧ K (ad k i) = kd k i) ∧ ∀ k i k2 i2, lv T k i → lv T k2 i2 → ad k i = ad k2 i2 → k = k2 ∧ i = i2
def rpT (ad : pD) (R : pR) (N : pN) : Prop := R 5 (ad 2 0) = some (ad 12 0) ∧ R 6 (ad 2 0) = some (ad 14 0) ∧ R 7 (ad 2 0) = some (ad 9 3) ∧ R 8 (ad 2 0) = some (ad 7 6) ∧ R 9 (ad 2 0) = some (ad 7 7) ∧ R 10 (ad 2 0) = some (ad 15 0) ∧ R 11 (ad 2 0) = some (ad 16 0) ∧ R 12 (ad 2 0) = some (ad 10 2) ∧ R 3 (ad 12 0) = some (ad 13 0) ∧ N (ad 13 0) = 256 ∧ N (ad 14 0) = 3 ∧ N (ad 15 0) = 192 ∧ N (ad 16 0) = 2
def rpC (ad : pD) (R : pR) (Q : pR) (N : pN) : Prop := (∀ k, k < 6 → R (13 + k) (ad 0 0) = some (ad 1 k)) ∧ R 19 (ad 0 0) = some (ad 2 0) ∧ (N (ad 1 0) = 4 ∧ N (ad 1 1) = 4 ∧ N (ad 1 2) = 3 ∧ N (ad 1 3) = 3 ∧ N (ad 1 4) = 3 ∧ N (ad 1 5) = 2) ∧
  (∀ w, w < 3 → Q (ad 1 2) w = some (ad 7 w)) ∧ (∀ w, w < 3 → Q (ad 1 3) w = some (ad 7 (3 + w))) ∧ (∀ i, i < 3 → Q (ad 1 4) i = some (ad 9 i)) ∧ (∀ j, j < 2 → Q (ad 1 5) j = some (ad 10 j)) ∧
  (∀ w, w < 8 → R 4 (ad 7 w) = some (ad 8 w) ∧ N (ad 8 w) = 256) ∧ (∀ j, j < 3 → R 1 (ad 10 j) = some (ad 11 j) ∧ N (ad 11 j) = 3) ∧ rpT ad R N
def rpQ (T : mT) (ad : pD) (Q : pR) : Prop := (∀ r, r < 4 → Q (ad 1 0) r = some (ad 3 (T 2 r))) ∧ ∀ r, r < 4 → Q (ad 1 1) r = some (ad 5 (T 5 r))
def rpS (T : mT) (D : mD) (ad : pD) (R : pR) (A : mD) (N : pN) : Prop := ∀ z, uS T z → R 3 (ad 3 z) = some (ad 4 z) ∧ N (ad 4 z) = T 1 z ∧ ∀ j, j < T 1 z → A (ad 4 z) j = D 0 (256 * z + j)
def rpB (T : mT) (D : mD) (ad : pD) (R : pR) (A : mD) (N : pN) : Prop := ∀ z, uB T z → R 0 (ad 5 z) = some (ad 6 z) ∧ N (ad 6 z) = T 4 z ∧ ∀ j, j < T 4 z → A (ad 6 z) j = D 3 (64 * z + j)
def rpW (T : mT) (D : mD) (ad : pD) (I : pI) (A : mD) : Prop := (∀ w, w < 6 → I 10 (ad 7 w) = nI (T 7 w) ∧ ∀ j, j < T 7 w → A (ad 8 w) j = D 6 (256 * w + j)) ∧ ∀ w, 6 ≤ w → w < 8 → ∃ n, n ≤ 256 ∧ I 10 (ad 7 w) = nI n
def rpR (T : mT) (ad : pD) (R : pR) (I : pI) : Prop := ∀ i, i < 3 → (T 8 i = 0 → I 8 (ad 9 i) = nI 0) ∧ (T 8 i ≠ 0 → I 8 (ad 9 i) = nI 1 ∧ R 2 (ad 9 i) = some (ad 3 (T 8 i - 1)) ∧ I 5 (ad 9 i) = nI (T 9 i) ∧ I 6 (ad 9 i) = nI (T 10 i) ∧ I 7 (ad 9 i) = nI (T 11 i) ∧ I 9 (ad 9 i) = nI (T 12 i))
def rpJ (T : mT) (ad : pD) (I : pI) (Q : pR) : Prop := ∀ j, j < 2 → I 0 (ad 10 j) = nI (T 13 j) ∧ I 1 (ad 10 j) = nI (T 16 j) ∧ (∃ pl, I 2 (ad 10 j) = nI pl ∧ pl ≤ 64 ∧ (T 16 j < T 13 j → pl = T 15 (3 * j + T 16 j))) ∧ I 3 (ad 10 j) = nI (T 18 j) ∧ I 4 (ad 10 j) = nI (T 17 j) ∧ ∀ k, k < T 13 j → Q (ad 11 j) k = some (ad 5 (T 14 (3 * j + k) - 1))
def Rep (T : mT) (D : mD) (ad : pD) (L : List Nat) (K : pN) (R : pR) (I : pI) (A : mD) (Q : pR) (N : pN) : Prop := rpA T ad L K ∧ rpC ad R Q N ∧ rpQ T ad Q ∧ rpS T D ad R A N ∧ rpB T D ad R A N ∧ rpW T D ad I A ∧ rpR T ad R I ∧ rpJ T ad I Q ∧ mI T ∧ mJD D
section RP
variable {T : mT} {D : mD} {ad : pD} {L : List Nat} {K : pN} {R : pR} {I : pI} {A : mD} {Q : pR} {N : pN}
theorem lv_0 : lv T 0 0 := Or.inl ⟨rfl, rfl⟩
theorem lv_1 {i : Nat} (h : i < 6) : lv T 1 i := Or.inr (Or.inl ⟨rfl, h⟩)
theorem lv_2 : lv T 2 0 := Or.inr (Or.inr (Or.inl ⟨rfl, rfl⟩))
theorem lv_3 {z : Nat} (h : uS T z) : lv T 3 z := Or.inr (Or.inr (Or.inr (Or.inl ⟨Or.inl rfl, h⟩)))
theorem lv_4 {z : Nat} (h : uS T z) : lv T 4 z := Or.inr (Or.inr (Or.inr (Or.inl ⟨Or.inr rfl, h⟩)))
theorem lv_5 {z : Nat} (h : uB T z) : lv T 5 z := Or.inr (Or.inr (Or.inr (Or.inr (Or.inl ⟨Or.inl rfl, h⟩))))
theorem lv_6 {z : Nat} (h : uB T z) : lv T 6 z := Or.inr (Or.inr (Or.inr (Or.inr (Or.inl ⟨Or.inr rfl, h⟩))))
theorem lv_7 {w : Nat} (h : w < 8) : lv T 7 w := Or.inr (Or.inr (Or.inr (Or.inr (Or.inr (Or.inl ⟨Or.inl rfl, h⟩)))))
theorem lv_8 {w : Nat} (h : w < 8) : lv T 8 w := Or.inr (Or.inr (Or.inr (Or.inr (Or.inr (Or.inl ⟨Or.inr rfl, h⟩)))))
theorem lv_9 {i : Nat} (h : i < 4) : lv T 9 i := Or.inr (Or.inr (Or.inr (Or.inr (Or.inr (Or.inr (Or.inl ⟨rfl, h⟩))))))
theorem lv_10 {j : Nat} (h : j < 3) : lv T 10 j := Or.inr (Or.inr (Or.inr (Or.inr (Or.inr (Or.inr (Or.inr (Or.inl ⟨Or.inl rfl, h⟩)))))))
theorem lv_11 {j : Nat} (h : j < 3) : lv T 11 j := Or.inr (Or.inr (Or.inr (Or.inr (Or.inr (Or.inr (Or.inr (Or.inl ⟨Or.inr rfl, h⟩)))))))
theorem lv_t {k : Nat} (h : 12 ≤ k) (h2 : k ≤ 16) : lv T k 0 := Or.inr (Or.inr (Or.inr (Or.inr (Or.inr (Or.inr (Or.inr (Or.inr ⟨h, h2, rfl⟩)))))))
theorem uS_row {r : Nat} (h : r < 4) : uS T (T 2 r) := Or.inl ⟨r, h, rfl⟩
theorem uS_rd {i : Nat} (h : i < 3) (h2 : T 8 i ≠ 0) : uS T (T 8 i - 1) := Or.inr ⟨i, h, by omega⟩
theorem uB_row {r : Nat} (h : r < 4) : uB T (T 5 r) := Or.inl ⟨r, h, rfl⟩
theorem uB_pt {k : Nat} (h : k < 6) (h2 : T 14 k ≠ 0) : uB T (T 14 k - 1) := Or.inr ⟨k, h, by omega⟩
theorem uS_lt (h : mI T) {z : Nat} (hz : uS T z) : z < 8 := by
  rcases hz with ⟨r, hr, rfl⟩ | ⟨i, hi, e⟩
  · exact h.sr hr
  · have := (h.rd hi).1; omega
theorem uB_lt (h : mI T) {z : Nat} (hz : uB T z) : z < 11 := by
  rcases hz with ⟨r, hr, rfl⟩ | ⟨k, hk, e⟩
  · exact h.br hr
  · have := mI_pr h hk; omega
theorem Rep.mi (h : Rep T D ad L K R I A Q N) : mI T := h.2.2.2.2.2.2.2.2.1
theorem Rep.md (h : Rep T D ad L K R I A Q N) : mJD D := h.2.2.2.2.2.2.2.2.2
theorem Rep.rc (h : Rep T D ad L K R I A Q N) : rpC ad R Q N := h.2.1
theorem Rep.rs (h : Rep T D ad L K R I A Q N) : rpS T D ad R A N := h.2.2.2.1
theorem Rep.rb (h : Rep T D ad L K R I A Q N) : rpB T D ad R A N := h.2.2.2.2.1
theorem Rep.rw (h : Rep T D ad L K R I A Q N) : rpW T D ad I A := h.2.2.2.2.2.1
theorem Rep.rr (h : Rep T D ad L K R I A Q N) : rpR T ad R I := h.2.2.2.2.2.2.1
theorem Rep.rj (h : Rep T D ad L K R I A Q N) : rpJ T ad I Q := h.2.2.2.2.2.2.2.1
theorem Rep.rq (h : Rep T D ad L K R I A Q N) : rpQ T ad Q := h.2.2.1
theorem Rep.mem (h : Rep T D ad L K R I A Q N) {k i : Nat} (hl : lv T k i) : ad k i ∈ L := (h.1.1 k i hl).1
theorem Rep.kn (h : Rep T D ad L K R I A Q N) {k i x : Nat} (hl : lv T k i) (hx : kd k i = x) : K (ad k i) = x := (h.1.1 k i hl).2.trans hx
theorem Rep.ne (h : Rep T D ad L K R I A Q N) {k i k2 i2 : Nat} (hl : lv T k i) (hl2 : lv T k2 i2) (hn : k ≠ k2 ∨ i ≠ i2) : ad k i ≠ ad k2 i2 := fun z => by
  obtain ⟨e1, e2⟩ := h.1.2 k i k2 i2 hl hl2 z
  exact hn.elim (fun n => n e1) (fun n => n e2)
theorem Rep.wr (h : Rep T D ad L K R I A Q N) {w : Nat} (hw : w < 6) : isWr L K R I N (ad 7 w) (ad 8 w) (T 7 w) :=
  ⟨h.mem (lv_7 (by omega)), h.kn (lv_7 (by omega)) rfl, (h.rc.2.2.2.2.2.2.2.1 w (by omega)).1, h.mem (lv_8 (by omega)), h.kn (lv_8 (by omega)) rfl, (h.rc.2.2.2.2.2.2.2.1 w (by omega)).2, (h.rw.1 w hw).1, h.mi.wr hw⟩
theorem Rep.sr (h : Rep T D ad L K R I A Q N) {z : Nat} (hz : uS T z) : isSR L K R N (ad 3 z) (ad 4 z) (T 1 z) :=
  ⟨h.mem (lv_3 hz), h.kn (lv_3 hz) rfl, (h.rs z hz).1, h.mem (lv_4 hz), h.kn (lv_4 hz) rfl, (h.rs z hz).2.1, h.mi.sl (uS_lt h.mi hz)⟩
theorem Rep.ca (h : Rep T D ad L K R I A Q N) {z : Nat} (hz : uS T z) : isCA L K N (ad 4 z) (T 1 z) := ⟨(h.sr hz).2.2.2.1, (h.sr hz).2.2.2.2.1, (h.sr hz).2.2.2.2.2.1, (h.sr hz).2.2.2.2.2.2⟩
theorem Rep.br (h : Rep T D ad L K R I A Q N) {z : Nat} (hz : uB T z) : isBR L K R N (ad 5 z) (ad 6 z) (T 4 z) :=
  ⟨h.mem (lv_5 hz), h.kn (lv_5 hz) rfl, (h.rb z hz).1, h.mem (lv_6 hz), h.kn (lv_6 hz) rfl, (h.rb z hz).2.1, h.mi.bl (uB_lt h.mi hz)⟩
theorem Rep.ba (h : Rep T D ad L K R I A Q N) {z : Nat} (hz : uB T z) : isBA L K N (ad 6 z) (T 4 z) := ⟨(h.br hz).2.2.2.1, (h.br hz).2.2.2.2.1, (h.br hz).2.2.2.2.2.1, by have := (h.br hz).2.2.2.2.2.2; omega⟩
theorem Rep.sA (h : Rep T D ad L K R I A Q N) {z j : Nat} (hz : uS T z) (hj : j < T 1 z) : A (ad 4 z) j = D 0 (256 * z + j) := (h.rs z hz).2.2 j hj
theorem Rep.bA (h : Rep T D ad L K R I A Q N) {z j : Nat} (hz : uB T z) (hj : j < T 4 z) : A (ad 6 z) j = D 3 (64 * z + j) := (h.rb z hz).2.2 j hj
theorem Rep.wA (h : Rep T D ad L K R I A Q N) {w j : Nat} (hw : w < 6) (hj : j < T 7 w) : A (ad 8 w) j = D 6 (256 * w + j) := (h.rw.1 w hw).2 j hj
theorem Rep.sN (h : Rep T D ad L K R I A Q N) {z j : Nat} (hz : uS T z) (hj : j < T 1 z) : vp_nar .char (A (ad 4 z) j) = A (ad 4 z) j := by rw [h.sA hz hj]; exact nar_c (h.md.1 _)
theorem Rep.wN (h : Rep T D ad L K R I A Q N) {w j : Nat} (hw : w < 6) (hj : j < T 7 w) : vp_nar .char (A (ad 8 w) j) = A (ad 8 w) j := by rw [h.wA hw hj]; exact nar_c (h.md.2.2.1 _)
theorem Rep.bN (h : Rep T D ad L K R I A Q N) {z j : Nat} (hz : uB T z) (hj : j < T 4 z) : vp_nar .byte (A (ad 6 z) j) = A (ad 6 z) j := by rw [h.bA hz hj]; exact nI_low8 (h.md.2.1 _)
theorem Rep.rd (h : Rep T D ad L K R I A Q N) {i : Nat} (hi : i < 3) (h2 : T 8 i ≠ 0) : isRd L K R I (ad 9 i) (ad 3 (T 8 i - 1)) (T 9 i) (T 10 i) :=
  ⟨h.mem (lv_9 (by omega)), h.kn (lv_9 (by omega)) rfl, ((h.rr i hi).2 h2).2.1, ((h.rr i hi).2 h2).2.2.1, ((h.rr i hi).2 h2).2.2.2.1, (h.mi.rd hi).2.1, (h.mi.rd hi).2.2.2.1⟩
theorem Rep.js (h : Rep T D ad L K R I A Q N) {j : Nat} (hj : j < 2) : ∃ pl, isJS L K R I N (ad 10 j) (ad 11 j) (T 13 j) (T 16 j) pl ∧ (T 16 j < T 13 j → pl = T 15 (3 * j + T 16 j)) := by
  obtain ⟨h1, h2, ⟨pl, h3, h4, h5⟩, -⟩ := h.rj j hj
  exact ⟨pl, ⟨h.mem (lv_10 (by omega)), h.kn (lv_10 (by omega)) rfl, (h.rc.2.2.2.2.2.2.2.2.1 j (by omega)).1, h.mem (lv_11 (by omega)), h.kn (lv_11 (by omega)) rfl, (h.rc.2.2.2.2.2.2.2.2.1 j (by omega)).2, h1, h2, h3, (h.mi.stI hj).le, (h.mi.stI hj).2.1, h4⟩, h5⟩
theorem Rep.up (h : Rep T D ad L K R I A Q N) {j k : Nat} (hj : j < 2) (hk : k < T 13 j) : uB T (T 14 (3 * j + k) - 1) := by
  have h9 := (h.mi.stI hj).le
  have := ((h.mi.stI hj).2.2 k (by omega)).2.1 hk
  exact uB_pt (by omega) (by omega)
theorem Rep.pt (h : Rep T D ad L K R I A Q N) {j : Nat} (hj : j < 2) : isPt L K R Q N (ad 11 j) (T 13 j) (fun k => ad 5 (T 14 (3 * j + k) - 1)) (fun k => ad 6 (T 14 (3 * j + k) - 1)) (fun k => T 4 (T 14 (3 * j + k) - 1)) :=
  fun k hk => ⟨(h.rj j hj).2.2.2.2.2 k hk, h.br (h.up hj hk)⟩
end RP
set_option maxHeartbeats 4000000 in
set_option maxRecDepth 100000 in
theorem cg_signRowAt (l : Launch) {G : va_G} {kT : Nat → ClassId} {L : List Nat} {K : Nat → Nat} {R : pR} {I : pI} {A : mD} {Q : pR} {N : Nat → Nat} {T : mT} {D : mD} {ad : pD} (HB : Rep T D ad L K R I A Q N) {r : Nat} (hr : r < 4) : cMr l yX6_signRowAt wsX6_signRowAt ({ frames := 6, cells := 0, slots := 0, locals := 100 } : Room) G kT [.ref (ad 0 0), .int (nI (r))] L K (R) (I) (A) (Q) N (ad 3 (T 2 r)) (R) (I) (A) (Q) := by
  refine cstr (cc := cX6_signRowAt) (maxL := 2) (ret := (some (.object "Strandbook$SignRow"))) (by decide) rfl ⟨_, rfl⟩ (Nat.le_of_ble_eq_true rfl) (fun p e s m args below meth c Z hE X hW ls hl => ?_)
  have X : CallFix p m c cX6_signRowAt 2 s args wsX6_signRowAt RX6 := X
  have hl : lv_has ls 2 [(0, .ref (ad 0 0)), (1, .int (nI (r)))] := hl
  have hin6 : ∀ w ∈ wsX60, w ∈ wsX6_signRowAt := fun w h => List.mem_cons_of_mem _ (List.mem_append_left _ (List.mem_append_right _ (h)))
  refine lv_iload_n X.1 X.2.1 dX6_signRowAt_0 rfl (lv_at hl 1 rfl) ?_
  refine n_if_lt_f (tgt := 9) X.1 X.2.1 dX6_signRowAt_1 (by decide) (by omega) ?_
  refine lv_iload_n X.1 X.2.1 dX6_signRowAt_4 rfl (lv_at hl 1 rfl) ?_
  refine lv_iconst (v := nI 4) X.1 X.2.1 dX6_signRowAt_5 (by decide) ?_
  refine n_icmp_lt_t (tgt := 20) X.1 X.2.1 dX6_signRowAt_6 (by decide) (by omega) (by omega) (by omega) ?_
  refine lv_aload_n X.1 X.2.1 dX6_signRowAt_20 rfl (lv_at hl 0 rfl) ?_
  refine cg_6_signRows X hin6 hW (HB.mem lv_0) (HB.kn lv_0 rfl) (HB.rc.1 0 (by decide)) (X.2.2.2.2 (.fieldLink RX6 11 "Strandbook" "signRows" "[LStrandbook$SignRow;") (List.mem_cons_of_mem _ (List.mem_append_left _ (List.mem_append_left _ (List.mem_of_getElem? (i := 2) rfl))))) dX6_signRowAt_21 ?_
  refine lv_iload_n X.1 X.2.1 dX6_signRowAt_24 rfl (lv_at hl 1 rfl) ?_
  refine cld_13 X hW (HB.mem (lv_1 (by decide))) (HB.kn (lv_1 (by decide)) rfl) (by rw [HB.rc.2.2.1.1]; omega) (by omega) (HB.rq.1 r (by omega)) dX6_signRowAt_25 ?_
  exact hE _ _ _ _ _ (rfl) hW dX6_signRowAt_26
set_option maxHeartbeats 4000000 in
set_option maxRecDepth 100000 in
theorem cg_textWriterAt (l : Launch) {G : va_G} {kT : Nat → ClassId} {L : List Nat} {K : Nat → Nat} {R : pR} {I : pI} {A : mD} {Q : pR} {N : Nat → Nat} {T : mT} {D : mD} {ad : pD} (HB : Rep T D ad L K R I A Q N) {r : Nat} (hr : r < 3) : cMr l yX6_textWriterAt wsX6_textWriterAt ({ frames := 6, cells := 0, slots := 0, locals := 100 } : Room) G kT [.ref (ad 0 0), .int (nI (r))] L K (R) (I) (A) (Q) N (ad 7 r) (R) (I) (A) (Q) := by
  refine cstr (cc := cX6_textWriterAt) (maxL := 2) (ret := (some (.object "Strandbook$SignWriter"))) (by decide) rfl ⟨_, rfl⟩ (Nat.le_of_ble_eq_true rfl) (fun p e s m args below meth c Z hE X hW ls hl => ?_)
  have X : CallFix p m c cX6_textWriterAt 2 s args wsX6_textWriterAt RX6 := X
  have hl : lv_has ls 2 [(0, .ref (ad 0 0)), (1, .int (nI (r)))] := hl
  have hin6 : ∀ w ∈ wsX60, w ∈ wsX6_textWriterAt := fun w h => List.mem_cons_of_mem _ (List.mem_append_left _ (List.mem_append_right _ (h)))
  refine lv_iload_n X.1 X.2.1 dX6_textWriterAt_0 rfl (lv_at hl 1 rfl) ?_
  refine n_if_lt_f (tgt := 9) X.1 X.2.1 dX6_textWriterAt_1 (by decide) (by omega) ?_
  refine lv_iload_n X.1 X.2.1 dX6_textWriterAt_4 rfl (lv_at hl 1 rfl) ?_
  refine lv_iconst (v := nI 3) X.1 X.2.1 dX6_textWriterAt_5 (by decide) ?_
  refine n_icmp_lt_t (tgt := 20) X.1 X.2.1 dX6_textWriterAt_6 (by decide) (by omega) (by omega) (by omega) ?_
  refine lv_aload_n X.1 X.2.1 dX6_textWriterAt_20 rfl (lv_at hl 0 rfl) ?_
  refine cg_6_textWriters X hin6 hW (HB.mem lv_0) (HB.kn lv_0 rfl) (HB.rc.1 2 (by decide)) (X.2.2.2.2 (.fieldLink RX6 27 "Strandbook" "textWriters" "[LStrandbook$SignWriter;") (List.mem_cons_of_mem _ (List.mem_append_left _ (List.mem_append_left _ (List.mem_of_getElem? (i := 2) rfl))))) dX6_textWriterAt_21 ?_
  refine lv_iload_n X.1 X.2.1 dX6_textWriterAt_24 rfl (lv_at hl 1 rfl) ?_
  refine cld_14 X hW (HB.mem (lv_1 (by decide))) (HB.kn (lv_1 (by decide)) rfl) (by rw [HB.rc.2.2.1.2.2.1]; omega) (by omega) (HB.rc.2.2.2.1 r (by omega)) dX6_textWriterAt_25 ?_
  exact hE _ _ _ _ _ (rfl) hW dX6_textWriterAt_26
set_option maxHeartbeats 4000000 in
set_option maxRecDepth 100000 in
theorem cg_arrayWriterAt (l : Launch) {G : va_G} {kT : Nat → ClassId} {L : List Nat} {K : Nat → Nat} {R : pR} {I : pI} {A : mD} {Q : pR} {N : Nat → Nat} {T : mT} {D : mD} {ad : pD} (HB : Rep T D ad L K R I A Q N) {r : Nat} (hr : r < 3) : cMr l yX6_arrayWriterAt wsX6_arrayWriterAt ({ frames := 6, cells := 0, slots := 0, locals := 100 } : Room) G kT [.ref (ad 0 0), .int (nI (r))] L K (R) (I) (A) (Q) N (ad 7 (3 + r)) (R) (I) (A) (Q) := by
  refine cstr (cc := cX6_arrayWriterAt) (maxL := 2) (ret := (some (.object "Strandbook$SignWriter"))) (by decide) rfl ⟨_, rfl⟩ (Nat.le_of_ble_eq_true rfl) (fun p e s m args below meth c Z hE X hW ls hl => ?_)
  have X : CallFix p m c cX6_arrayWriterAt 2 s args wsX6_arrayWriterAt RX6 := X
  have hl : lv_has ls 2 [(0, .ref (ad 0 0)), (1, .int (nI (r)))] := hl
  have hin6 : ∀ w ∈ wsX60, w ∈ wsX6_arrayWriterAt := fun w h => List.mem_cons_of_mem _ (List.mem_append_left _ (List.mem_append_right _ (h)))
  refine lv_iload_n X.1 X.2.1 dX6_arrayWriterAt_0 rfl (lv_at hl 1 rfl) ?_
  refine n_if_lt_f (tgt := 9) X.1 X.2.1 dX6_arrayWriterAt_1 (by decide) (by omega) ?_
  refine lv_iload_n X.1 X.2.1 dX6_arrayWriterAt_4 rfl (lv_at hl 1 rfl) ?_
  refine lv_iconst (v := nI 3) X.1 X.2.1 dX6_arrayWriterAt_5 (by decide) ?_
  refine n_icmp_lt_t (tgt := 20) X.1 X.2.1 dX6_arrayWriterAt_6 (by decide) (by omega) (by omega) (by omega) ?_
  refine lv_aload_n X.1 X.2.1 dX6_arrayWriterAt_20 rfl (lv_at hl 0 rfl) ?_
  refine cg_6_arrayWriters X hin6 hW (HB.mem lv_0) (HB.kn lv_0 rfl) (HB.rc.1 3 (by decide)) (X.2.2.2.2 (.fieldLink RX6 31 "Strandbook" "arrayWriters" "[LStrandbook$SignWriter;") (List.mem_cons_of_mem _ (List.mem_append_left _ (List.mem_append_left _ (List.mem_of_getElem? (i := 2) rfl))))) dX6_arrayWriterAt_21 ?_
  refine lv_iload_n X.1 X.2.1 dX6_arrayWriterAt_24 rfl (lv_at hl 1 rfl) ?_
  refine cld_14 X hW (HB.mem (lv_1 (by decide))) (HB.kn (lv_1 (by decide)) rfl) (by rw [HB.rc.2.2.1.2.2.2.1]; omega) (by omega) (HB.rc.2.2.2.2.1 r (by omega)) dX6_arrayWriterAt_25 ?_
  exact hE _ _ _ _ _ (rfl) hW dX6_arrayWriterAt_26
set_option maxHeartbeats 4000000 in
set_option maxRecDepth 100000 in
theorem cg_readerAt (l : Launch) {G : va_G} {kT : Nat → ClassId} {L : List Nat} {K : Nat → Nat} {R : pR} {I : pI} {A : mD} {Q : pR} {N : Nat → Nat} {T : mT} {D : mD} {ad : pD} (HB : Rep T D ad L K R I A Q N) {r : Nat} (hr : r < 3) : cMr l yX6_readerAt wsX6_readerAt ({ frames := 6, cells := 0, slots := 0, locals := 100 } : Room) G kT [.ref (ad 0 0), .int (nI (r))] L K (R) (I) (A) (Q) N (ad 9 r) (R) (I) (A) (Q) := by
  refine cstr (cc := cX6_readerAt) (maxL := 2) (ret := (some (.object "Strandbook$SignReader"))) (by decide) rfl ⟨_, rfl⟩ (Nat.le_of_ble_eq_true rfl) (fun p e s m args below meth c Z hE X hW ls hl => ?_)
  have X : CallFix p m c cX6_readerAt 2 s args wsX6_readerAt RX6 := X
  have hl : lv_has ls 2 [(0, .ref (ad 0 0)), (1, .int (nI (r)))] := hl
  have hin6 : ∀ w ∈ wsX60, w ∈ wsX6_readerAt := fun w h => List.mem_cons_of_mem _ (List.mem_append_left _ (List.mem_append_right _ (h)))
  refine lv_iload_n X.1 X.2.1 dX6_readerAt_0 rfl (lv_at hl 1 rfl) ?_
  refine n_if_lt_f (tgt := 9) X.1 X.2.1 dX6_readerAt_1 (by decide) (by omega) ?_
  refine lv_iload_n X.1 X.2.1 dX6_readerAt_4 rfl (lv_at hl 1 rfl) ?_
  refine lv_iconst (v := nI 3) X.1 X.2.1 dX6_readerAt_5 (by decide) ?_
  refine n_icmp_lt_t (tgt := 20) X.1 X.2.1 dX6_readerAt_6 (by decide) (by omega) (by omega) (by omega) ?_
  refine lv_aload_n X.1 X.2.1 dX6_readerAt_20 rfl (lv_at hl 0 rfl) ?_
  refine cg_6_readers X hin6 hW (HB.mem lv_0) (HB.kn lv_0 rfl) (HB.rc.1 4 (by decide)) (X.2.2.2.2 (.fieldLink RX6 37 "Strandbook" "readers" "[LStrandbook$SignReader;") (List.mem_cons_of_mem _ (List.mem_append_left _ (List.mem_append_left _ (List.mem_of_getElem? (i := 2) rfl))))) dX6_readerAt_21 ?_
  refine lv_iload_n X.1 X.2.1 dX6_readerAt_24 rfl (lv_at hl 1 rfl) ?_
  refine cld_12 X hW (HB.mem (lv_1 (by decide))) (HB.kn (lv_1 (by decide)) rfl) (by rw [HB.rc.2.2.1.2.2.2.2.1]; omega) (by omega) (HB.rc.2.2.2.2.2.1 r (by omega)) dX6_readerAt_25 ?_
  exact hE _ _ _ _ _ (rfl) hW dX6_readerAt_26
theorem and_255 (x : Int32) : (x &&& nI 255) &&& nI 255 = x &&& nI 255 := by rw [Int32.and_assoc]; rfl
set_option maxHeartbeats 4000000 in
set_option maxRecDepth 100000 in
theorem cg_cut (l : Launch) {G : va_G} {kT : Nat → ClassId} {L : List Nat} {K : Nat → Nat} {R : pR} {I : pI} {A : mD} {Q : pR} {N : Nat → Nat} {x : Int32} : cMi l yX6_cut wsX6_cut ({ frames := 0, cells := 0, slots := 0, locals := 0 } : Room) G kT [.int (x)] L K (R) (I) (A) (Q) N (x &&& nI 255) (R) (I) (A) (Q) := by
  refine csti (cc := cX6_cut) (maxL := 1) (ret := (some .char)) (by decide) rfl ⟨_, rfl⟩ (Nat.le_of_ble_eq_true rfl) (fun p e s m args below meth c Z hE X hW ls hl => ?_)
  have X : CallFix p m c cX6_cut 1 s args wsX6_cut RX6 := X
  have hl : lv_has ls 1 [(0, .int (x))] := hl
  refine lv_iload_n X.1 X.2.1 dX6_cut_0 rfl (lv_at hl 0 rfl) ?_
  refine lv_sipush (v := nI 255) X.1 X.2.1 dX6_cut_1 (by decide) ?_
  refine lv_iand X.1 X.2.1 dX6_cut_4 ?_
  refine lv_i2c (v := x &&& nI 255) X.1 X.2.1 dX6_cut_5 (cvc_255 (x := x &&& nI 255) (and_255 x)) ?_
  exact hE _ _ _ _ _ (rfl) (fun ty hty => by cases hty; exact nar_255 (and_255 x)) hW dX6_cut_6
set_option maxHeartbeats 4000000 in
set_option maxRecDepth 100000 in
theorem cg_requirePlace (l : Launch) {G : va_G} {kT : Nat → ClassId} {L : List Nat} {K : Nat → Nat} {R : pR} {I : pI} {A : mD} {Q : pR} {N : Nat → Nat} {i n : Nat} (h : i < n) (hn : n < 2 ^ 31) : cMv l yX6_requirePlace wsX6_requirePlace ({ frames := 6, cells := 0, slots := 0, locals := 100 } : Room) G kT [.int (nI (i)), .int (nI (n))] L K (R) (I) (A) (Q) N (R) (I) (A) (Q) := by
  refine cstv (cc := cX6_requirePlace) (maxL := 2) (ret := none) (by decide) rfl rfl (Nat.le_of_ble_eq_true rfl) (fun p e s m args below meth c Z hE X hW ls hl => ?_)
  have X : CallFix p m c cX6_requirePlace 2 s args wsX6_requirePlace RX6 := X
  have hl : lv_has ls 2 [(0, .int (nI (i))), (1, .int (nI (n)))] := hl
  refine lv_iload_n X.1 X.2.1 dX6_requirePlace_0 rfl (lv_at hl 0 rfl) ?_
  refine n_if_lt_f (tgt := 9) X.1 X.2.1 dX6_requirePlace_1 (by decide) (by omega) ?_
  refine lv_iload_n X.1 X.2.1 dX6_requirePlace_4 rfl (lv_at hl 0 rfl) ?_
  refine lv_iload_n X.1 X.2.1 dX6_requirePlace_5 rfl (lv_at hl 1 rfl) ?_
  refine n_icmp_lt_t (tgt := 20) X.1 X.2.1 dX6_requirePlace_6 (by decide) (by omega) (by omega) (by omega) ?_
  exact hE _ _ _ _ hW dX6_requirePlace_20
set_option maxHeartbeats 4000000 in
set_option maxRecDepth 100000 in
theorem cg_requirePlaces (l : Launch) {G : va_G} {kT : Nat → ClassId} {L : List Nat} {K : Nat → Nat} {R : pR} {I : pI} {A : mD} {Q : pR} {N : Nat → Nat} {f j n : Nat} (h : f + j ≤ n) (hn : n < 2 ^ 31) : cMv l yX6_requirePlaces wsX6_requirePlaces ({ frames := 6, cells := 0, slots := 0, locals := 100 } : Room) G kT [.int (nI (f)), .int (nI (j)), .int (nI (n))] L K (R) (I) (A) (Q) N (R) (I) (A) (Q) := by
  refine cstv (cc := cX6_requirePlaces) (maxL := 3) (ret := none) (by decide) rfl rfl (Nat.le_of_ble_eq_true rfl) (fun p e s m args below meth c Z hE X hW ls hl => ?_)
  have X : CallFix p m c cX6_requirePlaces 3 s args wsX6_requirePlaces RX6 := X
  have hl : lv_has ls 3 [(0, .int (nI (f))), (1, .int (nI (j))), (2, .int (nI (n)))] := hl
  refine lv_iload_n X.1 X.2.1 dX6_requirePlaces_0 rfl (lv_at hl 0 rfl) ?_
  refine n_if_lt_f (tgt := 20) X.1 X.2.1 dX6_requirePlaces_1 (by decide) (by omega) ?_
  refine lv_iload_n X.1 X.2.1 dX6_requirePlaces_4 rfl (lv_at hl 1 rfl) ?_
  refine n_if_lt_f (tgt := 20) X.1 X.2.1 dX6_requirePlaces_5 (by decide) (by omega) ?_
  refine lv_iload_n X.1 X.2.1 dX6_requirePlaces_8 rfl (lv_at hl 0 rfl) ?_
  refine lv_iload_n X.1 X.2.1 dX6_requirePlaces_9 rfl (lv_at hl 2 rfl) ?_
  refine n_icmp_gt_f (tgt := 20) X.1 X.2.1 dX6_requirePlaces_10 (by decide) (by omega) (by omega) (by omega) ?_
  refine lv_iload_n X.1 X.2.1 dX6_requirePlaces_13 rfl (lv_at hl 1 rfl) ?_
  refine lv_iload_n X.1 X.2.1 dX6_requirePlaces_14 rfl (lv_at hl 2 rfl) ?_
  refine lv_iload_n X.1 X.2.1 dX6_requirePlaces_15 rfl (lv_at hl 0 rfl) ?_
  refine n_isub X.1 X.2.1 (by omega) dX6_requirePlaces_16 ?_
  refine n_icmp_le_t (tgt := 31) X.1 X.2.1 dX6_requirePlaces_17 (by decide) (by omega) (by omega) (by omega) ?_
  exact hE _ _ _ _ hW dX6_requirePlaces_31
set_option maxHeartbeats 4000000 in
set_option maxRecDepth 100000 in
theorem cg_requireSome (l : Launch) {G : va_G} {kT : Nat → ClassId} {L : List Nat} {K : Nat → Nat} {R : pR} {I : pI} {A : mD} {Q : pR} {N : Nat → Nat} {n : Nat} (h : n ≠ 0) (hn : n < 2 ^ 31) : cMv l yX6_requireSome wsX6_requireSome ({ frames := 6, cells := 0, slots := 0, locals := 100 } : Room) G kT [.int (nI (n))] L K (R) (I) (A) (Q) N (R) (I) (A) (Q) := by
  refine cstv (cc := cX6_requireSome) (maxL := 1) (ret := none) (by decide) rfl rfl (Nat.le_of_ble_eq_true rfl) (fun p e s m args below meth c Z hE X hW ls hl => ?_)
  have X : CallFix p m c cX6_requireSome 1 s args wsX6_requireSome RX6 := X
  have hl : lv_has ls 1 [(0, .int (nI (n)))] := hl
  refine lv_iload_n X.1 X.2.1 dX6_requireSome_0 rfl (lv_at hl 0 rfl) ?_
  refine lv_iconst (v := nI 1) X.1 X.2.1 dX6_requireSome_1 (by decide) ?_
  refine n_icmp_ge_t (tgt := 16) X.1 X.2.1 dX6_requireSome_2 (by decide) (by omega) (by omega) (by omega) ?_
  exact hE _ _ _ _ hW dX6_requireSome_16
set_option maxHeartbeats 4000000 in
set_option maxRecDepth 100000 in
theorem cg_requireWanted (l : Launch) {G : va_G} {kT : Nat → ClassId} {L : List Nat} {K : Nat → Nat} {R : pR} {I : pI} {A : mD} {Q : pR} {N : Nat → Nat} {n : Nat} (h : n ≤ 1000) : cMv l yX6_requireWanted wsX6_requireWanted ({ frames := 6, cells := 0, slots := 0, locals := 100 } : Room) G kT [.long (lN n)] L K (R) (I) (A) (Q) N (R) (I) (A) (Q) := by
  refine cstv (cc := cX6_requireWanted) (maxL := 2) (ret := none) (by decide) rfl rfl (Nat.le_of_ble_eq_true rfl) (fun p e s m args below meth c Z hE X hW ls hl => ?_)
  have X : CallFix p m c cX6_requireWanted 2 s args wsX6_requireWanted RX6 := X
  have hl : lv_has ls 2 [(0, .long (lN n))] := hl
  refine lv_lload_n X.1 X.2.1 dX6_requireWanted_0 rfl (lv_at hl 0 rfl) ?_
  refine lv_lconst (v := lN 0) X.1 X.2.1 dX6_requireWanted_1 rfl ?_
  refine W.lcmp X.1 X.2.1 dX6_requireWanted_2 ?_
  refine x_if_lt_f (tgt := 14) X.1 X.2.1 dX6_requireWanted_3 (by decide) (fun z => absurd ((pk_lLT (by omega) (by decide)).mp ((lg_cmp_lt _ _).mp z)) (Nat.not_lt_zero n)) ?_
  refine lv_lload_n X.1 X.2.1 dX6_requireWanted_6 rfl (lv_at hl 0 rfl) ?_
  refine lv_ldc2 X.1 X.2.1 X.2.2.2.1 (X.2.2.2.2 (.constantLong RX6 285 (1000)) (List.mem_cons_of_mem _ (List.mem_append_left _ (List.mem_of_getElem? (i := 2) rfl)))) dX6_requireWanted_7 ?_
  refine W.lcmp X.1 X.2.1 dX6_requireWanted_10 ?_
  refine x_if_le_t (tgt := 25) X.1 X.2.1 dX6_requireWanted_11 (by decide) ((lg_cmp_le _ _).mpr (show lN n ≤ lN 1000 from (pk_lLE (by omega) (by decide)).mpr h)) ?_
  exact hE _ _ _ _ hW dX6_requireWanted_25
set_option maxHeartbeats 4000000 in
set_option maxRecDepth 100000 in
theorem cg_requireRoom (l : Launch) {G : va_G} {kT : Nat → ClassId} {L : List Nat} {K : Nat → Nat} {R : pR} {I : pI} {A : mD} {Q : pR} {N : Nat → Nat} {th ar n j : Nat} (hw : isWr L K R I N th ar n) (h : n + j ≤ 256) : cMv l yX6_requireRoom wsX6_requireRoom ({ frames := 6, cells := 0, slots := 0, locals := 100 } : Room) G kT [.ref (th), .int (nI (j))] L K (R) (I) (A) (Q) N (R) (I) (A) (Q) := by
  refine cstv (cc := cX6_requireRoom) (maxL := 2) (ret := none) (by decide) rfl rfl (Nat.le_of_ble_eq_true rfl) (fun p e s m args below meth c Z hE X hW ls hl => ?_)
  have X : CallFix p m c cX6_requireRoom 2 s args wsX6_requireRoom RX6 := X
  have hl : lv_has ls 2 [(0, .ref (th)), (1, .int (nI (j)))] := hl
  have hin4 : ∀ w ∈ wsX40, w ∈ wsX6_requireRoom := fun w h => List.mem_cons_of_mem _ (List.mem_append_left _ (List.mem_append_right _ (h)))
  refine lv_iload_n X.1 X.2.1 dX6_requireRoom_0 rfl (lv_at hl 1 rfl) ?_
  refine lv_sipush (v := nI 256) X.1 X.2.1 dX6_requireRoom_1 (by decide) ?_
  refine lv_aload_n X.1 X.2.1 dX6_requireRoom_4 rfl (lv_at hl 0 rfl) ?_
  refine cg_4_count X hin4 hW (hw.1) (hw.2.1) (hw.2.2.2.2.2.2.1) (X.2.2.2.2 (.fieldLink RX6 107 "Strandbook$SignWriter" "count" "I") (List.mem_cons_of_mem _ (List.mem_append_left _ (List.mem_append_left _ (List.mem_of_getElem? (i := 2) rfl))))) dX6_requireRoom_5 ?_
  refine n_isub X.1 X.2.1 (by omega) dX6_requireRoom_8 ?_
  refine n_icmp_le_t (tgt := 23) X.1 X.2.1 dX6_requireRoom_9 (by decide) (by omega) (by omega) (by omega) ?_
  exact hE _ _ _ _ hW dX6_requireRoom_23
set_option maxHeartbeats 4000000 in
set_option maxRecDepth 100000 in
theorem cg_addPart (l : Launch) {G : va_G} {kT : Nat → ClassId} {L : List Nat} {K : Nat → Nat} {R : pR} {I : pI} {A : mD} {Q : pR} {N : Nat → Nat} {T : mT} {D : mD} {ad : pD} (HB : Rep T D ad L K R I A Q N) {w r f j : Nat} (hw : w < 6) (hr : r < 4) (hf : f + j ≤ T 1 (T 2 r)) (h : T 7 w + j ≤ 256) : cMi l yX6_addPart wsX6_addPart ({ frames := 7, cells := 0, slots := 0, locals := 122 } : Room) G kT [.ref (ad 0 0), .ref (ad 7 w), .int (nI (r)), .int (nI (f)), .int (nI (j))] L K (R) (I) (A) (Q) N (nI (T 7 w + j)) (R) (u2 I 10 (ad 7 w) (nI (T 7 w + j))) (cpF A (ad 8 w) (T 7 w) (fun i => A (ad 4 (T 2 r)) (f + i)) j) (Q) := by
  refine csti (cc := cX6_addPart) (maxL := 6) (ret := (some .int)) (by decide) rfl ⟨_, rfl⟩ (Nat.le_of_ble_eq_true rfl) (fun p e s m args below meth c Z hE X hW ls hl => ?_)
  have X : CallFix p m c cX6_addPart 6 s args wsX6_addPart RX6 := X
  have hl : lv_has ls 6 [(0, .ref (ad 0 0)), (1, .ref (ad 7 w)), (2, .int (nI (r))), (3, .int (nI (f))), (4, .int (nI (j)))] := hl
  have hin3 : ∀ w ∈ wsX30, w ∈ wsX6_addPart := fun w h => List.mem_cons_of_mem _ (List.mem_append_left _ (List.mem_append_left _ (List.mem_append_left _ (List.mem_append_left _ (List.mem_append_left _ (List.mem_append_right _ (h)))))))
  have hin4 : ∀ w ∈ wsX40, w ∈ wsX6_addPart := fun w h => List.mem_cons_of_mem _ (List.mem_append_left _ (List.mem_append_left _ (List.mem_append_left _ (List.mem_append_left _ (List.mem_append_right _ (h))))))
  have hin6 : ∀ w ∈ wsX60, w ∈ wsX6_addPart := fun w h => List.mem_cons_of_mem _ (List.mem_append_left _ (List.mem_append_left _ (List.mem_append_left _ (List.mem_append_right _ (h)))))
  have hwr := HB.wr hw
  have hu := uS_row (T := T) hr
  have hsr := HB.sr hu
  have hl9 := hsr.2.2.2.2.2.2
  refine lv_aload_n X.1 X.2.1 dX6_addPart_0 rfl (lv_at hl 0 rfl) ?_
  refine lv_iload_n X.1 X.2.1 dX6_addPart_1 rfl (lv_at hl 2 rfl) ?_
  refine cVr X hW (HB.mem lv_0) (pC_6 (HB.kn lv_0 rfl)) rfl (cg_signRowAt l HB (r := r) (by omega)) (cwV 1 X.2.2.2.2 gX6_addPart_X6_signRowAt rfl rfl rfl (by decide +kernel) ⟨Nat.le_of_ble_eq_true rfl, Nat.le_of_ble_eq_true rfl⟩) rfl rfl hl.1 (Nat.le_of_ble_eq_true rfl) dX6_addPart_2 ⟨Nat.zero_le _, Nat.zero_le _⟩ (fun H locs hW => ?_)
  refine cg_3_signs X hin3 hW (hsr.1) (hsr.2.1) (hsr.2.2.1) (X.2.2.2.2 (.fieldLink RX6 60 "Strandbook$SignRow" "signs" "[C") (List.mem_cons_of_mem _ (List.mem_append_left _ (List.mem_append_left _ (List.mem_append_left _ (List.mem_append_left _ (List.mem_append_left _ (List.mem_append_left _ (List.mem_append_left _ (List.mem_of_getElem? (i := 0) rfl)))))))))) dX6_addPart_5 ?_
  refine lv_astore (lv' := [(5, .ref (ad 4 (T 2 r))), (0, .ref (ad 0 0)), (1, .ref (ad 7 w)), (2, .int (nI (r))), (3, .int (nI (f))), (4, .int (nI (j)))]) X.1 X.2.1 dX6_addPart_8 hl (by decide) rfl (fun ls hl => ?_)
  refine lv_iload_n X.1 X.2.1 dX6_addPart_10 rfl (lv_at hl 4 rfl) ?_
  refine lv_iload X.1 X.2.1 dX6_addPart_11 (lv_at hl 5 rfl) ?_
  refine lv_aload X.1 X.2.1 dX6_addPart_13 (lv_at hl 0 rfl) ?_
  refine cln_8 X hW (hsr.2.2.2.1) (hsr.2.2.2.2.1) (hsr.2.2.2.2.2.1) dX6_addPart_15 ?_
  refine cSv X hW (cg_requirePlaces l (f := f) (j := j) (n := T 1 (T 2 r)) (by omega) (by omega)) (va_cwS 3 X.2.2.2.2 gX6_addPart_X6_requirePlaces rfl rfl rfl (by decide +kernel) ⟨Nat.le_of_ble_eq_true rfl, Nat.le_of_ble_eq_true rfl⟩) rfl rfl hl.1 (Nat.le_of_ble_eq_true rfl) dX6_addPart_16 ⟨Nat.zero_le _, Nat.zero_le _⟩ (fun H locs hW => ?_)
  refine lv_aload_n X.1 X.2.1 dX6_addPart_19 rfl (lv_at hl 2 rfl) ?_
  refine lv_iload X.1 X.2.1 dX6_addPart_20 (lv_at hl 5 rfl) ?_
  refine cSv X hW (cg_requireRoom l hwr h) (va_cwS 2 X.2.2.2.2 gX6_addPart_X6_requireRoom rfl rfl rfl (by decide +kernel) ⟨Nat.le_of_ble_eq_true rfl, Nat.le_of_ble_eq_true rfl⟩) rfl rfl hl.1 (Nat.le_of_ble_eq_true rfl) dX6_addPart_22 ⟨Nat.zero_le _, Nat.zero_le _⟩ (fun H locs hW => ?_)
  refine lv_aload_n X.1 X.2.1 dX6_addPart_25 rfl (lv_at hl 2 rfl) ?_
  refine lv_aload X.1 X.2.1 dX6_addPart_26 (lv_at hl 0 rfl) ?_
  refine lv_iload_n X.1 X.2.1 dX6_addPart_28 rfl (lv_at hl 4 rfl) ?_
  refine lv_iload X.1 X.2.1 dX6_addPart_29 (lv_at hl 5 rfl) ?_
  refine cVv X hW (hwr.1) (pC_4 (hwr.2.1)) rfl (ct_addAll l hwr (HB.ca hu) (HB.ne (lv_4 hu) (lv_8 (by omega)) (Or.inl (by decide))) h hf (fun i _ h2 => HB.sN hu (by omega))) (cwV 3 X.2.2.2.2 gX6_addPart_X4_addAll rfl rfl rfl (by decide +kernel) ⟨Nat.le_of_ble_eq_true rfl, Nat.le_of_ble_eq_true rfl⟩) rfl rfl hl.1 (Nat.le_of_ble_eq_true rfl) dX6_addPart_31 ⟨Nat.zero_le _, Nat.zero_le _⟩ (fun H locs hW => ?_)
  refine lv_aload_n X.1 X.2.1 dX6_addPart_34 rfl (lv_at hl 2 rfl) ?_
  refine cg_4_count X hin4 hW (hwr.1) (hwr.2.1) (u2_eq) (X.2.2.2.2 (.fieldLink RX6 107 "Strandbook$SignWriter" "count" "I") (List.mem_cons_of_mem _ (List.mem_append_left _ (List.mem_append_left _ (List.mem_append_left _ (List.mem_append_left _ (List.mem_append_left _ (List.mem_append_left _ (List.mem_append_left _ (List.mem_of_getElem? (i := 1) rfl)))))))))) dX6_addPart_35 ?_
  exact hE _ _ _ _ _ (rfl) (fun ty hty => by cases hty; exact rfl) hW dX6_addPart_38
