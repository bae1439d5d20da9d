/-! the class: joined streams -/
/-- a row of bytes at ro, its array at ar, of n -/
def isBR (L : List Nat) (K : Nat → Nat) (R : pR) (N : Nat → Nat) (ro ar n : Nat) : Prop := ro ∈ L ∧ K ro = 0 ∧ R 0 ro = some ar ∧ ar ∈ L ∧ K ar = 7 ∧ N ar = n ∧ n ≤ 64
def isBA (L : List Nat) (K : Nat → Nat) (N : Nat → Nat) (ar n : Nat) : Prop := ar ∈ L ∧ K ar = 7 ∧ N ar = n ∧ n ≤ 192
/-- a stream at th, its parts at pa: pc of them, at the part pt, place pl -/
def isJS (L : List Nat) (K : Nat → Nat) (R : pR) (I : pI) (N : Nat → Nat) (th pa pc pt pl : Nat) : Prop := th ∈ L ∧ K th = 1 ∧ R 1 th = some pa ∧ pa ∈ L ∧ K pa = 10 ∧ N pa = 3 ∧ I 0 th = nI pc ∧ I 1 th = nI pt ∧ I 2 th = nI pl ∧ pc ≤ 3 ∧ pt ≤ pc ∧ pl ≤ 64
def isPt (L : List Nat) (K : Nat → Nat) (R : pR) (Q : pR) (N : Nat → Nat) (pa pc : Nat) (po pb pn : Nat → Nat) : Prop := ∀ k, k < pc → Q pa k = some (po k) ∧ isBR L K R N (po k) (pb k) (pn k)
/-- where a byte is to be had: the part and the place -/
def fbF (pc : Nat) (pn : Nat → Nat) : Nat → Nat × Nat → Nat × Nat | 0, z => z | n + 1, z => if z.1 < pc ∧ pn z.1 ≤ z.2 then fbF pc pn n (z.1 + 1, 0) else z
def fb (pc : Nat) (pn : Nat → Nat) (pt pl : Nat) : Nat × Nat := fbF pc pn 4 (pt, pl)
theorem fbF_le {pc : Nat} {pn : Nat → Nat} : ∀ (n : Nat) (z : Nat × Nat), z.1 ≤ pc → z.2 ≤ 64 → (fbF pc pn n z).1 ≤ pc ∧ (fbF pc pn n z).2 ≤ 64
  | 0, _, h, h2 => ⟨h, h2⟩
  | n + 1, z, h, h2 => by
    simp only [fbF]
    by_cases g : z.1 < pc ∧ pn z.1 ≤ z.2
    · rw [if_pos g]; exact fbF_le n _ g.1 (Nat.zero_le _)
    · rw [if_neg g]; exact ⟨h, h2⟩
theorem fbF_stop {pc : Nat} {pn : Nat → Nat} : ∀ (n : Nat) (z : Nat × Nat), pc - z.1 < n → ¬ ((fbF pc pn n z).1 < pc ∧ pn (fbF pc pn n z).1 ≤ (fbF pc pn n z).2)
  | 0, _, h => by omega
  | n + 1, z, h => by
    simp only [fbF]
    by_cases g : z.1 < pc ∧ pn z.1 ≤ z.2
    · rw [if_pos g]; exact fbF_stop n _ (by simp only; omega)
    · rw [if_neg g]; exact g
theorem fb_le {pc pt pl : Nat} {pn : Nat → Nat} (h : pt ≤ pc) (h2 : pl ≤ 64) : (fb pc pn pt pl).1 ≤ pc ∧ (fb pc pn pt pl).2 ≤ 64 := fbF_le 4 _ h h2
theorem fb_lt {pc pt pl : Nat} {pn : Nat → Nat} (h3 : pc ≤ 3) (g : (fb pc pn pt pl).1 < pc) : (fb pc pn pt pl).2 < pn (fb pc pn pt pl).1 :=
  Nat.not_le.mp (fun z => fbF_stop (pc := pc) (pn := pn) 4 (pt, pl) (by simp only; omega) ⟨g, z⟩)
def fbI (I : pI) (th : Nat) (z : Nat × Nat) : pI := u2 (u2 I 1 th (nI z.1)) 2 th (nI z.2)
theorem fbI_self {I : pI} {th pt pl : Nat} (h1 : I 1 th = nI pt) (h2 : I 2 th = nI pl) : fbI I th (pt, pl) = I := by
  rw [fbI]
  simp only
  rw [← h1, u2_self, ← h2, u2_self]
theorem fbI_fbI {I : pI} {th : Nat} {z w : Nat × Nat} : fbI (fbI I th z) th w = fbI I th w := by
  funext a b
  simp only [fbI, u2]
  by_cases h : a = 2
  · subst h; simp only [if_true]
    by_cases g : b = th
    · simp only [if_pos g]
    · simp only [if_neg g]; rfl
  · simp only [if_neg h]
    by_cases h1 : a = 1
    · subst h1; simp only [if_true]
      by_cases g : b = th
      · simp only [if_pos g]
      · simp only [if_neg g]; rfl
    · simp only [if_neg h1]
theorem fbI_1 {I : pI} {th : Nat} {z : Nat × Nat} : fbI I th z 1 th = nI z.1 := (congrFun (u2_ne (by decide)) _).trans u2_eq
theorem fbI_2 {I : pI} {th : Nat} {z : Nat × Nat} : fbI I th z 2 th = nI z.2 := u2_eq
theorem fbI_k {I : pI} {th a : Nat} {z : Nat × Nat} (h1 : a ≠ 1) (h2 : a ≠ 2) : fbI I th z a = I a := (u2_ne h2).trans (u2_ne h1)
theorem isJS.fb {L : List Nat} {K : Nat → Nat} {R : pR} {I : pI} {N : Nat → Nat} {th pa pc pt pl : Nat} {pn : Nat → Nat} {z : Nat × Nat} (h : isJS L K R I N th pa pc pt pl) (hz : z.1 ≤ pc) (hz2 : z.2 ≤ 64) : isJS L K R (fbI I th z) N th pa pc z.1 z.2 := by
  obtain ⟨h1, h2, h3, h4, h5, h6, h7, h8, h9, h10, h11, h12⟩ := h
  exact ⟨h1, h2, h3, h4, h5, h6, by rw [fbI_k (by decide) (by decide)]; exact h7, fbI_1, fbI_2, h10, hz, hz2⟩
theorem nI_low8 {x : Int32} (h : x.toInt8.toInt32 = x) : vp_nar .byte x = x := by rw [vp_nar_byte]; exact h
set_option maxHeartbeats 4000000 in
set_option maxRecDepth 100000 in
theorem ct_giveUpParts (l : Launch) {G : va_G} {kT : Nat → ClassId} {L : List Nat} {K : Nat → Nat} {R : pR} {I : pI} {A : mD} {Q : pR} {N : Nat → Nat} {th : Nat} (h1 : th ∈ L) (h2 : K th = 1) : cMv l yX1_giveUpParts wsX1_giveUpParts ({ frames := 0, cells := 0, slots := 0, locals := 0 } : Room) G kT [.ref (th)] L K (R) (I) (A) (Q) N (R) (u2 (u2 (u2 (u2 (u2 I 0 th (nI 0)) 1 th (nI 0)) 2 th (nI 0)) 3 th (nI 0)) 4 th (nI 0)) (A) (Q) := by
  refine cstv (cc := cX1_giveUpParts) (maxL := 1) (ret := none) (by decide) rfl rfl (Nat.le_of_ble_eq_true rfl) (fun p e s m args below meth c Z hE X hW ls hl => ?_)
  have X : CallFix p m c cX1_giveUpParts 1 s args wsX1_giveUpParts RX1 := X
  have hl : lv_has ls 1 [(0, .ref (th))] := hl
  have hin1 : ∀ w ∈ wsX10, w ∈ wsX1_giveUpParts := fun w h => List.mem_cons_of_mem _ (List.mem_append_right _ (h))
  refine lv_aload_n X.1 X.2.1 dX1_giveUpParts_0 rfl (lv_at hl 0 rfl) ?_
  refine lv_iconst (v := nI 0) X.1 X.2.1 dX1_giveUpParts_1 (by decide) ?_
  refine cp_1_partCount X hin1 hW (h1) (h2) (X.2.2.2.2 (.fieldLink RX1 17 "Strandbook$JoinedStream" "partCount" "I") (List.mem_cons_of_mem _ (List.mem_append_left _ (List.mem_of_getElem? (i := 0) rfl)))) dX1_giveUpParts_2 (fun H locs hW => ?_)
  refine lv_aload_n X.1 X.2.1 dX1_giveUpParts_5 rfl (lv_at hl 0 rfl) ?_
  refine lv_iconst (v := nI 0) X.1 X.2.1 dX1_giveUpParts_6 (by decide) ?_
  refine cp_1_part X hin1 hW (h1) (h2) (X.2.2.2.2 (.fieldLink RX1 21 "Strandbook$JoinedStream" "part" "I") (List.mem_cons_of_mem _ (List.mem_append_left _ (List.mem_of_getElem? (i := 1) rfl)))) dX1_giveUpParts_7 (fun H locs hW => ?_)
  refine lv_aload_n X.1 X.2.1 dX1_giveUpParts_10 rfl (lv_at hl 0 rfl) ?_
  refine lv_iconst (v := nI 0) X.1 X.2.1 dX1_giveUpParts_11 (by decide) ?_
  refine cp_1_place X hin1 hW (h1) (h2) (X.2.2.2.2 (.fieldLink RX1 24 "Strandbook$JoinedStream" "place" "I") (List.mem_cons_of_mem _ (List.mem_append_left _ (List.mem_of_getElem? (i := 2) rfl)))) dX1_giveUpParts_12 (fun H locs hW => ?_)
  refine lv_aload_n X.1 X.2.1 dX1_giveUpParts_15 rfl (lv_at hl 0 rfl) ?_
  refine lv_iconst (v := nI 0) X.1 X.2.1 dX1_giveUpParts_16 (by decide) ?_
  refine cp_1_passed X hin1 hW (h1) (h2) (X.2.2.2.2 (.fieldLink RX1 27 "Strandbook$JoinedStream" "passed" "I") (List.mem_cons_of_mem _ (List.mem_append_left _ (List.mem_of_getElem? (i := 3) rfl)))) dX1_giveUpParts_17 (fun H locs hW => ?_)
  refine lv_aload_n X.1 X.2.1 dX1_giveUpParts_20 rfl (lv_at hl 0 rfl) ?_
  refine lv_iconst (v := nI 0) X.1 X.2.1 dX1_giveUpParts_21 (by decide) ?_
  refine cp_1_total X hin1 hW (h1) (h2) (X.2.2.2.2 (.fieldLink RX1 30 "Strandbook$JoinedStream" "total" "I") (List.mem_cons_of_mem _ (List.mem_append_left _ (List.mem_of_getElem? (i := 4) rfl)))) dX1_giveUpParts_22 (fun H locs hW => ?_)
  exact hE _ _ _ _ hW dX1_giveUpParts_25
set_option maxHeartbeats 4000000 in
set_option maxRecDepth 100000 in
theorem ct_addRow (l : Launch) {G : va_G} {kT : Nat → ClassId} {L : List Nat} {K : Nat → Nat} {R : pR} {I : pI} {A : mD} {Q : pR} {N : Nat → Nat} {th pa n t ro br k : Nat} (h1 : th ∈ L) (h2 : K th = 1) (h3 : R 1 th = some pa) (h4 : pa ∈ L) (h5 : K pa = 10) (h6 : N pa = 3) (h7 : I 0 th = nI n) (h8 : I 4 th = nI t) (hn : n < 3) (hb : isBR L K R N ro br k) : cMv l yX1_addRow wsX1_addRow ({ frames := 0, cells := 0, slots := 0, locals := 0 } : Room) G kT [.ref (th), .ref (ro)] L K (R) (I) (A) (Q) N (R) (u2 (u2 I 0 th (nI (n + 1))) 4 th (nI (t + k))) (A) (u2 Q pa n (some ro)) := by
  refine cstv (cc := cX1_addRow) (maxL := 2) (ret := none) (by decide) rfl rfl (Nat.le_of_ble_eq_true rfl) (fun p e s m args below meth c Z hE X hW ls hl => ?_)
  have X : CallFix p m c cX1_addRow 2 s args wsX1_addRow RX1 := X
  have hl : lv_has ls 2 [(0, .ref (th)), (1, .ref (ro))] := hl
  have hin0 : ∀ w ∈ wsX00, w ∈ wsX1_addRow := fun w h => List.mem_cons_of_mem _ (List.mem_append_right _ (h))
  have hin1 : ∀ w ∈ wsX10, w ∈ wsX1_addRow := fun w h => List.mem_cons_of_mem _ (List.mem_append_left _ (List.mem_append_right _ (h)))
  refine lv_aload_n X.1 X.2.1 dX1_addRow_0 rfl (lv_at hl 0 rfl) ?_
  refine cg_1_partCount X hin1 hW (h1) (h2) (h7) (X.2.2.2.2 (.fieldLink RX1 17 "Strandbook$JoinedStream" "partCount" "I") (List.mem_cons_of_mem _ (List.mem_append_left _ (List.mem_append_left _ (List.mem_of_getElem? (i := 0) rfl))))) dX1_addRow_1 ?_
  refine lv_iconst (v := nI 3) X.1 X.2.1 dX1_addRow_4 (by decide) ?_
  refine n_icmp_ge_f (tgt := 42) X.1 X.2.1 dX1_addRow_5 (by decide) (by omega) (by omega) (by omega) ?_
  refine lv_aload_n X.1 X.2.1 dX1_addRow_8 rfl (lv_at hl 0 rfl) ?_
  refine cg_1_parts X hin1 hW (h1) (h2) (h3) (X.2.2.2.2 (.fieldLink RX1 11 "Strandbook$JoinedStream" "parts" "[LStrandbook$ByteRow;") (List.mem_cons_of_mem _ (List.mem_append_left _ (List.mem_append_left _ (List.mem_of_getElem? (i := 1) rfl))))) dX1_addRow_9 ?_
  refine lv_aload_n X.1 X.2.1 dX1_addRow_12 rfl (lv_at hl 0 rfl) ?_
  refine cg_1_partCount X hin1 hW (h1) (h2) (h7) (X.2.2.2.2 (.fieldLink RX1 17 "Strandbook$JoinedStream" "partCount" "I") (List.mem_cons_of_mem _ (List.mem_append_left _ (List.mem_append_left _ (List.mem_of_getElem? (i := 0) rfl))))) dX1_addRow_13 ?_
  refine lv_aload_n X.1 X.2.1 dX1_addRow_16 rfl (lv_at hl 1 rfl) ?_
  refine cst_10 X hW (h4) (h5) (hb.1) (hb.2.1) (by rw [h6]; omega) (by omega) dX1_addRow_17 (fun H locs hW => ?_)
  refine lv_aload_n X.1 X.2.1 dX1_addRow_18 rfl (lv_at hl 0 rfl) ?_
  refine lv_dup X.1 X.2.1 dX1_addRow_19 rfl ?_
  refine cg_1_partCount X hin1 hW (h1) (h2) (h7) (X.2.2.2.2 (.fieldLink RX1 17 "Strandbook$JoinedStream" "partCount" "I") (List.mem_cons_of_mem _ (List.mem_append_left _ (List.mem_append_left _ (List.mem_of_getElem? (i := 0) rfl))))) dX1_addRow_20 ?_
  refine lv_iconst (v := nI 1) X.1 X.2.1 dX1_addRow_23 (by decide) ?_
  refine n_iadd X.1 X.2.1 dX1_addRow_24 ?_
  refine cp_1_partCount X hin1 hW (h1) (h2) (X.2.2.2.2 (.fieldLink RX1 17 "Strandbook$JoinedStream" "partCount" "I") (List.mem_cons_of_mem _ (List.mem_append_left _ (List.mem_append_left _ (List.mem_of_getElem? (i := 0) rfl))))) dX1_addRow_25 (fun H locs hW => ?_)
  refine lv_aload_n X.1 X.2.1 dX1_addRow_28 rfl (lv_at hl 0 rfl) ?_
  refine lv_dup X.1 X.2.1 dX1_addRow_29 rfl ?_
  refine cg_1_total X hin1 hW (h1) (h2) ((congrFun (u2_ne (by decide)) _).trans (h8)) (X.2.2.2.2 (.fieldLink RX1 30 "Strandbook$JoinedStream" "total" "I") (List.mem_cons_of_mem _ (List.mem_append_left _ (List.mem_append_left _ (List.mem_of_getElem? (i := 2) rfl))))) dX1_addRow_30 ?_
  refine lv_aload_n X.1 X.2.1 dX1_addRow_33 rfl (lv_at hl 1 rfl) ?_
  refine cg_0_bytes X hin0 hW (hb.1) (hb.2.1) (hb.2.2.1) (X.2.2.2.2 (.fieldLink RX1 33 "Strandbook$ByteRow" "bytes" "[B") (List.mem_cons_of_mem _ (List.mem_append_left _ (List.mem_append_left _ (List.mem_of_getElem? (i := 3) rfl))))) dX1_addRow_34 ?_
  refine cln_7 X hW (hb.2.2.2.1) (hb.2.2.2.2.1) (hb.2.2.2.2.2.1) dX1_addRow_37 ?_
  refine n_iadd X.1 X.2.1 dX1_addRow_38 ?_
  refine cp_1_total X hin1 hW (h1) (h2) (X.2.2.2.2 (.fieldLink RX1 30 "Strandbook$JoinedStream" "total" "I") (List.mem_cons_of_mem _ (List.mem_append_left _ (List.mem_append_left _ (List.mem_of_getElem? (i := 2) rfl))))) dX1_addRow_39 (fun H locs hW => ?_)
  exact hE _ _ _ _ hW dX1_addRow_42
/-- what a stream's numbers are when it was joined anew: n parts of t bytes -/
def jI (I : pI) (th n t : Nat) : pI := u2 (u2 (u2 (u2 (u2 I 0 th (nI n)) 1 th (nI 0)) 2 th (nI 0)) 3 th (nI 0)) 4 th (nI t)
theorem jI_add {I : pI} {th n t n2 t2 : Nat} : u2 (u2 (jI I th n t) 0 th (nI n2)) 4 th (nI t2) = jI I th n2 t2 := by
  funext a b
  by_cases hb : b = th
  · subst hb
    simp only [jI, u2, if_true]
    by_cases h4 : a = 4
    · subst h4; rfl
    · by_cases h0 : a = 0
      · subst h0; rfl
      · simp only [if_neg h4, if_neg h0]
  · simp only [jI, u2, if_neg hb]
    by_cases h4 : a = 4
    · subst h4; rfl
    · by_cases h0 : a = 0
      · subst h0; rfl
      · simp only [if_neg h4, if_neg h0]
theorem jI_0 {I : pI} {th n t : Nat} : jI I th n t 0 th = nI n := by rw [jI, u2_ne (by decide), u2_ne (by decide), u2_ne (by decide), u2_ne (by decide), u2_eq]
theorem jI_4 {I : pI} {th n t : Nat} : jI I th n t 4 th = nI t := u2_eq
set_option maxHeartbeats 4000000 in
set_option maxRecDepth 100000 in
theorem ct_joinRows (l : Launch) {G : va_G} {kT : Nat → ClassId} {L : List Nat} {K : Nat → Nat} {R : pR} {I : pI} {A : mD} {Q : pR} {N : Nat → Nat} {th pa : Nat} (h1 : th ∈ L) (h2 : K th = 1) (h3 : R 1 th = some pa) (h4 : pa ∈ L) (h5 : K pa = 10) (h6 : N pa = 3) {r1 b1 k1 r2 b2 k2 r3 b3 k3 : Nat} (hb1 : isBR L K R N r1 b1 k1) (hb2 : isBR L K R N r2 b2 k2) (hb3 : isBR L K R N r3 b3 k3) : cMv l yX1_joinRows wsX1_joinRows ({ frames := 1, cells := 0, slots := 0, locals := 21 } : Room) G kT [.ref (th), .ref (r1), .ref (r2), .ref (r3)] L K (R) (I) (A) (Q) N (R) (jI I th 3 (0 + k1 + k2 + k3)) (A) (u2 (u2 (u2 Q pa 0 (some r1)) pa 1 (some r2)) pa 2 (some r3)) := by
  refine cstv (cc := cX1_joinRows) (maxL := 4) (ret := none) (by decide) rfl rfl (Nat.le_of_ble_eq_true rfl) (fun p e s m args below meth c Z hE X hW ls hl => ?_)
  have X : CallFix p m c cX1_joinRows 4 s args wsX1_joinRows RX1 := X
  have hl : lv_has ls 4 [(0, .ref (th)), (1, .ref (r1)), (2, .ref (r2)), (3, .ref (r3))] := hl
  have hin0 : ∀ w ∈ wsX00, w ∈ wsX1_joinRows := fun w h => List.mem_cons_of_mem _ (List.mem_append_right _ (h))
  have hin1 : ∀ w ∈ wsX10, w ∈ wsX1_joinRows := fun w h => List.mem_cons_of_mem _ (List.mem_append_left _ (List.mem_append_right _ (h)))
  refine lv_aload_n X.1 X.2.1 dX1_joinRows_0 rfl (lv_at hl 0 rfl) ?_
  refine cVv X hW (h1) (pC_1 (h2)) rfl (ct_giveUpParts l h1 h2) (cwV 0 X.2.2.2.2 gX1_joinRows_X1_giveUpParts rfl rfl rfl (by decide +kernel) ⟨Nat.le_of_ble_eq_true rfl, Nat.le_of_ble_eq_true rfl⟩) rfl rfl hl.1 (Nat.le_of_ble_eq_true rfl) dX1_joinRows_1 ⟨Nat.zero_le _, Nat.zero_le _⟩ (fun H locs hW => ?_)
  have hW : cH G kT L L K R (jI I th 0 0) A (Q) N s H locs := hW.eq rfl (rfl) rfl rfl
  refine lv_aload_n X.1 X.2.1 dX1_joinRows_4 rfl (lv_at hl 0 rfl) ?_
  refine lv_aload_n X.1 X.2.1 dX1_joinRows_5 rfl (lv_at hl 1 rfl) ?_
  refine cVv X hW (h1) (pC_1 (h2)) rfl (ct_addRow l (pa := pa) (n := 0) (t := 0) (ro := r1) (br := b1) (k := k1) h1 h2 h3 h4 h5 h6 jI_0 jI_4 (by decide) hb1) (cwV 1 X.2.2.2.2 gX1_joinRows_X1_addRow rfl rfl rfl (by decide +kernel) ⟨Nat.le_of_ble_eq_true rfl, Nat.le_of_ble_eq_true rfl⟩) rfl rfl hl.1 (Nat.le_of_ble_eq_true rfl) dX1_joinRows_6 ⟨Nat.zero_le _, Nat.zero_le _⟩ (fun H locs hW => ?_)
  have hW : cH G kT L L K R (jI I th (0 + 1) (0 + k1)) A (u2 Q pa 0 (some r1)) N s H locs := hW.eq rfl (jI_add) rfl rfl
  refine lv_aload_n X.1 X.2.1 dX1_joinRows_9 rfl (lv_at hl 0 rfl) ?_
  refine lv_aload_n X.1 X.2.1 dX1_joinRows_10 rfl (lv_at hl 2 rfl) ?_
  refine cVv X hW (h1) (pC_1 (h2)) rfl (ct_addRow l (pa := pa) (n := 0 + 1) (t := 0 + k1) (ro := r2) (br := b2) (k := k2) h1 h2 h3 h4 h5 h6 jI_0 jI_4 (by decide) hb2) (cwV 1 X.2.2.2.2 gX1_joinRows_X1_addRow rfl rfl rfl (by decide +kernel) ⟨Nat.le_of_ble_eq_true rfl, Nat.le_of_ble_eq_true rfl⟩) rfl rfl hl.1 (Nat.le_of_ble_eq_true rfl) dX1_joinRows_11 ⟨Nat.zero_le _, Nat.zero_le _⟩ (fun H locs hW => ?_)
  have hW : cH G kT L L K R (jI I th (0 + 1 + 1) (0 + k1 + k2)) A (u2 (u2 Q pa 0 (some r1)) pa (0 + 1) (some r2)) N s H locs := hW.eq rfl (jI_add) rfl rfl
  refine lv_aload_n X.1 X.2.1 dX1_joinRows_14 rfl (lv_at hl 0 rfl) ?_
  refine lv_aload_n X.1 X.2.1 dX1_joinRows_15 rfl (lv_at hl 3 rfl) ?_
  refine cVv X hW (h1) (pC_1 (h2)) rfl (ct_addRow l (pa := pa) (n := 0 + 1 + 1) (t := 0 + k1 + k2) (ro := r3) (br := b3) (k := k3) h1 h2 h3 h4 h5 h6 jI_0 jI_4 (by decide) hb3) (cwV 1 X.2.2.2.2 gX1_joinRows_X1_addRow rfl rfl rfl (by decide +kernel) ⟨Nat.le_of_ble_eq_true rfl, Nat.le_of_ble_eq_true rfl⟩) rfl rfl hl.1 (Nat.le_of_ble_eq_true rfl) dX1_joinRows_16 ⟨Nat.zero_le _, Nat.zero_le _⟩ (fun H locs hW => ?_)
  have hW : cH G kT L L K R (jI I th (0 + 1 + 1 + 1) (0 + k1 + k2 + k3)) A (u2 (u2 (u2 Q pa 0 (some r1)) pa (0 + 1) (some r2)) pa (0 + 1 + 1) (some r3)) N s H locs := hW.eq rfl (jI_add) rfl rfl
  exact hE _ _ _ _ hW dX1_joinRows_19
set_option maxHeartbeats 4000000 in
set_option maxRecDepth 100000 in
theorem ct_findByte_loop {l : Launch} {G : va_G} {kT : Nat → ClassId} {L : List Nat} {K : Nat → Nat} {R : pR} {A : mD} {Q : pR} {N : Nat → Nat} {th pa pc : Nat} {po pb pn : Nat → Nat} (hp : isPt L K R Q N pa pc po pb pn) {p : Program} {e : Env} {s : State} {m : MethodId} {args : Array Value} {below : List Frame} {meth : Method} {c : Code} {Z : State → Prop} (X : CallFix p m c cX1_findByte 1 s args wsX1_findByte RX1) (hin1 : ∀ w ∈ wsX10, w ∈ wsX1_findByte) (hin0 : ∀ w ∈ wsX00, w ∈ wsX1_findByte) {I0 : pI} {z0 : Nat × Nat} (hk : ∀ (H : Heap) (locs : List Loc) (ls : Array Slot), cH G kT L L K R (fbI I0 th z0) A Q N s H locs → lv_has ls 1 [(0, .ref th)] → W p l e ({ frames := 0, cells := 0, slots := 0, locals := 0 } : Room) s m args below meth c H locs 0 0 Z (F0 m 49 ls [])) :
    ∀ (n : Nat) (I : pI) (pt pl : Nat), fbF pc pn n (pt, pl) = z0 → (∀ w, fbI I th w = fbI I0 th w) → pc - pt < n → isJS L K R I N th pa pc pt pl → ∀ (H : Heap) (locs : List Loc), cH G kT L L K R I A Q N s H locs → ∀ ls : Array Slot, lv_has ls 1 [(0, .ref th)] → W p l e ({ frames := 0, cells := 0, slots := 0, locals := 0 } : Room) s m args below meth c H locs 0 0 Z (F0 m 0 ls []) := by
  intro n
  induction n with
  | zero => intro I pt pl _ _ h; omega
  | succ n ih =>
    intro I pt pl hz hI hn hj H locs hW ls hl
    have hpc := hj.2.2.2.2.2.2.2.2.2.1
    have hpt := hj.2.2.2.2.2.2.2.2.2.2.1
    have hpl := hj.2.2.2.2.2.2.2.2.2.2.2
    have hs9 : fbI I th (pt, pl) = I := fbI_self hj.2.2.2.2.2.2.2.1 hj.2.2.2.2.2.2.2.2.1
    rcases Decidable.em (pt < pc) with h1 | h1
    · have hq9 := (hp pt h1).2.2.2.2.2.2.2
      rcases Decidable.em (pn pt ≤ pl) with h2 | h2
      · skip
        refine lv_aload_n X.1 X.2.1 dX1_findByte_0 rfl (lv_at hl 0 rfl) ?_
        refine cg_1_part X hin1 hW (hj.1) (hj.2.1) (hj.2.2.2.2.2.2.2.1) (X.2.2.2.2 (.fieldLink RX1 21 "Strandbook$JoinedStream" "part" "I") (List.mem_cons_of_mem _ (List.mem_append_left _ (List.mem_append_left _ (List.mem_of_getElem? (i := 0) rfl))))) dX1_findByte_1 ?_
        refine lv_aload_n X.1 X.2.1 dX1_findByte_4 rfl (lv_at hl 0 rfl) ?_
        refine cg_1_partCount X hin1 hW (hj.1) (hj.2.1) (hj.2.2.2.2.2.2.1) (X.2.2.2.2 (.fieldLink RX1 17 "Strandbook$JoinedStream" "partCount" "I") (List.mem_cons_of_mem _ (List.mem_append_left _ (List.mem_append_left _ (List.mem_of_getElem? (i := 1) rfl))))) dX1_findByte_5 ?_
        refine n_icmp_ge_f (tgt := 49) X.1 X.2.1 dX1_findByte_8 (by decide) (by omega) (by omega) (by omega) ?_
        refine lv_aload_n X.1 X.2.1 dX1_findByte_11 rfl (lv_at hl 0 rfl) ?_
        refine cg_1_place X hin1 hW (hj.1) (hj.2.1) (hj.2.2.2.2.2.2.2.2.1) (X.2.2.2.2 (.fieldLink RX1 24 "Strandbook$JoinedStream" "place" "I") (List.mem_cons_of_mem _ (List.mem_append_left _ (List.mem_append_left _ (List.mem_of_getElem? (i := 2) rfl))))) dX1_findByte_12 ?_
        refine lv_aload_n X.1 X.2.1 dX1_findByte_15 rfl (lv_at hl 0 rfl) ?_
        refine cg_1_parts X hin1 hW (hj.1) (hj.2.1) (hj.2.2.1) (X.2.2.2.2 (.fieldLink RX1 11 "Strandbook$JoinedStream" "parts" "[LStrandbook$ByteRow;") (List.mem_cons_of_mem _ (List.mem_append_left _ (List.mem_append_left _ (List.mem_of_getElem? (i := 3) rfl))))) dX1_findByte_16 ?_
        refine lv_aload_n X.1 X.2.1 dX1_findByte_19 rfl (lv_at hl 0 rfl) ?_
        refine cg_1_part X hin1 hW (hj.1) (hj.2.1) (hj.2.2.2.2.2.2.2.1) (X.2.2.2.2 (.fieldLink RX1 21 "Strandbook$JoinedStream" "part" "I") (List.mem_cons_of_mem _ (List.mem_append_left _ (List.mem_append_left _ (List.mem_of_getElem? (i := 0) rfl))))) dX1_findByte_20 ?_
        refine cld_10 X hW (hj.2.2.2.1) (hj.2.2.2.2.1) (by rw [hj.2.2.2.2.2.1]; omega) (by omega) ((hp pt (by omega)).1) dX1_findByte_23 ?_
        refine cg_0_bytes X hin0 hW ((hp pt (by omega)).2.1) ((hp pt (by omega)).2.2.1) ((hp pt (by omega)).2.2.2.1) (X.2.2.2.2 (.fieldLink RX1 33 "Strandbook$ByteRow" "bytes" "[B") (List.mem_cons_of_mem _ (List.mem_append_left _ (List.mem_append_left _ (List.mem_of_getElem? (i := 4) rfl))))) dX1_findByte_24 ?_
        refine cln_7 X hW ((hp pt (by omega)).2.2.2.2.1) ((hp pt (by omega)).2.2.2.2.2.1) ((hp pt (by omega)).2.2.2.2.2.2.1) dX1_findByte_27 ?_
        refine n_icmp_lt_f (tgt := 49) X.1 X.2.1 dX1_findByte_28 (by decide) (by omega) (by omega) (by omega) ?_
        refine lv_aload_n X.1 X.2.1 dX1_findByte_31 rfl (lv_at hl 0 rfl) ?_
        refine lv_dup X.1 X.2.1 dX1_findByte_32 rfl ?_
        refine cg_1_part X hin1 hW (hj.1) (hj.2.1) (hj.2.2.2.2.2.2.2.1) (X.2.2.2.2 (.fieldLink RX1 21 "Strandbook$JoinedStream" "part" "I") (List.mem_cons_of_mem _ (List.mem_append_left _ (List.mem_append_left _ (List.mem_of_getElem? (i := 0) rfl))))) dX1_findByte_33 ?_
        refine lv_iconst (v := nI 1) X.1 X.2.1 dX1_findByte_36 (by decide) ?_
        refine n_iadd X.1 X.2.1 dX1_findByte_37 ?_
        refine cp_1_part X hin1 hW (hj.1) (hj.2.1) (X.2.2.2.2 (.fieldLink RX1 21 "Strandbook$JoinedStream" "part" "I") (List.mem_cons_of_mem _ (List.mem_append_left _ (List.mem_append_left _ (List.mem_of_getElem? (i := 0) rfl))))) dX1_findByte_38 (fun H locs hW => ?_)
        refine lv_aload_n X.1 X.2.1 dX1_findByte_41 rfl (lv_at hl 0 rfl) ?_
        refine lv_iconst (v := nI 0) X.1 X.2.1 dX1_findByte_42 (by decide) ?_
        refine cp_1_place X hin1 hW (hj.1) (hj.2.1) (X.2.2.2.2 (.fieldLink RX1 24 "Strandbook$JoinedStream" "place" "I") (List.mem_cons_of_mem _ (List.mem_append_left _ (List.mem_append_left _ (List.mem_of_getElem? (i := 2) rfl))))) dX1_findByte_43 (fun H locs hW => ?_)
        refine lv_goto (tgt := 0) X.1 X.2.1 dX1_findByte_46 (by decide) ?_
        have e9 : u2 (u2 I 1 th (nI (pt + 1))) 2 th (nI 0) = fbI I th (pt + 1, 0) := rfl
        exact ih _ (pt + 1) 0 (by rw [← hz, fbF, if_pos ⟨h1, h2⟩]) (fun w => (fbI_fbI (z := (pt + 1, 0))).trans (hI w)) (by omega) (isJS.fb (pn := pn) (z := (pt + 1, 0)) hj h1 (Nat.zero_le _)) _ _ hW ls (lv_sub hl [0] rfl)
      · skip
        refine lv_aload_n X.1 X.2.1 dX1_findByte_0 rfl (lv_at hl 0 rfl) ?_
        refine cg_1_part X hin1 hW (hj.1) (hj.2.1) (hj.2.2.2.2.2.2.2.1) (X.2.2.2.2 (.fieldLink RX1 21 "Strandbook$JoinedStream" "part" "I") (List.mem_cons_of_mem _ (List.mem_append_left _ (List.mem_append_left _ (List.mem_of_getElem? (i := 0) rfl))))) dX1_findByte_1 ?_
        refine lv_aload_n X.1 X.2.1 dX1_findByte_4 rfl (lv_at hl 0 rfl) ?_
        refine cg_1_partCount X hin1 hW (hj.1) (hj.2.1) (hj.2.2.2.2.2.2.1) (X.2.2.2.2 (.fieldLink RX1 17 "Strandbook$JoinedStream" "partCount" "I") (List.mem_cons_of_mem _ (List.mem_append_left _ (List.mem_append_left _ (List.mem_of_getElem? (i := 1) rfl))))) dX1_findByte_5 ?_
        refine n_icmp_ge_f (tgt := 49) X.1 X.2.1 dX1_findByte_8 (by decide) (by omega) (by omega) (by omega) ?_
        refine lv_aload_n X.1 X.2.1 dX1_findByte_11 rfl (lv_at hl 0 rfl) ?_
        refine cg_1_place X hin1 hW (hj.1) (hj.2.1) (hj.2.2.2.2.2.2.2.2.1) (X.2.2.2.2 (.fieldLink RX1 24 "Strandbook$JoinedStream" "place" "I") (List.mem_cons_of_mem _ (List.mem_append_left _ (List.mem_append_left _ (List.mem_of_getElem? (i := 2) rfl))))) dX1_findByte_12 ?_
        refine lv_aload_n X.1 X.2.1 dX1_findByte_15 rfl (lv_at hl 0 rfl) ?_
        refine cg_1_parts X hin1 hW (hj.1) (hj.2.1) (hj.2.2.1) (X.2.2.2.2 (.fieldLink RX1 11 "Strandbook$JoinedStream" "parts" "[LStrandbook$ByteRow;") (List.mem_cons_of_mem _ (List.mem_append_left _ (List.mem_append_left _ (List.mem_of_getElem? (i := 3) rfl))))) dX1_findByte_16 ?_
        refine lv_aload_n X.1 X.2.1 dX1_findByte_19 rfl (lv_at hl 0 rfl) ?_
        refine cg_1_part X hin1 hW (hj.1) (hj.2.1) (hj.2.2.2.2.2.2.2.1) (X.2.2.2.2 (.fieldLink RX1 21 "Strandbook$JoinedStream" "part" "I") (List.mem_cons_of_mem _ (List.mem_append_left _ (List.mem_append_left _ (List.mem_of_getElem? (i := 0) rfl))))) dX1_findByte_20 ?_
        refine cld_10 X hW (hj.2.2.2.1) (hj.2.2.2.2.1) (by rw [hj.2.2.2.2.2.1]; omega) (by omega) ((hp pt (by omega)).1) dX1_findByte_23 ?_
        refine cg_0_bytes X hin0 hW ((hp pt (by omega)).2.1) ((hp pt (by omega)).2.2.1) ((hp pt (by omega)).2.2.2.1) (X.2.2.2.2 (.fieldLink RX1 33 "Strandbook$ByteRow" "bytes" "[B") (List.mem_cons_of_mem _ (List.mem_append_left _ (List.mem_append_left _ (List.mem_of_getElem? (i := 4) rfl))))) dX1_findByte_24 ?_
        refine cln_7 X hW ((hp pt (by omega)).2.2.2.2.1) ((hp pt (by omega)).2.2.2.2.2.1) ((hp pt (by omega)).2.2.2.2.2.2.1) dX1_findByte_27 ?_
        refine n_icmp_lt_t (tgt := 49) X.1 X.2.1 dX1_findByte_28 (by decide) (by omega) (by omega) (by omega) ?_
        exact hk _ _ ls (hW.eq rfl (by rw [← hI z0, ← hz, fbF, if_neg (fun y => h2 y.2)]; exact hs9.symm) rfl rfl) (lv_sub hl [0] rfl)
    · skip
      refine lv_aload_n X.1 X.2.1 dX1_findByte_0 rfl (lv_at hl 0 rfl) ?_
      refine cg_1_part X hin1 hW (hj.1) (hj.2.1) (hj.2.2.2.2.2.2.2.1) (X.2.2.2.2 (.fieldLink RX1 21 "Strandbook$JoinedStream" "part" "I") (List.mem_cons_of_mem _ (List.mem_append_left _ (List.mem_append_left _ (List.mem_of_getElem? (i := 0) rfl))))) dX1_findByte_1 ?_
      refine lv_aload_n X.1 X.2.1 dX1_findByte_4 rfl (lv_at hl 0 rfl) ?_
      refine cg_1_partCount X hin1 hW (hj.1) (hj.2.1) (hj.2.2.2.2.2.2.1) (X.2.2.2.2 (.fieldLink RX1 17 "Strandbook$JoinedStream" "partCount" "I") (List.mem_cons_of_mem _ (List.mem_append_left _ (List.mem_append_left _ (List.mem_of_getElem? (i := 1) rfl))))) dX1_findByte_5 ?_
      refine n_icmp_ge_t (tgt := 49) X.1 X.2.1 dX1_findByte_8 (by decide) (by omega) (by omega) (by omega) ?_
      exact hk _ _ ls (hW.eq rfl (by rw [← hI z0, ← hz, fbF, if_neg (fun y => h1 y.1)]; exact hs9.symm) rfl rfl) (lv_sub hl [0] rfl)
set_option maxHeartbeats 4000000 in
set_option maxRecDepth 100000 in
theorem ct_findByte_1 (l : Launch) {G : va_G} {kT : Nat → ClassId} {L : List Nat} {K : Nat → Nat} {R : pR} {I : pI} {A : mD} {Q : pR} {N : Nat → Nat} {th pa pc pt pl : Nat} (hj : isJS L K R I N th pa pc pt pl) {po pb pn : Nat → Nat} (hp : isPt L K R Q N pa pc po pb pn) (h : (fb pc pn pt pl).1 < pc) : cMi l yX1_findByte wsX1_findByte ({ frames := 0, cells := 0, slots := 0, locals := 0 } : Room) G kT [.ref th] L K R I A Q N (nI 1) R (fbI I th (fb pc pn pt pl)) A Q := by
  refine csti (cc := cX1_findByte) (maxL := 1) (ret := (some .boolean)) (by decide) rfl ⟨_, rfl⟩ (Nat.le_of_ble_eq_true rfl) (fun p e s m args below meth c Z hE X hW ls hl => ?_)
  have X : CallFix p m c cX1_findByte 1 s args wsX1_findByte RX1 := X
  have hl : lv_has ls 1 [(0, .ref th)] := hl
  have hin0 : ∀ w ∈ wsX00, w ∈ wsX1_findByte := fun w h => List.mem_cons_of_mem _ (List.mem_append_right _ (h))
  have hin1 : ∀ w ∈ wsX10, w ∈ wsX1_findByte := fun w h => List.mem_cons_of_mem _ (List.mem_append_left _ (List.mem_append_right _ (h)))
  have hpc := hj.2.2.2.2.2.2.2.2.2.1
  have hpt := hj.2.2.2.2.2.2.2.2.2.2.1
  have hpl := hj.2.2.2.2.2.2.2.2.2.2.2
  have hf9 := fb_le (pn := pn) hpt hpl
  have hj2 := isJS.fb (pn := pn) (z := fb pc pn pt pl) hj hf9.1 hf9.2
  refine ct_findByte_loop hp X hin1 hin0 (I0 := I) (z0 := fb pc pn pt pl) (fun H locs ls hW hl => ?_) 4 I pt pl rfl (fun _ => rfl) (by omega) hj _ _ hW ls hl
  refine lv_aload_n X.1 X.2.1 dX1_findByte_49 rfl (lv_at hl 0 rfl) ?_
  refine cg_1_part X hin1 hW (hj2.1) (hj2.2.1) (hj2.2.2.2.2.2.2.2.1) (X.2.2.2.2 (.fieldLink RX1 21 "Strandbook$JoinedStream" "part" "I") (List.mem_cons_of_mem _ (List.mem_append_left _ (List.mem_append_left _ (List.mem_of_getElem? (i := 0) rfl))))) dX1_findByte_50 ?_
  refine lv_aload_n X.1 X.2.1 dX1_findByte_53 rfl (lv_at hl 0 rfl) ?_
  refine cg_1_partCount X hin1 hW (hj2.1) (hj2.2.1) (hj2.2.2.2.2.2.2.1) (X.2.2.2.2 (.fieldLink RX1 17 "Strandbook$JoinedStream" "partCount" "I") (List.mem_cons_of_mem _ (List.mem_append_left _ (List.mem_append_left _ (List.mem_of_getElem? (i := 1) rfl))))) dX1_findByte_54 ?_
  refine n_icmp_ge_f (tgt := 64) X.1 X.2.1 dX1_findByte_57 (by decide) (by omega) (by omega) (by omega) ?_
  refine lv_iconst (v := nI 1) X.1 X.2.1 dX1_findByte_60 (by decide) ?_
  refine lv_goto (tgt := 65) X.1 X.2.1 dX1_findByte_61 (by decide) ?_
  exact hE _ _ _ _ _ (rfl) (fun ty hty => by cases hty; exact nI_zb (by omega)) hW dX1_findByte_65
set_option maxHeartbeats 4000000 in
set_option maxRecDepth 100000 in
theorem ct_findByte_0 (l : Launch) {G : va_G} {kT : Nat → ClassId} {L : List Nat} {K : Nat → Nat} {R : pR} {I : pI} {A : mD} {Q : pR} {N : Nat → Nat} {th pa pc pt pl : Nat} (hj : isJS L K R I N th pa pc pt pl) {po pb pn : Nat → Nat} (hp : isPt L K R Q N pa pc po pb pn) (h : ¬ (fb pc pn pt pl).1 < pc) : cMi l yX1_findByte wsX1_findByte ({ frames := 0, cells := 0, slots := 0, locals := 0 } : Room) G kT [.ref th] L K R I A Q N (nI 0) R (fbI I th (fb pc pn pt pl)) A Q := by
  refine csti (cc := cX1_findByte) (maxL := 1) (ret := (some .boolean)) (by decide) rfl ⟨_, rfl⟩ (Nat.le_of_ble_eq_true rfl) (fun p e s m args below meth c Z hE X hW ls hl => ?_)
  have X : CallFix p m c cX1_findByte 1 s args wsX1_findByte RX1 := X
  have hl : lv_has ls 1 [(0, .ref th)] := hl
  have hin0 : ∀ w ∈ wsX00, w ∈ wsX1_findByte := fun w h => List.mem_cons_of_mem _ (List.mem_append_right _ (h))
  have hin1 : ∀ w ∈ wsX10, w ∈ wsX1_findByte := fun w h => List.mem_cons_of_mem _ (List.mem_append_left _ (List.mem_append_right _ (h)))
  have hpc := hj.2.2.2.2.2.2.2.2.2.1
  have hpt := hj.2.2.2.2.2.2.2.2.2.2.1
  have hpl := hj.2.2.2.2.2.2.2.2.2.2.2
  have hf9 := fb_le (pn := pn) hpt hpl
  have hj2 := isJS.fb (pn := pn) (z := fb pc pn pt pl) hj hf9.1 hf9.2
  refine ct_findByte_loop hp X hin1 hin0 (I0 := I) (z0 := fb pc pn pt pl) (fun H locs ls hW hl => ?_) 4 I pt pl rfl (fun _ => rfl) (by omega) hj _ _ hW ls hl
  refine lv_aload_n X.1 X.2.1 dX1_findByte_49 rfl (lv_at hl 0 rfl) ?_
  refine cg_1_part X hin1 hW (hj2.1) (hj2.2.1) (hj2.2.2.2.2.2.2.2.1) (X.2.2.2.2 (.fieldLink RX1 21 "Strandbook$JoinedStream" "part" "I") (List.mem_cons_of_mem _ (List.mem_append_left _ (List.mem_append_left _ (List.mem_of_getElem? (i := 0) rfl))))) dX1_findByte_50 ?_
  refine lv_aload_n X.1 X.2.1 dX1_findByte_53 rfl (lv_at hl 0 rfl) ?_
  refine cg_1_partCount X hin1 hW (hj2.1) (hj2.2.1) (hj2.2.2.2.2.2.2.1) (X.2.2.2.2 (.fieldLink RX1 17 "Strandbook$JoinedStream" "partCount" "I") (List.mem_cons_of_mem _ (List.mem_append_left _ (List.mem_append_left _ (List.mem_of_getElem? (i := 1) rfl))))) dX1_findByte_54 ?_
  refine n_icmp_ge_t (tgt := 64) X.1 X.2.1 dX1_findByte_57 (by decide) (by omega) (by omega) (by omega) ?_
  refine lv_iconst (v := nI 0) X.1 X.2.1 dX1_findByte_64 (by decide) ?_
  exact hE _ _ _ _ _ (rfl) (fun ty hty => by cases hty; exact nI_zb (by omega)) hW dX1_findByte_65
set_option maxHeartbeats 4000000 in
set_option maxRecDepth 100000 in
theorem ct_jreadOne_e (l : Launch) {G : va_G} {kT : Nat → ClassId} {L : List Nat} {K : Nat → Nat} {R : pR} {I : pI} {A : mD} {Q : pR} {N : Nat → Nat} {th pa pc pt pl : Nat} (hj : isJS L K R I N th pa pc pt pl) {po pb pn : Nat → Nat} (hp : isPt L K R Q N pa pc po pb pn) (h : ¬ (fb pc pn pt pl).1 < pc) : cMi l yX1_readOne wsX1_readOne ({ frames := 1, cells := 0, slots := 0, locals := 20 } : Room) G kT [.ref (th)] L K (R) (I) (A) (Q) N (-1) (R) ((fbI I th (fb pc pn pt pl))) (A) (Q) := by
  refine csti (cc := cX1_readOne) (maxL := 2) (ret := (some .int)) (by decide) rfl ⟨_, rfl⟩ (Nat.le_of_ble_eq_true rfl) (fun p e s m args below meth c Z hE X hW ls hl => ?_)
  have X : CallFix p m c cX1_readOne 2 s args wsX1_readOne RX1 := X
  have hl : lv_has ls 2 [(0, .ref (th))] := hl
  have hin0 : ∀ w ∈ wsX00, w ∈ wsX1_readOne := fun w h => List.mem_cons_of_mem _ (List.mem_append_left _ (List.mem_append_right _ (h)))
  have hin1 : ∀ w ∈ wsX10, w ∈ wsX1_readOne := fun w h => List.mem_cons_of_mem _ (List.mem_append_left _ (List.mem_append_left _ (List.mem_append_right _ (h))))
  have hpc := hj.2.2.2.2.2.2.2.2.2.1
  have hpt := hj.2.2.2.2.2.2.2.2.2.2.1
  have hpl := hj.2.2.2.2.2.2.2.2.2.2.2
  have hf9 := fb_le (pn := pn) hpt hpl
  have hj2 := isJS.fb (pn := pn) (z := fb pc pn pt pl) hj hf9.1 hf9.2
  refine lv_aload_n X.1 X.2.1 dX1_readOne_0 rfl (lv_at hl 0 rfl) ?_
  refine cVi X hW (hj.1) (pC_1 (hj.2.1)) rfl (ct_findByte_0 l hj hp h) (cwV 0 X.2.2.2.2 gX1_readOne_X1_findByte rfl rfl rfl (by decide +kernel) ⟨Nat.le_of_ble_eq_true rfl, Nat.le_of_ble_eq_true rfl⟩) rfl rfl hl.1 (Nat.le_of_ble_eq_true rfl) dX1_readOne_1 ⟨Nat.zero_le _, Nat.zero_le _⟩ (fun H locs hW => ?_)
  refine n_if_ne_f (tgt := 9) X.1 X.2.1 dX1_readOne_4 (by decide) (by decide) (by omega) ?_
  refine lv_iconst (v := -1) X.1 X.2.1 dX1_readOne_7 (by decide) ?_
  exact hE _ _ _ _ _ (rfl) (fun ty hty => by cases hty; exact rfl) hW dX1_readOne_8
set_option maxHeartbeats 4000000 in
set_option maxRecDepth 100000 in
theorem ct_jreadOne (l : Launch) {G : va_G} {kT : Nat → ClassId} {L : List Nat} {K : Nat → Nat} {R : pR} {I : pI} {A : mD} {Q : pR} {N : Nat → Nat} {th pa pc pt pl : Nat} (hj : isJS L K R I N th pa pc pt pl) {po pb pn : Nat → Nat} (hp : isPt L K R Q N pa pc po pb pn) {ps : Nat} (hps : I 3 th = nI ps) (h : (fb pc pn pt pl).1 < pc) : cMi l yX1_readOne wsX1_readOne ({ frames := 1, cells := 0, slots := 0, locals := 20 } : Room) G kT [.ref (th)] L K (R) (I) (A) (Q) N (A (pb (fb pc pn pt pl).1) (fb pc pn pt pl).2 &&& nI 255) (R) (u2 (u2 (fbI I th (fb pc pn pt pl)) 2 th (nI ((fb pc pn pt pl).2 + 1))) 3 th (nI (ps + 1))) (A) (Q) := by
  refine csti (cc := cX1_readOne) (maxL := 2) (ret := (some .int)) (by decide) rfl ⟨_, rfl⟩ (Nat.le_of_ble_eq_true rfl) (fun p e s m args below meth c Z hE X hW ls hl => ?_)
  have X : CallFix p m c cX1_readOne 2 s args wsX1_readOne RX1 := X
  have hl : lv_has ls 2 [(0, .ref (th))] := hl
  have hin0 : ∀ w ∈ wsX00, w ∈ wsX1_readOne := fun w h => List.mem_cons_of_mem _ (List.mem_append_left _ (List.mem_append_right _ (h)))
  have hin1 : ∀ w ∈ wsX10, w ∈ wsX1_readOne := fun w h => List.mem_cons_of_mem _ (List.mem_append_left _ (List.mem_append_left _ (List.mem_append_right _ (h))))
  have hpc := hj.2.2.2.2.2.2.2.2.2.1
  have hpt := hj.2.2.2.2.2.2.2.2.2.2.1
  have hpl := hj.2.2.2.2.2.2.2.2.2.2.2
  have hf9 := fb_le (pn := pn) hpt hpl
  have hj2 := isJS.fb (pn := pn) (z := fb pc pn pt pl) hj hf9.1 hf9.2
  have hlt := fb_lt hpc h
  have hq9 := (hp (fb pc pn pt pl).1 h).2.2.2.2.2.2.2
  have hps3 : fbI I th (fb pc pn pt pl) 3 th = nI ps := by rw [fbI_k (by decide) (by decide)]; exact hps
  refine lv_aload_n X.1 X.2.1 dX1_readOne_0 rfl (lv_at hl 0 rfl) ?_
  refine cVi X hW (hj.1) (pC_1 (hj.2.1)) rfl (ct_findByte_1 l hj hp h) (cwV 0 X.2.2.2.2 gX1_readOne_X1_findByte rfl rfl rfl (by decide +kernel) ⟨Nat.le_of_ble_eq_true rfl, Nat.le_of_ble_eq_true rfl⟩) rfl rfl hl.1 (Nat.le_of_ble_eq_true rfl) dX1_readOne_1 ⟨Nat.zero_le _, Nat.zero_le _⟩ (fun H locs hW => ?_)
  refine n_if_ne_t (tgt := 9) X.1 X.2.1 dX1_readOne_4 (by decide) (by decide) (by omega) ?_
  refine lv_aload_n X.1 X.2.1 dX1_readOne_9 rfl (lv_at hl 0 rfl) ?_
  refine cg_1_parts X hin1 hW (hj2.1) (hj2.2.1) (hj2.2.2.1) (X.2.2.2.2 (.fieldLink RX1 11 "Strandbook$JoinedStream" "parts" "[LStrandbook$ByteRow;") (List.mem_cons_of_mem _ (List.mem_append_left _ (List.mem_append_left _ (List.mem_append_left _ (List.mem_of_getElem? (i := 0) rfl)))))) dX1_readOne_10 ?_
  refine lv_aload_n X.1 X.2.1 dX1_readOne_13 rfl (lv_at hl 0 rfl) ?_
  refine cg_1_part X hin1 hW (hj2.1) (hj2.2.1) (hj2.2.2.2.2.2.2.2.1) (X.2.2.2.2 (.fieldLink RX1 21 "Strandbook$JoinedStream" "part" "I") (List.mem_cons_of_mem _ (List.mem_append_left _ (List.mem_append_left _ (List.mem_append_left _ (List.mem_of_getElem? (i := 1) rfl)))))) dX1_readOne_14 ?_
  refine cld_10 X hW (hj2.2.2.2.1) (hj2.2.2.2.2.1) (by rw [hj2.2.2.2.2.2.1]; omega) (by omega) ((hp ((fb pc pn pt pl).1) (by omega)).1) dX1_readOne_17 ?_
  refine cg_0_bytes X hin0 hW ((hp ((fb pc pn pt pl).1) (by omega)).2.1) ((hp ((fb pc pn pt pl).1) (by omega)).2.2.1) ((hp ((fb pc pn pt pl).1) (by omega)).2.2.2.1) (X.2.2.2.2 (.fieldLink RX1 33 "Strandbook$ByteRow" "bytes" "[B") (List.mem_cons_of_mem _ (List.mem_append_left _ (List.mem_append_left _ (List.mem_append_left _ (List.mem_of_getElem? (i := 2) rfl)))))) dX1_readOne_18 ?_
  refine lv_aload_n X.1 X.2.1 dX1_readOne_21 rfl (lv_at hl 0 rfl) ?_
  refine cg_1_place X hin1 hW (hj2.1) (hj2.2.1) (hj2.2.2.2.2.2.2.2.2.1) (X.2.2.2.2 (.fieldLink RX1 24 "Strandbook$JoinedStream" "place" "I") (List.mem_cons_of_mem _ (List.mem_append_left _ (List.mem_append_left _ (List.mem_append_left _ (List.mem_of_getElem? (i := 3) rfl)))))) dX1_readOne_22 ?_
  refine cld_7 X hW (v := A (pb ((fb pc pn pt pl).1)) ((fb pc pn pt pl).2)) ((hp ((fb pc pn pt pl).1) (by omega)).2.2.2.2.1) ((hp ((fb pc pn pt pl).1) (by omega)).2.2.2.2.2.1) (by rw [(hp ((fb pc pn pt pl).1) (by omega)).2.2.2.2.2.2.1]; omega) (by omega) (rfl) dX1_readOne_25 ?_
  refine lv_sipush (v := nI 255) X.1 X.2.1 dX1_readOne_26 (by decide) ?_
  refine lv_iand X.1 X.2.1 dX1_readOne_29 ?_
  refine lv_istore_n (lv' := [(1, .int (((A (pb ((fb pc pn pt pl).1)) ((fb pc pn pt pl).2)) &&& (nI (255))))), (0, .ref (th))]) X.1 X.2.1 dX1_readOne_30 rfl hl (by decide) rfl (fun ls hl => ?_)
  refine lv_aload_n X.1 X.2.1 dX1_readOne_31 rfl (lv_at hl 1 rfl) ?_
  refine lv_dup X.1 X.2.1 dX1_readOne_32 rfl ?_
  refine cg_1_place X hin1 hW (hj2.1) (hj2.2.1) (hj2.2.2.2.2.2.2.2.2.1) (X.2.2.2.2 (.fieldLink RX1 24 "Strandbook$JoinedStream" "place" "I") (List.mem_cons_of_mem _ (List.mem_append_left _ (List.mem_append_left _ (List.mem_append_left _ (List.mem_of_getElem? (i := 3) rfl)))))) dX1_readOne_33 ?_
  refine lv_iconst (v := nI 1) X.1 X.2.1 dX1_readOne_36 (by decide) ?_
  refine n_iadd X.1 X.2.1 dX1_readOne_37 ?_
  refine cp_1_place X hin1 hW (hj2.1) (hj2.2.1) (X.2.2.2.2 (.fieldLink RX1 24 "Strandbook$JoinedStream" "place" "I") (List.mem_cons_of_mem _ (List.mem_append_left _ (List.mem_append_left _ (List.mem_append_left _ (List.mem_of_getElem? (i := 3) rfl)))))) dX1_readOne_38 (fun H locs hW => ?_)
  refine lv_aload_n X.1 X.2.1 dX1_readOne_41 rfl (lv_at hl 1 rfl) ?_
  refine lv_dup X.1 X.2.1 dX1_readOne_42 rfl ?_
  refine cg_1_passed X hin1 hW (hj2.1) (hj2.2.1) ((congrFun (u2_ne (by decide)) _).trans (hps3)) (X.2.2.2.2 (.fieldLink RX1 27 "Strandbook$JoinedStream" "passed" "I") (List.mem_cons_of_mem _ (List.mem_append_left _ (List.mem_append_left _ (List.mem_append_left _ (List.mem_of_getElem? (i := 4) rfl)))))) dX1_readOne_43 ?_
  refine lv_iconst (v := nI 1) X.1 X.2.1 dX1_readOne_46 (by decide) ?_
  refine n_iadd X.1 X.2.1 dX1_readOne_47 ?_
  refine cp_1_passed X hin1 hW (hj2.1) (hj2.2.1) (X.2.2.2.2 (.fieldLink RX1 27 "Strandbook$JoinedStream" "passed" "I") (List.mem_cons_of_mem _ (List.mem_append_left _ (List.mem_append_left _ (List.mem_append_left _ (List.mem_of_getElem? (i := 4) rfl)))))) dX1_readOne_48 (fun H locs hW => ?_)
  refine lv_iload_n X.1 X.2.1 dX1_readOne_51 rfl (lv_at hl 0 rfl) ?_
  exact hE _ _ _ _ _ (rfl) (fun ty hty => by cases hty; exact rfl) hW dX1_readOne_52
set_option maxHeartbeats 4000000 in
set_option maxRecDepth 100000 in
theorem ct_jreadSome_e (l : Launch) {G : va_G} {kT : Nat → ClassId} {L : List Nat} {K : Nat → Nat} {R : pR} {I : pI} {A : mD} {Q : pR} {N : Nat → Nat} {th pa pc pt pl : Nat} (hj : isJS L K R I N th pa pc pt pl) {po pb pn : Nat → Nat} (hp : isPt L K R Q N pa pc po pb pn) {ta f n : Nat} (h : ¬ (fb pc pn pt pl).1 < pc) : cMi l yX1_readSome wsX1_readSome ({ frames := 1, cells := 0, slots := 0, locals := 21 } : Room) G kT [.ref (th), .ref (ta), .int (nI (f)), .int (nI (n))] L K (R) (I) (A) (Q) N (-1) (R) ((fbI I th (fb pc pn pt pl))) (A) (Q) := by
  refine csti (cc := cX1_readSome) (maxL := 7) (ret := (some .int)) (by decide) rfl ⟨_, rfl⟩ (Nat.le_of_ble_eq_true rfl) (fun p e s m args below meth c Z hE X hW ls hl => ?_)
  have X : CallFix p m c cX1_readSome 7 s args wsX1_readSome RX1 := X
  have hl : lv_has ls 7 [(0, .ref (th)), (1, .ref (ta)), (2, .int (nI (f))), (3, .int (nI (n)))] := hl
  have hin0 : ∀ w ∈ wsX00, w ∈ wsX1_readSome := fun w h => List.mem_cons_of_mem _ (List.mem_append_left _ (List.mem_append_right _ (h)))
  have hin1 : ∀ w ∈ wsX10, w ∈ wsX1_readSome := fun w h => List.mem_cons_of_mem _ (List.mem_append_left _ (List.mem_append_left _ (List.mem_append_right _ (h))))
  have hpc := hj.2.2.2.2.2.2.2.2.2.1
  have hpt := hj.2.2.2.2.2.2.2.2.2.2.1
  have hpl := hj.2.2.2.2.2.2.2.2.2.2.2
  have hf9 := fb_le (pn := pn) hpt hpl
  have hj2 := isJS.fb (pn := pn) (z := fb pc pn pt pl) hj hf9.1 hf9.2
  refine lv_aload_n X.1 X.2.1 dX1_readSome_0 rfl (lv_at hl 0 rfl) ?_
  refine cVi X hW (hj.1) (pC_1 (hj.2.1)) rfl (ct_findByte_0 l hj hp h) (cwV 0 X.2.2.2.2 gX1_readSome_X1_findByte rfl rfl rfl (by decide +kernel) ⟨Nat.le_of_ble_eq_true rfl, Nat.le_of_ble_eq_true rfl⟩) rfl rfl hl.1 (Nat.le_of_ble_eq_true rfl) dX1_readSome_1 ⟨Nat.zero_le _, Nat.zero_le _⟩ (fun H locs hW => ?_)
  refine n_if_ne_f (tgt := 9) X.1 X.2.1 dX1_readSome_4 (by decide) (by decide) (by omega) ?_
  refine lv_iconst (v := -1) X.1 X.2.1 dX1_readSome_7 (by decide) ?_
  exact hE _ _ _ _ _ (rfl) (fun ty hty => by cases hty; exact rfl) hW dX1_readSome_8
set_option maxHeartbeats 4000000 in
set_option maxRecDepth 100000 in
theorem ct_jreadSome (l : Launch) {G : va_G} {kT : Nat → ClassId} {L : List Nat} {K : Nat → Nat} {R : pR} {I : pI} {A : mD} {Q : pR} {N : Nat → Nat} {th pa pc pt pl : Nat} (hj : isJS L K R I N th pa pc pt pl) {po pb pn : Nat → Nat} (hp : isPt L K R Q N pa pc po pb pn) {ta tk f n ps : Nat} (hps : I 3 th = nI ps) (ht : isBA L K N ta tk) (hne : pb (fb pc pn pt pl).1 ≠ ta) (hf : f + n ≤ tk) (h : (fb pc pn pt pl).1 < pc) (hx : ∀ i, i < pn (fb pc pn pt pl).1 → vp_nar .byte (A (pb (fb pc pn pt pl).1) i) = A (pb (fb pc pn pt pl).1) i) : cMi l yX1_readSome wsX1_readSome ({ frames := 1, cells := 0, slots := 0, locals := 21 } : Room) G kT [.ref (th), .ref (ta), .int (nI (f)), .int (nI (n))] L K (R) (I) (A) (Q) N (nI (min n (pn (fb pc pn pt pl).1 - (fb pc pn pt pl).2))) (R) (u2 (u2 (fbI I th (fb pc pn pt pl)) 2 th (nI ((fb pc pn pt pl).2 + min n (pn (fb pc pn pt pl).1 - (fb pc pn pt pl).2)))) 3 th (nI (ps + min n (pn (fb pc pn pt pl).1 - (fb pc pn pt pl).2)))) (cpF A ta f (fun i => A (pb (fb pc pn pt pl).1) ((fb pc pn pt pl).2 + i)) (min n (pn (fb pc pn pt pl).1 - (fb pc pn pt pl).2))) (Q) := by
  refine csti (cc := cX1_readSome) (maxL := 7) (ret := (some .int)) (by decide) rfl ⟨_, rfl⟩ (Nat.le_of_ble_eq_true rfl) (fun p e s m args below meth c Z hE X hW ls hl => ?_)
  have X : CallFix p m c cX1_readSome 7 s args wsX1_readSome RX1 := X
  have hl : lv_has ls 7 [(0, .ref (th)), (1, .ref (ta)), (2, .int (nI (f))), (3, .int (nI (n)))] := hl
  have hin0 : ∀ w ∈ wsX00, w ∈ wsX1_readSome := fun w h => List.mem_cons_of_mem _ (List.mem_append_left _ (List.mem_append_right _ (h)))
  have hin1 : ∀ w ∈ wsX10, w ∈ wsX1_readSome := fun w h => List.mem_cons_of_mem _ (List.mem_append_left _ (List.mem_append_left _ (List.mem_append_right _ (h))))
  have hpc := hj.2.2.2.2.2.2.2.2.2.1
  have hpt := hj.2.2.2.2.2.2.2.2.2.2.1
  have hpl := hj.2.2.2.2.2.2.2.2.2.2.2
  have hf9 := fb_le (pn := pn) hpt hpl
  have hj2 := isJS.fb (pn := pn) (z := fb pc pn pt pl) hj hf9.1 hf9.2
  have hlt := fb_lt hpc h
  have hq9 := (hp (fb pc pn pt pl).1 h).2.2.2.2.2.2.2
  have hps3 : fbI I th (fb pc pn pt pl) 3 th = nI ps := by rw [fbI_k (by decide) (by decide)]; exact hps
  have ht9 := ht.2.2.2
  have hm1 : min n (pn (fb pc pn pt pl).1 - (fb pc pn pt pl).2) ≤ n := Nat.min_le_left _ _
  have hm2 : min n (pn (fb pc pn pt pl).1 - (fb pc pn pt pl).2) ≤ pn (fb pc pn pt pl).1 - (fb pc pn pt pl).2 := Nat.min_le_right _ _
  refine lv_aload_n X.1 X.2.1 dX1_readSome_0 rfl (lv_at hl 0 rfl) ?_
  refine cVi X hW (hj.1) (pC_1 (hj.2.1)) rfl (ct_findByte_1 l hj hp h) (cwV 0 X.2.2.2.2 gX1_readSome_X1_findByte rfl rfl rfl (by decide +kernel) ⟨Nat.le_of_ble_eq_true rfl, Nat.le_of_ble_eq_true rfl⟩) rfl rfl hl.1 (Nat.le_of_ble_eq_true rfl) dX1_readSome_1 ⟨Nat.zero_le _, Nat.zero_le _⟩ (fun H locs hW => ?_)
  refine n_if_ne_t (tgt := 9) X.1 X.2.1 dX1_readSome_4 (by decide) (by decide) (by omega) ?_
  refine lv_aload_n X.1 X.2.1 dX1_readSome_9 rfl (lv_at hl 0 rfl) ?_
  refine cg_1_parts X hin1 hW (hj2.1) (hj2.2.1) (hj2.2.2.1) (X.2.2.2.2 (.fieldLink RX1 11 "Strandbook$JoinedStream" "parts" "[LStrandbook$ByteRow;") (List.mem_cons_of_mem _ (List.mem_append_left _ (List.mem_append_left _ (List.mem_append_left _ (List.mem_of_getElem? (i := 0) rfl)))))) dX1_readSome_10 ?_
  refine lv_aload_n X.1 X.2.1 dX1_readSome_13 rfl (lv_at hl 0 rfl) ?_
  refine cg_1_part X hin1 hW (hj2.1) (hj2.2.1) (hj2.2.2.2.2.2.2.2.1) (X.2.2.2.2 (.fieldLink RX1 21 "Strandbook$JoinedStream" "part" "I") (List.mem_cons_of_mem _ (List.mem_append_left _ (List.mem_append_left _ (List.mem_append_left _ (List.mem_of_getElem? (i := 1) rfl)))))) dX1_readSome_14 ?_
  refine cld_10 X hW (hj2.2.2.2.1) (hj2.2.2.2.2.1) (by rw [hj2.2.2.2.2.2.1]; omega) (by omega) ((hp ((fb pc pn pt pl).1) (by omega)).1) dX1_readSome_17 ?_
  refine cg_0_bytes X hin0 hW ((hp ((fb pc pn pt pl).1) (by omega)).2.1) ((hp ((fb pc pn pt pl).1) (by omega)).2.2.1) ((hp ((fb pc pn pt pl).1) (by omega)).2.2.2.1) (X.2.2.2.2 (.fieldLink RX1 33 "Strandbook$ByteRow" "bytes" "[B") (List.mem_cons_of_mem _ (List.mem_append_left _ (List.mem_append_left _ (List.mem_append_left _ (List.mem_of_getElem? (i := 2) rfl)))))) dX1_readSome_18 ?_
  refine lv_astore (lv' := [(4, .ref (pb ((fb pc pn pt pl).1))), (0, .ref (th)), (1, .ref (ta)), (2, .int (nI (f))), (3, .int (nI (n)))]) X.1 X.2.1 dX1_readSome_21 hl (by decide) rfl (fun ls hl => ?_)
  refine lv_iload_n X.1 X.2.1 dX1_readSome_23 rfl (lv_at hl 4 rfl) ?_
  refine lv_aload X.1 X.2.1 dX1_readSome_24 (lv_at hl 0 rfl) ?_
  refine cln_7 X hW ((hp ((fb pc pn pt pl).1) (by omega)).2.2.2.2.1) ((hp ((fb pc pn pt pl).1) (by omega)).2.2.2.2.2.1) ((hp ((fb pc pn pt pl).1) (by omega)).2.2.2.2.2.2.1) dX1_readSome_26 ?_
  refine lv_aload_n X.1 X.2.1 dX1_readSome_27 rfl (lv_at hl 1 rfl) ?_
  refine cg_1_place X hin1 hW (hj2.1) (hj2.2.1) (hj2.2.2.2.2.2.2.2.2.1) (X.2.2.2.2 (.fieldLink RX1 24 "Strandbook$JoinedStream" "place" "I") (List.mem_cons_of_mem _ (List.mem_append_left _ (List.mem_append_left _ (List.mem_append_left _ (List.mem_of_getElem? (i := 3) rfl)))))) dX1_readSome_28 ?_
  refine n_isub X.1 X.2.1 (by omega) dX1_readSome_31 ?_
  refine va_mmin X.1 X.2.1 (X.2.2.1.trans hl.1.symm) X.2.2.2.1 (X.2.2.2.2 (.methodLink RX1 48 Lib.Math.min.name) (List.mem_cons_of_mem _ (List.mem_append_left _ (List.mem_append_left _ (List.mem_append_left _ (List.mem_of_getElem? (i := 4) rfl)))))) (X.2.2.2.2 (.static Lib.Math.min.name) (List.mem_cons_of_mem _ (List.mem_append_left _ (List.mem_append_left _ (List.mem_append_left _ (List.mem_of_getElem? (i := 5) rfl)))))) (X.2.2.2.2 (.initialized "java/lang/Math") (List.mem_cons_of_mem _ (List.mem_append_left _ (List.mem_append_left _ (List.mem_append_left _ (List.mem_of_getElem? (i := 6) rfl)))))) (X.2.2.2.2 (.code Lib.Math.min.name Lib.Math.min.code 2 (some .int)) (List.mem_cons_of_mem _ (List.mem_append_left _ (List.mem_append_left _ (List.mem_append_left _ (List.mem_of_getElem? (i := 7) rfl)))))) (Nat.le_of_ble_eq_true rfl) (Nat.le_of_ble_eq_true rfl) (Nat.zero_le _) (Nat.zero_le _) dX1_readSome_32 ?_
  refine n_cv (y := nI (min n (pn (fb pc pn pt pl).1 - (fb pc pn pt pl).2))) (min_nI (by omega) (by omega)) ?_
  refine lv_istore (lv' := [(5, .int (nI (min n (pn (fb pc pn pt pl).1 - (fb pc pn pt pl).2)))), (4, .ref (pb ((fb pc pn pt pl).1))), (0, .ref (th)), (1, .ref (ta)), (2, .int (nI (f))), (3, .int (nI (n)))]) X.1 X.2.1 dX1_readSome_35 hl (by decide) rfl (fun ls hl => ?_)
  refine lv_iconst (v := nI 0) X.1 X.2.1 dX1_readSome_37 (by decide) ?_
  refine lv_istore (lv' := [(6, .int (nI (0))), (5, .int (nI (min n (pn (fb pc pn pt pl).1 - (fb pc pn pt pl).2)))), (4, .ref (pb ((fb pc pn pt pl).1))), (0, .ref (th)), (1, .ref (ta)), (2, .int (nI (f))), (3, .int (nI (n)))]) X.1 X.2.1 dX1_readSome_38 hl (by decide) rfl (fun ls hl => ?_)
  have loop40 : ∀ (n40 k40 : Nat), k40 + n40 = min n (pn (fb pc pn pt pl).1 - (fb pc pn pt pl).2) → ∀ (H : Heap) (locs : List Loc), cH G kT L L K (R) ((fbI I th (fb pc pn pt pl))) (cpF A ta f (fun i => A (pb (fb pc pn pt pl).1) ((fb pc pn pt pl).2 + i)) k40) (Q) N s H locs → ∀ ls : Array Slot, lv_has ls 7 [(0, .ref (th)), (1, .ref (ta)), (2, .int (nI (f))), (3, .int (nI (n))), (4, .ref (pb ((fb pc pn pt pl).1))), (5, .int (nI (min n (pn (fb pc pn pt pl).1 - (fb pc pn pt pl).2)))), (6, .int (nI (k40)))] → W p l e ({ frames := 1, cells := 0, slots := 0, locals := 21 } : Room) s m args below meth c H locs 0 0 Z (F0 m 40 ls []) := by
    intro n40
    induction n40 with
    | zero =>
      intro k40 hk40  H locs hW ls hl
      obtain rfl : min n (pn (fb pc pn pt pl).1 - (fb pc pn pt pl).2) = k40 := by omega
      refine lv_iload X.1 X.2.1 dX1_readSome_40 (lv_at hl 6 rfl) ?_
      refine lv_iload X.1 X.2.1 dX1_readSome_42 (lv_at hl 5 rfl) ?_
      refine n_icmp_ge_t (tgt := 69) X.1 X.2.1 dX1_readSome_44 (by decide) (by omega) (by omega) (by omega) ?_
      refine lv_aload_n X.1 X.2.1 dX1_readSome_69 rfl (lv_at hl 0 rfl) ?_
      refine lv_dup X.1 X.2.1 dX1_readSome_70 rfl ?_
      refine cg_1_place X hin1 hW (hj2.1) (hj2.2.1) (hj2.2.2.2.2.2.2.2.2.1) (X.2.2.2.2 (.fieldLink RX1 24 "Strandbook$JoinedStream" "place" "I") (List.mem_cons_of_mem _ (List.mem_append_left _ (List.mem_append_left _ (List.mem_append_left _ (List.mem_of_getElem? (i := 3) rfl)))))) dX1_readSome_71 ?_
      refine lv_iload X.1 X.2.1 dX1_readSome_74 (lv_at hl 5 rfl) ?_
      refine n_iadd X.1 X.2.1 dX1_readSome_76 ?_
      refine cp_1_place X hin1 hW (hj2.1) (hj2.2.1) (X.2.2.2.2 (.fieldLink RX1 24 "Strandbook$JoinedStream" "place" "I") (List.mem_cons_of_mem _ (List.mem_append_left _ (List.mem_append_left _ (List.mem_append_left _ (List.mem_of_getElem? (i := 3) rfl)))))) dX1_readSome_77 (fun H locs hW => ?_)
      refine lv_aload_n X.1 X.2.1 dX1_readSome_80 rfl (lv_at hl 0 rfl) ?_
      refine lv_dup X.1 X.2.1 dX1_readSome_81 rfl ?_
      refine cg_1_passed X hin1 hW (hj2.1) (hj2.2.1) ((congrFun (u2_ne (by decide)) _).trans (hps3)) (X.2.2.2.2 (.fieldLink RX1 27 "Strandbook$JoinedStream" "passed" "I") (List.mem_cons_of_mem _ (List.mem_append_left _ (List.mem_append_left _ (List.mem_append_left _ (List.mem_of_getElem? (i := 8) rfl)))))) dX1_readSome_82 ?_
      refine lv_iload X.1 X.2.1 dX1_readSome_85 (lv_at hl 5 rfl) ?_
      refine n_iadd X.1 X.2.1 dX1_readSome_87 ?_
      refine cp_1_passed X hin1 hW (hj2.1) (hj2.2.1) (X.2.2.2.2 (.fieldLink RX1 27 "Strandbook$JoinedStream" "passed" "I") (List.mem_cons_of_mem _ (List.mem_append_left _ (List.mem_append_left _ (List.mem_append_left _ (List.mem_of_getElem? (i := 8) rfl)))))) dX1_readSome_88 (fun H locs hW => ?_)
      refine lv_iload X.1 X.2.1 dX1_readSome_91 (lv_at hl 5 rfl) ?_
      exact hE _ _ _ _ _ (rfl) (fun ty hty => by cases hty; exact rfl) hW dX1_readSome_93
    | succ n40 ih40 =>
      intro k40 hk40  H locs hW ls hl
      refine lv_iload X.1 X.2.1 dX1_readSome_40 (lv_at hl 6 rfl) ?_
      refine lv_iload X.1 X.2.1 dX1_readSome_42 (lv_at hl 5 rfl) ?_
      refine n_icmp_ge_f (tgt := 69) X.1 X.2.1 dX1_readSome_44 (by decide) (by omega) (by omega) (by omega) ?_
      refine lv_aload_n X.1 X.2.1 dX1_readSome_47 rfl (lv_at hl 1 rfl) ?_
      refine lv_iload_n X.1 X.2.1 dX1_readSome_48 rfl (lv_at hl 2 rfl) ?_
      refine lv_iload X.1 X.2.1 dX1_readSome_49 (lv_at hl 6 rfl) ?_
      refine n_iadd X.1 X.2.1 dX1_readSome_51 ?_
      refine lv_aload X.1 X.2.1 dX1_readSome_52 (lv_at hl 4 rfl) ?_
      refine lv_aload_n X.1 X.2.1 dX1_readSome_54 rfl (lv_at hl 0 rfl) ?_
      refine cg_1_place X hin1 hW (hj2.1) (hj2.2.1) (hj2.2.2.2.2.2.2.2.2.1) (X.2.2.2.2 (.fieldLink RX1 24 "Strandbook$JoinedStream" "place" "I") (List.mem_cons_of_mem _ (List.mem_append_left _ (List.mem_append_left _ (List.mem_append_left _ (List.mem_of_getElem? (i := 3) rfl)))))) dX1_readSome_55 ?_
      refine lv_iload X.1 X.2.1 dX1_readSome_58 (lv_at hl 6 rfl) ?_
      refine n_iadd X.1 X.2.1 dX1_readSome_60 ?_
      refine cld_7 X hW (v := A (pb (fb pc pn pt pl).1) ((fb pc pn pt pl).2 + k40)) ((hp ((fb pc pn pt pl).1) (by omega)).2.2.2.2.1) ((hp ((fb pc pn pt pl).1) (by omega)).2.2.2.2.2.1) (by rw [(hp ((fb pc pn pt pl).1) (by omega)).2.2.2.2.2.2.1]; omega) (by omega) (congrFun (cpF_ne hne) _) dX1_readSome_61 ?_
      refine cst_7 X hW (ht.1) (ht.2.1) (by rw [ht.2.2.1]; omega) (by omega) (hx _ (by omega)) dX1_readSome_62 (fun H locs hW => ?_)
      refine lv_iinc (v := nI (k40 + 1)) (lv' := [(6, .int (nI (k40 + 1))), (0, .ref (th)), (1, .ref (ta)), (2, .int (nI (f))), (3, .int (nI (n))), (4, .ref (pb ((fb pc pn pt pl).1))), (5, .int (nI (min n (pn (fb pc pn pt pl).1 - (fb pc pn pt pl).2))))]) X.1 X.2.1 dX1_readSome_63 hl (k := 6) rfl (nI_1 _) (by decide) rfl (fun ls hl => ?_)
      refine lv_goto (tgt := 40) X.1 X.2.1 dX1_readSome_66 (by decide) ?_
      exact ih40 (k40 + 1) (by omega) _ _ (hW.eq (rfl) (rfl) (cpF_S' rfl rfl) (rfl)) ls (lv_sub hl [1, 2, 3, 4, 5, 6, 0] rfl)
  exact loop40 ((min n (pn (fb pc pn pt pl).1 - (fb pc pn pt pl).2)) - (0)) (0) (by omega) _ _ (hW.eq (rfl) (rfl) (cpF_0.symm) (rfl)) ls (lv_sub hl [3, 4, 5, 6, 2, 1, 0] rfl)
