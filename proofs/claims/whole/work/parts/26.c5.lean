/-! the class's streams, in the good case -/
def jU (I : pI) (th : Nat) (z : Nat × Nat) (ps : Nat) : pI := u2 (fbI I th z) 3 th (nI ps)
theorem jU_at {I : pI} {th ps a b : Nat} {z : Nat × Nat} : jU I th z ps a b = if b = th then (if a = 3 then nI ps else if a = 2 then nI z.2 else if a = 1 then nI z.1 else I a b) else I a b := by
  simp only [jU, fbI, u2]
  by_cases hb : b = th
  · simp only [if_pos hb]
  · simp only [if_neg hb]
    by_cases h3 : a = 3
    · subst h3; rfl
    · simp only [if_neg h3]
      by_cases h2 : a = 2
      · subst h2; rfl
      · simp only [if_neg h2]
        by_cases h1 : a = 1
        · subst h1; simp only [if_true]
        · simp only [if_neg h1]
theorem jU_self {I : pI} {th pt pl ps : Nat} (h1 : I 1 th = nI pt) (h2 : I 2 th = nI pl) (h3 : I 3 th = nI ps) : jU I th (pt, pl) ps = I := by
  rw [jU, fbI_self h1 h2, ← h3]; exact u2_self
theorem jU_jU {I : pI} {th a b : Nat} {z w : Nat × Nat} : jU (jU I th z a) th w b = jU I th w b := by
  funext x y
  simp only [jU_at]
  by_cases hb : y = th
  · simp only [if_pos hb]
    by_cases h3 : x = 3
    · simp only [if_pos h3]
    · simp only [if_neg h3]
      by_cases h2 : x = 2
      · simp only [if_pos h2]
      · simp only [if_neg h2]
        by_cases h1 : x = 1
        · simp only [if_pos h1]
        · simp only [if_neg h1]
  · simp only [if_neg hb]
theorem jU_one {I : pI} {th x y : Nat} {w : Nat × Nat} : u2 (u2 (fbI I th w) 2 th (nI x)) 3 th (nI y) = jU I th (w.1, x) y := by
  rw [jU, fbI, u2_uu]; rfl
theorem fbI_jU {I : pI} {th ps : Nat} {w : Nat × Nat} (h3 : I 3 th = nI ps) : fbI I th w = jU I th w ps := by
  have e : fbI I th w 3 th = nI ps := by rw [fbI_k (by decide) (by decide)]; exact h3
  rw [jU, ← e, u2_self]
theorem jU_k {I : pI} {th ps a b : Nat} {z : Nat × Nat} (h : a = 0 ∨ 3 < a) : jU I th z ps a b = I a b := by
  rw [jU_at]
  by_cases hb : b = th
  · rw [if_pos hb, if_neg (by omega), if_neg (by omega), if_neg (by omega)]
  · rw [if_neg hb]
theorem jU_b {I : pI} {th ps a b : Nat} {z : Nat × Nat} (h : b ≠ th) : jU I th z ps a b = I a b := by rw [jU_at, if_neg h]
theorem jU_1 {I : pI} {th ps : Nat} {z : Nat × Nat} : jU I th z ps 1 th = nI z.1 := by rw [jU_at, if_pos rfl]; rfl
theorem jU_2 {I : pI} {th ps : Nat} {z : Nat × Nat} : jU I th z ps 2 th = nI z.2 := by rw [jU_at, if_pos rfl]; rfl
theorem jU_3 {I : pI} {th ps : Nat} {z : Nat × Nat} : jU I th z ps 3 th = nI ps := by rw [jU_at, if_pos rfl]; rfl
theorem isJS.jU {L : List Nat} {K : Nat → Nat} {R : pR} {I : pI} {N : Nat → Nat} {th pa pc pt pl ps : Nat} {z : Nat × Nat} (h : isJS L K R I N th pa pc pt pl) (hz : z.1 ≤ pc) (hz2 : z.2 ≤ 64) : isJS L K R (jU I th z ps) N th pa pc z.1 z.2 := by
  obtain ⟨h1, h2, h3, h4, h5, h6, h7, h8, h9, h10, h11, h12⟩ := h
  exact ⟨h1, h2, h3, h4, h5, h6, (jU_k (Or.inl rfl)).trans h7, jU_1, jU_2, h10, hz, hz2⟩
/-- n bytes are wanted: how many there are, and where it stands then -/
def gqF (pc : Nat) (pn : Nat → Nat) : Nat → Nat × Nat → Nat × (Nat × Nat) | 0, z => (0, z) | n + 1, z => if (fb pc pn z.1 z.2).1 < pc then ((gqF pc pn n ((fb pc pn z.1 z.2).1, (fb pc pn z.1 z.2).2 + 1)).1 + 1, (gqF pc pn n ((fb pc pn z.1 z.2).1, (fb pc pn z.1 z.2).2 + 1)).2) else (0, fb pc pn z.1 z.2)
theorem and_nn (x : Int32) : 0 ≤ x &&& nI 255 := by
  rw [pk_and x (m := nI 255) 8 rfl]
  exact nI_pos' (by omega)

set_option maxHeartbeats 4000000 in
set_option maxRecDepth 100000 in
theorem ct_passSome_loop {l : Launch} {G : va_G} {kT : Nat → ClassId} {L : List Nat} {K : Nat → Nat} {R : pR} {A : mD} {Q : pR} {N : Nat → Nat} {th pa pc M : Nat} {po pb pn : Nat → Nat} (hp : isPt L K R Q N pa pc po pb pn) (hM : M ≤ 1000) {p : Program} {e : Env} {s : State} {m : MethodId} {args : Array Value} {below : List Frame} {meth : Method} {c : Code} {Z : State → Prop} (X : CallFix p m c cX1_passSome 5 s args wsX1_passSome RX1) {I0 : pI} {R9 P9 : Nat} {z9 : Nat × Nat}
    (hE : ∀ (H : Heap) (locs : List Loc) (pc : Nat) (ls : Array Slot) (v : Int64), v = lN R9 → cH G kT L L K R (jU I0 th z9 P9) A Q N s H locs → decode cX1_passSome pc = .ok (.lreturn, 1) → W p l e ({ frames := 2, cells := 0, slots := 0, locals := 41 } : Room) s m args below meth c H locs 0 0 Z (F0 m pc ls [.long v])) :
    ∀ (n k : Nat) (I : pI) (pt pl ps : Nat), k + n = M → k + (gqF pc pn n (pt, pl)).1 = R9 → ps + (gqF pc pn n (pt, pl)).1 = P9 → (gqF pc pn n (pt, pl)).2 = z9 → (∀ w a, jU I th w a = jU I0 th w a) → isJS L K R I N th pa pc pt pl → I 3 th = nI ps → ∀ (H : Heap) (locs : List Loc), cH G kT L L K R I A Q N s H locs → ∀ ls : Array Slot, lv_has ls 5 [(0, .ref th), (1, .long (lN M)), (3, .long (lN k))] → W p l e ({ frames := 2, cells := 0, slots := 0, locals := 41 } : Room) s m args below meth c H locs 0 0 Z (F0 m 2 ls []) := by
  intro n
  induction n with
  | zero =>
    intro k I pt pl ps hk hR hP hz hI hj hps H locs hW ls hl
    obtain rfl : M = k := by omega
    refine lv_lload_n X.1 X.2.1 dX1_passSome_2 rfl (lv_at hl 2 rfl) ?_
    refine lv_lload_n X.1 X.2.1 dX1_passSome_3 rfl (lv_at hl 1 rfl) ?_
    refine W.lcmp X.1 X.2.1 dX1_passSome_4 ?_
    refine x_if_ge_t (tgt := 24) X.1 X.2.1 dX1_passSome_5 (by decide) ((lg_cmp_ge _ _).mpr ((pk_lLE (by omega) (by omega)).mpr (by omega))) ?_
    refine lv_lload_n X.1 X.2.1 dX1_passSome_24 rfl (lv_at hl 1 rfl) ?_
    exact hE _ _ _ _ _ (by rw [← hR, gqF]; rfl) (hW.eq rfl (by rw [← hI z9 P9, ← hz, ← hP]; exact (jU_self hj.2.2.2.2.2.2.2.1 hj.2.2.2.2.2.2.2.2.1 hps).symm) rfl rfl) dX1_passSome_25
  | succ n ih =>
    intro k I pt pl ps hk hR hP hz hI hj hps H locs hW ls hl
    have hpc := hj.2.2.2.2.2.2.2.2.2.1
    have hpt := hj.2.2.2.2.2.2.2.2.2.2.1
    have hpl := hj.2.2.2.2.2.2.2.2.2.2.2
    have hf9 := fb_le (pn := pn) hpt hpl
    rcases Decidable.em ((fb pc pn pt pl).1 < pc) with h | h
    · have hlt := fb_lt hpc h
      have hq9 := (hp (fb pc pn pt pl).1 h).2.2.2.2.2.2.2
      rw [gqF, if_pos h] at hR hP hz
      simp only at hR hP hz
      refine lv_lload_n X.1 X.2.1 dX1_passSome_2 rfl (lv_at hl 2 rfl) ?_
      refine lv_lload_n X.1 X.2.1 dX1_passSome_3 rfl (lv_at hl 1 rfl) ?_
      refine W.lcmp X.1 X.2.1 dX1_passSome_4 ?_
      refine x_if_ge_f (tgt := 24) X.1 X.2.1 dX1_passSome_5 (by decide) (fun z => absurd ((pk_lLE (by omega) (by omega)).mp ((lg_cmp_ge _ _).mp z)) (by omega)) ?_
      refine lv_aload_n X.1 X.2.1 dX1_passSome_8 rfl (lv_at hl 0 rfl) ?_
      refine cVi X hW (hj.1) (pC_1 (hj.2.1)) rfl (ct_jreadOne l hj hp hps h) (cwV 0 X.2.2.2.2 gX1_passSome_X1_readOne rfl rfl rfl (by decide +kernel) ⟨Nat.le_of_ble_eq_true rfl, Nat.le_of_ble_eq_true rfl⟩) rfl rfl hl.1 (Nat.le_of_ble_eq_true rfl) dX1_passSome_9 ⟨Nat.zero_le _, Nat.zero_le _⟩ (fun H locs hW => ?_)
      refine x_if_ge_t (tgt := 17) X.1 X.2.1 dX1_passSome_12 (by decide) (and_nn _) ?_
      refine lv_lload_n X.1 X.2.1 dX1_passSome_17 rfl (lv_at hl 2 rfl) ?_
      refine lv_lconst (v := lN 1) X.1 X.2.1 dX1_passSome_18 rfl ?_
      refine lv_ladd X.1 X.2.1 dX1_passSome_19 ?_
      refine n_cvl (y := lN (k + 1)) (lN_add _ _) ?_
      refine lv_lstore_n (lv' := [(3, .long (lN (k + 1))), (0, .ref (th)), (1, .long (lN M))]) X.1 X.2.1 dX1_passSome_20 rfl hl (by decide) rfl (fun ls hl => ?_)
      refine lv_goto (tgt := 2) X.1 X.2.1 dX1_passSome_21 (by decide) ?_
      exact ih (k + 1) _ (fb pc pn pt pl).1 ((fb pc pn pt pl).2 + 1) (ps + 1) (by omega) (by omega) (by omega) hz (fun w a => by rw [jU_one, jU_jU]; exact hI w a) (by rw [jU_one]; exact isJS.jU (z := ((fb pc pn pt pl).1, (fb pc pn pt pl).2 + 1)) hj hf9.1 (show (fb pc pn pt pl).2 + 1 ≤ 64 by omega)) u2_eq _ _ hW ls (lv_sub hl [1, 2, 0] rfl)
    · rw [gqF, if_neg h] at hR hP hz
      simp only at hR hP hz
      refine lv_lload_n X.1 X.2.1 dX1_passSome_2 rfl (lv_at hl 2 rfl) ?_
      refine lv_lload_n X.1 X.2.1 dX1_passSome_3 rfl (lv_at hl 1 rfl) ?_
      refine W.lcmp X.1 X.2.1 dX1_passSome_4 ?_
      refine x_if_ge_f (tgt := 24) X.1 X.2.1 dX1_passSome_5 (by decide) (fun z => absurd ((pk_lLE (by omega) (by omega)).mp ((lg_cmp_ge _ _).mp z)) (by omega)) ?_
      refine lv_aload_n X.1 X.2.1 dX1_passSome_8 rfl (lv_at hl 0 rfl) ?_
      refine cVi X hW (hj.1) (pC_1 (hj.2.1)) rfl (ct_jreadOne_e l hj hp h) (cwV 0 X.2.2.2.2 gX1_passSome_X1_readOne rfl rfl rfl (by decide +kernel) ⟨Nat.le_of_ble_eq_true rfl, Nat.le_of_ble_eq_true rfl⟩) rfl rfl hl.1 (Nat.le_of_ble_eq_true rfl) dX1_passSome_9 ⟨Nat.zero_le _, Nat.zero_le _⟩ (fun H locs hW => ?_)
      refine x_if_ge_f (tgt := 17) X.1 X.2.1 dX1_passSome_12 (by decide) (by decide) ?_
      refine lv_lload_n X.1 X.2.1 dX1_passSome_15 rfl (lv_at hl 2 rfl) ?_
      exact hE _ _ _ _ _ (by rw [← hR, Nat.add_zero]) (hW.eq rfl (by rw [← hI z9 P9, ← hz, ← hP, Nat.add_zero]; exact fbI_jU hps) rfl rfl) dX1_passSome_16

set_option maxHeartbeats 4000000 in
set_option maxRecDepth 100000 in
theorem ct_passSome (l : Launch) {G : va_G} {kT : Nat → ClassId} {L : List Nat} {K : Nat → Nat} {R : pR} {I : pI} {A : mD} {Q : pR} {N : Nat → Nat} {th pa pc pt pl : Nat} (hj : isJS L K R I N th pa pc pt pl) {po pb pn : Nat → Nat} (hp : isPt L K R Q N pa pc po pb pn) {ps M : Nat} (hps : I 3 th = nI ps) (hM : M ≤ 1000) : cMl l yX1_passSome wsX1_passSome ({ frames := 2, cells := 0, slots := 0, locals := 41 } : Room) G kT [.ref th, .long (lN M)] L K R I A Q N (lN (gqF pc pn M (pt, pl)).1) R (jU I th (gqF pc pn M (pt, pl)).2 (ps + (gqF pc pn M (pt, pl)).1)) A Q := by
  refine cstl (cc := cX1_passSome) (maxL := 5) (ret := (some .long)) (by decide) rfl rfl (Nat.le_of_ble_eq_true rfl) (fun p e s m args below meth c Z hE X hW ls hl => ?_)
  have X : CallFix p m c cX1_passSome 5 s args wsX1_passSome RX1 := X
  have hl : lv_has ls 5 [(0, .ref th), (1, .long (lN M))] := hl
  refine lv_lconst (v := lN 0) X.1 X.2.1 dX1_passSome_0 rfl ?_
  refine lv_lstore_n (lv' := [(3, .long (lN 0)), (0, .ref (th)), (1, .long (lN M))]) X.1 X.2.1 dX1_passSome_1 rfl hl (by decide) rfl (fun ls hl => ?_)
  exact ct_passSome_loop hp hM X hE M 0 I pt pl ps (by omega) (by omega) rfl rfl (fun _ _ => rfl) hj hps _ _ hW ls (lv_sub hl [1, 2, 0] rfl)

set_option maxHeartbeats 4000000 in
set_option maxRecDepth 100000 in
theorem cg_joinedStreamAt (l : Launch) {G : va_G} {kT : Nat → ClassId} {L : List Nat} {K : Nat → Nat} {R : pR} {I : pI} {A : mD} {Q : pR} {N : Nat → Nat} {T : mT} {D : mD} {ad : pD} (HB : Rep T D ad L K R I A Q N) {j pl : Nat} (hj2 : j < 2) (hj : isJS L K R I N (ad 10 j) (ad 11 j) (T 13 j) (T 16 j) pl) (h0 : T 13 j ≠ 0) : cMr l yX6_joinedStreamAt wsX6_joinedStreamAt ({ frames := 7, cells := 0, slots := 0, locals := 121 } : Room) G kT [.ref (ad 0 0), .int (nI (j))] L K (R) (I) (A) (Q) N (ad 10 j) (R) (I) (A) (Q) := by
  refine cstr (cc := cX6_joinedStreamAt) (maxL := 3) (ret := (some (.object "Strandbook$JoinedStream"))) (by decide) rfl ⟨_, rfl⟩ (Nat.le_of_ble_eq_true rfl) (fun p e s m args below meth c Z hE X hW ls hl => ?_)
  have X : CallFix p m c cX6_joinedStreamAt 3 s args wsX6_joinedStreamAt RX6 := X
  have hl : lv_has ls 3 [(0, .ref (ad 0 0)), (1, .int (nI (j)))] := hl
  have hin1 : ∀ w ∈ wsX10, w ∈ wsX6_joinedStreamAt := fun w h => List.mem_cons_of_mem _ (List.mem_append_left _ (List.mem_append_left _ (List.mem_append_right _ (h))))
  have hin6 : ∀ w ∈ wsX60, w ∈ wsX6_joinedStreamAt := fun w h => List.mem_cons_of_mem _ (List.mem_append_left _ (List.mem_append_left _ (List.mem_append_left _ (List.mem_append_right _ (h)))))
  have hr9 := HB.rj j hj2
  have hp := HB.pt hj2
  have h139 := (HB.mi.stI hj2).le
  refine lv_aload_n X.1 X.2.1 dX6_joinedStreamAt_0 rfl (lv_at hl 0 rfl) ?_
  refine lv_iload_n X.1 X.2.1 dX6_joinedStreamAt_1 rfl (lv_at hl 1 rfl) ?_
  refine cVr X hW (HB.mem lv_0) (pC_6 (HB.kn lv_0 rfl)) rfl (cg_streamAt l HB (r := j) (by omega)) (cwV 1 X.2.2.2.2 gX6_joinedStreamAt_X6_streamAt rfl rfl rfl (by decide +kernel) ⟨Nat.le_of_ble_eq_true rfl, Nat.le_of_ble_eq_true rfl⟩) rfl rfl hl.1 (Nat.le_of_ble_eq_true rfl) dX6_joinedStreamAt_2 ⟨Nat.zero_le _, Nat.zero_le _⟩ (fun H locs hW => ?_)
  refine lv_astore_n (lv' := [(2, .ref (ad 10 j)), (0, .ref (ad 0 0)), (1, .int (nI (j)))]) X.1 X.2.1 dX6_joinedStreamAt_5 rfl hl (by decide) rfl (fun ls hl => ?_)
  refine lv_aload_n X.1 X.2.1 dX6_joinedStreamAt_6 rfl (lv_at hl 0 rfl) ?_
  refine cVi X hW (hj.1) (pC_1 (hj.2.1)) rfl (ct_isJoined_1 l hj.1 hj.2.1 hj.2.2.2.2.2.2.1 (by omega) h139) (cwV 0 X.2.2.2.2 gX6_joinedStreamAt_X1_isJoined rfl rfl rfl (by decide +kernel) ⟨Nat.le_of_ble_eq_true rfl, Nat.le_of_ble_eq_true rfl⟩) rfl rfl hl.1 (Nat.le_of_ble_eq_true rfl) dX6_joinedStreamAt_7 ⟨Nat.zero_le _, Nat.zero_le _⟩ (fun H locs hW => ?_)
  refine n_if_ne_t (tgt := 24) X.1 X.2.1 dX6_joinedStreamAt_10 (by decide) (by decide) (by omega) ?_
  refine lv_aload_n X.1 X.2.1 dX6_joinedStreamAt_24 rfl (lv_at hl 0 rfl) ?_
  exact hE _ _ _ _ _ (rfl) hW dX6_joinedStreamAt_25

set_option maxHeartbeats 4000000 in
set_option maxRecDepth 100000 in
theorem co_next_e (l : Launch) {G : va_G} {kT : Nat → ClassId} {L : List Nat} {K : Nat → Nat} {R : pR} {I : pI} {A : mD} {Q : pR} {N : Nat → Nat} {T : mT} {D : mD} {ad : pD} (HB : Rep T D ad L K R I A Q N) {j pl : Nat} (hj2 : j < 2) (hj : isJS L K R I N (ad 10 j) (ad 11 j) (T 13 j) (T 16 j) pl) (h0 : T 13 j ≠ 0) (h : ¬ (fb (T 13 j) (fun k => T 4 (T 14 (3 * j + k) - 1)) (T 16 j) pl).1 < T 13 j) : cMi l yX6_next wsX6_next ({ frames := 8, cells := 0, slots := 0, locals := 143 } : Room) G kT [.ref (ad 0 0), .int (nI (j))] L K (R) (I) (A) (Q) N (-1) (R) (fbI I (ad 10 j) (fb (T 13 j) (fun k => T 4 (T 14 (3 * j + k) - 1)) (T 16 j) pl)) (A) (Q) := by
  refine csti (cc := cX6_next) (maxL := 2) (ret := (some .int)) (by decide) rfl ⟨_, rfl⟩ (Nat.le_of_ble_eq_true rfl) (fun p e s m args below meth c Z hE X hW ls hl => ?_)
  have X : CallFix p m c cX6_next 2 s args wsX6_next RX6 := X
  have hl : lv_has ls 2 [(0, .ref (ad 0 0)), (1, .int (nI (j)))] := hl
  have hin0 : ∀ w ∈ wsX00, w ∈ wsX6_next := fun w h => List.mem_cons_of_mem _ (List.mem_append_left _ (List.mem_append_left _ (List.mem_append_left _ (List.mem_append_right _ (h)))))
  have hin1 : ∀ w ∈ wsX10, w ∈ wsX6_next := fun w h => List.mem_cons_of_mem _ (List.mem_append_left _ (List.mem_append_left _ (List.mem_append_left _ (List.mem_append_left _ (List.mem_append_right _ (h))))))
  have hin6 : ∀ w ∈ wsX60, w ∈ wsX6_next := fun w h => List.mem_cons_of_mem _ (List.mem_append_left _ (List.mem_append_left _ (List.mem_append_left _ (List.mem_append_left _ (List.mem_append_left _ (List.mem_append_right _ (h)))))))
  have hr9 := HB.rj j hj2
  have hp := HB.pt hj2
  have h139 := (HB.mi.stI hj2).le
  refine lv_aload_n X.1 X.2.1 dX6_next_0 rfl (lv_at hl 0 rfl) ?_
  refine lv_iload_n X.1 X.2.1 dX6_next_1 rfl (lv_at hl 1 rfl) ?_
  refine cVr X hW (HB.mem lv_0) (pC_6 (HB.kn lv_0 rfl)) rfl (cg_joinedStreamAt l HB hj2 hj h0) (cwV 1 X.2.2.2.2 gX6_next_X6_joinedStreamAt rfl rfl rfl (by decide +kernel) ⟨Nat.le_of_ble_eq_true rfl, Nat.le_of_ble_eq_true rfl⟩) rfl rfl hl.1 (Nat.le_of_ble_eq_true rfl) dX6_next_2 ⟨Nat.zero_le _, Nat.zero_le _⟩ (fun H locs hW => ?_)
  refine cVi X hW (hj.1) (pC_1 (hj.2.1)) rfl (ct_jreadOne_e l hj hp h) (cwV 0 X.2.2.2.2 gX6_next_X1_readOne rfl rfl rfl (by decide +kernel) ⟨Nat.le_of_ble_eq_true rfl, Nat.le_of_ble_eq_true rfl⟩) rfl rfl hl.1 (Nat.le_of_ble_eq_true rfl) dX6_next_5 ⟨Nat.zero_le _, Nat.zero_le _⟩ (fun H locs hW => ?_)
  exact hE _ _ _ _ _ (rfl) (fun ty hty => by cases hty; exact rfl) hW dX6_next_8

set_option maxHeartbeats 4000000 in
set_option maxRecDepth 100000 in
theorem co_next (l : Launch) {G : va_G} {kT : Nat → ClassId} {L : List Nat} {K : Nat → Nat} {R : pR} {I : pI} {A : mD} {Q : pR} {N : Nat → Nat} {T : mT} {D : mD} {ad : pD} (HB : Rep T D ad L K R I A Q N) {j pl : Nat} (hj2 : j < 2) (hj : isJS L K R I N (ad 10 j) (ad 11 j) (T 13 j) (T 16 j) pl) (h0 : T 13 j ≠ 0) (h : (fb (T 13 j) (fun k => T 4 (T 14 (3 * j + k) - 1)) (T 16 j) pl).1 < T 13 j) : cMi l yX6_next wsX6_next ({ frames := 8, cells := 0, slots := 0, locals := 143 } : Room) G kT [.ref (ad 0 0), .int (nI (j))] L K (R) (I) (A) (Q) N (A (ad 6 (T 14 (3 * j + (fb (T 13 j) (fun k => T 4 (T 14 (3 * j + k) - 1)) (T 16 j) pl).1) - 1)) (fb (T 13 j) (fun k => T 4 (T 14 (3 * j + k) - 1)) (T 16 j) pl).2 &&& nI 255) (R) (jU I (ad 10 j) ((fb (T 13 j) (fun k => T 4 (T 14 (3 * j + k) - 1)) (T 16 j) pl).1, (fb (T 13 j) (fun k => T 4 (T 14 (3 * j + k) - 1)) (T 16 j) pl).2 + 1) (T 18 j + 1)) (A) (Q) := by
  refine csti (cc := cX6_next) (maxL := 2) (ret := (some .int)) (by decide) rfl ⟨_, rfl⟩ (Nat.le_of_ble_eq_true rfl) (fun p e s m args below meth c Z hE X hW ls hl => ?_)
  have X : CallFix p m c cX6_next 2 s args wsX6_next RX6 := X
  have hl : lv_has ls 2 [(0, .ref (ad 0 0)), (1, .int (nI (j)))] := hl
  have hin0 : ∀ w ∈ wsX00, w ∈ wsX6_next := fun w h => List.mem_cons_of_mem _ (List.mem_append_left _ (List.mem_append_left _ (List.mem_append_left _ (List.mem_append_right _ (h)))))
  have hin1 : ∀ w ∈ wsX10, w ∈ wsX6_next := fun w h => List.mem_cons_of_mem _ (List.mem_append_left _ (List.mem_append_left _ (List.mem_append_left _ (List.mem_append_left _ (List.mem_append_right _ (h))))))
  have hin6 : ∀ w ∈ wsX60, w ∈ wsX6_next := fun w h => List.mem_cons_of_mem _ (List.mem_append_left _ (List.mem_append_left _ (List.mem_append_left _ (List.mem_append_left _ (List.mem_append_left _ (List.mem_append_right _ (h)))))))
  have hr9 := HB.rj j hj2
  have hp := HB.pt hj2
  have h139 := (HB.mi.stI hj2).le
  refine lv_aload_n X.1 X.2.1 dX6_next_0 rfl (lv_at hl 0 rfl) ?_
  refine lv_iload_n X.1 X.2.1 dX6_next_1 rfl (lv_at hl 1 rfl) ?_
  refine cVr X hW (HB.mem lv_0) (pC_6 (HB.kn lv_0 rfl)) rfl (cg_joinedStreamAt l HB hj2 hj h0) (cwV 1 X.2.2.2.2 gX6_next_X6_joinedStreamAt rfl rfl rfl (by decide +kernel) ⟨Nat.le_of_ble_eq_true rfl, Nat.le_of_ble_eq_true rfl⟩) rfl rfl hl.1 (Nat.le_of_ble_eq_true rfl) dX6_next_2 ⟨Nat.zero_le _, Nat.zero_le _⟩ (fun H locs hW => ?_)
  refine cVi X hW (hj.1) (pC_1 (hj.2.1)) rfl (ct_jreadOne l hj hp hr9.2.2.2.1 h) (cwV 0 X.2.2.2.2 gX6_next_X1_readOne rfl rfl rfl (by decide +kernel) ⟨Nat.le_of_ble_eq_true rfl, Nat.le_of_ble_eq_true rfl⟩) rfl rfl hl.1 (Nat.le_of_ble_eq_true rfl) dX6_next_5 ⟨Nat.zero_le _, Nat.zero_le _⟩ (fun H locs hW => ?_)
  exact hE _ _ _ _ _ (rfl) (fun ty hty => by cases hty; exact rfl) (hW.eq rfl jU_one rfl rfl) dX6_next_8

set_option maxHeartbeats 4000000 in
set_option maxRecDepth 100000 in
theorem co_left (l : Launch) {G : va_G} {kT : Nat → ClassId} {L : List Nat} {K : Nat → Nat} {R : pR} {I : pI} {A : mD} {Q : pR} {N : Nat → Nat} {T : mT} {D : mD} {ad : pD} (HB : Rep T D ad L K R I A Q N) {j pl : Nat} (hj2 : j < 2) (hj : isJS L K R I N (ad 10 j) (ad 11 j) (T 13 j) (T 16 j) pl) (h0 : T 13 j ≠ 0) (hpl : T 16 j < T 13 j → pl = T 15 (3 * j + T 16 j)) : cMi l yX6_left wsX6_left ({ frames := 8, cells := 0, slots := 0, locals := 143 } : Room) G kT [.ref (ad 0 0), .int (nI (j))] L K (R) (I) (A) (Q) N (nI (lfN T j)) (R) (I) (A) (Q) := by
  refine csti (cc := cX6_left) (maxL := 2) (ret := (some .int)) (by decide) rfl ⟨_, rfl⟩ (Nat.le_of_ble_eq_true rfl) (fun p e s m args below meth c Z hE X hW ls hl => ?_)
  have X : CallFix p m c cX6_left 2 s args wsX6_left RX6 := X
  have hl : lv_has ls 2 [(0, .ref (ad 0 0)), (1, .int (nI (j)))] := hl
  have hin0 : ∀ w ∈ wsX00, w ∈ wsX6_left := fun w h => List.mem_cons_of_mem _ (List.mem_append_left _ (List.mem_append_left _ (List.mem_append_right _ (h))))
  have hin1 : ∀ w ∈ wsX10, w ∈ wsX6_left := fun w h => List.mem_cons_of_mem _ (List.mem_append_left _ (List.mem_append_left _ (List.mem_append_left _ (List.mem_append_right _ (h)))))
  have hin6 : ∀ w ∈ wsX60, w ∈ wsX6_left := fun w h => List.mem_cons_of_mem _ (List.mem_append_left _ (List.mem_append_left _ (List.mem_append_left _ (List.mem_append_left _ (List.mem_append_right _ (h))))))
  have hr9 := HB.rj j hj2
  have hp := HB.pt hj2
  have h139 := (HB.mi.stI hj2).le
  refine lv_aload_n X.1 X.2.1 dX6_left_0 rfl (lv_at hl 0 rfl) ?_
  refine lv_iload_n X.1 X.2.1 dX6_left_1 rfl (lv_at hl 1 rfl) ?_
  refine cVr X hW (HB.mem lv_0) (pC_6 (HB.kn lv_0 rfl)) rfl (cg_joinedStreamAt l HB hj2 hj h0) (cwV 1 X.2.2.2.2 gX6_left_X6_joinedStreamAt rfl rfl rfl (by decide +kernel) ⟨Nat.le_of_ble_eq_true rfl, Nat.le_of_ble_eq_true rfl⟩) rfl rfl hl.1 (Nat.le_of_ble_eq_true rfl) dX6_left_2 ⟨Nat.zero_le _, Nat.zero_le _⟩ (fun H locs hW => ?_)
  rcases Decidable.em (T 16 j < T 13 j) with h | h
  · have h15 := hpl h
    have hle := ((HB.mi.stI hj2).2.2 (T 16 j) (by omega)).2.2 h
    refine cVi X hW (hj.1) (pC_1 (hj.2.1)) rfl (ct_countRest_s l hj hp h (by omega)) (cwV 0 X.2.2.2.2 gX6_left_X1_countRestOfPart rfl rfl rfl (by decide +kernel) ⟨Nat.le_of_ble_eq_true rfl, Nat.le_of_ble_eq_true rfl⟩) rfl rfl hl.1 (Nat.le_of_ble_eq_true rfl) dX6_left_5 ⟨Nat.zero_le _, Nat.zero_le _⟩ (fun H locs hW => ?_)
    exact hE _ _ _ _ _ (by rw [lfN_at h, h15]) (fun ty hty => by cases hty; exact rfl) hW dX6_left_8
  · have h16 := (HB.mi.stI hj2).2.1
    refine cVi X hW (hj.1) (pC_1 (hj.2.1)) rfl (ct_countRest_e l hj hp h) (cwV 0 X.2.2.2.2 gX6_left_X1_countRestOfPart rfl rfl rfl (by decide +kernel) ⟨Nat.le_of_ble_eq_true rfl, Nat.le_of_ble_eq_true rfl⟩) rfl rfl hl.1 (Nat.le_of_ble_eq_true rfl) dX6_left_5 ⟨Nat.zero_le _, Nat.zero_le _⟩ (fun H locs hW => ?_)
    exact hE _ _ _ _ _ (by rw [lfN_end (by omega)]) (fun ty hty => by cases hty; exact rfl) hW dX6_left_8

set_option maxHeartbeats 4000000 in
set_option maxRecDepth 100000 in
theorem co_pass (l : Launch) {G : va_G} {kT : Nat → ClassId} {L : List Nat} {K : Nat → Nat} {R : pR} {I : pI} {A : mD} {Q : pR} {N : Nat → Nat} {T : mT} {D : mD} {ad : pD} (HB : Rep T D ad L K R I A Q N) {j pl : Nat} (hj2 : j < 2) (hj : isJS L K R I N (ad 10 j) (ad 11 j) (T 13 j) (T 16 j) pl) {M : Nat} (h0 : T 13 j ≠ 0) (hM : M ≤ 1000) : cMl l yX6_pass wsX6_pass ({ frames := 8, cells := 0, slots := 0, locals := 143 } : Room) G kT [.ref (ad 0 0), .int (nI (j)), .long (lN M)] L K (R) (I) (A) (Q) N (lN (gqF (T 13 j) (fun k => T 4 (T 14 (3 * j + k) - 1)) M (T 16 j, pl)).1) (R) (jU I (ad 10 j) (gqF (T 13 j) (fun k => T 4 (T 14 (3 * j + k) - 1)) M (T 16 j, pl)).2 (T 18 j + (gqF (T 13 j) (fun k => T 4 (T 14 (3 * j + k) - 1)) M (T 16 j, pl)).1)) (A) (Q) := by
  refine cstl (cc := cX6_pass) (maxL := 4) (ret := (some .long)) (by decide) rfl rfl (Nat.le_of_ble_eq_true rfl) (fun p e s m args below meth c Z hE X hW ls hl => ?_)
  have X : CallFix p m c cX6_pass 4 s args wsX6_pass RX6 := X
  have hl : lv_has ls 4 [(0, .ref (ad 0 0)), (1, .int (nI (j))), (2, .long (lN M))] := hl
  have hin0 : ∀ w ∈ wsX00, w ∈ wsX6_pass := fun w h => List.mem_cons_of_mem _ (List.mem_append_left _ (List.mem_append_left _ (List.mem_append_left _ (List.mem_append_left _ (List.mem_append_right _ (h))))))
  have hin1 : ∀ w ∈ wsX10, w ∈ wsX6_pass := fun w h => List.mem_cons_of_mem _ (List.mem_append_left _ (List.mem_append_left _ (List.mem_append_left _ (List.mem_append_left _ (List.mem_append_left _ (List.mem_append_right _ (h)))))))
  have hin6 : ∀ w ∈ wsX60, w ∈ wsX6_pass := fun w h => List.mem_cons_of_mem _ (List.mem_append_left _ (List.mem_append_left _ (List.mem_append_left _ (List.mem_append_left _ (List.mem_append_left _ (List.mem_append_left _ (List.mem_append_right _ (h))))))))
  have hr9 := HB.rj j hj2
  have hp := HB.pt hj2
  have h139 := (HB.mi.stI hj2).le
  refine lv_aload_n X.1 X.2.1 dX6_pass_0 rfl (lv_at hl 0 rfl) ?_
  refine lv_iload_n X.1 X.2.1 dX6_pass_1 rfl (lv_at hl 1 rfl) ?_
  refine cVr X hW (HB.mem lv_0) (pC_6 (HB.kn lv_0 rfl)) rfl (cg_streamAt l HB (r := j) (by omega)) (cwV 1 X.2.2.2.2 gX6_pass_X6_streamAt rfl rfl rfl (by decide +kernel) ⟨Nat.le_of_ble_eq_true rfl, Nat.le_of_ble_eq_true rfl⟩) rfl rfl hl.1 (Nat.le_of_ble_eq_true rfl) dX6_pass_2 ⟨Nat.zero_le _, Nat.zero_le _⟩ (fun H locs hW => ?_)
  refine lv_pop X.1 X.2.1 dX6_pass_5 rfl ?_
  refine lv_lload_n X.1 X.2.1 dX6_pass_6 rfl (lv_at hl 2 rfl) ?_
  refine cSv X hW (cg_requireWanted l (n := M) (by omega)) (va_cwS 1 X.2.2.2.2 gX6_pass_X6_requireWanted rfl rfl rfl (by decide +kernel) ⟨Nat.le_of_ble_eq_true rfl, Nat.le_of_ble_eq_true rfl⟩) rfl rfl hl.1 (Nat.le_of_ble_eq_true rfl) dX6_pass_7 ⟨Nat.zero_le _, Nat.zero_le _⟩ (fun H locs hW => ?_)
  refine lv_aload_n X.1 X.2.1 dX6_pass_10 rfl (lv_at hl 0 rfl) ?_
  refine lv_iload_n X.1 X.2.1 dX6_pass_11 rfl (lv_at hl 1 rfl) ?_
  refine cVr X hW (HB.mem lv_0) (pC_6 (HB.kn lv_0 rfl)) rfl (cg_joinedStreamAt l HB hj2 hj h0) (cwV 1 X.2.2.2.2 gX6_pass_X6_joinedStreamAt rfl rfl rfl (by decide +kernel) ⟨Nat.le_of_ble_eq_true rfl, Nat.le_of_ble_eq_true rfl⟩) rfl rfl hl.1 (Nat.le_of_ble_eq_true rfl) dX6_pass_12 ⟨Nat.zero_le _, Nat.zero_le _⟩ (fun H locs hW => ?_)
  refine lv_lload_n X.1 X.2.1 dX6_pass_15 rfl (lv_at hl 2 rfl) ?_
  refine cVl X hW (hj.1) (pC_1 (hj.2.1)) rfl (ct_passSome l hj hp hr9.2.2.2.1 hM) (cwV 1 X.2.2.2.2 gX6_pass_X1_passSome rfl rfl rfl (by decide +kernel) ⟨Nat.le_of_ble_eq_true rfl, Nat.le_of_ble_eq_true rfl⟩) rfl rfl hl.1 (Nat.le_of_ble_eq_true rfl) dX6_pass_16 ⟨Nat.zero_le _, Nat.zero_le _⟩ (fun H locs hW => ?_)
  exact hE _ _ _ _ _ (rfl) hW dX6_pass_19

set_option maxHeartbeats 4000000 in
set_option maxRecDepth 100000 in
theorem co_join (l : Launch) {G : va_G} {kT : Nat → ClassId} {L : List Nat} {K : Nat → Nat} {R : pR} {I : pI} {A : mD} {Q : pR} {N : Nat → Nat} {T : mT} {D : mD} {ad : pD} (HB : Rep T D ad L K R I A Q N) {j a b : Nat} (hj2 : j < 2) (ha : a < 4) (hb : b < 4) : cMi l yX6_join wsX6_join ({ frames := 7, cells := 0, slots := 0, locals := 121 } : Room) G kT [.ref (ad 0 0), .int (nI (j)), .int (nI (a)), .int (nI (b))] L K (R) (I) (A) (Q) N (nI (0 + bL T a + bL T b)) (R) (jI I (ad 10 j) 2 (0 + bL T a + bL T b)) (A) (u2 (u2 Q (ad 11 j) 0 (some (ad 5 (T 5 a)))) (ad 11 j) 1 (some (ad 5 (T 5 b)))) := by
  refine csti (cc := cX6_join) (maxL := 7) (ret := (some .int)) (by decide) rfl ⟨_, rfl⟩ (Nat.le_of_ble_eq_true rfl) (fun p e s m args below meth c Z hE X hW ls hl => ?_)
  have X : CallFix p m c cX6_join 7 s args wsX6_join RX6 := X
  have hl : lv_has ls 7 [(0, .ref (ad 0 0)), (1, .int (nI (j))), (2, .int (nI (a))), (3, .int (nI (b)))] := hl
  have hin0 : ∀ w ∈ wsX00, w ∈ wsX6_join := fun w h => List.mem_cons_of_mem _ (List.mem_append_left _ (List.mem_append_right _ (h)))
  have hin1 : ∀ w ∈ wsX10, w ∈ wsX6_join := fun w h => List.mem_cons_of_mem _ (List.mem_append_left _ (List.mem_append_left _ (List.mem_append_left _ (List.mem_append_right _ (h)))))
  have hin6 : ∀ w ∈ wsX60, w ∈ wsX6_join := fun w h => List.mem_cons_of_mem _ (List.mem_append_left _ (List.mem_append_left _ (List.mem_append_right _ (h))))
  have h1 := HB.mem (lv_10 (T := T) (show j < 3 by omega))
  have h2 : K (ad 10 j) = 1 := HB.kn (lv_10 (show j < 3 by omega)) rfl
  have h3 := (HB.rc.2.2.2.2.2.2.2.2.1 j (by omega)).1
  have h4 := HB.mem (lv_11 (T := T) (show j < 3 by omega))
  have h5 : K (ad 11 j) = 10 := HB.kn (lv_11 (show j < 3 by omega)) rfl
  have h6 := (HB.rc.2.2.2.2.2.2.2.2.1 j (by omega)).2
  refine lv_aload_n X.1 X.2.1 dX6_join_0 rfl (lv_at hl 0 rfl) ?_
  refine lv_iload_n X.1 X.2.1 dX6_join_1 rfl (lv_at hl 1 rfl) ?_
  refine cVr X hW (HB.mem lv_0) (pC_6 (HB.kn lv_0 rfl)) rfl (cg_streamAt l HB (r := j) (by omega)) (cwV 1 X.2.2.2.2 gX6_join_X6_streamAt rfl rfl rfl (by decide +kernel) ⟨Nat.le_of_ble_eq_true rfl, Nat.le_of_ble_eq_true rfl⟩) rfl rfl hl.1 (Nat.le_of_ble_eq_true rfl) dX6_join_2 ⟨Nat.zero_le _, Nat.zero_le _⟩ (fun H locs hW => ?_)
  refine lv_astore (lv' := [(4, .ref (ad 10 j)), (0, .ref (ad 0 0)), (1, .int (nI (j))), (2, .int (nI (a))), (3, .int (nI (b)))]) X.1 X.2.1 dX6_join_5 hl (by decide) rfl (fun ls hl => ?_)
  refine lv_aload_n X.1 X.2.1 dX6_join_7 rfl (lv_at hl 1 rfl) ?_
  refine lv_iload_n X.1 X.2.1 dX6_join_8 rfl (lv_at hl 3 rfl) ?_
  refine cVr X hW (HB.mem lv_0) (pC_6 (HB.kn lv_0 rfl)) rfl (cg_byteRowAt l HB (r := a) (by omega)) (cwV 1 X.2.2.2.2 gX6_join_X6_byteRowAt rfl rfl rfl (by decide +kernel) ⟨Nat.le_of_ble_eq_true rfl, Nat.le_of_ble_eq_true rfl⟩) rfl rfl hl.1 (Nat.le_of_ble_eq_true rfl) dX6_join_9 ⟨Nat.zero_le _, Nat.zero_le _⟩ (fun H locs hW => ?_)
  refine lv_astore (lv' := [(5, .ref (ad 5 (T 5 a))), (4, .ref (ad 10 j)), (0, .ref (ad 0 0)), (1, .int (nI (j))), (2, .int (nI (a))), (3, .int (nI (b)))]) X.1 X.2.1 dX6_join_12 hl (by decide) rfl (fun ls hl => ?_)
  refine lv_aload_n X.1 X.2.1 dX6_join_14 rfl (lv_at hl 2 rfl) ?_
  refine lv_iload_n X.1 X.2.1 dX6_join_15 rfl (lv_at hl 5 rfl) ?_
  refine cVr X hW (HB.mem lv_0) (pC_6 (HB.kn lv_0 rfl)) rfl (cg_byteRowAt l HB (r := b) (by omega)) (cwV 1 X.2.2.2.2 gX6_join_X6_byteRowAt rfl rfl rfl (by decide +kernel) ⟨Nat.le_of_ble_eq_true rfl, Nat.le_of_ble_eq_true rfl⟩) rfl rfl hl.1 (Nat.le_of_ble_eq_true rfl) dX6_join_16 ⟨Nat.zero_le _, Nat.zero_le _⟩ (fun H locs hW => ?_)
  refine lv_astore (lv' := [(6, .ref (ad 5 (T 5 b))), (5, .ref (ad 5 (T 5 a))), (4, .ref (ad 10 j)), (0, .ref (ad 0 0)), (1, .int (nI (j))), (2, .int (nI (a))), (3, .int (nI (b)))]) X.1 X.2.1 dX6_join_19 hl (by decide) rfl (fun ls hl => ?_)
  refine lv_aload X.1 X.2.1 dX6_join_21 (lv_at hl 2 rfl) ?_
  refine cVv X hW (h1) (pC_1 (h2)) rfl (ct_giveUpParts l h1 h2) (cwV 0 X.2.2.2.2 gX6_join_X1_giveUpParts rfl rfl rfl (by decide +kernel) ⟨Nat.le_of_ble_eq_true rfl, Nat.le_of_ble_eq_true rfl⟩) rfl rfl hl.1 (Nat.le_of_ble_eq_true rfl) dX6_join_23 ⟨Nat.zero_le _, Nat.zero_le _⟩ (fun H locs hW => ?_)
  have hW : cH G kT L L K R (jI I (ad 10 j) 0 0) A (Q) N s H locs := hW.eq rfl (rfl) rfl rfl
  refine lv_aload X.1 X.2.1 dX6_join_26 (lv_at hl 2 rfl) ?_
  refine lv_aload X.1 X.2.1 dX6_join_28 (lv_at hl 1 rfl) ?_
  refine cVv X hW (h1) (pC_1 (h2)) rfl (ct_addRow l (pa := ad 11 j) (n := 0) (t := 0) (ro := ad 5 (T 5 a)) (br := ad 6 (T 5 a)) (k := bL T a) h1 h2 h3 h4 h5 h6 jI_0 jI_4 (by decide) (HB.br (uB_row ha))) (cwV 1 X.2.2.2.2 gX6_join_X1_addRow rfl rfl rfl (by decide +kernel) ⟨Nat.le_of_ble_eq_true rfl, Nat.le_of_ble_eq_true rfl⟩) rfl rfl hl.1 (Nat.le_of_ble_eq_true rfl) dX6_join_30 ⟨Nat.zero_le _, Nat.zero_le _⟩ (fun H locs hW => ?_)
  have hW : cH G kT L L K R (jI I (ad 10 j) (0 + 1) (0 + bL T a)) A (u2 Q (ad 11 j) 0 (some (ad 5 (T 5 a)))) N s H locs := hW.eq rfl (jI_add) rfl rfl
  refine lv_aload X.1 X.2.1 dX6_join_33 (lv_at hl 2 rfl) ?_
  refine lv_aload X.1 X.2.1 dX6_join_35 (lv_at hl 0 rfl) ?_
  refine cVv X hW (h1) (pC_1 (h2)) rfl (ct_addRow l (pa := ad 11 j) (n := 0 + 1) (t := 0 + bL T a) (ro := ad 5 (T 5 b)) (br := ad 6 (T 5 b)) (k := bL T b) h1 h2 h3 h4 h5 h6 jI_0 jI_4 (by decide) (HB.br (uB_row hb))) (cwV 1 X.2.2.2.2 gX6_join_X1_addRow rfl rfl rfl (by decide +kernel) ⟨Nat.le_of_ble_eq_true rfl, Nat.le_of_ble_eq_true rfl⟩) rfl rfl hl.1 (Nat.le_of_ble_eq_true rfl) dX6_join_37 ⟨Nat.zero_le _, Nat.zero_le _⟩ (fun H locs hW => ?_)
  have hW : cH G kT L L K R (jI I (ad 10 j) (0 + 1 + 1) (0 + bL T a + bL T b)) A (u2 (u2 Q (ad 11 j) 0 (some (ad 5 (T 5 a)))) (ad 11 j) (0 + 1) (some (ad 5 (T 5 b)))) N s H locs := hW.eq rfl (jI_add) rfl rfl
  refine lv_aload X.1 X.2.1 dX6_join_40 (lv_at hl 2 rfl) ?_
  refine cg_1_total X hin1 hW (h1) (h2) (jI_4) (X.2.2.2.2 (.fieldLink RX6 200 "Strandbook$JoinedStream" "total" "I") (List.mem_cons_of_mem _ (List.mem_append_left _ (List.mem_append_left _ (List.mem_append_left _ (List.mem_append_left _ (List.mem_append_left _ (List.mem_of_getElem? (i := 0) rfl)))))))) dX6_join_42 ?_
  exact hE _ _ _ _ _ (rfl) (fun ty hty => by cases hty; exact rfl) hW dX6_join_45

set_option maxHeartbeats 4000000 in
set_option maxRecDepth 100000 in
theorem co_joinThree (l : Launch) {G : va_G} {kT : Nat → ClassId} {L : List Nat} {K : Nat → Nat} {R : pR} {I : pI} {A : mD} {Q : pR} {N : Nat → Nat} {T : mT} {D : mD} {ad : pD} (HB : Rep T D ad L K R I A Q N) {j a b d : Nat} {lf : Int32} (hj2 : j < 2) (ha : a < 4) (hb : b < 4) (hd : d < 4) : cMi l yX6_joinThree wsX6_joinThree ({ frames := 7, cells := 0, slots := 0, locals := 121 } : Room) G kT [.ref (ad 0 0), .int (nI (j)), .int (nI (a)), .int (nI (b)), .int (nI (d)), .int (lf)] L K (R) (I) (A) (Q) N (nI (0 + bL T a + bL T b + bL T d)) (R) (jI I (ad 10 j) 3 (0 + bL T a + bL T b + bL T d)) (A) (u2 (u2 (u2 Q (ad 11 j) 0 (some (ad 5 (T 5 a)))) (ad 11 j) 1 (some (ad 5 (T 5 b)))) (ad 11 j) 2 (some (ad 5 (T 5 d)))) := by
  refine csti (cc := cX6_joinThree) (maxL := 10) (ret := (some .int)) (by decide) rfl ⟨_, rfl⟩ (Nat.le_of_ble_eq_true rfl) (fun p e s m args below meth c Z hE X hW ls hl => ?_)
  have X : CallFix p m c cX6_joinThree 10 s args wsX6_joinThree RX6 := X
  have hl : lv_has ls 10 [(0, .ref (ad 0 0)), (1, .int (nI (j))), (2, .int (nI (a))), (3, .int (nI (b))), (4, .int (nI (d))), (5, .int (lf))] := hl
  have hin0 : ∀ w ∈ wsX00, w ∈ wsX6_joinThree := fun w h => List.mem_cons_of_mem _ (List.mem_append_left _ (List.mem_append_right _ (h)))
  have hin1 : ∀ w ∈ wsX10, w ∈ wsX6_joinThree := fun w h => List.mem_cons_of_mem _ (List.mem_append_left _ (List.mem_append_left _ (List.mem_append_left _ (List.mem_append_right _ (h)))))
  have hin6 : ∀ w ∈ wsX60, w ∈ wsX6_joinThree := fun w h => List.mem_cons_of_mem _ (List.mem_append_left _ (List.mem_append_left _ (List.mem_append_right _ (h))))
  have h1 := HB.mem (lv_10 (T := T) (show j < 3 by omega))
  have h2 : K (ad 10 j) = 1 := HB.kn (lv_10 (show j < 3 by omega)) rfl
  have h3 := (HB.rc.2.2.2.2.2.2.2.2.1 j (by omega)).1
  have h4 := HB.mem (lv_11 (T := T) (show j < 3 by omega))
  have h5 : K (ad 11 j) = 10 := HB.kn (lv_11 (show j < 3 by omega)) rfl
  have h6 := (HB.rc.2.2.2.2.2.2.2.2.1 j (by omega)).2
  refine lv_aload_n X.1 X.2.1 dX6_joinThree_0 rfl (lv_at hl 0 rfl) ?_
  refine lv_iload_n X.1 X.2.1 dX6_joinThree_1 rfl (lv_at hl 1 rfl) ?_
  refine cVr X hW (HB.mem lv_0) (pC_6 (HB.kn lv_0 rfl)) rfl (cg_streamAt l HB (r := j) (by omega)) (cwV 1 X.2.2.2.2 gX6_joinThree_X6_streamAt rfl rfl rfl (by decide +kernel) ⟨Nat.le_of_ble_eq_true rfl, Nat.le_of_ble_eq_true rfl⟩) rfl rfl hl.1 (Nat.le_of_ble_eq_true rfl) dX6_joinThree_2 ⟨Nat.zero_le _, Nat.zero_le _⟩ (fun H locs hW => ?_)
  refine lv_astore (lv' := [(6, .ref (ad 10 j)), (0, .ref (ad 0 0)), (1, .int (nI (j))), (2, .int (nI (a))), (3, .int (nI (b))), (4, .int (nI (d))), (5, .int (lf))]) X.1 X.2.1 dX6_joinThree_5 hl (by decide) rfl (fun ls hl => ?_)
  refine lv_aload_n X.1 X.2.1 dX6_joinThree_7 rfl (lv_at hl 1 rfl) ?_
  refine lv_iload_n X.1 X.2.1 dX6_joinThree_8 rfl (lv_at hl 3 rfl) ?_
  refine cVr X hW (HB.mem lv_0) (pC_6 (HB.kn lv_0 rfl)) rfl (cg_byteRowAt l HB (r := a) (by omega)) (cwV 1 X.2.2.2.2 gX6_joinThree_X6_byteRowAt rfl rfl rfl (by decide +kernel) ⟨Nat.le_of_ble_eq_true rfl, Nat.le_of_ble_eq_true rfl⟩) rfl rfl hl.1 (Nat.le_of_ble_eq_true rfl) dX6_joinThree_9 ⟨Nat.zero_le _, Nat.zero_le _⟩ (fun H locs hW => ?_)
  refine lv_astore (lv' := [(7, .ref (ad 5 (T 5 a))), (6, .ref (ad 10 j)), (0, .ref (ad 0 0)), (1, .int (nI (j))), (2, .int (nI (a))), (3, .int (nI (b))), (4, .int (nI (d))), (5, .int (lf))]) X.1 X.2.1 dX6_joinThree_12 hl (by decide) rfl (fun ls hl => ?_)
  refine lv_aload_n X.1 X.2.1 dX6_joinThree_14 rfl (lv_at hl 2 rfl) ?_
  refine lv_iload_n X.1 X.2.1 dX6_joinThree_15 rfl (lv_at hl 5 rfl) ?_
  refine cVr X hW (HB.mem lv_0) (pC_6 (HB.kn lv_0 rfl)) rfl (cg_byteRowAt l HB (r := b) (by omega)) (cwV 1 X.2.2.2.2 gX6_joinThree_X6_byteRowAt rfl rfl rfl (by decide +kernel) ⟨Nat.le_of_ble_eq_true rfl, Nat.le_of_ble_eq_true rfl⟩) rfl rfl hl.1 (Nat.le_of_ble_eq_true rfl) dX6_joinThree_16 ⟨Nat.zero_le _, Nat.zero_le _⟩ (fun H locs hW => ?_)
  refine lv_astore (lv' := [(8, .ref (ad 5 (T 5 b))), (7, .ref (ad 5 (T 5 a))), (6, .ref (ad 10 j)), (0, .ref (ad 0 0)), (1, .int (nI (j))), (2, .int (nI (a))), (3, .int (nI (b))), (4, .int (nI (d))), (5, .int (lf))]) X.1 X.2.1 dX6_joinThree_19 hl (by decide) rfl (fun ls hl => ?_)
  refine lv_aload_n X.1 X.2.1 dX6_joinThree_21 rfl (lv_at hl 3 rfl) ?_
  refine lv_iload X.1 X.2.1 dX6_joinThree_22 (lv_at hl 7 rfl) ?_
  refine cVr X hW (HB.mem lv_0) (pC_6 (HB.kn lv_0 rfl)) rfl (cg_byteRowAt l HB (r := d) (by omega)) (cwV 1 X.2.2.2.2 gX6_joinThree_X6_byteRowAt rfl rfl rfl (by decide +kernel) ⟨Nat.le_of_ble_eq_true rfl, Nat.le_of_ble_eq_true rfl⟩) rfl rfl hl.1 (Nat.le_of_ble_eq_true rfl) dX6_joinThree_24 ⟨Nat.zero_le _, Nat.zero_le _⟩ (fun H locs hW => ?_)
  refine lv_astore (lv' := [(9, .ref (ad 5 (T 5 d))), (8, .ref (ad 5 (T 5 b))), (7, .ref (ad 5 (T 5 a))), (6, .ref (ad 10 j)), (0, .ref (ad 0 0)), (1, .int (nI (j))), (2, .int (nI (a))), (3, .int (nI (b))), (4, .int (nI (d))), (5, .int (lf))]) X.1 X.2.1 dX6_joinThree_27 hl (by decide) rfl (fun ls hl => ?_)
  refine lv_aload X.1 X.2.1 dX6_joinThree_29 (lv_at hl 3 rfl) ?_
  refine lv_aload X.1 X.2.1 dX6_joinThree_31 (lv_at hl 2 rfl) ?_
  refine lv_aload X.1 X.2.1 dX6_joinThree_33 (lv_at hl 1 rfl) ?_
  refine lv_aload X.1 X.2.1 dX6_joinThree_35 (lv_at hl 0 rfl) ?_
  refine cVv X hW (h1) (pC_1 (h2)) rfl (ct_joinRows l h1 h2 h3 h4 h5 h6 (k1 := bL T a) (k2 := bL T b) (k3 := bL T d) (HB.br (uB_row ha)) (HB.br (uB_row hb)) (HB.br (uB_row hd))) (cwV 3 X.2.2.2.2 gX6_joinThree_X1_joinRows rfl rfl rfl (by decide +kernel) ⟨Nat.le_of_ble_eq_true rfl, Nat.le_of_ble_eq_true rfl⟩) rfl rfl hl.1 (Nat.le_of_ble_eq_true rfl) dX6_joinThree_37 ⟨Nat.zero_le _, Nat.zero_le _⟩ (fun H locs hW => ?_)
  refine lv_aload X.1 X.2.1 dX6_joinThree_40 (lv_at hl 3 rfl) ?_
  refine cg_1_total X hin1 hW (h1) (h2) (jI_4) (X.2.2.2.2 (.fieldLink RX6 200 "Strandbook$JoinedStream" "total" "I") (List.mem_cons_of_mem _ (List.mem_append_left _ (List.mem_append_left _ (List.mem_append_left _ (List.mem_append_left _ (List.mem_append_left _ (List.mem_of_getElem? (i := 0) rfl)))))))) dX6_joinThree_42 ?_
  exact hE _ _ _ _ _ (rfl) (fun ty hty => by cases hty; exact rfl) hW dX6_joinThree_45

set_option maxHeartbeats 4000000 in
set_option maxRecDepth 100000 in
theorem co_nextPart_e (l : Launch) {G : va_G} {kT : Nat → ClassId} {L : List Nat} {K : Nat → Nat} {R : pR} {I : pI} {A : mD} {Q : pR} {N : Nat → Nat} {T : mT} {D : mD} {ad : pD} (HB : Rep T D ad L K R I A Q N) {j pl : Nat} (hj2 : j < 2) (hj : isJS L K R I N (ad 10 j) (ad 11 j) (T 13 j) (T 16 j) pl) {r f n : Nat} (hr : r < 4) (hf : f + n ≤ T 4 (T 5 r)) (hn : n ≠ 0) (h0 : T 13 j ≠ 0) (hno : ∀ k, k < T 13 j → T 14 (3 * j + k) ≠ T 5 r + 1) (h : ¬ (fb (T 13 j) (fun k => T 4 (T 14 (3 * j + k) - 1)) (T 16 j) pl).1 < T 13 j) : cMi l yX6_nextPart wsX6_nextPart ({ frames := 8, cells := 0, slots := 0, locals := 143 } : Room) G kT [.ref (ad 0 0), .int (nI (j)), .int (nI (r)), .int (nI (f)), .int (nI (n))] L K (R) (I) (A) (Q) N (-1) (R) (fbI I (ad 10 j) (fb (T 13 j) (fun k => T 4 (T 14 (3 * j + k) - 1)) (T 16 j) pl)) (A) (Q) := by
  refine csti (cc := cX6_nextPart) (maxL := 7) (ret := (some .int)) (by decide) rfl ⟨_, rfl⟩ (Nat.le_of_ble_eq_true rfl) (fun p e s m args below meth c Z hE X hW ls hl => ?_)
  have X : CallFix p m c cX6_nextPart 7 s args wsX6_nextPart RX6 := X
  have hl : lv_has ls 7 [(0, .ref (ad 0 0)), (1, .int (nI (j))), (2, .int (nI (r))), (3, .int (nI (f))), (4, .int (nI (n)))] := hl
  have hin0 : ∀ w ∈ wsX00, w ∈ wsX6_nextPart := fun w h => List.mem_cons_of_mem _ (List.mem_append_left _ (List.mem_append_left _ (List.mem_append_left _ (List.mem_append_left _ (List.mem_append_left _ (List.mem_append_left _ (List.mem_append_left _ (List.mem_append_right _ (h)))))))))
  have hin1 : ∀ w ∈ wsX10, w ∈ wsX6_nextPart := fun w h => List.mem_cons_of_mem _ (List.mem_append_left _ (List.mem_append_left _ (List.mem_append_left _ (List.mem_append_left _ (List.mem_append_left _ (List.mem_append_right _ (h)))))))
  have hin6 : ∀ w ∈ wsX60, w ∈ wsX6_nextPart := fun w h => List.mem_cons_of_mem _ (List.mem_append_left _ (List.mem_append_left _ (List.mem_append_left _ (List.mem_append_left _ (List.mem_append_left _ (List.mem_append_left _ (List.mem_append_right _ (h))))))))
  have hu := uB_row (T := T) hr
  have hbr := HB.br hu
  have hl9 := hbr.2.2.2.2.2.2
  have hr9 := HB.rj j hj2
  have hp := HB.pt hj2
  have h139 := (HB.mi.stI hj2).le
  have hpo : ∀ k, k < T 13 j → ad 5 (T 14 (3 * j + k) - 1) ≠ ad 5 (T 5 r) := fun k hk => HB.ne (lv_5 (HB.up hj2 hk)) (lv_5 hu) (Or.inr (fun z => hno k hk (by have := ((HB.mi.stI hj2).2.2 k (by omega)).2.1 hk; omega)))
  refine lv_aload_n X.1 X.2.1 dX6_nextPart_0 rfl (lv_at hl 0 rfl) ?_
  refine lv_iload_n X.1 X.2.1 dX6_nextPart_1 rfl (lv_at hl 1 rfl) ?_
  refine cVr X hW (HB.mem lv_0) (pC_6 (HB.kn lv_0 rfl)) rfl (cg_streamAt l HB (r := j) (by omega)) (cwV 1 X.2.2.2.2 gX6_nextPart_X6_streamAt rfl rfl rfl (by decide +kernel) ⟨Nat.le_of_ble_eq_true rfl, Nat.le_of_ble_eq_true rfl⟩) rfl rfl hl.1 (Nat.le_of_ble_eq_true rfl) dX6_nextPart_2 ⟨Nat.zero_le _, Nat.zero_le _⟩ (fun H locs hW => ?_)
  refine lv_pop X.1 X.2.1 dX6_nextPart_5 rfl ?_
  refine lv_aload_n X.1 X.2.1 dX6_nextPart_6 rfl (lv_at hl 0 rfl) ?_
  refine lv_iload_n X.1 X.2.1 dX6_nextPart_7 rfl (lv_at hl 2 rfl) ?_
  refine cVr X hW (HB.mem lv_0) (pC_6 (HB.kn lv_0 rfl)) rfl (cg_byteRowAt l HB (r := r) (by omega)) (cwV 1 X.2.2.2.2 gX6_nextPart_X6_byteRowAt rfl rfl rfl (by decide +kernel) ⟨Nat.le_of_ble_eq_true rfl, Nat.le_of_ble_eq_true rfl⟩) rfl rfl hl.1 (Nat.le_of_ble_eq_true rfl) dX6_nextPart_8 ⟨Nat.zero_le _, Nat.zero_le _⟩ (fun H locs hW => ?_)
  refine lv_astore (lv' := [(5, .ref (ad 5 (T 5 r))), (0, .ref (ad 0 0)), (1, .int (nI (j))), (2, .int (nI (r))), (3, .int (nI (f))), (4, .int (nI (n)))]) X.1 X.2.1 dX6_nextPart_11 hl (by decide) rfl (fun ls hl => ?_)
  refine lv_iload_n X.1 X.2.1 dX6_nextPart_13 rfl (lv_at hl 4 rfl) ?_
  refine lv_iload X.1 X.2.1 dX6_nextPart_14 (lv_at hl 5 rfl) ?_
  refine lv_aload X.1 X.2.1 dX6_nextPart_16 (lv_at hl 0 rfl) ?_
  refine cg_0_bytes X hin0 hW (hbr.1) (hbr.2.1) (hbr.2.2.1) (X.2.2.2.2 (.fieldLink RX6 87 "Strandbook$ByteRow" "bytes" "[B") (List.mem_cons_of_mem _ (List.mem_append_left _ (List.mem_append_left _ (List.mem_append_left _ (List.mem_append_left _ (List.mem_append_left _ (List.mem_append_left _ (List.mem_append_left _ (List.mem_append_left _ (List.mem_append_left _ (List.mem_of_getElem? (i := 2) rfl)))))))))))) dX6_nextPart_18 ?_
  refine cln_7 X hW (hbr.2.2.2.1) (hbr.2.2.2.2.1) (hbr.2.2.2.2.2.1) dX6_nextPart_21 ?_
  refine cSv X hW (cg_requirePlaces l (f := f) (j := n) (n := T 4 (T 5 r)) (by omega) (by omega)) (va_cwS 3 X.2.2.2.2 gX6_nextPart_X6_requirePlaces rfl rfl rfl (by decide +kernel) ⟨Nat.le_of_ble_eq_true rfl, Nat.le_of_ble_eq_true rfl⟩) rfl rfl hl.1 (Nat.le_of_ble_eq_true rfl) dX6_nextPart_22 ⟨Nat.zero_le _, Nat.zero_le _⟩ (fun H locs hW => ?_)
  refine lv_iload X.1 X.2.1 dX6_nextPart_25 (lv_at hl 5 rfl) ?_
  refine cSv X hW (cg_requireSome l (n := n) (by omega) (by omega)) (va_cwS 1 X.2.2.2.2 gX6_nextPart_X6_requireSome rfl rfl rfl (by decide +kernel) ⟨Nat.le_of_ble_eq_true rfl, Nat.le_of_ble_eq_true rfl⟩) rfl rfl hl.1 (Nat.le_of_ble_eq_true rfl) dX6_nextPart_27 ⟨Nat.zero_le _, Nat.zero_le _⟩ (fun H locs hW => ?_)
  refine lv_aload_n X.1 X.2.1 dX6_nextPart_30 rfl (lv_at hl 1 rfl) ?_
  refine lv_iload_n X.1 X.2.1 dX6_nextPart_31 rfl (lv_at hl 2 rfl) ?_
  refine cVr X hW (HB.mem lv_0) (pC_6 (HB.kn lv_0 rfl)) rfl (cg_joinedStreamAt l HB hj2 hj h0) (cwV 1 X.2.2.2.2 gX6_nextPart_X6_joinedStreamAt rfl rfl rfl (by decide +kernel) ⟨Nat.le_of_ble_eq_true rfl, Nat.le_of_ble_eq_true rfl⟩) rfl rfl hl.1 (Nat.le_of_ble_eq_true rfl) dX6_nextPart_32 ⟨Nat.zero_le _, Nat.zero_le _⟩ (fun H locs hW => ?_)
  refine lv_astore (lv' := [(6, .ref (ad 10 j)), (5, .ref (ad 5 (T 5 r))), (0, .ref (ad 0 0)), (1, .int (nI (j))), (2, .int (nI (r))), (3, .int (nI (f))), (4, .int (nI (n)))]) X.1 X.2.1 dX6_nextPart_35 hl (by decide) rfl (fun ls hl => ?_)
  refine lv_aload X.1 X.2.1 dX6_nextPart_37 (lv_at hl 0 rfl) ?_
  refine lv_aload X.1 X.2.1 dX6_nextPart_39 (lv_at hl 1 rfl) ?_
  refine cVi X hW (hj.1) (pC_1 (hj.2.1)) rfl (ct_hasPart_0 l hj hp hpo) (cwV 1 X.2.2.2.2 gX6_nextPart_X1_hasPart rfl rfl rfl (by decide +kernel) ⟨Nat.le_of_ble_eq_true rfl, Nat.le_of_ble_eq_true rfl⟩) rfl rfl hl.1 (Nat.le_of_ble_eq_true rfl) dX6_nextPart_41 ⟨Nat.zero_le _, Nat.zero_le _⟩ (fun H locs hW => ?_)
  refine n_if_eq_t (tgt := 57) X.1 X.2.1 dX6_nextPart_44 (by decide) (by decide) (by omega) ?_
  refine lv_aload X.1 X.2.1 dX6_nextPart_57 (lv_at hl 0 rfl) ?_
  refine lv_aload X.1 X.2.1 dX6_nextPart_59 (lv_at hl 1 rfl) ?_
  refine cg_0_bytes X hin0 hW (hbr.1) (hbr.2.1) (hbr.2.2.1) (X.2.2.2.2 (.fieldLink RX6 87 "Strandbook$ByteRow" "bytes" "[B") (List.mem_cons_of_mem _ (List.mem_append_left _ (List.mem_append_left _ (List.mem_append_left _ (List.mem_append_left _ (List.mem_append_left _ (List.mem_append_left _ (List.mem_append_left _ (List.mem_append_left _ (List.mem_append_left _ (List.mem_of_getElem? (i := 2) rfl)))))))))))) dX6_nextPart_61 ?_
  refine lv_iload_n X.1 X.2.1 dX6_nextPart_64 rfl (lv_at hl 5 rfl) ?_
  refine lv_iload X.1 X.2.1 dX6_nextPart_65 (lv_at hl 6 rfl) ?_
  refine cVi X hW (hj.1) (pC_1 (hj.2.1)) rfl (ct_jreadSome_e l (ta := ad 6 (T 5 r)) (f := f) (n := n) hj hp h) (cwV 3 X.2.2.2.2 gX6_nextPart_X1_readSome rfl rfl rfl (by decide +kernel) ⟨Nat.le_of_ble_eq_true rfl, Nat.le_of_ble_eq_true rfl⟩) rfl rfl hl.1 (Nat.le_of_ble_eq_true rfl) dX6_nextPart_67 ⟨Nat.zero_le _, Nat.zero_le _⟩ (fun H locs hW => ?_)
  exact hE _ _ _ _ _ (rfl) (fun ty hty => by cases hty; exact rfl) hW dX6_nextPart_70

set_option maxHeartbeats 4000000 in
set_option maxRecDepth 100000 in
theorem co_nextPart (l : Launch) {G : va_G} {kT : Nat → ClassId} {L : List Nat} {K : Nat → Nat} {R : pR} {I : pI} {A : mD} {Q : pR} {N : Nat → Nat} {T : mT} {D : mD} {ad : pD} (HB : Rep T D ad L K R I A Q N) {j pl : Nat} (hj2 : j < 2) (hj : isJS L K R I N (ad 10 j) (ad 11 j) (T 13 j) (T 16 j) pl) {r f n : Nat} (hr : r < 4) (hf : f + n ≤ T 4 (T 5 r)) (hn : n ≠ 0) (h0 : T 13 j ≠ 0) (hno : ∀ k, k < T 13 j → T 14 (3 * j + k) ≠ T 5 r + 1) (h : (fb (T 13 j) (fun k => T 4 (T 14 (3 * j + k) - 1)) (T 16 j) pl).1 < T 13 j) : cMi l yX6_nextPart wsX6_nextPart ({ frames := 8, cells := 0, slots := 0, locals := 143 } : Room) G kT [.ref (ad 0 0), .int (nI (j)), .int (nI (r)), .int (nI (f)), .int (nI (n))] L K (R) (I) (A) (Q) N (nI (min n (T 4 (T 14 (3 * j + (fb (T 13 j) (fun k => T 4 (T 14 (3 * j + k) - 1)) (T 16 j) pl).1) - 1) - (fb (T 13 j) (fun k => T 4 (T 14 (3 * j + k) - 1)) (T 16 j) pl).2))) (R) (jU I (ad 10 j) ((fb (T 13 j) (fun k => T 4 (T 14 (3 * j + k) - 1)) (T 16 j) pl).1, (fb (T 13 j) (fun k => T 4 (T 14 (3 * j + k) - 1)) (T 16 j) pl).2 + min n (T 4 (T 14 (3 * j + (fb (T 13 j) (fun k => T 4 (T 14 (3 * j + k) - 1)) (T 16 j) pl).1) - 1) - (fb (T 13 j) (fun k => T 4 (T 14 (3 * j + k) - 1)) (T 16 j) pl).2)) (T 18 j + min n (T 4 (T 14 (3 * j + (fb (T 13 j) (fun k => T 4 (T 14 (3 * j + k) - 1)) (T 16 j) pl).1) - 1) - (fb (T 13 j) (fun k => T 4 (T 14 (3 * j + k) - 1)) (T 16 j) pl).2))) (cpF A (ad 6 (T 5 r)) f (fun i => A (ad 6 (T 14 (3 * j + (fb (T 13 j) (fun k => T 4 (T 14 (3 * j + k) - 1)) (T 16 j) pl).1) - 1)) ((fb (T 13 j) (fun k => T 4 (T 14 (3 * j + k) - 1)) (T 16 j) pl).2 + i)) (min n (T 4 (T 14 (3 * j + (fb (T 13 j) (fun k => T 4 (T 14 (3 * j + k) - 1)) (T 16 j) pl).1) - 1) - (fb (T 13 j) (fun k => T 4 (T 14 (3 * j + k) - 1)) (T 16 j) pl).2))) (Q) := by
  refine csti (cc := cX6_nextPart) (maxL := 7) (ret := (some .int)) (by decide) rfl ⟨_, rfl⟩ (Nat.le_of_ble_eq_true rfl) (fun p e s m args below meth c Z hE X hW ls hl => ?_)
  have X : CallFix p m c cX6_nextPart 7 s args wsX6_nextPart RX6 := X
  have hl : lv_has ls 7 [(0, .ref (ad 0 0)), (1, .int (nI (j))), (2, .int (nI (r))), (3, .int (nI (f))), (4, .int (nI (n)))] := hl
  have hin0 : ∀ w ∈ wsX00, w ∈ wsX6_nextPart := fun w h => List.mem_cons_of_mem _ (List.mem_append_left _ (List.mem_append_left _ (List.mem_append_left _ (List.mem_append_left _ (List.mem_append_left _ (List.mem_append_left _ (List.mem_append_left _ (List.mem_append_right _ (h)))))))))
  have hin1 : ∀ w ∈ wsX10, w ∈ wsX6_nextPart := fun w h => List.mem_cons_of_mem _ (List.mem_append_left _ (List.mem_append_left _ (List.mem_append_left _ (List.mem_append_left _ (List.mem_append_left _ (List.mem_append_right _ (h)))))))
  have hin6 : ∀ w ∈ wsX60, w ∈ wsX6_nextPart := fun w h => List.mem_cons_of_mem _ (List.mem_append_left _ (List.mem_append_left _ (List.mem_append_left _ (List.mem_append_left _ (List.mem_append_left _ (List.mem_append_left _ (List.mem_append_right _ (h))))))))
  have hu := uB_row (T := T) hr
  have hbr := HB.br hu
  have hl9 := hbr.2.2.2.2.2.2
  have hr9 := HB.rj j hj2
  have hp := HB.pt hj2
  have h139 := (HB.mi.stI hj2).le
  have hpo : ∀ k, k < T 13 j → ad 5 (T 14 (3 * j + k) - 1) ≠ ad 5 (T 5 r) := fun k hk => HB.ne (lv_5 (HB.up hj2 hk)) (lv_5 hu) (Or.inr (fun z => hno k hk (by have := ((HB.mi.stI hj2).2.2 k (by omega)).2.1 hk; omega)))
  refine lv_aload_n X.1 X.2.1 dX6_nextPart_0 rfl (lv_at hl 0 rfl) ?_
  refine lv_iload_n X.1 X.2.1 dX6_nextPart_1 rfl (lv_at hl 1 rfl) ?_
  refine cVr X hW (HB.mem lv_0) (pC_6 (HB.kn lv_0 rfl)) rfl (cg_streamAt l HB (r := j) (by omega)) (cwV 1 X.2.2.2.2 gX6_nextPart_X6_streamAt rfl rfl rfl (by decide +kernel) ⟨Nat.le_of_ble_eq_true rfl, Nat.le_of_ble_eq_true rfl⟩) rfl rfl hl.1 (Nat.le_of_ble_eq_true rfl) dX6_nextPart_2 ⟨Nat.zero_le _, Nat.zero_le _⟩ (fun H locs hW => ?_)
  refine lv_pop X.1 X.2.1 dX6_nextPart_5 rfl ?_
  refine lv_aload_n X.1 X.2.1 dX6_nextPart_6 rfl (lv_at hl 0 rfl) ?_
  refine lv_iload_n X.1 X.2.1 dX6_nextPart_7 rfl (lv_at hl 2 rfl) ?_
  refine cVr X hW (HB.mem lv_0) (pC_6 (HB.kn lv_0 rfl)) rfl (cg_byteRowAt l HB (r := r) (by omega)) (cwV 1 X.2.2.2.2 gX6_nextPart_X6_byteRowAt rfl rfl rfl (by decide +kernel) ⟨Nat.le_of_ble_eq_true rfl, Nat.le_of_ble_eq_true rfl⟩) rfl rfl hl.1 (Nat.le_of_ble_eq_true rfl) dX6_nextPart_8 ⟨Nat.zero_le _, Nat.zero_le _⟩ (fun H locs hW => ?_)
  refine lv_astore (lv' := [(5, .ref (ad 5 (T 5 r))), (0, .ref (ad 0 0)), (1, .int (nI (j))), (2, .int (nI (r))), (3, .int (nI (f))), (4, .int (nI (n)))]) X.1 X.2.1 dX6_nextPart_11 hl (by decide) rfl (fun ls hl => ?_)
  refine lv_iload_n X.1 X.2.1 dX6_nextPart_13 rfl (lv_at hl 4 rfl) ?_
  refine lv_iload X.1 X.2.1 dX6_nextPart_14 (lv_at hl 5 rfl) ?_
  refine lv_aload X.1 X.2.1 dX6_nextPart_16 (lv_at hl 0 rfl) ?_
  refine cg_0_bytes X hin0 hW (hbr.1) (hbr.2.1) (hbr.2.2.1) (X.2.2.2.2 (.fieldLink RX6 87 "Strandbook$ByteRow" "bytes" "[B") (List.mem_cons_of_mem _ (List.mem_append_left _ (List.mem_append_left _ (List.mem_append_left _ (List.mem_append_left _ (List.mem_append_left _ (List.mem_append_left _ (List.mem_append_left _ (List.mem_append_left _ (List.mem_append_left _ (List.mem_of_getElem? (i := 2) rfl)))))))))))) dX6_nextPart_18 ?_
  refine cln_7 X hW (hbr.2.2.2.1) (hbr.2.2.2.2.1) (hbr.2.2.2.2.2.1) dX6_nextPart_21 ?_
  refine cSv X hW (cg_requirePlaces l (f := f) (j := n) (n := T 4 (T 5 r)) (by omega) (by omega)) (va_cwS 3 X.2.2.2.2 gX6_nextPart_X6_requirePlaces rfl rfl rfl (by decide +kernel) ⟨Nat.le_of_ble_eq_true rfl, Nat.le_of_ble_eq_true rfl⟩) rfl rfl hl.1 (Nat.le_of_ble_eq_true rfl) dX6_nextPart_22 ⟨Nat.zero_le _, Nat.zero_le _⟩ (fun H locs hW => ?_)
  refine lv_iload X.1 X.2.1 dX6_nextPart_25 (lv_at hl 5 rfl) ?_
  refine cSv X hW (cg_requireSome l (n := n) (by omega) (by omega)) (va_cwS 1 X.2.2.2.2 gX6_nextPart_X6_requireSome rfl rfl rfl (by decide +kernel) ⟨Nat.le_of_ble_eq_true rfl, Nat.le_of_ble_eq_true rfl⟩) rfl rfl hl.1 (Nat.le_of_ble_eq_true rfl) dX6_nextPart_27 ⟨Nat.zero_le _, Nat.zero_le _⟩ (fun H locs hW => ?_)
  refine lv_aload_n X.1 X.2.1 dX6_nextPart_30 rfl (lv_at hl 1 rfl) ?_
  refine lv_iload_n X.1 X.2.1 dX6_nextPart_31 rfl (lv_at hl 2 rfl) ?_
  refine cVr X hW (HB.mem lv_0) (pC_6 (HB.kn lv_0 rfl)) rfl (cg_joinedStreamAt l HB hj2 hj h0) (cwV 1 X.2.2.2.2 gX6_nextPart_X6_joinedStreamAt rfl rfl rfl (by decide +kernel) ⟨Nat.le_of_ble_eq_true rfl, Nat.le_of_ble_eq_true rfl⟩) rfl rfl hl.1 (Nat.le_of_ble_eq_true rfl) dX6_nextPart_32 ⟨Nat.zero_le _, Nat.zero_le _⟩ (fun H locs hW => ?_)
  refine lv_astore (lv' := [(6, .ref (ad 10 j)), (5, .ref (ad 5 (T 5 r))), (0, .ref (ad 0 0)), (1, .int (nI (j))), (2, .int (nI (r))), (3, .int (nI (f))), (4, .int (nI (n)))]) X.1 X.2.1 dX6_nextPart_35 hl (by decide) rfl (fun ls hl => ?_)
  refine lv_aload X.1 X.2.1 dX6_nextPart_37 (lv_at hl 0 rfl) ?_
  refine lv_aload X.1 X.2.1 dX6_nextPart_39 (lv_at hl 1 rfl) ?_
  refine cVi X hW (hj.1) (pC_1 (hj.2.1)) rfl (ct_hasPart_0 l hj hp hpo) (cwV 1 X.2.2.2.2 gX6_nextPart_X1_hasPart rfl rfl rfl (by decide +kernel) ⟨Nat.le_of_ble_eq_true rfl, Nat.le_of_ble_eq_true rfl⟩) rfl rfl hl.1 (Nat.le_of_ble_eq_true rfl) dX6_nextPart_41 ⟨Nat.zero_le _, Nat.zero_le _⟩ (fun H locs hW => ?_)
  refine n_if_eq_t (tgt := 57) X.1 X.2.1 dX6_nextPart_44 (by decide) (by decide) (by omega) ?_
  refine lv_aload X.1 X.2.1 dX6_nextPart_57 (lv_at hl 0 rfl) ?_
  refine lv_aload X.1 X.2.1 dX6_nextPart_59 (lv_at hl 1 rfl) ?_
  refine cg_0_bytes X hin0 hW (hbr.1) (hbr.2.1) (hbr.2.2.1) (X.2.2.2.2 (.fieldLink RX6 87 "Strandbook$ByteRow" "bytes" "[B") (List.mem_cons_of_mem _ (List.mem_append_left _ (List.mem_append_left _ (List.mem_append_left _ (List.mem_append_left _ (List.mem_append_left _ (List.mem_append_left _ (List.mem_append_left _ (List.mem_append_left _ (List.mem_append_left _ (List.mem_of_getElem? (i := 2) rfl)))))))))))) dX6_nextPart_61 ?_
  refine lv_iload_n X.1 X.2.1 dX6_nextPart_64 rfl (lv_at hl 5 rfl) ?_
  refine lv_iload X.1 X.2.1 dX6_nextPart_65 (lv_at hl 6 rfl) ?_
  refine cVi X hW (hj.1) (pC_1 (hj.2.1)) rfl (ct_jreadSome l hj hp hr9.2.2.2.1 (HB.ba hu) (HB.ne (lv_6 (HB.up hj2 h)) (lv_6 hu) (Or.inr (fun z => hno _ h (by have := ((HB.mi.stI hj2).2.2 (fb (T 13 j) (fun k => T 4 (T 14 (3 * j + k) - 1)) (T 16 j) pl).1 (by omega)).2.1 h; omega)))) hf h (fun i hi => HB.bN (HB.up hj2 h) hi)) (cwV 3 X.2.2.2.2 gX6_nextPart_X1_readSome rfl rfl rfl (by decide +kernel) ⟨Nat.le_of_ble_eq_true rfl, Nat.le_of_ble_eq_true rfl⟩) rfl rfl hl.1 (Nat.le_of_ble_eq_true rfl) dX6_nextPart_67 ⟨Nat.zero_le _, Nat.zero_le _⟩ (fun H locs hW => ?_)
  exact hE _ _ _ _ _ (rfl) (fun ty hty => by cases hty; exact rfl) (hW.eq rfl jU_one rfl rfl) dX6_nextPart_70

set_option maxHeartbeats 4000000 in
set_option maxRecDepth 100000 in
theorem co_passedShare (l : Launch) {G : va_G} {kT : Nat → ClassId} {L : List Nat} {K : Nat → Nat} {R : pR} {I : pI} {A : mD} {Q : pR} {N : Nat → Nat} {T : mT} {D : mD} {ad : pD} (HB : Rep T D ad L K R I A Q N) {j pl : Nat} (hj2 : j < 2) (hj : isJS L K R I N (ad 10 j) (ad 11 j) (T 13 j) (T 16 j) pl) (h0 : T 13 j ≠ 0) (h17 : T 17 j ≠ 0) : cMf l yX6_passedShare wsX6_passedShare ({ frames := 8, cells := 0, slots := 0, locals := 143 } : Room) G kT [.ref (ad 0 0), .int (nI (j))] L K (R) (I) (A) (Q) N (shV T j) (R) (I) (A) (Q) := by
  refine cstf (cc := cX6_passedShare) (maxL := 3) (ret := (some .float)) (by decide) rfl rfl (Nat.le_of_ble_eq_true rfl) (fun p e s m args below meth c Z hE X hW ls hl => ?_)
  have X : CallFix p m c cX6_passedShare 3 s args wsX6_passedShare RX6 := X
  have hl : lv_has ls 3 [(0, .ref (ad 0 0)), (1, .int (nI (j)))] := hl
  have hin1 : ∀ w ∈ wsX10, w ∈ wsX6_passedShare := fun w h => List.mem_cons_of_mem _ (List.mem_append_left _ (List.mem_append_left _ (List.mem_append_left _ (List.mem_append_left _ (List.mem_append_right _ (h))))))
  have hin6 : ∀ w ∈ wsX60, w ∈ wsX6_passedShare := fun w h => List.mem_cons_of_mem _ (List.mem_append_left _ (List.mem_append_left _ (List.mem_append_left _ (List.mem_append_right _ (h)))))
  have hr9 := HB.rj j hj2
  have hp := HB.pt hj2
  have h139 := (HB.mi.stI hj2).le
  have h179 := (HB.mi.st hj2).2.2.1
  refine lv_aload_n X.1 X.2.1 dX6_passedShare_0 rfl (lv_at hl 0 rfl) ?_
  refine lv_iload_n X.1 X.2.1 dX6_passedShare_1 rfl (lv_at hl 1 rfl) ?_
  refine cVr X hW (HB.mem lv_0) (pC_6 (HB.kn lv_0 rfl)) rfl (cg_joinedStreamAt l HB hj2 hj h0) (cwV 1 X.2.2.2.2 gX6_passedShare_X6_joinedStreamAt rfl rfl rfl (by decide +kernel) ⟨Nat.le_of_ble_eq_true rfl, Nat.le_of_ble_eq_true rfl⟩) rfl rfl hl.1 (Nat.le_of_ble_eq_true rfl) dX6_passedShare_2 ⟨Nat.zero_le _, Nat.zero_le _⟩ (fun H locs hW => ?_)
  refine lv_astore_n (lv' := [(2, .ref (ad 10 j)), (0, .ref (ad 0 0)), (1, .int (nI (j)))]) X.1 X.2.1 dX6_passedShare_5 rfl hl (by decide) rfl (fun ls hl => ?_)
  refine lv_aload_n X.1 X.2.1 dX6_passedShare_6 rfl (lv_at hl 0 rfl) ?_
  refine cg_1_total X hin1 hW (hj.1) (hj.2.1) (hr9.2.2.2.2.1) (X.2.2.2.2 (.fieldLink RX6 200 "Strandbook$JoinedStream" "total" "I") (List.mem_cons_of_mem _ (List.mem_append_left _ (List.mem_append_left _ (List.mem_append_left _ (List.mem_append_left _ (List.mem_append_left _ (List.mem_of_getElem? (i := 2) rfl)))))))) dX6_passedShare_7 ?_
  refine n_if_ne_t (tgt := 23) X.1 X.2.1 dX6_passedShare_10 (by decide) (h17) (by omega) ?_
  refine lv_aload_n X.1 X.2.1 dX6_passedShare_23 rfl (lv_at hl 0 rfl) ?_
  refine cg_1_passed X hin1 hW (hj.1) (hj.2.1) (hr9.2.2.2.1) (X.2.2.2.2 (.fieldLink RX6 231 "Strandbook$JoinedStream" "passed" "I") (List.mem_cons_of_mem _ (List.mem_append_left _ (List.mem_append_left _ (List.mem_append_left _ (List.mem_append_left _ (List.mem_append_left _ (List.mem_of_getElem? (i := 3) rfl)))))))) dX6_passedShare_24 ?_
  refine lv_i2f X.1 X.2.1 dX6_passedShare_27 ?_
  refine lv_aload_n X.1 X.2.1 dX6_passedShare_28 rfl (lv_at hl 0 rfl) ?_
  refine cg_1_total X hin1 hW (hj.1) (hj.2.1) (hr9.2.2.2.2.1) (X.2.2.2.2 (.fieldLink RX6 200 "Strandbook$JoinedStream" "total" "I") (List.mem_cons_of_mem _ (List.mem_append_left _ (List.mem_append_left _ (List.mem_append_left _ (List.mem_append_left _ (List.mem_append_left _ (List.mem_of_getElem? (i := 2) rfl)))))))) dX6_passedShare_29 ?_
  refine lv_i2f X.1 X.2.1 dX6_passedShare_32 ?_
  refine lv_fdiv X.1 X.2.1 dX6_passedShare_33 (n32_of (fdiv_n32 _ _ (by rw [nI_toInt (by omega)]; omega))) ?_
  exact hE _ _ _ _ _ (rfl) hW dX6_passedShare_34

def smP (T : mT) : Nat → Nat | 0 => 0 | k + 1 => smP T k + (T 7 k + T 7 (3 + k))
theorem smP_3 (T : mT) : smP T 3 = smN T 6 := by show 0 + (T 7 0 + T 7 3) + (T 7 1 + T 7 4) + (T 7 2 + T 7 5) = 0 + T 7 0 + T 7 1 + T 7 2 + T 7 3 + T 7 4 + T 7 5; omega

set_option maxHeartbeats 4000000 in
set_option maxRecDepth 100000 in
theorem co_meanSize (l : Launch) {G : va_G} {kT : Nat → ClassId} {L : List Nat} {K : Nat → Nat} {R : pR} {I : pI} {A : mD} {Q : pR} {N : Nat → Nat} {T : mT} {D : mD} {ad : pD} (HB : Rep T D ad L K R I A Q N) : cMd l yX6_meanSize wsX6_meanSize ({ frames := 0, cells := 0, slots := 0, locals := 0 } : Room) G kT [.ref (ad 0 0)] L K (R) (I) (A) (Q) N (meV T) (R) (I) (A) (Q) := by
  refine cstd (cc := cX6_meanSize) (maxL := 3) (ret := (some .double)) (by decide) rfl rfl (Nat.le_of_ble_eq_true rfl) (fun p e s m args below meth c Z hE X hW ls hl => ?_)
  have X : CallFix p m c cX6_meanSize 3 s args wsX6_meanSize RX6 := X
  have hl : lv_has ls 3 [(0, .ref (ad 0 0))] := hl
  have hin4 : ∀ w ∈ wsX40, w ∈ wsX6_meanSize := fun w h => List.mem_cons_of_mem _ (List.mem_append_right _ (h))
  have hin6 : ∀ w ∈ wsX60, w ∈ wsX6_meanSize := fun w h => List.mem_cons_of_mem _ (List.mem_append_left _ (List.mem_append_right _ (h)))
  refine lv_iconst (v := nI 0) X.1 X.2.1 dX6_meanSize_0 (by decide) ?_
  refine lv_istore_n (lv' := [(1, .int (nI (0))), (0, .ref (ad 0 0))]) X.1 X.2.1 dX6_meanSize_1 rfl hl (by decide) rfl (fun ls hl => ?_)
  refine lv_iconst (v := nI 0) X.1 X.2.1 dX6_meanSize_2 (by decide) ?_
  refine lv_istore_n (lv' := [(2, .int (nI (0))), (1, .int (nI (0))), (0, .ref (ad 0 0))]) X.1 X.2.1 dX6_meanSize_3 rfl hl (by decide) rfl (fun ls hl => ?_)
  have loop4 : ∀ (n4 k4 : Nat), k4 + n4 = 3 → ∀ (H : Heap) (locs : List Loc), cH G kT L L K (R) (I) (A) (Q) N s H locs → ∀ ls : Array Slot, lv_has ls 3 [(0, .ref (ad 0 0)), (1, .int (nI (smP T k4))), (2, .int (nI (k4)))] → W p l e ({ frames := 0, cells := 0, slots := 0, locals := 0 } : Room) s m args below meth c H locs 0 0 Z (F0 m 4 ls []) := by
    intro n4
    induction n4 with
    | zero =>
      intro k4 hk4  H locs hW ls hl
      obtain rfl : 3 = k4 := by omega
      refine lv_iload_n X.1 X.2.1 dX6_meanSize_4 rfl (lv_at hl 2 rfl) ?_
      refine lv_iconst (v := nI 3) X.1 X.2.1 dX6_meanSize_5 (by decide) ?_
      refine n_icmp_ge_t (tgt := 37) X.1 X.2.1 dX6_meanSize_6 (by decide) (by omega) (by omega) (by omega) ?_
      refine lv_iload_n X.1 X.2.1 dX6_meanSize_37 rfl (lv_at hl 1 rfl) ?_
      refine lv_i2d X.1 X.2.1 dX6_meanSize_38 ?_
      refine lv_ldc2d X.1 X.2.1 X.2.2.2.1 (X.2.2.2.2 (.constantDouble RX6 234 (4618441417868443648)) (List.mem_cons_of_mem _ (List.mem_append_left _ (List.mem_append_left _ (List.mem_of_getElem? (i := 3) rfl))))) dX6_meanSize_39 ?_
      refine lv_ddiv X.1 X.2.1 dX6_meanSize_42 (n64_of (ddiv_n64 _)) ?_
      exact hE _ _ _ _ _ (by rw [smP_3]; rfl) hW dX6_meanSize_43
    | succ n4 ih4 =>
      intro k4 hk4  H locs hW ls hl
      refine lv_iload_n X.1 X.2.1 dX6_meanSize_4 rfl (lv_at hl 2 rfl) ?_
      refine lv_iconst (v := nI 3) X.1 X.2.1 dX6_meanSize_5 (by decide) ?_
      refine n_icmp_ge_f (tgt := 37) X.1 X.2.1 dX6_meanSize_6 (by decide) (by omega) (by omega) (by omega) ?_
      refine lv_iload_n X.1 X.2.1 dX6_meanSize_9 rfl (lv_at hl 1 rfl) ?_
      refine lv_aload_n X.1 X.2.1 dX6_meanSize_10 rfl (lv_at hl 0 rfl) ?_
      refine cg_6_textWriters X hin6 hW (HB.mem lv_0) (HB.kn lv_0 rfl) (HB.rc.1 2 (by decide)) (X.2.2.2.2 (.fieldLink RX6 27 "Strandbook" "textWriters" "[LStrandbook$SignWriter;") (List.mem_cons_of_mem _ (List.mem_append_left _ (List.mem_append_left _ (List.mem_of_getElem? (i := 0) rfl))))) dX6_meanSize_11 ?_
      refine lv_iload_n X.1 X.2.1 dX6_meanSize_14 rfl (lv_at hl 2 rfl) ?_
      refine cld_14 X hW (HB.mem (lv_1 (by decide))) (HB.kn (lv_1 (by decide)) rfl) (by rw [HB.rc.2.2.1.2.2.1]; omega) (by omega) (HB.rc.2.2.2.1 k4 (by omega)) dX6_meanSize_15 ?_
      refine cg_4_count X hin4 hW ((HB.wr (show k4 < 6 by omega)).1) ((HB.wr (show k4 < 6 by omega)).2.1) ((HB.wr (show k4 < 6 by omega)).2.2.2.2.2.2.1) (X.2.2.2.2 (.fieldLink RX6 107 "Strandbook$SignWriter" "count" "I") (List.mem_cons_of_mem _ (List.mem_append_left _ (List.mem_append_left _ (List.mem_of_getElem? (i := 1) rfl))))) dX6_meanSize_16 ?_
      refine lv_aload_n X.1 X.2.1 dX6_meanSize_19 rfl (lv_at hl 0 rfl) ?_
      refine cg_6_arrayWriters X hin6 hW (HB.mem lv_0) (HB.kn lv_0 rfl) (HB.rc.1 3 (by decide)) (X.2.2.2.2 (.fieldLink RX6 31 "Strandbook" "arrayWriters" "[LStrandbook$SignWriter;") (List.mem_cons_of_mem _ (List.mem_append_left _ (List.mem_append_left _ (List.mem_of_getElem? (i := 2) rfl))))) dX6_meanSize_20 ?_
      refine lv_iload_n X.1 X.2.1 dX6_meanSize_23 rfl (lv_at hl 2 rfl) ?_
      refine cld_14 X hW (HB.mem (lv_1 (by decide))) (HB.kn (lv_1 (by decide)) rfl) (by rw [HB.rc.2.2.1.2.2.2.1]; omega) (by omega) (HB.rc.2.2.2.2.1 k4 (by omega)) dX6_meanSize_24 ?_
      refine cg_4_count X hin4 hW ((HB.wr (show 3 + k4 < 6 by omega)).1) ((HB.wr (show 3 + k4 < 6 by omega)).2.1) ((HB.wr (show 3 + k4 < 6 by omega)).2.2.2.2.2.2.1) (X.2.2.2.2 (.fieldLink RX6 107 "Strandbook$SignWriter" "count" "I") (List.mem_cons_of_mem _ (List.mem_append_left _ (List.mem_append_left _ (List.mem_of_getElem? (i := 1) rfl))))) dX6_meanSize_25 ?_
      refine n_iadd X.1 X.2.1 dX6_meanSize_28 ?_
      refine n_iadd X.1 X.2.1 dX6_meanSize_29 ?_
      refine lv_istore_n (lv' := [(1, .int (nI ((smP T k4) + ((T 7 k4) + (T 7 (3 + k4)))))), (0, .ref (ad 0 0)), (2, .int (nI (k4)))]) X.1 X.2.1 dX6_meanSize_30 rfl hl (by decide) rfl (fun ls hl => ?_)
      refine lv_iinc (v := nI (k4 + 1)) (lv' := [(2, .int (nI (k4 + 1))), (1, .int (nI ((smP T k4) + ((T 7 k4) + (T 7 (3 + k4)))))), (0, .ref (ad 0 0))]) X.1 X.2.1 dX6_meanSize_31 hl (k := 2) rfl (nI_1 _) (by decide) rfl (fun ls hl => ?_)
      refine lv_goto (tgt := 4) X.1 X.2.1 dX6_meanSize_34 (by decide) ?_
      exact ih4 (k4 + 1) (by omega) _ _ (hW.eq (rfl) (rfl) (rfl) (rfl)) ls (lv_sub hl [2, 1, 0] rfl)
  exact loop4 ((3) - (0)) (0) (by omega) _ _ (hW.eq (rfl) (rfl) (rfl) (rfl)) ls (lv_sub hl [2, 1, 0] rfl)

theorem ct_countRest_l (l : Launch) {G : va_G} {kT : Nat → ClassId} {L : List Nat} {K : Nat → Nat} {R : pR} {I : pI} {A : mD} {Q : pR} {N : Nat → Nat} {T : mT} {ad : pD} {j pl : Nat} (hj : isJS L K R I N (ad 10 j) (ad 11 j) (T 13 j) (T 16 j) pl) (hp : isPt L K R Q N (ad 11 j) (T 13 j) (fun k => ad 5 (T 14 (3 * j + k) - 1)) (fun k => ad 6 (T 14 (3 * j + k) - 1)) (fun k => T 4 (T 14 (3 * j + k) - 1))) (S : stI T j) (hpl : T 16 j < T 13 j → pl = T 15 (3 * j + T 16 j)) : cMi l yX1_countRestOfPart wsX1_countRestOfPart ({ frames := 0, cells := 0, slots := 0, locals := 0 } : Room) G kT [.ref (ad 10 j)] L K R I A Q N (nI (lfN T j)) R I A Q := by
  have h9 := S.le
  by_cases h : T 16 j < T 13 j
  · have h15 := hpl h
    have hle := (S.2.2 (T 16 j) (by omega)).2.2 h
    rw [lfN_at h, ← h15]
    exact ct_countRest_s l hj hp h (by omega)
  · have h16 := S.2.1
    rw [lfN_end (by omega)]
    exact ct_countRest_e l hj hp h

set_option maxHeartbeats 4000000 in
set_option maxRecDepth 100000 in
theorem co_checksum (l : Launch) {G : va_G} {kT : Nat → ClassId} {L : List Nat} {K : Nat → Nat} {R : pR} {I : pI} {A : mD} {Q : pR} {N : Nat → Nat} {T : mT} {D : mD} {ad : pD} (HB : Rep T D ad L K R I A Q N) : cMl l yX6_checksum wsX6_checksum ({ frames := 1, cells := 0, slots := 0, locals := 26 } : Room) G kT [.ref (ad 0 0)] L K (R) (I) (A) (Q) N (ck4 T D 2) (R) (I) (A) (Q) := by
  refine cstl (cc := cX6_checksum) (maxL := 4) (ret := (some .long)) (by decide) rfl rfl (Nat.le_of_ble_eq_true rfl) (fun p e s m args below meth c Z hE X hW ls hl => ?_)
  have X : CallFix p m c cX6_checksum 4 s args wsX6_checksum RX6 := X
  have hl : lv_has ls 4 [(0, .ref (ad 0 0))] := hl
  have hin0 : ∀ w ∈ wsX00, w ∈ wsX6_checksum := fun w h => List.mem_cons_of_mem _ (List.mem_append_left _ (List.mem_append_left _ (List.mem_append_left _ (List.mem_append_right _ (h)))))
  have hin1 : ∀ w ∈ wsX10, w ∈ wsX6_checksum := fun w h => List.mem_cons_of_mem _ (List.mem_append_left _ (List.mem_append_right _ (h)))
  have hin3 : ∀ w ∈ wsX30, w ∈ wsX6_checksum := fun w h => List.mem_cons_of_mem _ (List.mem_append_left _ (List.mem_append_left _ (List.mem_append_left _ (List.mem_append_left _ (List.mem_append_right _ (h))))))
  have hin4 : ∀ w ∈ wsX40, w ∈ wsX6_checksum := fun w h => List.mem_cons_of_mem _ (List.mem_append_left _ (List.mem_append_left _ (List.mem_append_right _ (h))))
  have hin6 : ∀ w ∈ wsX60, w ∈ wsX6_checksum := fun w h => List.mem_cons_of_mem _ (List.mem_append_left _ (List.mem_append_left _ (List.mem_append_left _ (List.mem_append_left _ (List.mem_append_left _ (List.mem_append_right _ (h)))))))
  refine lv_ldc2 X.1 X.2.1 X.2.2.2.1 (X.2.2.2.2 (.constantLong RX6 236 (7)) (List.mem_cons_of_mem _ (List.mem_append_left _ (List.mem_append_left _ (List.mem_append_left _ (List.mem_append_left _ (List.mem_append_left _ (List.mem_append_left _ (List.mem_append_left _ (List.mem_of_getElem? (i := 0) rfl)))))))))) dX6_checksum_0 ?_
  refine lv_lstore_n (lv' := [(1, .long (7)), (0, .ref (ad 0 0))]) X.1 X.2.1 dX6_checksum_3 rfl hl (by decide) rfl (fun ls hl => ?_)
  refine lv_iconst (v := nI 0) X.1 X.2.1 dX6_checksum_4 (by decide) ?_
  refine lv_istore_n (lv' := [(3, .int (nI (0))), (1, .long (7)), (0, .ref (ad 0 0))]) X.1 X.2.1 dX6_checksum_5 rfl hl (by decide) rfl (fun ls hl => ?_)
  have loop6 : ∀ (n6 k6 : Nat), k6 + n6 = 4 → ∀ (H : Heap) (locs : List Loc), cH G kT L L K (R) (I) (A) (Q) N s H locs → ∀ ls : Array Slot, lv_has ls 4 [(0, .ref (ad 0 0)), (1, .long (ck1 T D k6)), (3, .int (nI (k6)))] → W p l e ({ frames := 1, cells := 0, slots := 0, locals := 26 } : Room) s m args below meth c H locs 0 0 Z (F0 m 6 ls []) := by
    intro n6
    induction n6 with
    | zero =>
      intro k6 hk6  H locs hW ls hl
      obtain rfl : 4 = k6 := by omega
      refine lv_iload_n X.1 X.2.1 dX6_checksum_6 rfl (lv_at hl 2 rfl) ?_
      refine lv_iconst (v := nI 4) X.1 X.2.1 dX6_checksum_7 (by decide) ?_
      refine n_icmp_ge_t (tgt := 41) X.1 X.2.1 dX6_checksum_8 (by decide) (by omega) (by omega) (by omega) ?_
      refine lv_iconst (v := nI 0) X.1 X.2.1 dX6_checksum_41 (by decide) ?_
      refine lv_istore_n (lv' := [(3, .int (nI (0))), (0, .ref (ad 0 0)), (1, .long (ck1 T D 4))]) X.1 X.2.1 dX6_checksum_42 rfl hl (by decide) rfl (fun ls hl => ?_)
      have loop43 : ∀ (n43 k43 : Nat), k43 + n43 = 4 → ∀ (H : Heap) (locs : List Loc), cH G kT L L K (R) (I) (A) (Q) N s H locs → ∀ ls : Array Slot, lv_has ls 4 [(0, .ref (ad 0 0)), (1, .long (ck2 T D k43)), (3, .int (nI (k43)))] → W p l e ({ frames := 1, cells := 0, slots := 0, locals := 26 } : Room) s m args below meth c H locs 0 0 Z (F0 m 43 ls []) := by
        intro n43
        induction n43 with
        | zero =>
          intro k43 hk43  H locs hW ls hl
          obtain rfl : 4 = k43 := by omega
          refine lv_iload_n X.1 X.2.1 dX6_checksum_43 rfl (lv_at hl 2 rfl) ?_
          refine lv_iconst (v := nI 4) X.1 X.2.1 dX6_checksum_44 (by decide) ?_
          refine n_icmp_ge_t (tgt := 68) X.1 X.2.1 dX6_checksum_45 (by decide) (by omega) (by omega) (by omega) ?_
          refine lv_iconst (v := nI 0) X.1 X.2.1 dX6_checksum_68 (by decide) ?_
          refine lv_istore_n (lv' := [(3, .int (nI (0))), (0, .ref (ad 0 0)), (1, .long (ck2 T D 4))]) X.1 X.2.1 dX6_checksum_69 rfl hl (by decide) rfl (fun ls hl => ?_)
          have loop70 : ∀ (n70 k70 : Nat), k70 + n70 = 3 → ∀ (H : Heap) (locs : List Loc), cH G kT L L K (R) (I) (A) (Q) N s H locs → ∀ ls : Array Slot, lv_has ls 4 [(0, .ref (ad 0 0)), (1, .long (ck3 T D k70)), (3, .int (nI (k70)))] → W p l e ({ frames := 1, cells := 0, slots := 0, locals := 26 } : Room) s m args below meth c H locs 0 0 Z (F0 m 70 ls []) := by
            intro n70
            induction n70 with
            | zero =>
              intro k70 hk70  H locs hW ls hl
              obtain rfl : 3 = k70 := by omega
              refine lv_iload_n X.1 X.2.1 dX6_checksum_70 rfl (lv_at hl 2 rfl) ?_
              refine lv_iconst (v := nI 3) X.1 X.2.1 dX6_checksum_71 (by decide) ?_
              refine n_icmp_ge_t (tgt := 104) X.1 X.2.1 dX6_checksum_72 (by decide) (by omega) (by omega) (by omega) ?_
              refine lv_iconst (v := nI 0) X.1 X.2.1 dX6_checksum_104 (by decide) ?_
              refine lv_istore_n (lv' := [(3, .int (nI (0))), (0, .ref (ad 0 0)), (1, .long (ck3 T D 3))]) X.1 X.2.1 dX6_checksum_105 rfl hl (by decide) rfl (fun ls hl => ?_)
              have loop106 : ∀ (n106 k106 : Nat), k106 + n106 = 3 → ∀ (H : Heap) (locs : List Loc), cH G kT L L K (R) (I) (A) (Q) N s H locs → ∀ ls : Array Slot, lv_has ls 4 [(0, .ref (ad 0 0)), (1, .long (ck3 T D (3 + k106))), (3, .int (nI (k106)))] → W p l e ({ frames := 1, cells := 0, slots := 0, locals := 26 } : Room) s m args below meth c H locs 0 0 Z (F0 m 106 ls []) := by
                intro n106
                induction n106 with
                | zero =>
                  intro k106 hk106  H locs hW ls hl
                  obtain rfl : 3 = k106 := by omega
                  refine lv_iload_n X.1 X.2.1 dX6_checksum_106 rfl (lv_at hl 2 rfl) ?_
                  refine lv_iconst (v := nI 3) X.1 X.2.1 dX6_checksum_107 (by decide) ?_
                  refine n_icmp_ge_t (tgt := 140) X.1 X.2.1 dX6_checksum_108 (by decide) (by omega) (by omega) (by omega) ?_
                  refine lv_iconst (v := nI 0) X.1 X.2.1 dX6_checksum_140 (by decide) ?_
                  refine lv_istore_n (lv' := [(3, .int (nI (0))), (0, .ref (ad 0 0)), (1, .long (ck3 T D (3 + 3)))]) X.1 X.2.1 dX6_checksum_141 rfl hl (by decide) rfl (fun ls hl => ?_)
                  have loop142 : ∀ (n142 k142 : Nat), k142 + n142 = 2 → ∀ (H : Heap) (locs : List Loc), cH G kT L L K (R) (I) (A) (Q) N s H locs → ∀ ls : Array Slot, lv_has ls 4 [(0, .ref (ad 0 0)), (1, .long (ck4 T D k142)), (3, .int (nI (k142)))] → W p l e ({ frames := 1, cells := 0, slots := 0, locals := 26 } : Room) s m args below meth c H locs 0 0 Z (F0 m 142 ls []) := by
                    intro n142
                    induction n142 with
                    | zero =>
                      intro k142 hk142  H locs hW ls hl
                      obtain rfl : 2 = k142 := by omega
                      refine lv_iload_n X.1 X.2.1 dX6_checksum_142 rfl (lv_at hl 2 rfl) ?_
                      refine lv_iconst (v := nI 2) X.1 X.2.1 dX6_checksum_143 (by decide) ?_
                      refine n_icmp_ge_t (tgt := 186) X.1 X.2.1 dX6_checksum_144 (by decide) (by omega) (by omega) (by omega) ?_
                      refine lv_lload_n X.1 X.2.1 dX6_checksum_186 rfl (lv_at hl 1 rfl) ?_
                      exact hE _ _ _ _ _ (rfl) hW dX6_checksum_187
                    | succ n142 ih142 =>
                      intro k142 hk142  H locs hW ls hl
                      have hj2 : k142 < 2 := by omega
                      obtain ⟨pl, hj, hpl⟩ := HB.js hj2
                      have hp := HB.pt hj2
                      have S9 := HB.mi.stI hj2
                      have S8 := S9.le
                      have S7 := lfN_le S9 HB.mi.b4
                      refine lv_iload_n X.1 X.2.1 dX6_checksum_142 rfl (lv_at hl 2 rfl) ?_
                      refine lv_iconst (v := nI 2) X.1 X.2.1 dX6_checksum_143 (by decide) ?_
                      refine n_icmp_ge_f (tgt := 186) X.1 X.2.1 dX6_checksum_144 (by decide) (by omega) (by omega) (by omega) ?_
                      refine lv_ldc2 X.1 X.2.1 X.2.2.2.1 (X.2.2.2.2 (.constantLong RX6 247 (31)) (List.mem_cons_of_mem _ (List.mem_append_left _ (List.mem_append_left _ (List.mem_append_left _ (List.mem_append_left _ (List.mem_append_left _ (List.mem_append_left _ (List.mem_append_left _ (List.mem_of_getElem? (i := 9) rfl)))))))))) dX6_checksum_147 ?_
                      refine lv_lload_n X.1 X.2.1 dX6_checksum_150 rfl (lv_at hl 1 rfl) ?_
                      refine lv_lmul X.1 X.2.1 dX6_checksum_151 ?_
                      refine lv_aload_n X.1 X.2.1 dX6_checksum_152 rfl (lv_at hl 0 rfl) ?_
                      refine cg_6_streams X hin6 hW (HB.mem lv_0) (HB.kn lv_0 rfl) (HB.rc.1 5 (by decide)) (X.2.2.2.2 (.fieldLink RX6 44 "Strandbook" "streams" "[LStrandbook$JoinedStream;") (List.mem_cons_of_mem _ (List.mem_append_left _ (List.mem_append_left _ (List.mem_append_left _ (List.mem_append_left _ (List.mem_append_left _ (List.mem_append_left _ (List.mem_append_left _ (List.mem_of_getElem? (i := 10) rfl)))))))))) dX6_checksum_153 ?_
                      refine lv_iload_n X.1 X.2.1 dX6_checksum_156 rfl (lv_at hl 2 rfl) ?_
                      refine cld_11 X hW (HB.mem (lv_1 (by decide))) (HB.kn (lv_1 (by decide)) rfl) (by rw [HB.rc.2.2.1.2.2.2.2.2]; omega) (by omega) (HB.rc.2.2.2.2.2.2.1 k142 (by omega)) dX6_checksum_157 ?_
                      rcases Decidable.em (T 13 k142 = 0) with hs | hs
                      · have hfa : ck4 T D (k142 + 1) = 31 * ck4 T D k142 + (-1 : Int32).toInt64 := by rw [ck4, lfI, if_pos hs]
                        refine cVi X hW (HB.mem (lv_10 (show k142 < 3 by omega))) (pC_1 (HB.kn (lv_10 (show k142 < 3 by omega)) rfl)) rfl (ct_isJoined_0 l hj.1 hj.2.1 (by have h9 := hj.2.2.2.2.2.2.1; rw [hs] at h9; exact h9)) (cwV 0 X.2.2.2.2 gX6_checksum_X1_isJoined rfl rfl rfl (by decide +kernel) ⟨Nat.le_of_ble_eq_true rfl, Nat.le_of_ble_eq_true rfl⟩) rfl rfl hl.1 (Nat.le_of_ble_eq_true rfl) dX6_checksum_158 ⟨Nat.zero_le _, Nat.zero_le _⟩ (fun H locs hW => ?_)
                        refine n_if_eq_t (tgt := 176) X.1 X.2.1 dX6_checksum_161 (by decide) (by decide) (by omega) ?_
                        refine lv_iconst (v := -1) X.1 X.2.1 dX6_checksum_176 (by decide) ?_
                        refine lv_i2l (v := (-1 : Int32).toInt64) X.1 X.2.1 dX6_checksum_177 rfl ?_
                        refine lv_ladd X.1 X.2.1 dX6_checksum_178 ?_
                        refine lv_lstore_n (lv' := [(1, .long (((31 * ck4 T D k142) + (-1 : Int32).toInt64))), (0, .ref (ad 0 0)), (3, .int (nI (k142)))]) X.1 X.2.1 dX6_checksum_179 rfl hl (by decide) rfl (fun ls hl => ?_)
                        refine lv_iinc (v := nI (k142 + 1)) (lv' := [(3, .int (nI (k142 + 1))), (1, .long (((31 * ck4 T D k142) + (-1 : Int32).toInt64))), (0, .ref (ad 0 0))]) X.1 X.2.1 dX6_checksum_180 hl (k := 2) rfl (nI_1 _) (by decide) rfl (fun ls hl => ?_)
                        refine lv_goto (tgt := 142) X.1 X.2.1 dX6_checksum_183 (by decide) ?_
                        exact ih142 (k142 + 1) (by omega) _ _ (hW.eq (rfl) (rfl) (rfl) (rfl)) ls (by have h9 := lv_sub hl [2, 1, 0] rfl; rw [hfa]; exact h9)
                      · have hfa : ck4 T D (k142 + 1) = 31 * ck4 T D k142 + lN (lfN T k142) := by rw [ck4, lfI, if_neg hs, nI_l (by omega)]
                        refine cVi X hW (HB.mem (lv_10 (show k142 < 3 by omega))) (pC_1 (HB.kn (lv_10 (show k142 < 3 by omega)) rfl)) rfl (ct_isJoined_1 l hj.1 hj.2.1 hj.2.2.2.2.2.2.1 (by omega) S8) (cwV 0 X.2.2.2.2 gX6_checksum_X1_isJoined rfl rfl rfl (by decide +kernel) ⟨Nat.le_of_ble_eq_true rfl, Nat.le_of_ble_eq_true rfl⟩) rfl rfl hl.1 (Nat.le_of_ble_eq_true rfl) dX6_checksum_158 ⟨Nat.zero_le _, Nat.zero_le _⟩ (fun H locs hW => ?_)
                        refine n_if_eq_f (tgt := 176) X.1 X.2.1 dX6_checksum_161 (by decide) (by decide) (by omega) ?_
                        refine lv_aload_n X.1 X.2.1 dX6_checksum_164 rfl (lv_at hl 0 rfl) ?_
                        refine cg_6_streams X hin6 hW (HB.mem lv_0) (HB.kn lv_0 rfl) (HB.rc.1 5 (by decide)) (X.2.2.2.2 (.fieldLink RX6 44 "Strandbook" "streams" "[LStrandbook$JoinedStream;") (List.mem_cons_of_mem _ (List.mem_append_left _ (List.mem_append_left _ (List.mem_append_left _ (List.mem_append_left _ (List.mem_append_left _ (List.mem_append_left _ (List.mem_append_left _ (List.mem_of_getElem? (i := 10) rfl)))))))))) dX6_checksum_165 ?_
                        refine lv_iload_n X.1 X.2.1 dX6_checksum_168 rfl (lv_at hl 2 rfl) ?_
                        refine cld_11 X hW (HB.mem (lv_1 (by decide))) (HB.kn (lv_1 (by decide)) rfl) (by rw [HB.rc.2.2.1.2.2.2.2.2]; omega) (by omega) (HB.rc.2.2.2.2.2.2.1 k142 (by omega)) dX6_checksum_169 ?_
                        refine cVi X hW (HB.mem (lv_10 (show k142 < 3 by omega))) (pC_1 (HB.kn (lv_10 (show k142 < 3 by omega)) rfl)) rfl (ct_countRest_l l hj hp S9 hpl) (cwV 0 X.2.2.2.2 gX6_checksum_X1_countRestOfPart rfl rfl rfl (by decide +kernel) ⟨Nat.le_of_ble_eq_true rfl, Nat.le_of_ble_eq_true rfl⟩) rfl rfl hl.1 (Nat.le_of_ble_eq_true rfl) dX6_checksum_170 ⟨Nat.zero_le _, Nat.zero_le _⟩ (fun H locs hW => ?_)
                        refine lv_goto (tgt := 177) X.1 X.2.1 dX6_checksum_173 (by decide) ?_
                        refine lv_i2l (v := lN (lfN T k142)) X.1 X.2.1 dX6_checksum_177 (nI_l (by omega)) ?_
                        refine lv_ladd X.1 X.2.1 dX6_checksum_178 ?_
                        refine lv_lstore_n (lv' := [(1, .long (((31 * ck4 T D k142) + lN (lfN T k142)))), (0, .ref (ad 0 0)), (3, .int (nI (k142)))]) X.1 X.2.1 dX6_checksum_179 rfl hl (by decide) rfl (fun ls hl => ?_)
                        refine lv_iinc (v := nI (k142 + 1)) (lv' := [(3, .int (nI (k142 + 1))), (1, .long (((31 * ck4 T D k142) + lN (lfN T k142)))), (0, .ref (ad 0 0))]) X.1 X.2.1 dX6_checksum_180 hl (k := 2) rfl (nI_1 _) (by decide) rfl (fun ls hl => ?_)
                        refine lv_goto (tgt := 142) X.1 X.2.1 dX6_checksum_183 (by decide) ?_
                        exact ih142 (k142 + 1) (by omega) _ _ (hW.eq (rfl) (rfl) (rfl) (rfl)) ls (by have h9 := lv_sub hl [2, 1, 0] rfl; rw [hfa]; exact h9)
                  exact loop142 ((2) - (0)) (0) (by omega) _ _ (hW.eq (rfl) (rfl) (rfl) (rfl)) ls (lv_sub hl [1, 2, 0] rfl)
                | succ n106 ih106 =>
                  intro k106 hk106  H locs hW ls hl
                  have hw9 := HB.wr (show 3 + k106 < 6 by omega)
                  have hfa : ck3 T D (3 + (k106 + 1)) = ckR (ck3 T D (3 + k106)) (A (ad 8 (3 + k106))) (T 7 (3 + k106)) := ckR_congr _ rfl (fun i hi => (HB.wA (show 3 + k106 < 6 by omega) hi).symm)
                  refine lv_iload_n X.1 X.2.1 dX6_checksum_106 rfl (lv_at hl 2 rfl) ?_
                  refine lv_iconst (v := nI 3) X.1 X.2.1 dX6_checksum_107 (by decide) ?_
                  refine n_icmp_ge_f (tgt := 140) X.1 X.2.1 dX6_checksum_108 (by decide) (by omega) (by omega) (by omega) ?_
                  refine lv_lload_n X.1 X.2.1 dX6_checksum_111 rfl (lv_at hl 1 rfl) ?_
                  refine lv_aload_n X.1 X.2.1 dX6_checksum_112 rfl (lv_at hl 0 rfl) ?_
                  refine cg_6_arrayWriters X hin6 hW (HB.mem lv_0) (HB.kn lv_0 rfl) (HB.rc.1 3 (by decide)) (X.2.2.2.2 (.fieldLink RX6 31 "Strandbook" "arrayWriters" "[LStrandbook$SignWriter;") (List.mem_cons_of_mem _ (List.mem_append_left _ (List.mem_append_left _ (List.mem_append_left _ (List.mem_append_left _ (List.mem_append_left _ (List.mem_append_left _ (List.mem_append_left _ (List.mem_of_getElem? (i := 8) rfl)))))))))) dX6_checksum_113 ?_
                  refine lv_iload_n X.1 X.2.1 dX6_checksum_116 rfl (lv_at hl 2 rfl) ?_
                  refine cld_14 X hW (HB.mem (lv_1 (by decide))) (HB.kn (lv_1 (by decide)) rfl) (by rw [HB.rc.2.2.1.2.2.2.1]; omega) (by omega) (HB.rc.2.2.2.2.1 k106 (by omega)) dX6_checksum_117 ?_
                  refine cg_4_signs X hin4 hW ((HB.wr (show 3 + k106 < 6 by omega)).1) ((HB.wr (show 3 + k106 < 6 by omega)).2.1) ((HB.wr (show 3 + k106 < 6 by omega)).2.2.1) (X.2.2.2.2 (.fieldLink RX6 246 "Strandbook$SignWriter" "signs" "[C") (List.mem_cons_of_mem _ (List.mem_append_left _ (List.mem_append_left _ (List.mem_append_left _ (List.mem_append_left _ (List.mem_append_left _ (List.mem_append_left _ (List.mem_append_left _ (List.mem_of_getElem? (i := 6) rfl)))))))))) dX6_checksum_118 ?_
                  refine lv_aload_n X.1 X.2.1 dX6_checksum_121 rfl (lv_at hl 0 rfl) ?_
                  refine cg_6_arrayWriters X hin6 hW (HB.mem lv_0) (HB.kn lv_0 rfl) (HB.rc.1 3 (by decide)) (X.2.2.2.2 (.fieldLink RX6 31 "Strandbook" "arrayWriters" "[LStrandbook$SignWriter;") (List.mem_cons_of_mem _ (List.mem_append_left _ (List.mem_append_left _ (List.mem_append_left _ (List.mem_append_left _ (List.mem_append_left _ (List.mem_append_left _ (List.mem_append_left _ (List.mem_of_getElem? (i := 8) rfl)))))))))) dX6_checksum_122 ?_
                  refine lv_iload_n X.1 X.2.1 dX6_checksum_125 rfl (lv_at hl 2 rfl) ?_
                  refine cld_14 X hW (HB.mem (lv_1 (by decide))) (HB.kn (lv_1 (by decide)) rfl) (by rw [HB.rc.2.2.1.2.2.2.1]; omega) (by omega) (HB.rc.2.2.2.2.1 k106 (by omega)) dX6_checksum_126 ?_
                  refine cg_4_count X hin4 hW ((HB.wr (show 3 + k106 < 6 by omega)).1) ((HB.wr (show 3 + k106 < 6 by omega)).2.1) ((HB.wr (show 3 + k106 < 6 by omega)).2.2.2.2.2.2.1) (X.2.2.2.2 (.fieldLink RX6 107 "Strandbook$SignWriter" "count" "I") (List.mem_cons_of_mem _ (List.mem_append_left _ (List.mem_append_left _ (List.mem_append_left _ (List.mem_append_left _ (List.mem_append_left _ (List.mem_append_left _ (List.mem_append_left _ (List.mem_of_getElem? (i := 7) rfl)))))))))) dX6_checksum_127 ?_
                  refine cSl X hW (cg_addCodes l (k := 256) ⟨hw9.2.2.2.1, hw9.2.2.2.2.1, hw9.2.2.2.2.2.1, Nat.le_refl _⟩ hw9.2.2.2.2.2.2.2) (va_cwS 3 X.2.2.2.2 gX6_checksum_X6_addCodes rfl rfl rfl (by decide +kernel) ⟨Nat.le_of_ble_eq_true rfl, Nat.le_of_ble_eq_true rfl⟩) rfl rfl hl.1 (Nat.le_of_ble_eq_true rfl) dX6_checksum_130 ⟨Nat.zero_le _, Nat.zero_le _⟩ (fun H locs hW => ?_)
                  refine lv_lstore_n (lv' := [(1, .long (ckR (ck3 T D (3 + k106)) (A (ad 8 (3 + k106))) (T 7 (3 + k106)))), (0, .ref (ad 0 0)), (3, .int (nI (k106)))]) X.1 X.2.1 dX6_checksum_133 rfl hl (by decide) rfl (fun ls hl => ?_)
                  refine lv_iinc (v := nI (k106 + 1)) (lv' := [(3, .int (nI (k106 + 1))), (1, .long (ckR (ck3 T D (3 + k106)) (A (ad 8 (3 + k106))) (T 7 (3 + k106)))), (0, .ref (ad 0 0))]) X.1 X.2.1 dX6_checksum_134 hl (k := 2) rfl (nI_1 _) (by decide) rfl (fun ls hl => ?_)
                  refine lv_goto (tgt := 106) X.1 X.2.1 dX6_checksum_137 (by decide) ?_
                  exact ih106 (k106 + 1) (by omega) _ _ (hW.eq (rfl) (rfl) (rfl) (rfl)) ls (by have h9 := lv_sub hl [2, 1, 0] rfl; rw [hfa]; exact h9)
              exact loop106 ((3) - (0)) (0) (by omega) _ _ (hW.eq (rfl) (rfl) (rfl) (rfl)) ls (lv_sub hl [1, 2, 0] rfl)
            | succ n70 ih70 =>
              intro k70 hk70  H locs hW ls hl
              have hw9 := HB.wr (show k70 < 6 by omega)
              have hfa : ck3 T D (k70 + 1) = ckR (ck3 T D k70) (A (ad 8 k70)) (T 7 k70) := ckR_congr _ rfl (fun i hi => (HB.wA (by omega) hi).symm)
              refine lv_iload_n X.1 X.2.1 dX6_checksum_70 rfl (lv_at hl 2 rfl) ?_
              refine lv_iconst (v := nI 3) X.1 X.2.1 dX6_checksum_71 (by decide) ?_
              refine n_icmp_ge_f (tgt := 104) X.1 X.2.1 dX6_checksum_72 (by decide) (by omega) (by omega) (by omega) ?_
              refine lv_lload_n X.1 X.2.1 dX6_checksum_75 rfl (lv_at hl 1 rfl) ?_
              refine lv_aload_n X.1 X.2.1 dX6_checksum_76 rfl (lv_at hl 0 rfl) ?_
              refine cg_6_textWriters X hin6 hW (HB.mem lv_0) (HB.kn lv_0 rfl) (HB.rc.1 2 (by decide)) (X.2.2.2.2 (.fieldLink RX6 27 "Strandbook" "textWriters" "[LStrandbook$SignWriter;") (List.mem_cons_of_mem _ (List.mem_append_left _ (List.mem_append_left _ (List.mem_append_left _ (List.mem_append_left _ (List.mem_append_left _ (List.mem_append_left _ (List.mem_append_left _ (List.mem_of_getElem? (i := 5) rfl)))))))))) dX6_checksum_77 ?_
              refine lv_iload_n X.1 X.2.1 dX6_checksum_80 rfl (lv_at hl 2 rfl) ?_
              refine cld_14 X hW (HB.mem (lv_1 (by decide))) (HB.kn (lv_1 (by decide)) rfl) (by rw [HB.rc.2.2.1.2.2.1]; omega) (by omega) (HB.rc.2.2.2.1 k70 (by omega)) dX6_checksum_81 ?_
              refine cg_4_signs X hin4 hW ((HB.wr (show k70 < 6 by omega)).1) ((HB.wr (show k70 < 6 by omega)).2.1) ((HB.wr (show k70 < 6 by omega)).2.2.1) (X.2.2.2.2 (.fieldLink RX6 246 "Strandbook$SignWriter" "signs" "[C") (List.mem_cons_of_mem _ (List.mem_append_left _ (List.mem_append_left _ (List.mem_append_left _ (List.mem_append_left _ (List.mem_append_left _ (List.mem_append_left _ (List.mem_append_left _ (List.mem_of_getElem? (i := 6) rfl)))))))))) dX6_checksum_82 ?_
              refine lv_aload_n X.1 X.2.1 dX6_checksum_85 rfl (lv_at hl 0 rfl) ?_
              refine cg_6_textWriters X hin6 hW (HB.mem lv_0) (HB.kn lv_0 rfl) (HB.rc.1 2 (by decide)) (X.2.2.2.2 (.fieldLink RX6 27 "Strandbook" "textWriters" "[LStrandbook$SignWriter;") (List.mem_cons_of_mem _ (List.mem_append_left _ (List.mem_append_left _ (List.mem_append_left _ (List.mem_append_left _ (List.mem_append_left _ (List.mem_append_left _ (List.mem_append_left _ (List.mem_of_getElem? (i := 5) rfl)))))))))) dX6_checksum_86 ?_
              refine lv_iload_n X.1 X.2.1 dX6_checksum_89 rfl (lv_at hl 2 rfl) ?_
              refine cld_14 X hW (HB.mem (lv_1 (by decide))) (HB.kn (lv_1 (by decide)) rfl) (by rw [HB.rc.2.2.1.2.2.1]; omega) (by omega) (HB.rc.2.2.2.1 k70 (by omega)) dX6_checksum_90 ?_
              refine cg_4_count X hin4 hW ((HB.wr (show k70 < 6 by omega)).1) ((HB.wr (show k70 < 6 by omega)).2.1) ((HB.wr (show k70 < 6 by omega)).2.2.2.2.2.2.1) (X.2.2.2.2 (.fieldLink RX6 107 "Strandbook$SignWriter" "count" "I") (List.mem_cons_of_mem _ (List.mem_append_left _ (List.mem_append_left _ (List.mem_append_left _ (List.mem_append_left _ (List.mem_append_left _ (List.mem_append_left _ (List.mem_append_left _ (List.mem_of_getElem? (i := 7) rfl)))))))))) dX6_checksum_91 ?_
              refine cSl X hW (cg_addCodes l (k := 256) ⟨hw9.2.2.2.1, hw9.2.2.2.2.1, hw9.2.2.2.2.2.1, Nat.le_refl _⟩ hw9.2.2.2.2.2.2.2) (va_cwS 3 X.2.2.2.2 gX6_checksum_X6_addCodes rfl rfl rfl (by decide +kernel) ⟨Nat.le_of_ble_eq_true rfl, Nat.le_of_ble_eq_true rfl⟩) rfl rfl hl.1 (Nat.le_of_ble_eq_true rfl) dX6_checksum_94 ⟨Nat.zero_le _, Nat.zero_le _⟩ (fun H locs hW => ?_)
              refine lv_lstore_n (lv' := [(1, .long (ckR (ck3 T D k70) (A (ad 8 k70)) (T 7 k70))), (0, .ref (ad 0 0)), (3, .int (nI (k70)))]) X.1 X.2.1 dX6_checksum_97 rfl hl (by decide) rfl (fun ls hl => ?_)
              refine lv_iinc (v := nI (k70 + 1)) (lv' := [(3, .int (nI (k70 + 1))), (1, .long (ckR (ck3 T D k70) (A (ad 8 k70)) (T 7 k70))), (0, .ref (ad 0 0))]) X.1 X.2.1 dX6_checksum_98 hl (k := 2) rfl (nI_1 _) (by decide) rfl (fun ls hl => ?_)
              refine lv_goto (tgt := 70) X.1 X.2.1 dX6_checksum_101 (by decide) ?_
              exact ih70 (k70 + 1) (by omega) _ _ (hW.eq (rfl) (rfl) (rfl) (rfl)) ls (by have h9 := lv_sub hl [2, 1, 0] rfl; rw [hfa]; exact h9)
          exact loop70 ((3) - (0)) (0) (by omega) _ _ (hW.eq (rfl) (rfl) (rfl) (rfl)) ls (lv_sub hl [1, 2, 0] rfl)
        | succ n43 ih43 =>
          intro k43 hk43  H locs hW ls hl
          have hu := uB_row (T := T) (show k43 < 4 by omega)
          have hfa : ck2 T D (k43 + 1) = ckR (ck2 T D k43) (A (ad 6 (T 5 k43))) (T 4 (T 5 k43)) := ckR_congr _ rfl (fun i hi => (HB.bA hu hi).symm)
          refine lv_iload_n X.1 X.2.1 dX6_checksum_43 rfl (lv_at hl 2 rfl) ?_
          refine lv_iconst (v := nI 4) X.1 X.2.1 dX6_checksum_44 (by decide) ?_
          refine n_icmp_ge_f (tgt := 68) X.1 X.2.1 dX6_checksum_45 (by decide) (by omega) (by omega) (by omega) ?_
          refine lv_lload_n X.1 X.2.1 dX6_checksum_48 rfl (lv_at hl 1 rfl) ?_
          refine lv_aload_n X.1 X.2.1 dX6_checksum_49 rfl (lv_at hl 0 rfl) ?_
          refine cg_6_byteRows X hin6 hW (HB.mem lv_0) (HB.kn lv_0 rfl) (HB.rc.1 1 (by decide)) (X.2.2.2.2 (.fieldLink RX6 20 "Strandbook" "byteRows" "[LStrandbook$ByteRow;") (List.mem_cons_of_mem _ (List.mem_append_left _ (List.mem_append_left _ (List.mem_append_left _ (List.mem_append_left _ (List.mem_append_left _ (List.mem_append_left _ (List.mem_append_left _ (List.mem_of_getElem? (i := 3) rfl)))))))))) dX6_checksum_50 ?_
          refine lv_iload_n X.1 X.2.1 dX6_checksum_53 rfl (lv_at hl 2 rfl) ?_
          refine cld_10 X hW (HB.mem (lv_1 (by decide))) (HB.kn (lv_1 (by decide)) rfl) (by rw [HB.rc.2.2.1.2.1]; omega) (by omega) (HB.rq.2 k43 (by omega)) dX6_checksum_54 ?_
          refine cg_0_bytes X hin0 hW ((HB.br (uB_row (show k43 < 4 by omega))).1) ((HB.br (uB_row (show k43 < 4 by omega))).2.1) ((HB.br (uB_row (show k43 < 4 by omega))).2.2.1) (X.2.2.2.2 (.fieldLink RX6 87 "Strandbook$ByteRow" "bytes" "[B") (List.mem_cons_of_mem _ (List.mem_append_left _ (List.mem_append_left _ (List.mem_append_left _ (List.mem_append_left _ (List.mem_append_left _ (List.mem_append_left _ (List.mem_append_left _ (List.mem_of_getElem? (i := 4) rfl)))))))))) dX6_checksum_55 ?_
          refine cSl X hW (cg_addBytes l (HB.ba hu)) (va_cwS 2 X.2.2.2.2 gX6_checksum_X6_addBytes rfl rfl rfl (by decide +kernel) ⟨Nat.le_of_ble_eq_true rfl, Nat.le_of_ble_eq_true rfl⟩) rfl rfl hl.1 (Nat.le_of_ble_eq_true rfl) dX6_checksum_58 ⟨Nat.zero_le _, Nat.zero_le _⟩ (fun H locs hW => ?_)
          refine lv_lstore_n (lv' := [(1, .long (ckR (ck2 T D k43) (A (ad 6 (T 5 k43))) (T 4 (T 5 k43)))), (0, .ref (ad 0 0)), (3, .int (nI (k43)))]) X.1 X.2.1 dX6_checksum_61 rfl hl (by decide) rfl (fun ls hl => ?_)
          refine lv_iinc (v := nI (k43 + 1)) (lv' := [(3, .int (nI (k43 + 1))), (1, .long (ckR (ck2 T D k43) (A (ad 6 (T 5 k43))) (T 4 (T 5 k43)))), (0, .ref (ad 0 0))]) X.1 X.2.1 dX6_checksum_62 hl (k := 2) rfl (nI_1 _) (by decide) rfl (fun ls hl => ?_)
          refine lv_goto (tgt := 43) X.1 X.2.1 dX6_checksum_65 (by decide) ?_
          exact ih43 (k43 + 1) (by omega) _ _ (hW.eq (rfl) (rfl) (rfl) (rfl)) ls (by have h9 := lv_sub hl [2, 1, 0] rfl; rw [hfa]; exact h9)
      exact loop43 ((4) - (0)) (0) (by omega) _ _ (hW.eq (rfl) (rfl) (rfl) (rfl)) ls (lv_sub hl [1, 2, 0] rfl)
    | succ n6 ih6 =>
      intro k6 hk6  H locs hW ls hl
      have hu := uS_row (T := T) (show k6 < 4 by omega)
      have hfa : ck1 T D (k6 + 1) = ckR (ck1 T D k6) (A (ad 4 (T 2 k6))) (T 1 (T 2 k6)) := ckR_congr _ rfl (fun i hi => (HB.sA hu hi).symm)
      refine lv_iload_n X.1 X.2.1 dX6_checksum_6 rfl (lv_at hl 2 rfl) ?_
      refine lv_iconst (v := nI 4) X.1 X.2.1 dX6_checksum_7 (by decide) ?_
      refine n_icmp_ge_f (tgt := 41) X.1 X.2.1 dX6_checksum_8 (by decide) (by omega) (by omega) (by omega) ?_
      refine lv_lload_n X.1 X.2.1 dX6_checksum_11 rfl (lv_at hl 1 rfl) ?_
      refine lv_aload_n X.1 X.2.1 dX6_checksum_12 rfl (lv_at hl 0 rfl) ?_
      refine cg_6_signRows X hin6 hW (HB.mem lv_0) (HB.kn lv_0 rfl) (HB.rc.1 0 (by decide)) (X.2.2.2.2 (.fieldLink RX6 11 "Strandbook" "signRows" "[LStrandbook$SignRow;") (List.mem_cons_of_mem _ (List.mem_append_left _ (List.mem_append_left _ (List.mem_append_left _ (List.mem_append_left _ (List.mem_append_left _ (List.mem_append_left _ (List.mem_append_left _ (List.mem_of_getElem? (i := 1) rfl)))))))))) dX6_checksum_13 ?_
      refine lv_iload_n X.1 X.2.1 dX6_checksum_16 rfl (lv_at hl 2 rfl) ?_
      refine cld_13 X hW (HB.mem (lv_1 (by decide))) (HB.kn (lv_1 (by decide)) rfl) (by rw [HB.rc.2.2.1.1]; omega) (by omega) (HB.rq.1 k6 (by omega)) dX6_checksum_17 ?_
      refine cg_3_signs X hin3 hW ((HB.sr (uS_row (show k6 < 4 by omega))).1) ((HB.sr (uS_row (show k6 < 4 by omega))).2.1) ((HB.sr (uS_row (show k6 < 4 by omega))).2.2.1) (X.2.2.2.2 (.fieldLink RX6 60 "Strandbook$SignRow" "signs" "[C") (List.mem_cons_of_mem _ (List.mem_append_left _ (List.mem_append_left _ (List.mem_append_left _ (List.mem_append_left _ (List.mem_append_left _ (List.mem_append_left _ (List.mem_append_left _ (List.mem_of_getElem? (i := 2) rfl)))))))))) dX6_checksum_18 ?_
      refine lv_aload_n X.1 X.2.1 dX6_checksum_21 rfl (lv_at hl 0 rfl) ?_
      refine cg_6_signRows X hin6 hW (HB.mem lv_0) (HB.kn lv_0 rfl) (HB.rc.1 0 (by decide)) (X.2.2.2.2 (.fieldLink RX6 11 "Strandbook" "signRows" "[LStrandbook$SignRow;") (List.mem_cons_of_mem _ (List.mem_append_left _ (List.mem_append_left _ (List.mem_append_left _ (List.mem_append_left _ (List.mem_append_left _ (List.mem_append_left _ (List.mem_append_left _ (List.mem_of_getElem? (i := 1) rfl)))))))))) dX6_checksum_22 ?_
      refine lv_iload_n X.1 X.2.1 dX6_checksum_25 rfl (lv_at hl 2 rfl) ?_
      refine cld_13 X hW (HB.mem (lv_1 (by decide))) (HB.kn (lv_1 (by decide)) rfl) (by rw [HB.rc.2.2.1.1]; omega) (by omega) (HB.rq.1 k6 (by omega)) dX6_checksum_26 ?_
      refine cg_3_signs X hin3 hW ((HB.sr (uS_row (show k6 < 4 by omega))).1) ((HB.sr (uS_row (show k6 < 4 by omega))).2.1) ((HB.sr (uS_row (show k6 < 4 by omega))).2.2.1) (X.2.2.2.2 (.fieldLink RX6 60 "Strandbook$SignRow" "signs" "[C") (List.mem_cons_of_mem _ (List.mem_append_left _ (List.mem_append_left _ (List.mem_append_left _ (List.mem_append_left _ (List.mem_append_left _ (List.mem_append_left _ (List.mem_append_left _ (List.mem_of_getElem? (i := 2) rfl)))))))))) dX6_checksum_27 ?_
      refine cln_8 X hW ((HB.sr (uS_row (show k6 < 4 by omega))).2.2.2.1) ((HB.sr (uS_row (show k6 < 4 by omega))).2.2.2.2.1) ((HB.sr (uS_row (show k6 < 4 by omega))).2.2.2.2.2.1) dX6_checksum_30 ?_
      refine cSl X hW (cg_addCodes l (HB.ca hu) (Nat.le_refl _)) (va_cwS 3 X.2.2.2.2 gX6_checksum_X6_addCodes rfl rfl rfl (by decide +kernel) ⟨Nat.le_of_ble_eq_true rfl, Nat.le_of_ble_eq_true rfl⟩) rfl rfl hl.1 (Nat.le_of_ble_eq_true rfl) dX6_checksum_31 ⟨Nat.zero_le _, Nat.zero_le _⟩ (fun H locs hW => ?_)
      refine lv_lstore_n (lv' := [(1, .long (ckR (ck1 T D k6) (A (ad 4 (T 2 k6))) (T 1 (T 2 k6)))), (0, .ref (ad 0 0)), (3, .int (nI (k6)))]) X.1 X.2.1 dX6_checksum_34 rfl hl (by decide) rfl (fun ls hl => ?_)
      refine lv_iinc (v := nI (k6 + 1)) (lv' := [(3, .int (nI (k6 + 1))), (1, .long (ckR (ck1 T D k6) (A (ad 4 (T 2 k6))) (T 1 (T 2 k6)))), (0, .ref (ad 0 0))]) X.1 X.2.1 dX6_checksum_35 hl (k := 2) rfl (nI_1 _) (by decide) rfl (fun ls hl => ?_)
      refine lv_goto (tgt := 6) X.1 X.2.1 dX6_checksum_38 (by decide) ?_
      exact ih6 (k6 + 1) (by omega) _ _ (hW.eq (rfl) (rfl) (rfl) (rfl)) ls (by have h9 := lv_sub hl [2, 1, 0] rfl; rw [hfa]; exact h9)
  exact loop6 ((4) - (0)) (0) (by omega) _ _ (hW.eq (rfl) (rfl) (rfl) (rfl)) ls (lv_sub hl [2, 1, 0] rfl)
