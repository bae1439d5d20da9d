/-! the class's calls that make nothing, where they are not refused -/
theorem cd_0 (x y : Int32) : x + nI 0 * y = x := by
  rw [show nI 0 = 0 from rfl, Int32.zero_mul, Int32.add_zero]
theorem cd_S (x y : Int32) (k : Nat) : x + nI (k + 1) * y = x + nI k * y + y := by
  rw [nI_succ, Int32.add_mul, Int32.one_mul, ← Int32.add_assoc]
def opI (I : pI) (th f e : Nat) : pI := u2 (u2 (u2 (u2 (u2 I 5 th (nI f)) 6 th (nI e)) 7 th (nI f)) 8 th (nI 1)) 9 th (nI 0)
theorem opI_5 {I : pI} {th f e : Nat} : opI I th f e 5 th = nI f := by rw [opI, u2_ne (by decide), u2_ne (by decide), u2_ne (by decide), u2_ne (by decide), u2_eq]
theorem opI_6 {I : pI} {th f e : Nat} : opI I th f e 6 th = nI e := by rw [opI, u2_ne (by decide), u2_ne (by decide), u2_ne (by decide), u2_eq]
theorem lkF_congr {f g f2 g2 : Nat → Int32} : ∀ n, (∀ i, i < n → f i = f2 i) → (∀ i, i < n → g i = g2 i) → lkF f g n = lkF f2 g2 n
  | 0, _, _ => rfl
  | n + 1, h1, h2 => by
    simp only [lkF]
    rw [h1 n (by omega), h2 n (by omega), lkF_congr n (fun i hi => h1 i (by omega)) (fun i hi => h2 i (by omega))]
theorem ckL_congr {b b2 : Int64} {f f2 : Nat → Int32} (hb : b = b2) : ∀ n, (∀ i, i < n → f i = f2 i) → ckL b f n = ckL b2 f2 n
  | 0, _ => hb
  | n + 1, h => by
    simp only [ckL]
    rw [h n (by omega), ckL_congr hb n (fun i hi => h i (by omega))]
theorem ckR_congr {b b2 : Int64} {f f2 : Nat → Int32} (n : Nat) (hb : b = b2) (h : ∀ i, i < n → f i = f2 i) : ckR b f n = ckR b2 f2 n := ckL_congr (by rw [hb]) n h
set_option maxHeartbeats 4000000 in
set_option maxRecDepth 100000 in
theorem co_put (l : Launch) {G : va_G} {kT : Nat → ClassId} {L : List Nat} {K : Nat → Nat} {R : pR} {I : pI} {A : mD} {Q : pR} {N : Nat → Nat} {T : mT} {D : mD} {ad : pD} (HB : Rep T D ad L K R I A Q N) {r f : Nat} {x : Int32} (hr : r < 4) (hf : f < T 1 (T 2 r)) : cMi l yX6_put wsX6_put ({ frames := 7, cells := 0, slots := 0, locals := 121 } : Room) G kT [.ref (ad 0 0), .int (nI (r)), .int (nI (f)), .int (x)] L K (R) (I) (A) (Q) N (D 0 (256 * T 2 r + f)) (R) (I) (u2 A (ad 4 (T 2 r)) f (x &&& nI 255)) (Q) := by
  refine csti (cc := cX6_put) (maxL := 6) (ret := (some .char)) (by decide) rfl ⟨_, rfl⟩ (Nat.le_of_ble_eq_true rfl) (fun p e s m args below meth c Z hE X hW ls hl => ?_)
  have X : CallFix p m c cX6_put 6 s args wsX6_put RX6 := X
  have hl : lv_has ls 6 [(0, .ref (ad 0 0)), (1, .int (nI (r))), (2, .int (nI (f))), (3, .int (x))] := hl
  have hin3 : ∀ w ∈ wsX30, w ∈ wsX6_put := fun w h => List.mem_cons_of_mem _ (List.mem_append_left _ (List.mem_append_left _ (List.mem_append_left _ (List.mem_append_right _ (h)))))
  have hin6 : ∀ w ∈ wsX60, w ∈ wsX6_put := fun w h => List.mem_cons_of_mem _ (List.mem_append_left _ (List.mem_append_left _ (List.mem_append_right _ (h))))
  have hu := uS_row (T := T) hr
  have hsr := HB.sr hu
  have hl9 := hsr.2.2.2.2.2.2
  refine lv_aload_n X.1 X.2.1 dX6_put_0 rfl (lv_at hl 0 rfl) ?_
  refine lv_iload_n X.1 X.2.1 dX6_put_1 rfl (lv_at hl 1 rfl) ?_
  refine cVr X hW (HB.mem lv_0) (pC_6 (HB.kn lv_0 rfl)) rfl (cg_signRowAt l HB (r := r) (by omega)) (cwV 1 X.2.2.2.2 gX6_put_X6_signRowAt rfl rfl rfl (by decide +kernel) ⟨Nat.le_of_ble_eq_true rfl, Nat.le_of_ble_eq_true rfl⟩) rfl rfl hl.1 (Nat.le_of_ble_eq_true rfl) dX6_put_2 ⟨Nat.zero_le _, Nat.zero_le _⟩ (fun H locs hW => ?_)
  refine cg_3_signs X hin3 hW (hsr.1) (hsr.2.1) (hsr.2.2.1) (X.2.2.2.2 (.fieldLink RX6 60 "Strandbook$SignRow" "signs" "[C") (List.mem_cons_of_mem _ (List.mem_append_left _ (List.mem_append_left _ (List.mem_append_left _ (List.mem_append_left _ (List.mem_of_getElem? (i := 0) rfl))))))) dX6_put_5 ?_
  refine lv_astore (lv' := [(4, .ref (ad 4 (T 2 r))), (0, .ref (ad 0 0)), (1, .int (nI (r))), (2, .int (nI (f))), (3, .int (x))]) X.1 X.2.1 dX6_put_8 hl (by decide) rfl (fun ls hl => ?_)
  refine lv_iload_n X.1 X.2.1 dX6_put_10 rfl (lv_at hl 3 rfl) ?_
  refine lv_aload X.1 X.2.1 dX6_put_11 (lv_at hl 0 rfl) ?_
  refine cln_8 X hW (hsr.2.2.2.1) (hsr.2.2.2.2.1) (hsr.2.2.2.2.2.1) dX6_put_13 ?_
  refine cSv X hW (cg_requirePlace l (i := f) (n := T 1 (T 2 r)) (by omega) (by omega)) (va_cwS 2 X.2.2.2.2 gX6_put_X6_requirePlace rfl rfl rfl (by decide +kernel) ⟨Nat.le_of_ble_eq_true rfl, Nat.le_of_ble_eq_true rfl⟩) rfl rfl hl.1 (Nat.le_of_ble_eq_true rfl) dX6_put_14 ⟨Nat.zero_le _, Nat.zero_le _⟩ (fun H locs hW => ?_)
  refine lv_aload X.1 X.2.1 dX6_put_17 (lv_at hl 0 rfl) ?_
  refine lv_iload_n X.1 X.2.1 dX6_put_19 rfl (lv_at hl 3 rfl) ?_
  refine cld_8 X hW (v := D 0 (256 * T 2 r + f)) (hsr.2.2.2.1) (hsr.2.2.2.2.1) (by rw [hsr.2.2.2.2.2.1]; omega) (by omega) (HB.sA hu hf) dX6_put_20 ?_
  refine lv_istore (lv' := [(5, .int (D 0 (256 * T 2 r + f))), (4, .ref (ad 4 (T 2 r))), (0, .ref (ad 0 0)), (1, .int (nI (r))), (2, .int (nI (f))), (3, .int (x))]) X.1 X.2.1 dX6_put_21 hl (by decide) rfl (fun ls hl => ?_)
  refine lv_aload X.1 X.2.1 dX6_put_23 (lv_at hl 1 rfl) ?_
  refine lv_iload_n X.1 X.2.1 dX6_put_25 rfl (lv_at hl 4 rfl) ?_
  refine lv_iload_n X.1 X.2.1 dX6_put_26 rfl (lv_at hl 5 rfl) ?_
  refine cSi X hW (cg_cut l (x := x)) (va_cwS 1 X.2.2.2.2 gX6_put_X6_cut rfl rfl rfl (by decide +kernel) ⟨Nat.le_of_ble_eq_true rfl, Nat.le_of_ble_eq_true rfl⟩) rfl rfl hl.1 (Nat.le_of_ble_eq_true rfl) dX6_put_27 ⟨Nat.zero_le _, Nat.zero_le _⟩ (fun H locs hW => ?_)
  refine cst_8 X hW (hsr.2.2.2.1) (hsr.2.2.2.2.1) (by rw [hsr.2.2.2.2.2.1]; omega) (by omega) (nar_c (and_255 x)) dX6_put_30 (fun H locs hW => ?_)
  refine lv_iload X.1 X.2.1 dX6_put_31 (lv_at hl 0 rfl) ?_
  exact hE _ _ _ _ _ (rfl) (fun ty hty => by cases hty; exact nar_255 (HB.md.1 _)) hW dX6_put_33
set_option maxHeartbeats 4000000 in
set_option maxRecDepth 100000 in
theorem co_get (l : Launch) {G : va_G} {kT : Nat → ClassId} {L : List Nat} {K : Nat → Nat} {R : pR} {I : pI} {A : mD} {Q : pR} {N : Nat → Nat} {T : mT} {D : mD} {ad : pD} (HB : Rep T D ad L K R I A Q N) {r f : Nat} (hr : r < 4) (hf : f < T 1 (T 2 r)) : cMi l yX6_get wsX6_get ({ frames := 7, cells := 0, slots := 0, locals := 121 } : Room) G kT [.ref (ad 0 0), .int (nI (r)), .int (nI (f))] L K (R) (I) (A) (Q) N (D 0 (256 * T 2 r + f)) (R) (I) (A) (Q) := by
  refine csti (cc := cX6_get) (maxL := 4) (ret := (some .char)) (by decide) rfl ⟨_, rfl⟩ (Nat.le_of_ble_eq_true rfl) (fun p e s m args below meth c Z hE X hW ls hl => ?_)
  have X : CallFix p m c cX6_get 4 s args wsX6_get RX6 := X
  have hl : lv_has ls 4 [(0, .ref (ad 0 0)), (1, .int (nI (r))), (2, .int (nI (f)))] := hl
  have hin3 : ∀ w ∈ wsX30, w ∈ wsX6_get := fun w h => List.mem_cons_of_mem _ (List.mem_append_left _ (List.mem_append_left _ (List.mem_append_left _ (List.mem_append_right _ (h)))))
  have hin6 : ∀ w ∈ wsX60, w ∈ wsX6_get := fun w h => List.mem_cons_of_mem _ (List.mem_append_left _ (List.mem_append_left _ (List.mem_append_right _ (h))))
  have hu := uS_row (T := T) hr
  have hsr := HB.sr hu
  have hl9 := hsr.2.2.2.2.2.2
  refine lv_aload_n X.1 X.2.1 dX6_get_0 rfl (lv_at hl 0 rfl) ?_
  refine lv_iload_n X.1 X.2.1 dX6_get_1 rfl (lv_at hl 1 rfl) ?_
  refine cVr X hW (HB.mem lv_0) (pC_6 (HB.kn lv_0 rfl)) rfl (cg_signRowAt l HB (r := r) (by omega)) (cwV 1 X.2.2.2.2 gX6_get_X6_signRowAt rfl rfl rfl (by decide +kernel) ⟨Nat.le_of_ble_eq_true rfl, Nat.le_of_ble_eq_true rfl⟩) rfl rfl hl.1 (Nat.le_of_ble_eq_true rfl) dX6_get_2 ⟨Nat.zero_le _, Nat.zero_le _⟩ (fun H locs hW => ?_)
  refine cg_3_signs X hin3 hW (hsr.1) (hsr.2.1) (hsr.2.2.1) (X.2.2.2.2 (.fieldLink RX6 60 "Strandbook$SignRow" "signs" "[C") (List.mem_cons_of_mem _ (List.mem_append_left _ (List.mem_append_left _ (List.mem_append_left _ (List.mem_append_left _ (List.mem_of_getElem? (i := 0) rfl))))))) dX6_get_5 ?_
  refine lv_astore_n (lv' := [(3, .ref (ad 4 (T 2 r))), (0, .ref (ad 0 0)), (1, .int (nI (r))), (2, .int (nI (f)))]) X.1 X.2.1 dX6_get_8 rfl hl (by decide) rfl (fun ls hl => ?_)
  refine lv_iload_n X.1 X.2.1 dX6_get_9 rfl (lv_at hl 3 rfl) ?_
  refine lv_aload_n X.1 X.2.1 dX6_get_10 rfl (lv_at hl 0 rfl) ?_
  refine cln_8 X hW (hsr.2.2.2.1) (hsr.2.2.2.2.1) (hsr.2.2.2.2.2.1) dX6_get_11 ?_
  refine cSv X hW (cg_requirePlace l (i := f) (n := T 1 (T 2 r)) (by omega) (by omega)) (va_cwS 2 X.2.2.2.2 gX6_get_X6_requirePlace rfl rfl rfl (by decide +kernel) ⟨Nat.le_of_ble_eq_true rfl, Nat.le_of_ble_eq_true rfl⟩) rfl rfl hl.1 (Nat.le_of_ble_eq_true rfl) dX6_get_12 ⟨Nat.zero_le _, Nat.zero_le _⟩ (fun H locs hW => ?_)
  refine lv_aload_n X.1 X.2.1 dX6_get_15 rfl (lv_at hl 0 rfl) ?_
  refine lv_iload_n X.1 X.2.1 dX6_get_16 rfl (lv_at hl 3 rfl) ?_
  refine cld_8 X hW (v := D 0 (256 * T 2 r + f)) (hsr.2.2.2.1) (hsr.2.2.2.2.1) (by rw [hsr.2.2.2.2.2.1]; omega) (by omega) (HB.sA hu hf) dX6_get_17 ?_
  exact hE _ _ _ _ _ (rfl) (fun ty hty => by cases hty; exact nar_255 (HB.md.1 _)) hW dX6_get_18
set_option maxHeartbeats 4000000 in
set_option maxRecDepth 100000 in
theorem co_length (l : Launch) {G : va_G} {kT : Nat → ClassId} {L : List Nat} {K : Nat → Nat} {R : pR} {I : pI} {A : mD} {Q : pR} {N : Nat → Nat} {T : mT} {D : mD} {ad : pD} (HB : Rep T D ad L K R I A Q N) {r : Nat} (hr : r < 4) : cMi l yX6_length wsX6_length ({ frames := 7, cells := 0, slots := 0, locals := 121 } : Room) G kT [.ref (ad 0 0), .int (nI (r))] L K (R) (I) (A) (Q) N (nI (T 1 (T 2 r))) (R) (I) (A) (Q) := by
  refine csti (cc := cX6_length) (maxL := 2) (ret := (some .int)) (by decide) rfl ⟨_, rfl⟩ (Nat.le_of_ble_eq_true rfl) (fun p e s m args below meth c Z hE X hW ls hl => ?_)
  have X : CallFix p m c cX6_length 2 s args wsX6_length RX6 := X
  have hl : lv_has ls 2 [(0, .ref (ad 0 0)), (1, .int (nI (r)))] := hl
  have hin3 : ∀ w ∈ wsX30, w ∈ wsX6_length := fun w h => List.mem_cons_of_mem _ (List.mem_append_left _ (List.mem_append_left _ (List.mem_append_right _ (h))))
  have hin6 : ∀ w ∈ wsX60, w ∈ wsX6_length := fun w h => List.mem_cons_of_mem _ (List.mem_append_left _ (List.mem_append_right _ (h)))
  have hu := uS_row (T := T) hr
  have hsr := HB.sr hu
  have hl9 := hsr.2.2.2.2.2.2
  refine lv_aload_n X.1 X.2.1 dX6_length_0 rfl (lv_at hl 0 rfl) ?_
  refine lv_iload_n X.1 X.2.1 dX6_length_1 rfl (lv_at hl 1 rfl) ?_
  refine cVr X hW (HB.mem lv_0) (pC_6 (HB.kn lv_0 rfl)) rfl (cg_signRowAt l HB (r := r) (by omega)) (cwV 1 X.2.2.2.2 gX6_length_X6_signRowAt rfl rfl rfl (by decide +kernel) ⟨Nat.le_of_ble_eq_true rfl, Nat.le_of_ble_eq_true rfl⟩) rfl rfl hl.1 (Nat.le_of_ble_eq_true rfl) dX6_length_2 ⟨Nat.zero_le _, Nat.zero_le _⟩ (fun H locs hW => ?_)
  refine cg_3_signs X hin3 hW (hsr.1) (hsr.2.1) (hsr.2.2.1) (X.2.2.2.2 (.fieldLink RX6 60 "Strandbook$SignRow" "signs" "[C") (List.mem_cons_of_mem _ (List.mem_append_left _ (List.mem_append_left _ (List.mem_append_left _ (List.mem_of_getElem? (i := 0) rfl)))))) dX6_length_5 ?_
  refine cln_8 X hW (hsr.2.2.2.1) (hsr.2.2.2.2.1) (hsr.2.2.2.2.2.1) dX6_length_8 ?_
  exact hE _ _ _ _ _ (rfl) (fun ty hty => by cases hty; exact rfl) hW dX6_length_9
set_option maxHeartbeats 4000000 in
set_option maxRecDepth 100000 in
theorem co_writeText (l : Launch) {G : va_G} {kT : Nat → ClassId} {L : List Nat} {K : Nat → Nat} {R : pR} {I : pI} {A : mD} {Q : pR} {N : Nat → Nat} {T : mT} {D : mD} {ad : pD} (HB : Rep T D ad L K R I A Q N) {w r f j : Nat} (hw : w < 3) (hr : r < 4) (hf : f + j ≤ T 1 (T 2 r)) (h : T 7 w + j ≤ 256) : cMi l yX6_writeText wsX6_writeText ({ frames := 8, cells := 0, slots := 0, locals := 147 } : Room) G kT [.ref (ad 0 0), .int (nI (w)), .int (nI (r)), .int (nI (f)), .int (nI (j))] L K (R) (I) (A) (Q) N (nI (T 7 w + j)) (R) (u2 I 10 (ad 7 w) (nI (T 7 w + j))) (cpF A (ad 8 w) (T 7 w) (fun i => A (ad 4 (T 2 r)) (f + i)) j) (Q) := by
  refine csti (cc := cX6_writeText) (maxL := 5) (ret := (some .int)) (by decide) rfl ⟨_, rfl⟩ (Nat.le_of_ble_eq_true rfl) (fun p e s m args below meth c Z hE X hW ls hl => ?_)
  have X : CallFix p m c cX6_writeText 5 s args wsX6_writeText RX6 := X
  have hl : lv_has ls 5 [(0, .ref (ad 0 0)), (1, .int (nI (w))), (2, .int (nI (r))), (3, .int (nI (f))), (4, .int (nI (j)))] := hl
  have hin3 : ∀ w ∈ wsX30, w ∈ wsX6_writeText := fun w h => List.mem_cons_of_mem _ (List.mem_append_left _ (List.mem_append_left _ (List.mem_append_left _ (List.mem_append_left _ (List.mem_append_right _ (h))))))
  have hin4 : ∀ w ∈ wsX40, w ∈ wsX6_writeText := fun w h => List.mem_cons_of_mem _ (List.mem_append_left _ (List.mem_append_left _ (List.mem_append_left _ (List.mem_append_right _ (h)))))
  have hin6 : ∀ w ∈ wsX60, w ∈ wsX6_writeText := fun w h => List.mem_cons_of_mem _ (List.mem_append_left _ (List.mem_append_left _ (List.mem_append_left _ (List.mem_append_left _ (List.mem_append_left _ (List.mem_append_right _ (h)))))))
  have hwr := HB.wr (show w < 6 by omega)
  refine lv_aload_n X.1 X.2.1 dX6_writeText_0 rfl (lv_at hl 0 rfl) ?_
  refine lv_aload_n X.1 X.2.1 dX6_writeText_1 rfl (lv_at hl 0 rfl) ?_
  refine lv_iload_n X.1 X.2.1 dX6_writeText_2 rfl (lv_at hl 1 rfl) ?_
  refine cVr X hW (HB.mem lv_0) (pC_6 (HB.kn lv_0 rfl)) rfl (cg_textWriterAt l HB (r := w) (by omega)) (cwV 1 X.2.2.2.2 gX6_writeText_X6_textWriterAt rfl rfl rfl (by decide +kernel) ⟨Nat.le_of_ble_eq_true rfl, Nat.le_of_ble_eq_true rfl⟩) rfl rfl hl.1 (Nat.le_of_ble_eq_true rfl) dX6_writeText_3 ⟨Nat.zero_le _, Nat.zero_le _⟩ (fun H locs hW => ?_)
  refine lv_iload_n X.1 X.2.1 dX6_writeText_6 rfl (lv_at hl 2 rfl) ?_
  refine lv_iload_n X.1 X.2.1 dX6_writeText_7 rfl (lv_at hl 3 rfl) ?_
  refine lv_iload X.1 X.2.1 dX6_writeText_8 (lv_at hl 4 rfl) ?_
  refine cVi X hW (HB.mem lv_0) (pC_6 (HB.kn lv_0 rfl)) rfl (cg_addPart l HB (w := w) (r := r) (f := f) (j := j) (by omega) hr hf h) (cwV 4 X.2.2.2.2 gX6_writeText_X6_addPart rfl rfl rfl (by decide +kernel) ⟨Nat.le_of_ble_eq_true rfl, Nat.le_of_ble_eq_true rfl⟩) rfl rfl hl.1 (Nat.le_of_ble_eq_true rfl) dX6_writeText_10 ⟨Nat.zero_le _, Nat.zero_le _⟩ (fun H locs hW => ?_)
  exact hE _ _ _ _ _ (rfl) (fun ty hty => by cases hty; exact rfl) hW dX6_writeText_13
set_option maxHeartbeats 4000000 in
set_option maxRecDepth 100000 in
theorem co_writeSigns (l : Launch) {G : va_G} {kT : Nat → ClassId} {L : List Nat} {K : Nat → Nat} {R : pR} {I : pI} {A : mD} {Q : pR} {N : Nat → Nat} {T : mT} {D : mD} {ad : pD} (HB : Rep T D ad L K R I A Q N) {w r f j : Nat} (hw : w < 3) (hr : r < 4) (hf : f + j ≤ T 1 (T 2 r)) (h : T 7 w + j ≤ 256) : cMi l yX6_writeSigns wsX6_writeSigns ({ frames := 8, cells := 0, slots := 0, locals := 147 } : Room) G kT [.ref (ad 0 0), .int (nI (w)), .int (nI (r)), .int (nI (f)), .int (nI (j))] L K (R) (I) (A) (Q) N (nI (T 7 w + j)) (R) (u2 I 10 (ad 7 w) (nI (T 7 w + j))) (cpF A (ad 8 w) (T 7 w) (fun i => A (ad 4 (T 2 r)) (f + i)) j) (Q) := by
  refine csti (cc := cX6_writeSigns) (maxL := 5) (ret := (some .int)) (by decide) rfl ⟨_, rfl⟩ (Nat.le_of_ble_eq_true rfl) (fun p e s m args below meth c Z hE X hW ls hl => ?_)
  have X : CallFix p m c cX6_writeSigns 5 s args wsX6_writeSigns RX6 := X
  have hl : lv_has ls 5 [(0, .ref (ad 0 0)), (1, .int (nI (w))), (2, .int (nI (r))), (3, .int (nI (f))), (4, .int (nI (j)))] := hl
  have hin3 : ∀ w ∈ wsX30, w ∈ wsX6_writeSigns := fun w h => List.mem_cons_of_mem _ (List.mem_append_left _ (List.mem_append_left _ (List.mem_append_left _ (List.mem_append_left _ (List.mem_append_right _ (h))))))
  have hin4 : ∀ w ∈ wsX40, w ∈ wsX6_writeSigns := fun w h => List.mem_cons_of_mem _ (List.mem_append_left _ (List.mem_append_left _ (List.mem_append_left _ (List.mem_append_right _ (h)))))
  have hin6 : ∀ w ∈ wsX60, w ∈ wsX6_writeSigns := fun w h => List.mem_cons_of_mem _ (List.mem_append_left _ (List.mem_append_left _ (List.mem_append_left _ (List.mem_append_left _ (List.mem_append_left _ (List.mem_append_right _ (h)))))))
  have hwr := HB.wr (show w < 6 by omega)
  refine lv_aload_n X.1 X.2.1 dX6_writeSigns_0 rfl (lv_at hl 0 rfl) ?_
  refine lv_aload_n X.1 X.2.1 dX6_writeSigns_1 rfl (lv_at hl 0 rfl) ?_
  refine lv_iload_n X.1 X.2.1 dX6_writeSigns_2 rfl (lv_at hl 1 rfl) ?_
  refine cVr X hW (HB.mem lv_0) (pC_6 (HB.kn lv_0 rfl)) rfl (cg_textWriterAt l HB (r := w) (by omega)) (cwV 1 X.2.2.2.2 gX6_writeSigns_X6_textWriterAt rfl rfl rfl (by decide +kernel) ⟨Nat.le_of_ble_eq_true rfl, Nat.le_of_ble_eq_true rfl⟩) rfl rfl hl.1 (Nat.le_of_ble_eq_true rfl) dX6_writeSigns_3 ⟨Nat.zero_le _, Nat.zero_le _⟩ (fun H locs hW => ?_)
  refine lv_iload_n X.1 X.2.1 dX6_writeSigns_6 rfl (lv_at hl 2 rfl) ?_
  refine lv_iload_n X.1 X.2.1 dX6_writeSigns_7 rfl (lv_at hl 3 rfl) ?_
  refine lv_iload X.1 X.2.1 dX6_writeSigns_8 (lv_at hl 4 rfl) ?_
  refine cVi X hW (HB.mem lv_0) (pC_6 (HB.kn lv_0 rfl)) rfl (cg_addPart l HB (w := w) (r := r) (f := f) (j := j) (by omega) hr hf h) (cwV 4 X.2.2.2.2 gX6_writeSigns_X6_addPart rfl rfl rfl (by decide +kernel) ⟨Nat.le_of_ble_eq_true rfl, Nat.le_of_ble_eq_true rfl⟩) rfl rfl hl.1 (Nat.le_of_ble_eq_true rfl) dX6_writeSigns_10 ⟨Nat.zero_le _, Nat.zero_le _⟩ (fun H locs hW => ?_)
  exact hE _ _ _ _ _ (rfl) (fun ty hty => by cases hty; exact rfl) hW dX6_writeSigns_13
set_option maxHeartbeats 4000000 in
set_option maxRecDepth 100000 in
theorem co_arrayText (l : Launch) {G : va_G} {kT : Nat → ClassId} {L : List Nat} {K : Nat → Nat} {R : pR} {I : pI} {A : mD} {Q : pR} {N : Nat → Nat} {T : mT} {D : mD} {ad : pD} (HB : Rep T D ad L K R I A Q N) {w r f j : Nat} (hw : w < 3) (hr : r < 4) (hf : f + j ≤ T 1 (T 2 r)) (h : T 7 (3 + w) + j ≤ 256) : cMi l yX6_arrayText wsX6_arrayText ({ frames := 8, cells := 0, slots := 0, locals := 147 } : Room) G kT [.ref (ad 0 0), .int (nI (w)), .int (nI (r)), .int (nI (f)), .int (nI (j))] L K (R) (I) (A) (Q) N (nI (T 7 (3 + w) + j)) (R) (u2 I 10 (ad 7 (3 + w)) (nI (T 7 (3 + w) + j))) (cpF A (ad 8 (3 + w)) (T 7 (3 + w)) (fun i => A (ad 4 (T 2 r)) (f + i)) j) (Q) := by
  refine csti (cc := cX6_arrayText) (maxL := 5) (ret := (some .int)) (by decide) rfl ⟨_, rfl⟩ (Nat.le_of_ble_eq_true rfl) (fun p e s m args below meth c Z hE X hW ls hl => ?_)
  have X : CallFix p m c cX6_arrayText 5 s args wsX6_arrayText RX6 := X
  have hl : lv_has ls 5 [(0, .ref (ad 0 0)), (1, .int (nI (w))), (2, .int (nI (r))), (3, .int (nI (f))), (4, .int (nI (j)))] := hl
  have hin3 : ∀ w ∈ wsX30, w ∈ wsX6_arrayText := fun w h => List.mem_cons_of_mem _ (List.mem_append_left _ (List.mem_append_left _ (List.mem_append_left _ (List.mem_append_left _ (List.mem_append_right _ (h))))))
  have hin4 : ∀ w ∈ wsX40, w ∈ wsX6_arrayText := fun w h => List.mem_cons_of_mem _ (List.mem_append_left _ (List.mem_append_left _ (List.mem_append_left _ (List.mem_append_right _ (h)))))
  have hin6 : ∀ w ∈ wsX60, w ∈ wsX6_arrayText := fun w h => List.mem_cons_of_mem _ (List.mem_append_left _ (List.mem_append_left _ (List.mem_append_left _ (List.mem_append_left _ (List.mem_append_left _ (List.mem_append_right _ (h)))))))
  have hwr := HB.wr (show 3 + w < 6 by omega)
  refine lv_aload_n X.1 X.2.1 dX6_arrayText_0 rfl (lv_at hl 0 rfl) ?_
  refine lv_aload_n X.1 X.2.1 dX6_arrayText_1 rfl (lv_at hl 0 rfl) ?_
  refine lv_iload_n X.1 X.2.1 dX6_arrayText_2 rfl (lv_at hl 1 rfl) ?_
  refine cVr X hW (HB.mem lv_0) (pC_6 (HB.kn lv_0 rfl)) rfl (cg_arrayWriterAt l HB (r := w) (by omega)) (cwV 1 X.2.2.2.2 gX6_arrayText_X6_arrayWriterAt rfl rfl rfl (by decide +kernel) ⟨Nat.le_of_ble_eq_true rfl, Nat.le_of_ble_eq_true rfl⟩) rfl rfl hl.1 (Nat.le_of_ble_eq_true rfl) dX6_arrayText_3 ⟨Nat.zero_le _, Nat.zero_le _⟩ (fun H locs hW => ?_)
  refine lv_iload_n X.1 X.2.1 dX6_arrayText_6 rfl (lv_at hl 2 rfl) ?_
  refine lv_iload_n X.1 X.2.1 dX6_arrayText_7 rfl (lv_at hl 3 rfl) ?_
  refine lv_iload X.1 X.2.1 dX6_arrayText_8 (lv_at hl 4 rfl) ?_
  refine cVi X hW (HB.mem lv_0) (pC_6 (HB.kn lv_0 rfl)) rfl (cg_addPart l HB (w := 3 + w) (r := r) (f := f) (j := j) (by omega) hr hf h) (cwV 4 X.2.2.2.2 gX6_arrayText_X6_addPart rfl rfl rfl (by decide +kernel) ⟨Nat.le_of_ble_eq_true rfl, Nat.le_of_ble_eq_true rfl⟩) rfl rfl hl.1 (Nat.le_of_ble_eq_true rfl) dX6_arrayText_10 ⟨Nat.zero_le _, Nat.zero_le _⟩ (fun H locs hW => ?_)
  exact hE _ _ _ _ _ (rfl) (fun ty hty => by cases hty; exact rfl) hW dX6_arrayText_13
set_option maxHeartbeats 4000000 in
set_option maxRecDepth 100000 in
theorem co_arraySigns (l : Launch) {G : va_G} {kT : Nat → ClassId} {L : List Nat} {K : Nat → Nat} {R : pR} {I : pI} {A : mD} {Q : pR} {N : Nat → Nat} {T : mT} {D : mD} {ad : pD} (HB : Rep T D ad L K R I A Q N) {w r f j : Nat} (hw : w < 3) (hr : r < 4) (hf : f + j ≤ T 1 (T 2 r)) (h : T 7 (3 + w) + j ≤ 256) : cMi l yX6_arraySigns wsX6_arraySigns ({ frames := 8, cells := 0, slots := 0, locals := 147 } : Room) G kT [.ref (ad 0 0), .int (nI (w)), .int (nI (r)), .int (nI (f)), .int (nI (j))] L K (R) (I) (A) (Q) N (nI (T 7 (3 + w) + j)) (R) (u2 I 10 (ad 7 (3 + w)) (nI (T 7 (3 + w) + j))) (cpF A (ad 8 (3 + w)) (T 7 (3 + w)) (fun i => A (ad 4 (T 2 r)) (f + i)) j) (Q) := by
  refine csti (cc := cX6_arraySigns) (maxL := 5) (ret := (some .int)) (by decide) rfl ⟨_, rfl⟩ (Nat.le_of_ble_eq_true rfl) (fun p e s m args below meth c Z hE X hW ls hl => ?_)
  have X : CallFix p m c cX6_arraySigns 5 s args wsX6_arraySigns RX6 := X
  have hl : lv_has ls 5 [(0, .ref (ad 0 0)), (1, .int (nI (w))), (2, .int (nI (r))), (3, .int (nI (f))), (4, .int (nI (j)))] := hl
  have hin3 : ∀ w ∈ wsX30, w ∈ wsX6_arraySigns := fun w h => List.mem_cons_of_mem _ (List.mem_append_left _ (List.mem_append_left _ (List.mem_append_left _ (List.mem_append_left _ (List.mem_append_right _ (h))))))
  have hin4 : ∀ w ∈ wsX40, w ∈ wsX6_arraySigns := fun w h => List.mem_cons_of_mem _ (List.mem_append_left _ (List.mem_append_left _ (List.mem_append_left _ (List.mem_append_right _ (h)))))
  have hin6 : ∀ w ∈ wsX60, w ∈ wsX6_arraySigns := fun w h => List.mem_cons_of_mem _ (List.mem_append_left _ (List.mem_append_left _ (List.mem_append_left _ (List.mem_append_left _ (List.mem_append_left _ (List.mem_append_right _ (h)))))))
  have hwr := HB.wr (show 3 + w < 6 by omega)
  refine lv_aload_n X.1 X.2.1 dX6_arraySigns_0 rfl (lv_at hl 0 rfl) ?_
  refine lv_aload_n X.1 X.2.1 dX6_arraySigns_1 rfl (lv_at hl 0 rfl) ?_
  refine lv_iload_n X.1 X.2.1 dX6_arraySigns_2 rfl (lv_at hl 1 rfl) ?_
  refine cVr X hW (HB.mem lv_0) (pC_6 (HB.kn lv_0 rfl)) rfl (cg_arrayWriterAt l HB (r := w) (by omega)) (cwV 1 X.2.2.2.2 gX6_arraySigns_X6_arrayWriterAt rfl rfl rfl (by decide +kernel) ⟨Nat.le_of_ble_eq_true rfl, Nat.le_of_ble_eq_true rfl⟩) rfl rfl hl.1 (Nat.le_of_ble_eq_true rfl) dX6_arraySigns_3 ⟨Nat.zero_le _, Nat.zero_le _⟩ (fun H locs hW => ?_)
  refine lv_iload_n X.1 X.2.1 dX6_arraySigns_6 rfl (lv_at hl 2 rfl) ?_
  refine lv_iload_n X.1 X.2.1 dX6_arraySigns_7 rfl (lv_at hl 3 rfl) ?_
  refine lv_iload X.1 X.2.1 dX6_arraySigns_8 (lv_at hl 4 rfl) ?_
  refine cVi X hW (HB.mem lv_0) (pC_6 (HB.kn lv_0 rfl)) rfl (cg_addPart l HB (w := 3 + w) (r := r) (f := f) (j := j) (by omega) hr hf h) (cwV 4 X.2.2.2.2 gX6_arraySigns_X6_addPart rfl rfl rfl (by decide +kernel) ⟨Nat.le_of_ble_eq_true rfl, Nat.le_of_ble_eq_true rfl⟩) rfl rfl hl.1 (Nat.le_of_ble_eq_true rfl) dX6_arraySigns_10 ⟨Nat.zero_le _, Nat.zero_le _⟩ (fun H locs hW => ?_)
  exact hE _ _ _ _ _ (rfl) (fun ty hty => by cases hty; exact rfl) hW dX6_arraySigns_13
set_option maxHeartbeats 4000000 in
set_option maxRecDepth 100000 in
theorem co_begin (l : Launch) {G : va_G} {kT : Nat → ClassId} {L : List Nat} {K : Nat → Nat} {R : pR} {I : pI} {A : mD} {Q : pR} {N : Nat → Nat} {T : mT} {D : mD} {ad : pD} (HB : Rep T D ad L K R I A Q N) {w : Nat} (hw : w < 3) : cMi l yX6_begin wsX6_begin ({ frames := 7, cells := 0, slots := 0, locals := 121 } : Room) G kT [.ref (ad 0 0), .int (nI (w))] L K (R) (I) (A) (Q) N (nI (T 7 w)) (R) (u2 I 10 (ad 7 w) (nI 0)) (A) (Q) := by
  refine csti (cc := cX6_begin) (maxL := 2) (ret := (some .int)) (by decide) rfl ⟨_, rfl⟩ (Nat.le_of_ble_eq_true rfl) (fun p e s m args below meth c Z hE X hW ls hl => ?_)
  have X : CallFix p m c cX6_begin 2 s args wsX6_begin RX6 := X
  have hl : lv_has ls 2 [(0, .ref (ad 0 0)), (1, .int (nI (w)))] := hl
  have hin4 : ∀ w ∈ wsX40, w ∈ wsX6_begin := fun w h => List.mem_cons_of_mem _ (List.mem_append_left _ (List.mem_append_right _ (h)))
  have hin6 : ∀ w ∈ wsX60, w ∈ wsX6_begin := fun w h => List.mem_cons_of_mem _ (List.mem_append_left _ (List.mem_append_left _ (List.mem_append_right _ (h))))
  have hwr := HB.wr (show w < 6 by omega)
  refine lv_aload_n X.1 X.2.1 dX6_begin_0 rfl (lv_at hl 0 rfl) ?_
  refine lv_iload_n X.1 X.2.1 dX6_begin_1 rfl (lv_at hl 1 rfl) ?_
  refine cVr X hW (HB.mem lv_0) (pC_6 (HB.kn lv_0 rfl)) rfl (cg_textWriterAt l HB (r := w) (by omega)) (cwV 1 X.2.2.2.2 gX6_begin_X6_textWriterAt rfl rfl rfl (by decide +kernel) ⟨Nat.le_of_ble_eq_true rfl, Nat.le_of_ble_eq_true rfl⟩) rfl rfl hl.1 (Nat.le_of_ble_eq_true rfl) dX6_begin_2 ⟨Nat.zero_le _, Nat.zero_le _⟩ (fun H locs hW => ?_)
  refine cVi X hW (hwr.1) (pC_4 (hwr.2.1)) rfl (ct_giveUpAll l hwr) (cwV 0 X.2.2.2.2 gX6_begin_X4_giveUpAll rfl rfl rfl (by decide +kernel) ⟨Nat.le_of_ble_eq_true rfl, Nat.le_of_ble_eq_true rfl⟩) rfl rfl hl.1 (Nat.le_of_ble_eq_true rfl) dX6_begin_5 ⟨Nat.zero_le _, Nat.zero_le _⟩ (fun H locs hW => ?_)
  exact hE _ _ _ _ _ (rfl) (fun ty hty => by cases hty; exact rfl) hW dX6_begin_8
set_option maxHeartbeats 4000000 in
set_option maxRecDepth 100000 in
theorem co_empty (l : Launch) {G : va_G} {kT : Nat → ClassId} {L : List Nat} {K : Nat → Nat} {R : pR} {I : pI} {A : mD} {Q : pR} {N : Nat → Nat} {T : mT} {D : mD} {ad : pD} (HB : Rep T D ad L K R I A Q N) {w : Nat} (hw : w < 3) : cMi l yX6_empty wsX6_empty ({ frames := 7, cells := 0, slots := 0, locals := 121 } : Room) G kT [.ref (ad 0 0), .int (nI (w))] L K (R) (I) (A) (Q) N (nI (T 7 (3 + w))) (R) (u2 I 10 (ad 7 (3 + w)) (nI 0)) (A) (Q) := by
  refine csti (cc := cX6_empty) (maxL := 2) (ret := (some .int)) (by decide) rfl ⟨_, rfl⟩ (Nat.le_of_ble_eq_true rfl) (fun p e s m args below meth c Z hE X hW ls hl => ?_)
  have X : CallFix p m c cX6_empty 2 s args wsX6_empty RX6 := X
  have hl : lv_has ls 2 [(0, .ref (ad 0 0)), (1, .int (nI (w)))] := hl
  have hin4 : ∀ w ∈ wsX40, w ∈ wsX6_empty := fun w h => List.mem_cons_of_mem _ (List.mem_append_left _ (List.mem_append_right _ (h)))
  have hin6 : ∀ w ∈ wsX60, w ∈ wsX6_empty := fun w h => List.mem_cons_of_mem _ (List.mem_append_left _ (List.mem_append_left _ (List.mem_append_right _ (h))))
  have hwr := HB.wr (show 3 + w < 6 by omega)
  refine lv_aload_n X.1 X.2.1 dX6_empty_0 rfl (lv_at hl 0 rfl) ?_
  refine lv_iload_n X.1 X.2.1 dX6_empty_1 rfl (lv_at hl 1 rfl) ?_
  refine cVr X hW (HB.mem lv_0) (pC_6 (HB.kn lv_0 rfl)) rfl (cg_arrayWriterAt l HB (r := w) (by omega)) (cwV 1 X.2.2.2.2 gX6_empty_X6_arrayWriterAt rfl rfl rfl (by decide +kernel) ⟨Nat.le_of_ble_eq_true rfl, Nat.le_of_ble_eq_true rfl⟩) rfl rfl hl.1 (Nat.le_of_ble_eq_true rfl) dX6_empty_2 ⟨Nat.zero_le _, Nat.zero_le _⟩ (fun H locs hW => ?_)
  refine cVi X hW (hwr.1) (pC_4 (hwr.2.1)) rfl (ct_giveUpAll l hwr) (cwV 0 X.2.2.2.2 gX6_empty_X4_giveUpAll rfl rfl rfl (by decide +kernel) ⟨Nat.le_of_ble_eq_true rfl, Nat.le_of_ble_eq_true rfl⟩) rfl rfl hl.1 (Nat.le_of_ble_eq_true rfl) dX6_empty_5 ⟨Nat.zero_le _, Nat.zero_le _⟩ (fun H locs hW => ?_)
  exact hE _ _ _ _ _ (rfl) (fun ty hty => by cases hty; exact rfl) hW dX6_empty_8
set_option maxHeartbeats 4000000 in
set_option maxRecDepth 100000 in
theorem co_areLike (l : Launch) {G : va_G} {kT : Nat → ClassId} {L : List Nat} {K : Nat → Nat} {R : pR} {I : pI} {A : mD} {Q : pR} {N : Nat → Nat} {T : mT} {D : mD} {ad : pD} (HB : Rep T D ad L K R I A Q N) {w v : Nat} (hw : w < 3) (hv : v < 3) : cMi l yX6_areLike wsX6_areLike ({ frames := 7, cells := 0, slots := 0, locals := 121 } : Room) G kT [.ref (ad 0 0), .int (nI (w)), .int (nI (v))] L K (R) (I) (A) (Q) N (nI (sk_like T D w (3 + v))) (R) (I) (A) (Q) := by
  refine csti (cc := cX6_areLike) (maxL := 3) (ret := (some .boolean)) (by decide) rfl ⟨_, rfl⟩ (Nat.le_of_ble_eq_true rfl) (fun p e s m args below meth c Z hE X hW ls hl => ?_)
  have X : CallFix p m c cX6_areLike 3 s args wsX6_areLike RX6 := X
  have hl : lv_has ls 3 [(0, .ref (ad 0 0)), (1, .int (nI (w))), (2, .int (nI (v)))] := hl
  have hin4 : ∀ w ∈ wsX40, w ∈ wsX6_areLike := fun w h => List.mem_cons_of_mem _ (List.mem_append_left _ (List.mem_append_left _ (List.mem_append_right _ (h))))
  have hin6 : ∀ w ∈ wsX60, w ∈ wsX6_areLike := fun w h => List.mem_cons_of_mem _ (List.mem_append_left _ (List.mem_append_left _ (List.mem_append_left _ (List.mem_append_right _ (h)))))
  have hwr := HB.wr (show w < 6 by omega)
  have hvr := HB.wr (show 3 + v < 6 by omega)
  have e9 : (if T 7 w = T 7 (3 + v) then lkF (A (ad 8 w)) (A (ad 8 (3 + v))) (T 7 w) else 0) = sk_like T D w (3 + v) := by
    by_cases h : T 7 w = T 7 (3 + v)
    · rw [sk_like, if_pos h, if_pos h]; exact lkF_congr _ (fun i hi => HB.wA (by omega) hi) (fun i hi => HB.wA (by omega) (by omega))
    · rw [sk_like, if_neg h, if_neg h]
  have e8 : sk_like T D w (3 + v) ≤ 1 := by
    by_cases h : T 7 w = T 7 (3 + v)
    · rw [sk_like, if_pos h]; exact lkF_le _
    · rw [sk_like, if_neg h]; omega
  refine lv_aload_n X.1 X.2.1 dX6_areLike_0 rfl (lv_at hl 0 rfl) ?_
  refine lv_iload_n X.1 X.2.1 dX6_areLike_1 rfl (lv_at hl 1 rfl) ?_
  refine cVr X hW (HB.mem lv_0) (pC_6 (HB.kn lv_0 rfl)) rfl (cg_textWriterAt l HB (r := w) (by omega)) (cwV 1 X.2.2.2.2 gX6_areLike_X6_textWriterAt rfl rfl rfl (by decide +kernel) ⟨Nat.le_of_ble_eq_true rfl, Nat.le_of_ble_eq_true rfl⟩) rfl rfl hl.1 (Nat.le_of_ble_eq_true rfl) dX6_areLike_2 ⟨Nat.zero_le _, Nat.zero_le _⟩ (fun H locs hW => ?_)
  refine lv_aload_n X.1 X.2.1 dX6_areLike_5 rfl (lv_at hl 0 rfl) ?_
  refine lv_iload_n X.1 X.2.1 dX6_areLike_6 rfl (lv_at hl 2 rfl) ?_
  refine cVr X hW (HB.mem lv_0) (pC_6 (HB.kn lv_0 rfl)) rfl (cg_arrayWriterAt l HB (r := v) (by omega)) (cwV 1 X.2.2.2.2 gX6_areLike_X6_arrayWriterAt rfl rfl rfl (by decide +kernel) ⟨Nat.le_of_ble_eq_true rfl, Nat.le_of_ble_eq_true rfl⟩) rfl rfl hl.1 (Nat.le_of_ble_eq_true rfl) dX6_areLike_7 ⟨Nat.zero_le _, Nat.zero_le _⟩ (fun H locs hW => ?_)
  refine cVi X hW (hwr.1) (pC_4 (hwr.2.1)) rfl (ct_hasSame l hwr hvr) (cwV 1 X.2.2.2.2 gX6_areLike_X4_hasSameAs rfl rfl rfl (by decide +kernel) ⟨Nat.le_of_ble_eq_true rfl, Nat.le_of_ble_eq_true rfl⟩) rfl rfl hl.1 (Nat.le_of_ble_eq_true rfl) dX6_areLike_10 ⟨Nat.zero_le _, Nat.zero_le _⟩ (fun H locs hW => ?_)
  exact hE _ _ _ _ _ (congrArg nI e9) (fun ty hty => by cases hty; exact by rw [e9]; exact nI_zb e8) hW dX6_areLike_13
set_option maxHeartbeats 4000000 in
set_option maxRecDepth 100000 in
theorem cg_openReaderAt (l : Launch) {G : va_G} {kT : Nat → ClassId} {L : List Nat} {K : Nat → Nat} {R : pR} {I : pI} {A : mD} {Q : pR} {N : Nat → Nat} {T : mT} {D : mD} {ad : pD} (HB : Rep T D ad L K R I A Q N) {i : Nat} (hi : i < 3) (h8 : ¬ clo T i) : cMr l yX6_openReaderAt wsX6_openReaderAt ({ frames := 7, cells := 0, slots := 0, locals := 121 } : Room) G kT [.ref (ad 0 0), .int (nI (i))] L K (R) (I) (A) (Q) N (ad 9 i) (R) (I) (A) (Q) := by
  refine cstr (cc := cX6_openReaderAt) (maxL := 3) (ret := (some (.object "Strandbook$SignReader"))) (by decide) rfl ⟨_, rfl⟩ (Nat.le_of_ble_eq_true rfl) (fun p e s m args below meth c Z hE X hW ls hl => ?_)
  have X : CallFix p m c cX6_openReaderAt 3 s args wsX6_openReaderAt RX6 := X
  have hl : lv_has ls 3 [(0, .ref (ad 0 0)), (1, .int (nI (i)))] := hl
  have hin2 : ∀ w ∈ wsX20, w ∈ wsX6_openReaderAt := fun w h => List.mem_cons_of_mem _ (List.mem_append_left _ (List.mem_append_left _ (List.mem_append_left _ (List.mem_append_right _ (h)))))
  have hin6 : ∀ w ∈ wsX60, w ∈ wsX6_openReaderAt := fun w h => List.mem_cons_of_mem _ (List.mem_append_left _ (List.mem_append_left _ (List.mem_append_right _ (h))))
  have h81 : T 8 i ≠ 0 := fun z => h8 (Or.inl z)
  have h12 : T 12 i = 0 := Decidable.not_not.mp (fun z => h8 (Or.inr z))
  have hrd := HB.rd hi h81
  have h6 := (HB.rr i hi).2 h81
  have hm9 := HB.mi.rd hi
  refine lv_aload_n X.1 X.2.1 dX6_openReaderAt_0 rfl (lv_at hl 0 rfl) ?_
  refine lv_iload_n X.1 X.2.1 dX6_openReaderAt_1 rfl (lv_at hl 1 rfl) ?_
  refine cVr X hW (HB.mem lv_0) (pC_6 (HB.kn lv_0 rfl)) rfl (cg_readerAt l HB (r := i) (by omega)) (cwV 1 X.2.2.2.2 gX6_openReaderAt_X6_readerAt rfl rfl rfl (by decide +kernel) ⟨Nat.le_of_ble_eq_true rfl, Nat.le_of_ble_eq_true rfl⟩) rfl rfl hl.1 (Nat.le_of_ble_eq_true rfl) dX6_openReaderAt_2 ⟨Nat.zero_le _, Nat.zero_le _⟩ (fun H locs hW => ?_)
  refine lv_astore_n (lv' := [(2, .ref (ad 9 i)), (0, .ref (ad 0 0)), (1, .int (nI (i)))]) X.1 X.2.1 dX6_openReaderAt_5 rfl hl (by decide) rfl (fun ls hl => ?_)
  refine lv_aload_n X.1 X.2.1 dX6_openReaderAt_6 rfl (lv_at hl 0 rfl) ?_
  refine cg_2_isThere X hin2 hW (hrd.1) (hrd.2.1) (h6.1) (X.2.2.2.2 (.fieldLink RX6 143 "Strandbook$SignReader" "isThere" "Z") (List.mem_cons_of_mem _ (List.mem_append_left _ (List.mem_append_left _ (List.mem_append_left _ (List.mem_append_left _ (List.mem_of_getElem? (i := 2) rfl))))))) dX6_openReaderAt_7 ?_
  refine n_if_eq_f (tgt := 20) X.1 X.2.1 dX6_openReaderAt_10 (by decide) (by decide) (by omega) ?_
  refine lv_aload_n X.1 X.2.1 dX6_openReaderAt_13 rfl (lv_at hl 0 rfl) ?_
  refine cg_2_isShut X hin2 hW (hrd.1) (hrd.2.1) (h6.2.2.2.2.2) (X.2.2.2.2 (.fieldLink RX6 152 "Strandbook$SignReader" "isShut" "Z") (List.mem_cons_of_mem _ (List.mem_append_left _ (List.mem_append_left _ (List.mem_append_left _ (List.mem_append_left _ (List.mem_of_getElem? (i := 3) rfl))))))) dX6_openReaderAt_14 ?_
  refine n_if_eq_t (tgt := 31) X.1 X.2.1 dX6_openReaderAt_17 (by decide) (h12) (by omega) ?_
  refine lv_aload_n X.1 X.2.1 dX6_openReaderAt_31 rfl (lv_at hl 0 rfl) ?_
  exact hE _ _ _ _ _ (rfl) hW dX6_openReaderAt_32
set_option maxHeartbeats 4000000 in
set_option maxRecDepth 100000 in
theorem co_open (l : Launch) {G : va_G} {kT : Nat → ClassId} {L : List Nat} {K : Nat → Nat} {R : pR} {I : pI} {A : mD} {Q : pR} {N : Nat → Nat} {T : mT} {D : mD} {ad : pD} (HB : Rep T D ad L K R I A Q N) {i r f n : Nat} (hi : i < 3) (hr : r < 4) (hf : f ≤ T 1 (T 2 r)) (hn : n < 1001) : cMi l yX6_open wsX6_open ({ frames := 7, cells := 0, slots := 0, locals := 122 } : Room) G kT [.ref (ad 0 0), .int (nI (i)), .int (nI (r)), .int (nI (f)), .int (nI (n))] L K (R) (I) (A) (Q) N (nI (f + min n (T 1 (T 2 r) - f) - f)) (u2 R 2 (ad 9 i) (some (ad 3 (T 2 r)))) (opI I (ad 9 i) f (f + min n (T 1 (T 2 r) - f))) (A) (Q) := by
  refine csti (cc := cX6_open) (maxL := 7) (ret := (some .int)) (by decide) rfl ⟨_, rfl⟩ (Nat.le_of_ble_eq_true rfl) (fun p e s m args below meth c Z hE X hW ls hl => ?_)
  have X : CallFix p m c cX6_open 7 s args wsX6_open RX6 := X
  have hl : lv_has ls 7 [(0, .ref (ad 0 0)), (1, .int (nI (i))), (2, .int (nI (r))), (3, .int (nI (f))), (4, .int (nI (n)))] := hl
  have hin2 : ∀ w ∈ wsX20, w ∈ wsX6_open := fun w h => List.mem_cons_of_mem _ (List.mem_append_left _ (List.mem_append_left _ (List.mem_append_right _ (h))))
  have hin3 : ∀ w ∈ wsX30, w ∈ wsX6_open := fun w h => List.mem_cons_of_mem _ (List.mem_append_left _ (List.mem_append_left _ (List.mem_append_left _ (List.mem_append_left _ (List.mem_append_right _ (h))))))
  have hin6 : ∀ w ∈ wsX60, w ∈ wsX6_open := fun w h => List.mem_cons_of_mem _ (List.mem_append_left _ (List.mem_append_left _ (List.mem_append_left _ (List.mem_append_right _ (h)))))
  have hu := uS_row (T := T) hr
  have hsr := HB.sr hu
  have hl9 := hsr.2.2.2.2.2.2
  have hm1 : min n (T 1 (T 2 r) - f) ≤ n := Nat.min_le_left _ _
  have hm2 : min n (T 1 (T 2 r) - f) ≤ T 1 (T 2 r) - f := Nat.min_le_right _ _
  refine lv_aload_n X.1 X.2.1 dX6_open_0 rfl (lv_at hl 0 rfl) ?_
  refine lv_iload_n X.1 X.2.1 dX6_open_1 rfl (lv_at hl 1 rfl) ?_
  refine cVr X hW (HB.mem lv_0) (pC_6 (HB.kn lv_0 rfl)) rfl (cg_readerAt l HB (r := i) (by omega)) (cwV 1 X.2.2.2.2 gX6_open_X6_readerAt rfl rfl rfl (by decide +kernel) ⟨Nat.le_of_ble_eq_true rfl, Nat.le_of_ble_eq_true rfl⟩) rfl rfl hl.1 (Nat.le_of_ble_eq_true rfl) dX6_open_2 ⟨Nat.zero_le _, Nat.zero_le _⟩ (fun H locs hW => ?_)
  refine lv_astore (lv' := [(5, .ref (ad 9 i)), (0, .ref (ad 0 0)), (1, .int (nI (i))), (2, .int (nI (r))), (3, .int (nI (f))), (4, .int (nI (n)))]) X.1 X.2.1 dX6_open_5 hl (by decide) rfl (fun ls hl => ?_)
  refine lv_aload_n X.1 X.2.1 dX6_open_7 rfl (lv_at hl 1 rfl) ?_
  refine lv_iload_n X.1 X.2.1 dX6_open_8 rfl (lv_at hl 3 rfl) ?_
  refine cVr X hW (HB.mem lv_0) (pC_6 (HB.kn lv_0 rfl)) rfl (cg_signRowAt l HB (r := r) (by omega)) (cwV 1 X.2.2.2.2 gX6_open_X6_signRowAt rfl rfl rfl (by decide +kernel) ⟨Nat.le_of_ble_eq_true rfl, Nat.le_of_ble_eq_true rfl⟩) rfl rfl hl.1 (Nat.le_of_ble_eq_true rfl) dX6_open_9 ⟨Nat.zero_le _, Nat.zero_le _⟩ (fun H locs hW => ?_)
  refine lv_astore (lv' := [(6, .ref (ad 3 (T 2 r))), (5, .ref (ad 9 i)), (0, .ref (ad 0 0)), (1, .int (nI (i))), (2, .int (nI (r))), (3, .int (nI (f))), (4, .int (nI (n)))]) X.1 X.2.1 dX6_open_12 hl (by decide) rfl (fun ls hl => ?_)
  refine lv_iload_n X.1 X.2.1 dX6_open_14 rfl (lv_at hl 5 rfl) ?_
  refine lv_iconst (v := nI 0) X.1 X.2.1 dX6_open_15 (by decide) ?_
  refine lv_aload X.1 X.2.1 dX6_open_16 (lv_at hl 0 rfl) ?_
  refine cg_3_signs X hin3 hW (hsr.1) (hsr.2.1) (hsr.2.2.1) (X.2.2.2.2 (.fieldLink RX6 60 "Strandbook$SignRow" "signs" "[C") (List.mem_cons_of_mem _ (List.mem_append_left _ (List.mem_append_left _ (List.mem_append_left _ (List.mem_append_left _ (List.mem_append_left _ (List.mem_append_left _ (List.mem_of_getElem? (i := 0) rfl))))))))) dX6_open_18 ?_
  refine cln_8 X hW (hsr.2.2.2.1) (hsr.2.2.2.2.1) (hsr.2.2.2.2.2.1) dX6_open_21 ?_
  refine cSv X hW (cg_requirePlaces l (f := f) (j := 0) (n := T 1 (T 2 r)) (by omega) (by omega)) (va_cwS 3 X.2.2.2.2 gX6_open_X6_requirePlaces rfl rfl rfl (by decide +kernel) ⟨Nat.le_of_ble_eq_true rfl, Nat.le_of_ble_eq_true rfl⟩) rfl rfl hl.1 (Nat.le_of_ble_eq_true rfl) dX6_open_22 ⟨Nat.zero_le _, Nat.zero_le _⟩ (fun H locs hW => ?_)
  refine lv_iload X.1 X.2.1 dX6_open_25 (lv_at hl 6 rfl) ?_
  refine lv_i2l (v := lN (n)) X.1 X.2.1 dX6_open_27 (nI_l (by omega)) ?_
  refine cSv X hW (cg_requireWanted l (n := (n)) (by omega)) (va_cwS 1 X.2.2.2.2 gX6_open_X6_requireWanted rfl rfl rfl (by decide +kernel) ⟨Nat.le_of_ble_eq_true rfl, Nat.le_of_ble_eq_true rfl⟩) rfl rfl hl.1 (Nat.le_of_ble_eq_true rfl) dX6_open_28 ⟨Nat.zero_le _, Nat.zero_le _⟩ (fun H locs hW => ?_)
  refine lv_aload X.1 X.2.1 dX6_open_31 (lv_at hl 1 rfl) ?_
  refine lv_aload X.1 X.2.1 dX6_open_33 (lv_at hl 0 rfl) ?_
  refine lv_iload_n X.1 X.2.1 dX6_open_35 rfl (lv_at hl 5 rfl) ?_
  refine lv_iload X.1 X.2.1 dX6_open_36 (lv_at hl 6 rfl) ?_
  refine cVv X hW (HB.mem (lv_9 (by omega))) (pC_2 (HB.kn (lv_9 (by omega)) rfl)) rfl (ct_openOn l (HB.mem (lv_9 (by omega))) (HB.kn (lv_9 (by omega)) rfl) hsr hf (by omega)) (cwV 3 X.2.2.2.2 gX6_open_X2_openOn rfl rfl rfl (by decide +kernel) ⟨Nat.le_of_ble_eq_true rfl, Nat.le_of_ble_eq_true rfl⟩) rfl rfl hl.1 (Nat.le_of_ble_eq_true rfl) dX6_open_38 ⟨Nat.zero_le _, Nat.zero_le _⟩ (fun H locs hW => ?_)
  refine lv_aload X.1 X.2.1 dX6_open_41 (lv_at hl 1 rfl) ?_
  refine cVi X hW (HB.mem (lv_9 (by omega))) (pC_2 (HB.kn (lv_9 (by omega)) rfl)) rfl (ct_countRest l (ro := ad 3 (T 2 r)) (a := f) (b := f + min n (T 1 (T 2 r) - f)) ⟨HB.mem (lv_9 (by omega)), HB.kn (lv_9 (by omega)) rfl, u2_eq, opI_5, opI_6, by omega, by omega⟩) (cwV 0 X.2.2.2.2 gX6_open_X2_countRest rfl rfl rfl (by decide +kernel) ⟨Nat.le_of_ble_eq_true rfl, Nat.le_of_ble_eq_true rfl⟩) rfl rfl hl.1 (Nat.le_of_ble_eq_true rfl) dX6_open_43 ⟨Nat.zero_le _, Nat.zero_le _⟩ (fun H locs hW => ?_)
  exact hE _ _ _ _ _ (rfl) (fun ty hty => by cases hty; exact rfl) hW dX6_open_46
set_option maxHeartbeats 4000000 in
set_option maxRecDepth 100000 in
theorem co_shut_a (l : Launch) {G : va_G} {kT : Nat → ClassId} {L : List Nat} {K : Nat → Nat} {R : pR} {I : pI} {A : mD} {Q : pR} {N : Nat → Nat} {T : mT} {D : mD} {ad : pD} (HB : Rep T D ad L K R I A Q N) {i : Nat} (hi : i < 3) (h8 : T 8 i ≠ 0) (h2 : T 12 i ≠ 0) : cMi l yX6_shut wsX6_shut ({ frames := 7, cells := 0, slots := 0, locals := 121 } : Room) G kT [.ref (ad 0 0), .int (nI (i))] L K (R) (I) (A) (Q) N (nI 0) (R) (u2 I 9 (ad 9 i) (nI 1)) (A) (Q) := by
  refine csti (cc := cX6_shut) (maxL := 4) (ret := (some .int)) (by decide) rfl ⟨_, rfl⟩ (Nat.le_of_ble_eq_true rfl) (fun p e s m args below meth c Z hE X hW ls hl => ?_)
  have X : CallFix p m c cX6_shut 4 s args wsX6_shut RX6 := X
  have hl : lv_has ls 4 [(0, .ref (ad 0 0)), (1, .int (nI (i)))] := hl
  have hin2 : ∀ w ∈ wsX20, w ∈ wsX6_shut := fun w h => List.mem_cons_of_mem _ (List.mem_append_left _ (List.mem_append_left _ (List.mem_append_left _ (List.mem_append_right _ (h)))))
  have hin6 : ∀ w ∈ wsX60, w ∈ wsX6_shut := fun w h => List.mem_cons_of_mem _ (List.mem_append_left _ (List.mem_append_left _ (List.mem_append_right _ (h))))
  have h81 : T 8 i ≠ 0 := h8
  have hrd := HB.rd hi h81
  have h6 := (HB.rr i hi).2 h81
  have hm9 := HB.mi.rd hi
  refine lv_aload_n X.1 X.2.1 dX6_shut_0 rfl (lv_at hl 0 rfl) ?_
  refine lv_iload_n X.1 X.2.1 dX6_shut_1 rfl (lv_at hl 1 rfl) ?_
  refine cVr X hW (HB.mem lv_0) (pC_6 (HB.kn lv_0 rfl)) rfl (cg_readerAt l HB (r := i) (by omega)) (cwV 1 X.2.2.2.2 gX6_shut_X6_readerAt rfl rfl rfl (by decide +kernel) ⟨Nat.le_of_ble_eq_true rfl, Nat.le_of_ble_eq_true rfl⟩) rfl rfl hl.1 (Nat.le_of_ble_eq_true rfl) dX6_shut_2 ⟨Nat.zero_le _, Nat.zero_le _⟩ (fun H locs hW => ?_)
  refine lv_astore_n (lv' := [(2, .ref (ad 9 i)), (0, .ref (ad 0 0)), (1, .int (nI (i)))]) X.1 X.2.1 dX6_shut_5 rfl hl (by decide) rfl (fun ls hl => ?_)
  refine lv_aload_n X.1 X.2.1 dX6_shut_6 rfl (lv_at hl 0 rfl) ?_
  refine cg_2_isThere X hin2 hW (hrd.1) (hrd.2.1) (h6.1) (X.2.2.2.2 (.fieldLink RX6 143 "Strandbook$SignReader" "isThere" "Z") (List.mem_cons_of_mem _ (List.mem_append_left _ (List.mem_append_left _ (List.mem_append_left _ (List.mem_append_left _ (List.mem_of_getElem? (i := 2) rfl))))))) dX6_shut_7 ?_
  refine n_if_ne_t (tgt := 23) X.1 X.2.1 dX6_shut_10 (by decide) (by decide) (by omega) ?_
  refine lv_aload_n X.1 X.2.1 dX6_shut_23 rfl (lv_at hl 0 rfl) ?_
  refine cg_2_isShut X hin2 hW (hrd.1) (hrd.2.1) (h6.2.2.2.2.2) (X.2.2.2.2 (.fieldLink RX6 152 "Strandbook$SignReader" "isShut" "Z") (List.mem_cons_of_mem _ (List.mem_append_left _ (List.mem_append_left _ (List.mem_append_left _ (List.mem_append_left _ (List.mem_of_getElem? (i := 3) rfl))))))) dX6_shut_24 ?_
  refine n_if_eq_f (tgt := 34) X.1 X.2.1 dX6_shut_27 (by decide) (h2) (by omega) ?_
  refine lv_iconst (v := nI 0) X.1 X.2.1 dX6_shut_30 (by decide) ?_
  refine lv_goto (tgt := 38) X.1 X.2.1 dX6_shut_31 (by decide) ?_
  refine lv_istore_n (lv' := [(3, .int (nI (0))), (2, .ref (ad 9 i)), (0, .ref (ad 0 0)), (1, .int (nI (i)))]) X.1 X.2.1 dX6_shut_38 rfl hl (by decide) rfl (fun ls hl => ?_)
  refine lv_aload_n X.1 X.2.1 dX6_shut_39 rfl (lv_at hl 1 rfl) ?_
  refine lv_iconst (v := nI 1) X.1 X.2.1 dX6_shut_40 (by decide) ?_
  refine cp_2_isShut X hin2 hW rfl rfl (hrd.1) (hrd.2.1) (X.2.2.2.2 (.fieldLink RX6 152 "Strandbook$SignReader" "isShut" "Z") (List.mem_cons_of_mem _ (List.mem_append_left _ (List.mem_append_left _ (List.mem_append_left _ (List.mem_append_left _ (List.mem_of_getElem? (i := 3) rfl))))))) dX6_shut_41 (fun H locs hW => ?_)
  refine lv_iload_n X.1 X.2.1 dX6_shut_44 rfl (lv_at hl 0 rfl) ?_
  exact hE _ _ _ _ _ (rfl) (fun ty hty => by cases hty; exact rfl) hW dX6_shut_45
set_option maxHeartbeats 4000000 in
set_option maxRecDepth 100000 in
theorem co_shut_b (l : Launch) {G : va_G} {kT : Nat → ClassId} {L : List Nat} {K : Nat → Nat} {R : pR} {I : pI} {A : mD} {Q : pR} {N : Nat → Nat} {T : mT} {D : mD} {ad : pD} (HB : Rep T D ad L K R I A Q N) {i : Nat} (hi : i < 3) (h8 : T 8 i ≠ 0) (h2 : T 12 i = 0) : cMi l yX6_shut wsX6_shut ({ frames := 7, cells := 0, slots := 0, locals := 121 } : Room) G kT [.ref (ad 0 0), .int (nI (i))] L K (R) (I) (A) (Q) N (nI (T 10 i - T 9 i)) (R) (u2 I 9 (ad 9 i) (nI 1)) (A) (Q) := by
  refine csti (cc := cX6_shut) (maxL := 4) (ret := (some .int)) (by decide) rfl ⟨_, rfl⟩ (Nat.le_of_ble_eq_true rfl) (fun p e s m args below meth c Z hE X hW ls hl => ?_)
  have X : CallFix p m c cX6_shut 4 s args wsX6_shut RX6 := X
  have hl : lv_has ls 4 [(0, .ref (ad 0 0)), (1, .int (nI (i)))] := hl
  have hin2 : ∀ w ∈ wsX20, w ∈ wsX6_shut := fun w h => List.mem_cons_of_mem _ (List.mem_append_left _ (List.mem_append_left _ (List.mem_append_left _ (List.mem_append_right _ (h)))))
  have hin6 : ∀ w ∈ wsX60, w ∈ wsX6_shut := fun w h => List.mem_cons_of_mem _ (List.mem_append_left _ (List.mem_append_left _ (List.mem_append_right _ (h))))
  have h81 : T 8 i ≠ 0 := h8
  have hrd := HB.rd hi h81
  have h6 := (HB.rr i hi).2 h81
  have hm9 := HB.mi.rd hi
  refine lv_aload_n X.1 X.2.1 dX6_shut_0 rfl (lv_at hl 0 rfl) ?_
  refine lv_iload_n X.1 X.2.1 dX6_shut_1 rfl (lv_at hl 1 rfl) ?_
  refine cVr X hW (HB.mem lv_0) (pC_6 (HB.kn lv_0 rfl)) rfl (cg_readerAt l HB (r := i) (by omega)) (cwV 1 X.2.2.2.2 gX6_shut_X6_readerAt rfl rfl rfl (by decide +kernel) ⟨Nat.le_of_ble_eq_true rfl, Nat.le_of_ble_eq_true rfl⟩) rfl rfl hl.1 (Nat.le_of_ble_eq_true rfl) dX6_shut_2 ⟨Nat.zero_le _, Nat.zero_le _⟩ (fun H locs hW => ?_)
  refine lv_astore_n (lv' := [(2, .ref (ad 9 i)), (0, .ref (ad 0 0)), (1, .int (nI (i)))]) X.1 X.2.1 dX6_shut_5 rfl hl (by decide) rfl (fun ls hl => ?_)
  refine lv_aload_n X.1 X.2.1 dX6_shut_6 rfl (lv_at hl 0 rfl) ?_
  refine cg_2_isThere X hin2 hW (hrd.1) (hrd.2.1) (h6.1) (X.2.2.2.2 (.fieldLink RX6 143 "Strandbook$SignReader" "isThere" "Z") (List.mem_cons_of_mem _ (List.mem_append_left _ (List.mem_append_left _ (List.mem_append_left _ (List.mem_append_left _ (List.mem_of_getElem? (i := 2) rfl))))))) dX6_shut_7 ?_
  refine n_if_ne_t (tgt := 23) X.1 X.2.1 dX6_shut_10 (by decide) (by decide) (by omega) ?_
  refine lv_aload_n X.1 X.2.1 dX6_shut_23 rfl (lv_at hl 0 rfl) ?_
  refine cg_2_isShut X hin2 hW (hrd.1) (hrd.2.1) (h6.2.2.2.2.2) (X.2.2.2.2 (.fieldLink RX6 152 "Strandbook$SignReader" "isShut" "Z") (List.mem_cons_of_mem _ (List.mem_append_left _ (List.mem_append_left _ (List.mem_append_left _ (List.mem_append_left _ (List.mem_of_getElem? (i := 3) rfl))))))) dX6_shut_24 ?_
  refine n_if_eq_t (tgt := 34) X.1 X.2.1 dX6_shut_27 (by decide) (h2) (by omega) ?_
  refine lv_aload_n X.1 X.2.1 dX6_shut_34 rfl (lv_at hl 0 rfl) ?_
  refine cVi X hW (hrd.1) (pC_2 (hrd.2.1)) rfl (ct_countRest l hrd) (cwV 0 X.2.2.2.2 gX6_shut_X2_countRest rfl rfl rfl (by decide +kernel) ⟨Nat.le_of_ble_eq_true rfl, Nat.le_of_ble_eq_true rfl⟩) rfl rfl hl.1 (Nat.le_of_ble_eq_true rfl) dX6_shut_35 ⟨Nat.zero_le _, Nat.zero_le _⟩ (fun H locs hW => ?_)
  refine lv_istore_n (lv' := [(3, .int (nI (T 10 i - T 9 i))), (2, .ref (ad 9 i)), (0, .ref (ad 0 0)), (1, .int (nI (i)))]) X.1 X.2.1 dX6_shut_38 rfl hl (by decide) rfl (fun ls hl => ?_)
  refine lv_aload_n X.1 X.2.1 dX6_shut_39 rfl (lv_at hl 1 rfl) ?_
  refine lv_iconst (v := nI 1) X.1 X.2.1 dX6_shut_40 (by decide) ?_
  refine cp_2_isShut X hin2 hW rfl rfl (hrd.1) (hrd.2.1) (X.2.2.2.2 (.fieldLink RX6 152 "Strandbook$SignReader" "isShut" "Z") (List.mem_cons_of_mem _ (List.mem_append_left _ (List.mem_append_left _ (List.mem_append_left _ (List.mem_append_left _ (List.mem_of_getElem? (i := 3) rfl))))))) dX6_shut_41 (fun H locs hW => ?_)
  refine lv_iload_n X.1 X.2.1 dX6_shut_44 rfl (lv_at hl 0 rfl) ?_
  exact hE _ _ _ _ _ (rfl) (fun ty hty => by cases hty; exact rfl) hW dX6_shut_45
set_option maxHeartbeats 4000000 in
set_option maxRecDepth 100000 in
theorem co_read_e (l : Launch) {G : va_G} {kT : Nat → ClassId} {L : List Nat} {K : Nat → Nat} {R : pR} {I : pI} {A : mD} {Q : pR} {N : Nat → Nat} {T : mT} {D : mD} {ad : pD} (HB : Rep T D ad L K R I A Q N) {i : Nat} (hi : i < 3) (h8 : ¬ clo T i) (h : T 9 i = T 10 i) : cMi l yX6_read wsX6_read ({ frames := 8, cells := 0, slots := 0, locals := 143 } : Room) G kT [.ref (ad 0 0), .int (nI (i))] L K (R) (I) (A) (Q) N (-1) (R) (I) (A) (Q) := by
  refine csti (cc := cX6_read) (maxL := 2) (ret := (some .int)) (by decide) rfl ⟨_, rfl⟩ (Nat.le_of_ble_eq_true rfl) (fun p e s m args below meth c Z hE X hW ls hl => ?_)
  have X : CallFix p m c cX6_read 2 s args wsX6_read RX6 := X
  have hl : lv_has ls 2 [(0, .ref (ad 0 0)), (1, .int (nI (i)))] := hl
  have hin2 : ∀ w ∈ wsX20, w ∈ wsX6_read := fun w h => List.mem_cons_of_mem _ (List.mem_append_left _ (List.mem_append_left _ (List.mem_append_left _ (List.mem_append_left _ (List.mem_append_left _ (List.mem_append_right _ (h)))))))
  have hin3 : ∀ w ∈ wsX30, w ∈ wsX6_read := fun w h => List.mem_cons_of_mem _ (List.mem_append_left _ (List.mem_append_left _ (List.mem_append_left _ (List.mem_append_right _ (h)))))
  have hin6 : ∀ w ∈ wsX60, w ∈ wsX6_read := fun w h => List.mem_cons_of_mem _ (List.mem_append_left _ (List.mem_append_left _ (List.mem_append_left _ (List.mem_append_left _ (List.mem_append_right _ (h))))))
  have h81 : T 8 i ≠ 0 := fun z => h8 (Or.inl z)
  have h12 : T 12 i = 0 := Decidable.not_not.mp (fun z => h8 (Or.inr z))
  have hrd := HB.rd hi h81
  have h6 := (HB.rr i hi).2 h81
  have hm9 := HB.mi.rd hi
  refine lv_aload_n X.1 X.2.1 dX6_read_0 rfl (lv_at hl 0 rfl) ?_
  refine lv_iload_n X.1 X.2.1 dX6_read_1 rfl (lv_at hl 1 rfl) ?_
  refine cVr X hW (HB.mem lv_0) (pC_6 (HB.kn lv_0 rfl)) rfl (cg_openReaderAt l HB (i := i) hi h8) (cwV 1 X.2.2.2.2 gX6_read_X6_openReaderAt rfl rfl rfl (by decide +kernel) ⟨Nat.le_of_ble_eq_true rfl, Nat.le_of_ble_eq_true rfl⟩) rfl rfl hl.1 (Nat.le_of_ble_eq_true rfl) dX6_read_2 ⟨Nat.zero_le _, Nat.zero_le _⟩ (fun H locs hW => ?_)
  refine cVi X hW (hrd.1) (pC_2 (hrd.2.1)) rfl (ct_readOne_e l hrd h) (cwV 0 X.2.2.2.2 gX6_read_X2_readOne rfl rfl rfl (by decide +kernel) ⟨Nat.le_of_ble_eq_true rfl, Nat.le_of_ble_eq_true rfl⟩) rfl rfl hl.1 (Nat.le_of_ble_eq_true rfl) dX6_read_5 ⟨Nat.zero_le _, Nat.zero_le _⟩ (fun H locs hW => ?_)
  exact hE _ _ _ _ _ (rfl) (fun ty hty => by cases hty; exact rfl) hW dX6_read_8
set_option maxHeartbeats 4000000 in
set_option maxRecDepth 100000 in
theorem co_read (l : Launch) {G : va_G} {kT : Nat → ClassId} {L : List Nat} {K : Nat → Nat} {R : pR} {I : pI} {A : mD} {Q : pR} {N : Nat → Nat} {T : mT} {D : mD} {ad : pD} (HB : Rep T D ad L K R I A Q N) {i : Nat} (hi : i < 3) (h8 : ¬ clo T i) (h : ¬ T 9 i = T 10 i) : cMi l yX6_read wsX6_read ({ frames := 8, cells := 0, slots := 0, locals := 143 } : Room) G kT [.ref (ad 0 0), .int (nI (i))] L K (R) (I) (A) (Q) N (D 0 (256 * (T 8 i - 1) + T 9 i)) (R) (u2 I 5 (ad 9 i) (nI (T 9 i + 1))) (A) (Q) := by
  refine csti (cc := cX6_read) (maxL := 2) (ret := (some .int)) (by decide) rfl ⟨_, rfl⟩ (Nat.le_of_ble_eq_true rfl) (fun p e s m args below meth c Z hE X hW ls hl => ?_)
  have X : CallFix p m c cX6_read 2 s args wsX6_read RX6 := X
  have hl : lv_has ls 2 [(0, .ref (ad 0 0)), (1, .int (nI (i)))] := hl
  have hin2 : ∀ w ∈ wsX20, w ∈ wsX6_read := fun w h => List.mem_cons_of_mem _ (List.mem_append_left _ (List.mem_append_left _ (List.mem_append_left _ (List.mem_append_left _ (List.mem_append_left _ (List.mem_append_right _ (h)))))))
  have hin3 : ∀ w ∈ wsX30, w ∈ wsX6_read := fun w h => List.mem_cons_of_mem _ (List.mem_append_left _ (List.mem_append_left _ (List.mem_append_left _ (List.mem_append_right _ (h)))))
  have hin6 : ∀ w ∈ wsX60, w ∈ wsX6_read := fun w h => List.mem_cons_of_mem _ (List.mem_append_left _ (List.mem_append_left _ (List.mem_append_left _ (List.mem_append_left _ (List.mem_append_right _ (h))))))
  have h81 : T 8 i ≠ 0 := fun z => h8 (Or.inl z)
  have h12 : T 12 i = 0 := Decidable.not_not.mp (fun z => h8 (Or.inr z))
  have hrd := HB.rd hi h81
  have h6 := (HB.rr i hi).2 h81
  have hm9 := HB.mi.rd hi
  have hu := uS_rd hi h81
  have hsr := HB.sr hu
  have hle : T 10 i ≤ T 1 (T 8 i - 1) := hm9.2.2.2.2.2 h81
  have hl9 := hsr.2.2.2.2.2.2
  refine lv_aload_n X.1 X.2.1 dX6_read_0 rfl (lv_at hl 0 rfl) ?_
  refine lv_iload_n X.1 X.2.1 dX6_read_1 rfl (lv_at hl 1 rfl) ?_
  refine cVr X hW (HB.mem lv_0) (pC_6 (HB.kn lv_0 rfl)) rfl (cg_openReaderAt l HB (i := i) hi h8) (cwV 1 X.2.2.2.2 gX6_read_X6_openReaderAt rfl rfl rfl (by decide +kernel) ⟨Nat.le_of_ble_eq_true rfl, Nat.le_of_ble_eq_true rfl⟩) rfl rfl hl.1 (Nat.le_of_ble_eq_true rfl) dX6_read_2 ⟨Nat.zero_le _, Nat.zero_le _⟩ (fun H locs hW => ?_)
  refine cVi X hW (hrd.1) (pC_2 (hrd.2.1)) rfl (ct_readOne l hrd hsr hle (by omega)) (cwV 0 X.2.2.2.2 gX6_read_X2_readOne rfl rfl rfl (by decide +kernel) ⟨Nat.le_of_ble_eq_true rfl, Nat.le_of_ble_eq_true rfl⟩) rfl rfl hl.1 (Nat.le_of_ble_eq_true rfl) dX6_read_5 ⟨Nat.zero_le _, Nat.zero_le _⟩ (fun H locs hW => ?_)
  exact hE _ _ _ _ _ (HB.sA hu (by omega)) (fun ty hty => by cases hty; exact rfl) hW dX6_read_8
set_option maxHeartbeats 4000000 in
set_option maxRecDepth 100000 in
theorem co_skip (l : Launch) {G : va_G} {kT : Nat → ClassId} {L : List Nat} {K : Nat → Nat} {R : pR} {I : pI} {A : mD} {Q : pR} {N : Nat → Nat} {T : mT} {D : mD} {ad : pD} (HB : Rep T D ad L K R I A Q N) {i : Nat} {lm : Int64} (hi : i < 3) (h8 : ¬ clo T i) : cMl l yX6_skip wsX6_skip ({ frames := 8, cells := 0, slots := 0, locals := 143 } : Room) G kT [.ref (ad 0 0), .int (nI (i)), .long (lm)] L K (R) (I) (A) (Q) N (lN (skN lm (T 10 i - T 9 i))) (R) (u2 I 5 (ad 9 i) (nI (T 9 i + skN lm (T 10 i - T 9 i)))) (A) (Q) := by
  refine cstl (cc := cX6_skip) (maxL := 4) (ret := (some .long)) (by decide) rfl rfl (Nat.le_of_ble_eq_true rfl) (fun p e s m args below meth c Z hE X hW ls hl => ?_)
  have X : CallFix p m c cX6_skip 4 s args wsX6_skip RX6 := X
  have hl : lv_has ls 4 [(0, .ref (ad 0 0)), (1, .int (nI (i))), (2, .long (lm))] := hl
  have hin2 : ∀ w ∈ wsX20, w ∈ wsX6_skip := fun w h => List.mem_cons_of_mem _ (List.mem_append_left _ (List.mem_append_left _ (List.mem_append_left _ (List.mem_append_right _ (h)))))
  have hin6 : ∀ w ∈ wsX60, w ∈ wsX6_skip := fun w h => List.mem_cons_of_mem _ (List.mem_append_left _ (List.mem_append_left _ (List.mem_append_right _ (h))))
  have h81 : T 8 i ≠ 0 := fun z => h8 (Or.inl z)
  have h12 : T 12 i = 0 := Decidable.not_not.mp (fun z => h8 (Or.inr z))
  have hrd := HB.rd hi h81
  have h6 := (HB.rr i hi).2 h81
  have hm9 := HB.mi.rd hi
  refine lv_aload_n X.1 X.2.1 dX6_skip_0 rfl (lv_at hl 0 rfl) ?_
  refine lv_iload_n X.1 X.2.1 dX6_skip_1 rfl (lv_at hl 1 rfl) ?_
  refine cVr X hW (HB.mem lv_0) (pC_6 (HB.kn lv_0 rfl)) rfl (cg_openReaderAt l HB (i := i) hi h8) (cwV 1 X.2.2.2.2 gX6_skip_X6_openReaderAt rfl rfl rfl (by decide +kernel) ⟨Nat.le_of_ble_eq_true rfl, Nat.le_of_ble_eq_true rfl⟩) rfl rfl hl.1 (Nat.le_of_ble_eq_true rfl) dX6_skip_2 ⟨Nat.zero_le _, Nat.zero_le _⟩ (fun H locs hW => ?_)
  refine lv_lload_n X.1 X.2.1 dX6_skip_5 rfl (lv_at hl 2 rfl) ?_
  refine cVl X hW (hrd.1) (pC_2 (hrd.2.1)) rfl (ct_skipSome l (lm := lm) hrd) (cwV 1 X.2.2.2.2 gX6_skip_X2_skipSome rfl rfl rfl (by decide +kernel) ⟨Nat.le_of_ble_eq_true rfl, Nat.le_of_ble_eq_true rfl⟩) rfl rfl hl.1 (Nat.le_of_ble_eq_true rfl) dX6_skip_6 ⟨Nat.zero_le _, Nat.zero_le _⟩ (fun H locs hW => ?_)
  exact hE _ _ _ _ _ (rfl) hW dX6_skip_9
set_option maxHeartbeats 4000000 in
set_option maxRecDepth 100000 in
theorem co_mark (l : Launch) {G : va_G} {kT : Nat → ClassId} {L : List Nat} {K : Nat → Nat} {R : pR} {I : pI} {A : mD} {Q : pR} {N : Nat → Nat} {T : mT} {D : mD} {ad : pD} (HB : Rep T D ad L K R I A Q N) {i : Nat} {lm : Int32} (hi : i < 3) (hm : ¬ lm < 0) (h8 : ¬ clo T i) : cMi l yX6_mark wsX6_mark ({ frames := 8, cells := 0, slots := 0, locals := 143 } : Room) G kT [.ref (ad 0 0), .int (nI (i)), .int (lm)] L K (R) (I) (A) (Q) N (nI (T 10 i - T 9 i)) (R) (u2 I 7 (ad 9 i) (nI (T 9 i))) (A) (Q) := by
  refine csti (cc := cX6_mark) (maxL := 4) (ret := (some .int)) (by decide) rfl ⟨_, rfl⟩ (Nat.le_of_ble_eq_true rfl) (fun p e s m args below meth c Z hE X hW ls hl => ?_)
  have X : CallFix p m c cX6_mark 4 s args wsX6_mark RX6 := X
  have hl : lv_has ls 4 [(0, .ref (ad 0 0)), (1, .int (nI (i))), (2, .int (lm))] := hl
  have hin2 : ∀ w ∈ wsX20, w ∈ wsX6_mark := fun w h => List.mem_cons_of_mem _ (List.mem_append_left _ (List.mem_append_left _ (List.mem_append_left _ (List.mem_append_left _ (List.mem_append_right _ (h))))))
  have hin6 : ∀ w ∈ wsX60, w ∈ wsX6_mark := fun w h => List.mem_cons_of_mem _ (List.mem_append_left _ (List.mem_append_left _ (List.mem_append_left _ (List.mem_append_right _ (h)))))
  have h81 : T 8 i ≠ 0 := fun z => h8 (Or.inl z)
  have h12 : T 12 i = 0 := Decidable.not_not.mp (fun z => h8 (Or.inr z))
  have hrd := HB.rd hi h81
  have h6 := (HB.rr i hi).2 h81
  have hm9 := HB.mi.rd hi
  refine lv_aload_n X.1 X.2.1 dX6_mark_0 rfl (lv_at hl 0 rfl) ?_
  refine lv_iload_n X.1 X.2.1 dX6_mark_1 rfl (lv_at hl 1 rfl) ?_
  refine cVr X hW (HB.mem lv_0) (pC_6 (HB.kn lv_0 rfl)) rfl (cg_readerAt l HB (r := i) (by omega)) (cwV 1 X.2.2.2.2 gX6_mark_X6_readerAt rfl rfl rfl (by decide +kernel) ⟨Nat.le_of_ble_eq_true rfl, Nat.le_of_ble_eq_true rfl⟩) rfl rfl hl.1 (Nat.le_of_ble_eq_true rfl) dX6_mark_2 ⟨Nat.zero_le _, Nat.zero_le _⟩ (fun H locs hW => ?_)
  refine lv_pop X.1 X.2.1 dX6_mark_5 rfl ?_
  refine lv_iload_n X.1 X.2.1 dX6_mark_6 rfl (lv_at hl 2 rfl) ?_
  refine x_if_ge_t (tgt := 20) X.1 X.2.1 dX6_mark_7 (by decide) (Int32.not_lt.mp hm) ?_
  refine lv_aload_n X.1 X.2.1 dX6_mark_20 rfl (lv_at hl 0 rfl) ?_
  refine lv_iload_n X.1 X.2.1 dX6_mark_21 rfl (lv_at hl 1 rfl) ?_
  refine cVr X hW (HB.mem lv_0) (pC_6 (HB.kn lv_0 rfl)) rfl (cg_openReaderAt l HB (i := i) hi h8) (cwV 1 X.2.2.2.2 gX6_mark_X6_openReaderAt rfl rfl rfl (by decide +kernel) ⟨Nat.le_of_ble_eq_true rfl, Nat.le_of_ble_eq_true rfl⟩) rfl rfl hl.1 (Nat.le_of_ble_eq_true rfl) dX6_mark_22 ⟨Nat.zero_le _, Nat.zero_le _⟩ (fun H locs hW => ?_)
  refine lv_astore_n (lv' := [(3, .ref (ad 9 i)), (0, .ref (ad 0 0)), (1, .int (nI (i))), (2, .int (lm))]) X.1 X.2.1 dX6_mark_25 rfl hl (by decide) rfl (fun ls hl => ?_)
  refine lv_aload_n X.1 X.2.1 dX6_mark_26 rfl (lv_at hl 0 rfl) ?_
  refine lv_aload_n X.1 X.2.1 dX6_mark_27 rfl (lv_at hl 0 rfl) ?_
  refine cg_2_place X hin2 hW (hrd.1) (hrd.2.1) (hrd.2.2.2.1) (X.2.2.2.2 (.fieldLink RX6 183 "Strandbook$SignReader" "place" "I") (List.mem_cons_of_mem _ (List.mem_append_left _ (List.mem_append_left _ (List.mem_append_left _ (List.mem_append_left _ (List.mem_append_left _ (List.mem_append_left _ (List.mem_of_getElem? (i := 2) rfl))))))))) dX6_mark_28 ?_
  refine cp_2_marked X hin2 hW (hrd.1) (hrd.2.1) (X.2.2.2.2 (.fieldLink RX6 186 "Strandbook$SignReader" "marked" "I") (List.mem_cons_of_mem _ (List.mem_append_left _ (List.mem_append_left _ (List.mem_append_left _ (List.mem_append_left _ (List.mem_append_left _ (List.mem_append_left _ (List.mem_of_getElem? (i := 3) rfl))))))))) dX6_mark_31 (fun H locs hW => ?_)
  refine lv_aload_n X.1 X.2.1 dX6_mark_34 rfl (lv_at hl 0 rfl) ?_
  refine cVi X hW (hrd.1) (pC_2 (hrd.2.1)) rfl (ct_countRest l ⟨hrd.1, hrd.2.1, hrd.2.2.1, (congrFun (u2_ne (by decide)) _).trans hrd.2.2.2.1, (congrFun (u2_ne (by decide)) _).trans hrd.2.2.2.2.1, hrd.2.2.2.2.2.1, hrd.2.2.2.2.2.2⟩) (cwV 0 X.2.2.2.2 gX6_mark_X2_countRest rfl rfl rfl (by decide +kernel) ⟨Nat.le_of_ble_eq_true rfl, Nat.le_of_ble_eq_true rfl⟩) rfl rfl hl.1 (Nat.le_of_ble_eq_true rfl) dX6_mark_35 ⟨Nat.zero_le _, Nat.zero_le _⟩ (fun H locs hW => ?_)
  exact hE _ _ _ _ _ (rfl) (fun ty hty => by cases hty; exact rfl) hW dX6_mark_38
set_option maxHeartbeats 4000000 in
set_option maxRecDepth 100000 in
theorem co_back (l : Launch) {G : va_G} {kT : Nat → ClassId} {L : List Nat} {K : Nat → Nat} {R : pR} {I : pI} {A : mD} {Q : pR} {N : Nat → Nat} {T : mT} {D : mD} {ad : pD} (HB : Rep T D ad L K R I A Q N) {i : Nat} (hi : i < 3) (h8 : ¬ clo T i) : cMi l yX6_back wsX6_back ({ frames := 8, cells := 0, slots := 0, locals := 143 } : Room) G kT [.ref (ad 0 0), .int (nI (i))] L K (R) (I) (A) (Q) N (nI (T 10 i - T 11 i)) (R) (u2 I 5 (ad 9 i) (nI (T 11 i))) (A) (Q) := by
  refine csti (cc := cX6_back) (maxL := 3) (ret := (some .int)) (by decide) rfl ⟨_, rfl⟩ (Nat.le_of_ble_eq_true rfl) (fun p e s m args below meth c Z hE X hW ls hl => ?_)
  have X : CallFix p m c cX6_back 3 s args wsX6_back RX6 := X
  have hl : lv_has ls 3 [(0, .ref (ad 0 0)), (1, .int (nI (i)))] := hl
  have hin2 : ∀ w ∈ wsX20, w ∈ wsX6_back := fun w h => List.mem_cons_of_mem _ (List.mem_append_left _ (List.mem_append_left _ (List.mem_append_left _ (List.mem_append_right _ (h)))))
  have hin6 : ∀ w ∈ wsX60, w ∈ wsX6_back := fun w h => List.mem_cons_of_mem _ (List.mem_append_left _ (List.mem_append_left _ (List.mem_append_right _ (h))))
  have h81 : T 8 i ≠ 0 := fun z => h8 (Or.inl z)
  have h12 : T 12 i = 0 := Decidable.not_not.mp (fun z => h8 (Or.inr z))
  have hrd := HB.rd hi h81
  have h6 := (HB.rr i hi).2 h81
  have hm9 := HB.mi.rd hi
  refine lv_aload_n X.1 X.2.1 dX6_back_0 rfl (lv_at hl 0 rfl) ?_
  refine lv_iload_n X.1 X.2.1 dX6_back_1 rfl (lv_at hl 1 rfl) ?_
  refine cVr X hW (HB.mem lv_0) (pC_6 (HB.kn lv_0 rfl)) rfl (cg_openReaderAt l HB (i := i) hi h8) (cwV 1 X.2.2.2.2 gX6_back_X6_openReaderAt rfl rfl rfl (by decide +kernel) ⟨Nat.le_of_ble_eq_true rfl, Nat.le_of_ble_eq_true rfl⟩) rfl rfl hl.1 (Nat.le_of_ble_eq_true rfl) dX6_back_2 ⟨Nat.zero_le _, Nat.zero_le _⟩ (fun H locs hW => ?_)
  refine lv_astore_n (lv' := [(2, .ref (ad 9 i)), (0, .ref (ad 0 0)), (1, .int (nI (i)))]) X.1 X.2.1 dX6_back_5 rfl hl (by decide) rfl (fun ls hl => ?_)
  refine lv_aload_n X.1 X.2.1 dX6_back_6 rfl (lv_at hl 0 rfl) ?_
  refine lv_aload_n X.1 X.2.1 dX6_back_7 rfl (lv_at hl 0 rfl) ?_
  refine cg_2_marked X hin2 hW (hrd.1) (hrd.2.1) ((h6.2.2.2.2.1)) (X.2.2.2.2 (.fieldLink RX6 186 "Strandbook$SignReader" "marked" "I") (List.mem_cons_of_mem _ (List.mem_append_left _ (List.mem_append_left _ (List.mem_append_left _ (List.mem_append_left _ (List.mem_append_left _ (List.mem_of_getElem? (i := 0) rfl)))))))) dX6_back_8 ?_
  refine cp_2_place X hin2 hW (hrd.1) (hrd.2.1) (X.2.2.2.2 (.fieldLink RX6 183 "Strandbook$SignReader" "place" "I") (List.mem_cons_of_mem _ (List.mem_append_left _ (List.mem_append_left _ (List.mem_append_left _ (List.mem_append_left _ (List.mem_append_left _ (List.mem_of_getElem? (i := 1) rfl)))))))) dX6_back_11 (fun H locs hW => ?_)
  refine lv_aload_n X.1 X.2.1 dX6_back_14 rfl (lv_at hl 0 rfl) ?_
  refine cVi X hW (hrd.1) (pC_2 (hrd.2.1)) rfl (ct_countRest l (a := T 11 i) ⟨hrd.1, hrd.2.1, hrd.2.2.1, u2_eq, (congrFun (u2_ne (by decide)) _).trans hrd.2.2.2.2.1, hm9.2.2.1, hm9.2.2.2.1⟩) (cwV 0 X.2.2.2.2 gX6_back_X2_countRest rfl rfl rfl (by decide +kernel) ⟨Nat.le_of_ble_eq_true rfl, Nat.le_of_ble_eq_true rfl⟩) rfl rfl hl.1 (Nat.le_of_ble_eq_true rfl) dX6_back_15 ⟨Nat.zero_le _, Nat.zero_le _⟩ (fun H locs hW => ?_)
  exact hE _ _ _ _ _ (rfl) (fun ty hty => by cases hty; exact rfl) hW dX6_back_18
set_option maxHeartbeats 4000000 in
set_option maxRecDepth 100000 in
theorem co_readPart_e (l : Launch) {G : va_G} {kT : Nat → ClassId} {L : List Nat} {K : Nat → Nat} {R : pR} {I : pI} {A : mD} {Q : pR} {N : Nat → Nat} {T : mT} {D : mD} {ad : pD} (HB : Rep T D ad L K R I A Q N) {i r f n : Nat} (hi : i < 3) (hr : r < 4) (hf : f + n ≤ T 1 (T 2 r)) (hn : n ≠ 0) (h8 : ¬ clo T i) (h4 : ¬ T 8 i = T 2 r + 1) (h : T 9 i = T 10 i) : cMi l yX6_readPart wsX6_readPart ({ frames := 8, cells := 0, slots := 0, locals := 143 } : Room) G kT [.ref (ad 0 0), .int (nI (i)), .int (nI (r)), .int (nI (f)), .int (nI (n))] L K (R) (I) (A) (Q) N (-1) (R) (I) (A) (Q) := by
  refine csti (cc := cX6_readPart) (maxL := 7) (ret := (some .int)) (by decide) rfl ⟨_, rfl⟩ (Nat.le_of_ble_eq_true rfl) (fun p e s m args below meth c Z hE X hW ls hl => ?_)
  have X : CallFix p m c cX6_readPart 7 s args wsX6_readPart RX6 := X
  have hl : lv_has ls 7 [(0, .ref (ad 0 0)), (1, .int (nI (i))), (2, .int (nI (r))), (3, .int (nI (f))), (4, .int (nI (n)))] := hl
  have hin2 : ∀ w ∈ wsX20, w ∈ wsX6_readPart := fun w h => List.mem_cons_of_mem _ (List.mem_append_left _ (List.mem_append_left _ (List.mem_append_left _ (List.mem_append_left _ (List.mem_append_left _ (List.mem_append_left _ (List.mem_append_right _ (h))))))))
  have hin3 : ∀ w ∈ wsX30, w ∈ wsX6_readPart := fun w h => List.mem_cons_of_mem _ (List.mem_append_left _ (List.mem_append_left _ (List.mem_append_left _ (List.mem_append_left _ (List.mem_append_left _ (List.mem_append_left _ (List.mem_append_left _ (List.mem_append_right _ (h)))))))))
  have hin6 : ∀ w ∈ wsX60, w ∈ wsX6_readPart := fun w h => List.mem_cons_of_mem _ (List.mem_append_left _ (List.mem_append_left _ (List.mem_append_left _ (List.mem_append_left _ (List.mem_append_left _ (List.mem_append_right _ (h)))))))
  have hu := uS_row (T := T) hr
  have hsr := HB.sr hu
  have hl9 := hsr.2.2.2.2.2.2
  have h81 : T 8 i ≠ 0 := fun z => h8 (Or.inl z)
  have h12 : T 12 i = 0 := Decidable.not_not.mp (fun z => h8 (Or.inr z))
  have hrd := HB.rd hi h81
  have h6 := (HB.rr i hi).2 h81
  have hm9 := HB.mi.rd hi
  have hu2 := uS_rd hi h81
  have hsr2 := HB.sr hu2
  have hle : T 10 i ≤ T 1 (T 8 i - 1) := hm9.2.2.2.2.2 h81
  refine lv_aload_n X.1 X.2.1 dX6_readPart_0 rfl (lv_at hl 0 rfl) ?_
  refine lv_iload_n X.1 X.2.1 dX6_readPart_1 rfl (lv_at hl 1 rfl) ?_
  refine cVr X hW (HB.mem lv_0) (pC_6 (HB.kn lv_0 rfl)) rfl (cg_readerAt l HB (r := i) (by omega)) (cwV 1 X.2.2.2.2 gX6_readPart_X6_readerAt rfl rfl rfl (by decide +kernel) ⟨Nat.le_of_ble_eq_true rfl, Nat.le_of_ble_eq_true rfl⟩) rfl rfl hl.1 (Nat.le_of_ble_eq_true rfl) dX6_readPart_2 ⟨Nat.zero_le _, Nat.zero_le _⟩ (fun H locs hW => ?_)
  refine lv_pop X.1 X.2.1 dX6_readPart_5 rfl ?_
  refine lv_aload_n X.1 X.2.1 dX6_readPart_6 rfl (lv_at hl 0 rfl) ?_
  refine lv_iload_n X.1 X.2.1 dX6_readPart_7 rfl (lv_at hl 2 rfl) ?_
  refine cVr X hW (HB.mem lv_0) (pC_6 (HB.kn lv_0 rfl)) rfl (cg_signRowAt l HB (r := r) (by omega)) (cwV 1 X.2.2.2.2 gX6_readPart_X6_signRowAt rfl rfl rfl (by decide +kernel) ⟨Nat.le_of_ble_eq_true rfl, Nat.le_of_ble_eq_true rfl⟩) rfl rfl hl.1 (Nat.le_of_ble_eq_true rfl) dX6_readPart_8 ⟨Nat.zero_le _, Nat.zero_le _⟩ (fun H locs hW => ?_)
  refine lv_astore (lv' := [(5, .ref (ad 3 (T 2 r))), (0, .ref (ad 0 0)), (1, .int (nI (i))), (2, .int (nI (r))), (3, .int (nI (f))), (4, .int (nI (n)))]) X.1 X.2.1 dX6_readPart_11 hl (by decide) rfl (fun ls hl => ?_)
  refine lv_iload_n X.1 X.2.1 dX6_readPart_13 rfl (lv_at hl 4 rfl) ?_
  refine lv_iload X.1 X.2.1 dX6_readPart_14 (lv_at hl 5 rfl) ?_
  refine lv_aload X.1 X.2.1 dX6_readPart_16 (lv_at hl 0 rfl) ?_
  refine cg_3_signs X hin3 hW (hsr.1) (hsr.2.1) (hsr.2.2.1) (X.2.2.2.2 (.fieldLink RX6 60 "Strandbook$SignRow" "signs" "[C") (List.mem_cons_of_mem _ (List.mem_append_left _ (List.mem_append_left _ (List.mem_append_left _ (List.mem_append_left _ (List.mem_append_left _ (List.mem_append_left _ (List.mem_append_left _ (List.mem_append_left _ (List.mem_append_left _ (List.mem_of_getElem? (i := 2) rfl)))))))))))) dX6_readPart_18 ?_
  refine cln_8 X hW (hsr.2.2.2.1) (hsr.2.2.2.2.1) (hsr.2.2.2.2.2.1) dX6_readPart_21 ?_
  refine cSv X hW (cg_requirePlaces l (f := f) (j := n) (n := T 1 (T 2 r)) (by omega) (by omega)) (va_cwS 3 X.2.2.2.2 gX6_readPart_X6_requirePlaces rfl rfl rfl (by decide +kernel) ⟨Nat.le_of_ble_eq_true rfl, Nat.le_of_ble_eq_true rfl⟩) rfl rfl hl.1 (Nat.le_of_ble_eq_true rfl) dX6_readPart_22 ⟨Nat.zero_le _, Nat.zero_le _⟩ (fun H locs hW => ?_)
  refine lv_iload X.1 X.2.1 dX6_readPart_25 (lv_at hl 5 rfl) ?_
  refine cSv X hW (cg_requireSome l (n := n) (by omega) (by omega)) (va_cwS 1 X.2.2.2.2 gX6_readPart_X6_requireSome rfl rfl rfl (by decide +kernel) ⟨Nat.le_of_ble_eq_true rfl, Nat.le_of_ble_eq_true rfl⟩) rfl rfl hl.1 (Nat.le_of_ble_eq_true rfl) dX6_readPart_27 ⟨Nat.zero_le _, Nat.zero_le _⟩ (fun H locs hW => ?_)
  refine lv_aload_n X.1 X.2.1 dX6_readPart_30 rfl (lv_at hl 1 rfl) ?_
  refine lv_iload_n X.1 X.2.1 dX6_readPart_31 rfl (lv_at hl 2 rfl) ?_
  refine cVr X hW (HB.mem lv_0) (pC_6 (HB.kn lv_0 rfl)) rfl (cg_openReaderAt l HB (i := i) hi h8) (cwV 1 X.2.2.2.2 gX6_readPart_X6_openReaderAt rfl rfl rfl (by decide +kernel) ⟨Nat.le_of_ble_eq_true rfl, Nat.le_of_ble_eq_true rfl⟩) rfl rfl hl.1 (Nat.le_of_ble_eq_true rfl) dX6_readPart_32 ⟨Nat.zero_le _, Nat.zero_le _⟩ (fun H locs hW => ?_)
  refine lv_astore (lv' := [(6, .ref (ad 9 i)), (5, .ref (ad 3 (T 2 r))), (0, .ref (ad 0 0)), (1, .int (nI (i))), (2, .int (nI (r))), (3, .int (nI (f))), (4, .int (nI (n)))]) X.1 X.2.1 dX6_readPart_35 hl (by decide) rfl (fun ls hl => ?_)
  refine lv_aload X.1 X.2.1 dX6_readPart_37 (lv_at hl 0 rfl) ?_
  refine cg_2_row X hin2 hW (hrd.1) (hrd.2.1) (hrd.2.2.1) (X.2.2.2.2 (.fieldLink RX6 164 "Strandbook$SignReader" "row" "LStrandbook$SignRow;") (List.mem_cons_of_mem _ (List.mem_append_left _ (List.mem_append_left _ (List.mem_append_left _ (List.mem_append_left _ (List.mem_append_left _ (List.mem_append_left _ (List.mem_append_left _ (List.mem_append_left _ (List.mem_append_left _ (List.mem_of_getElem? (i := 3) rfl)))))))))))) dX6_readPart_39 ?_
  refine lv_aload X.1 X.2.1 dX6_readPart_42 (lv_at hl 1 rfl) ?_
  refine r_acmp_ne_t (tgt := 57) X.1 X.2.1 dX6_readPart_44 (by decide) (HB.ne (lv_3 hu2) (lv_3 hu) (Or.inr (by omega))) ?_
  refine lv_aload X.1 X.2.1 dX6_readPart_57 (lv_at hl 0 rfl) ?_
  refine lv_aload X.1 X.2.1 dX6_readPart_59 (lv_at hl 1 rfl) ?_
  refine cg_3_signs X hin3 hW (hsr.1) (hsr.2.1) (hsr.2.2.1) (X.2.2.2.2 (.fieldLink RX6 60 "Strandbook$SignRow" "signs" "[C") (List.mem_cons_of_mem _ (List.mem_append_left _ (List.mem_append_left _ (List.mem_append_left _ (List.mem_append_left _ (List.mem_append_left _ (List.mem_append_left _ (List.mem_append_left _ (List.mem_append_left _ (List.mem_append_left _ (List.mem_of_getElem? (i := 2) rfl)))))))))))) dX6_readPart_61 ?_
  refine lv_iload_n X.1 X.2.1 dX6_readPart_64 rfl (lv_at hl 5 rfl) ?_
  refine lv_iload X.1 X.2.1 dX6_readPart_65 (lv_at hl 6 rfl) ?_
  refine cVi X hW (hrd.1) (pC_2 (hrd.2.1)) rfl (ct_readSome_e l (ta := ad 4 (T 2 r)) (f := f) (n := n) hrd h) (cwV 3 X.2.2.2.2 gX6_readPart_X2_readSome rfl rfl rfl (by decide +kernel) ⟨Nat.le_of_ble_eq_true rfl, Nat.le_of_ble_eq_true rfl⟩) rfl rfl hl.1 (Nat.le_of_ble_eq_true rfl) dX6_readPart_67 ⟨Nat.zero_le _, Nat.zero_le _⟩ (fun H locs hW => ?_)
  exact hE _ _ _ _ _ (rfl) (fun ty hty => by cases hty; exact rfl) hW dX6_readPart_70
set_option maxHeartbeats 4000000 in
set_option maxRecDepth 100000 in
theorem co_readPart (l : Launch) {G : va_G} {kT : Nat → ClassId} {L : List Nat} {K : Nat → Nat} {R : pR} {I : pI} {A : mD} {Q : pR} {N : Nat → Nat} {T : mT} {D : mD} {ad : pD} (HB : Rep T D ad L K R I A Q N) {i r f n : Nat} (hi : i < 3) (hr : r < 4) (hf : f + n ≤ T 1 (T 2 r)) (hn : n ≠ 0) (h8 : ¬ clo T i) (h4 : ¬ T 8 i = T 2 r + 1) (h : T 9 i < T 10 i) : cMi l yX6_readPart wsX6_readPart ({ frames := 8, cells := 0, slots := 0, locals := 143 } : Room) G kT [.ref (ad 0 0), .int (nI (i)), .int (nI (r)), .int (nI (f)), .int (nI (n))] L K (R) (I) (A) (Q) N (nI (min n (T 10 i - T 9 i))) (R) (u2 I 5 (ad 9 i) (nI (T 9 i + min n (T 10 i - T 9 i)))) (cpF A (ad 4 (T 2 r)) f (fun j => A (ad 4 (T 8 i - 1)) (T 9 i + j)) (min n (T 10 i - T 9 i))) (Q) := by
  refine csti (cc := cX6_readPart) (maxL := 7) (ret := (some .int)) (by decide) rfl ⟨_, rfl⟩ (Nat.le_of_ble_eq_true rfl) (fun p e s m args below meth c Z hE X hW ls hl => ?_)
  have X : CallFix p m c cX6_readPart 7 s args wsX6_readPart RX6 := X
  have hl : lv_has ls 7 [(0, .ref (ad 0 0)), (1, .int (nI (i))), (2, .int (nI (r))), (3, .int (nI (f))), (4, .int (nI (n)))] := hl
  have hin2 : ∀ w ∈ wsX20, w ∈ wsX6_readPart := fun w h => List.mem_cons_of_mem _ (List.mem_append_left _ (List.mem_append_left _ (List.mem_append_left _ (List.mem_append_left _ (List.mem_append_left _ (List.mem_append_left _ (List.mem_append_right _ (h))))))))
  have hin3 : ∀ w ∈ wsX30, w ∈ wsX6_readPart := fun w h => List.mem_cons_of_mem _ (List.mem_append_left _ (List.mem_append_left _ (List.mem_append_left _ (List.mem_append_left _ (List.mem_append_left _ (List.mem_append_left _ (List.mem_append_left _ (List.mem_append_right _ (h)))))))))
  have hin6 : ∀ w ∈ wsX60, w ∈ wsX6_readPart := fun w h => List.mem_cons_of_mem _ (List.mem_append_left _ (List.mem_append_left _ (List.mem_append_left _ (List.mem_append_left _ (List.mem_append_left _ (List.mem_append_right _ (h)))))))
  have hu := uS_row (T := T) hr
  have hsr := HB.sr hu
  have hl9 := hsr.2.2.2.2.2.2
  have h81 : T 8 i ≠ 0 := fun z => h8 (Or.inl z)
  have h12 : T 12 i = 0 := Decidable.not_not.mp (fun z => h8 (Or.inr z))
  have hrd := HB.rd hi h81
  have h6 := (HB.rr i hi).2 h81
  have hm9 := HB.mi.rd hi
  have hu2 := uS_rd hi h81
  have hsr2 := HB.sr hu2
  have hle : T 10 i ≤ T 1 (T 8 i - 1) := hm9.2.2.2.2.2 h81
  refine lv_aload_n X.1 X.2.1 dX6_readPart_0 rfl (lv_at hl 0 rfl) ?_
  refine lv_iload_n X.1 X.2.1 dX6_readPart_1 rfl (lv_at hl 1 rfl) ?_
  refine cVr X hW (HB.mem lv_0) (pC_6 (HB.kn lv_0 rfl)) rfl (cg_readerAt l HB (r := i) (by omega)) (cwV 1 X.2.2.2.2 gX6_readPart_X6_readerAt rfl rfl rfl (by decide +kernel) ⟨Nat.le_of_ble_eq_true rfl, Nat.le_of_ble_eq_true rfl⟩) rfl rfl hl.1 (Nat.le_of_ble_eq_true rfl) dX6_readPart_2 ⟨Nat.zero_le _, Nat.zero_le _⟩ (fun H locs hW => ?_)
  refine lv_pop X.1 X.2.1 dX6_readPart_5 rfl ?_
  refine lv_aload_n X.1 X.2.1 dX6_readPart_6 rfl (lv_at hl 0 rfl) ?_
  refine lv_iload_n X.1 X.2.1 dX6_readPart_7 rfl (lv_at hl 2 rfl) ?_
  refine cVr X hW (HB.mem lv_0) (pC_6 (HB.kn lv_0 rfl)) rfl (cg_signRowAt l HB (r := r) (by omega)) (cwV 1 X.2.2.2.2 gX6_readPart_X6_signRowAt rfl rfl rfl (by decide +kernel) ⟨Nat.le_of_ble_eq_true rfl, Nat.le_of_ble_eq_true rfl⟩) rfl rfl hl.1 (Nat.le_of_ble_eq_true rfl) dX6_readPart_8 ⟨Nat.zero_le _, Nat.zero_le _⟩ (fun H locs hW => ?_)
  refine lv_astore (lv' := [(5, .ref (ad 3 (T 2 r))), (0, .ref (ad 0 0)), (1, .int (nI (i))), (2, .int (nI (r))), (3, .int (nI (f))), (4, .int (nI (n)))]) X.1 X.2.1 dX6_readPart_11 hl (by decide) rfl (fun ls hl => ?_)
  refine lv_iload_n X.1 X.2.1 dX6_readPart_13 rfl (lv_at hl 4 rfl) ?_
  refine lv_iload X.1 X.2.1 dX6_readPart_14 (lv_at hl 5 rfl) ?_
  refine lv_aload X.1 X.2.1 dX6_readPart_16 (lv_at hl 0 rfl) ?_
  refine cg_3_signs X hin3 hW (hsr.1) (hsr.2.1) (hsr.2.2.1) (X.2.2.2.2 (.fieldLink RX6 60 "Strandbook$SignRow" "signs" "[C") (List.mem_cons_of_mem _ (List.mem_append_left _ (List.mem_append_left _ (List.mem_append_left _ (List.mem_append_left _ (List.mem_append_left _ (List.mem_append_left _ (List.mem_append_left _ (List.mem_append_left _ (List.mem_append_left _ (List.mem_of_getElem? (i := 2) rfl)))))))))))) dX6_readPart_18 ?_
  refine cln_8 X hW (hsr.2.2.2.1) (hsr.2.2.2.2.1) (hsr.2.2.2.2.2.1) dX6_readPart_21 ?_
  refine cSv X hW (cg_requirePlaces l (f := f) (j := n) (n := T 1 (T 2 r)) (by omega) (by omega)) (va_cwS 3 X.2.2.2.2 gX6_readPart_X6_requirePlaces rfl rfl rfl (by decide +kernel) ⟨Nat.le_of_ble_eq_true rfl, Nat.le_of_ble_eq_true rfl⟩) rfl rfl hl.1 (Nat.le_of_ble_eq_true rfl) dX6_readPart_22 ⟨Nat.zero_le _, Nat.zero_le _⟩ (fun H locs hW => ?_)
  refine lv_iload X.1 X.2.1 dX6_readPart_25 (lv_at hl 5 rfl) ?_
  refine cSv X hW (cg_requireSome l (n := n) (by omega) (by omega)) (va_cwS 1 X.2.2.2.2 gX6_readPart_X6_requireSome rfl rfl rfl (by decide +kernel) ⟨Nat.le_of_ble_eq_true rfl, Nat.le_of_ble_eq_true rfl⟩) rfl rfl hl.1 (Nat.le_of_ble_eq_true rfl) dX6_readPart_27 ⟨Nat.zero_le _, Nat.zero_le _⟩ (fun H locs hW => ?_)
  refine lv_aload_n X.1 X.2.1 dX6_readPart_30 rfl (lv_at hl 1 rfl) ?_
  refine lv_iload_n X.1 X.2.1 dX6_readPart_31 rfl (lv_at hl 2 rfl) ?_
  refine cVr X hW (HB.mem lv_0) (pC_6 (HB.kn lv_0 rfl)) rfl (cg_openReaderAt l HB (i := i) hi h8) (cwV 1 X.2.2.2.2 gX6_readPart_X6_openReaderAt rfl rfl rfl (by decide +kernel) ⟨Nat.le_of_ble_eq_true rfl, Nat.le_of_ble_eq_true rfl⟩) rfl rfl hl.1 (Nat.le_of_ble_eq_true rfl) dX6_readPart_32 ⟨Nat.zero_le _, Nat.zero_le _⟩ (fun H locs hW => ?_)
  refine lv_astore (lv' := [(6, .ref (ad 9 i)), (5, .ref (ad 3 (T 2 r))), (0, .ref (ad 0 0)), (1, .int (nI (i))), (2, .int (nI (r))), (3, .int (nI (f))), (4, .int (nI (n)))]) X.1 X.2.1 dX6_readPart_35 hl (by decide) rfl (fun ls hl => ?_)
  refine lv_aload X.1 X.2.1 dX6_readPart_37 (lv_at hl 0 rfl) ?_
  refine cg_2_row X hin2 hW (hrd.1) (hrd.2.1) (hrd.2.2.1) (X.2.2.2.2 (.fieldLink RX6 164 "Strandbook$SignReader" "row" "LStrandbook$SignRow;") (List.mem_cons_of_mem _ (List.mem_append_left _ (List.mem_append_left _ (List.mem_append_left _ (List.mem_append_left _ (List.mem_append_left _ (List.mem_append_left _ (List.mem_append_left _ (List.mem_append_left _ (List.mem_append_left _ (List.mem_of_getElem? (i := 3) rfl)))))))))))) dX6_readPart_39 ?_
  refine lv_aload X.1 X.2.1 dX6_readPart_42 (lv_at hl 1 rfl) ?_
  refine r_acmp_ne_t (tgt := 57) X.1 X.2.1 dX6_readPart_44 (by decide) (HB.ne (lv_3 hu2) (lv_3 hu) (Or.inr (by omega))) ?_
  refine lv_aload X.1 X.2.1 dX6_readPart_57 (lv_at hl 0 rfl) ?_
  refine lv_aload X.1 X.2.1 dX6_readPart_59 (lv_at hl 1 rfl) ?_
  refine cg_3_signs X hin3 hW (hsr.1) (hsr.2.1) (hsr.2.2.1) (X.2.2.2.2 (.fieldLink RX6 60 "Strandbook$SignRow" "signs" "[C") (List.mem_cons_of_mem _ (List.mem_append_left _ (List.mem_append_left _ (List.mem_append_left _ (List.mem_append_left _ (List.mem_append_left _ (List.mem_append_left _ (List.mem_append_left _ (List.mem_append_left _ (List.mem_append_left _ (List.mem_of_getElem? (i := 2) rfl)))))))))))) dX6_readPart_61 ?_
  refine lv_iload_n X.1 X.2.1 dX6_readPart_64 rfl (lv_at hl 5 rfl) ?_
  refine lv_iload X.1 X.2.1 dX6_readPart_65 (lv_at hl 6 rfl) ?_
  refine cVi X hW (hrd.1) (pC_2 (hrd.2.1)) rfl (ct_readSome l hrd hsr2 hle (HB.ca hu) (HB.ne (lv_4 hu2) (lv_4 hu) (Or.inr (by omega))) hf h (fun j hj => HB.sN hu2 (by omega))) (cwV 3 X.2.2.2.2 gX6_readPart_X2_readSome rfl rfl rfl (by decide +kernel) ⟨Nat.le_of_ble_eq_true rfl, Nat.le_of_ble_eq_true rfl⟩) rfl rfl hl.1 (Nat.le_of_ble_eq_true rfl) dX6_readPart_67 ⟨Nat.zero_le _, Nat.zero_le _⟩ (fun H locs hW => ?_)
  exact hE _ _ _ _ _ (rfl) (fun ty hty => by cases hty; exact rfl) hW dX6_readPart_70
