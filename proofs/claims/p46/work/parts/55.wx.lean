set_option maxHeartbeats 4000000 in
set_option maxRecDepth 100000 in
theorem wx_make (l : Launch) (hst : l.stackTraces = false) {G : va_G} {kT : Nat → ClassId} {a0 : Nat} {T : mT} {D : mD} (I : mI T) {r n : Nat} (hr : r < 4) (hn : n < 257) : wL l yL_make wsL_make ({ frames := 8, cells := 2, slots := 260, locals := 144 } : Room) G kT a0 [.ref (a0), .int (nI (r)), .int (nI (n))] T D (((nI (T 1 (T 2 r))) : Int32).toInt64) (beT T r n) (beD T (cpF D 19 0 (fun _ => nI 0) n) n) := by
  refine wstL (cc := cL_make) (maxL := 4) (hh := [(0, 7, 8, 17), (0, 7, 13, 23)]) (by decide) rfl (Nat.le_of_ble_eq_true rfl) (fun ad L K R I A Q N HB h09 p e s m args below meth c Z hE9 X hT hE hW ls hl => ?_)
  subst h09
  have X : CallFix p m c cL_make 4 s args wsL_make RL := X
  have hl : lv_has ls 4 [(0, .ref (ad 0 0)), (1, .int (nI (r))), (2, .int (nI (n)))] := hl
  refine lv_aload_n X.1 X.2.1 dL_make_0 rfl (lv_at hl 0 rfl) ?_
  refine lv_iload_n X.1 X.2.1 dL_make_1 rfl (lv_at hl 1 rfl) ?_
  refine lv_iload_n X.1 X.2.1 dL_make_2 rfl (lv_at hl 2 rfl) ?_
  refine cFN (cs := []) X hW (HB.mem lv_0) (pC_6 (HB.kn lv_0 rfl)) rfl (fun C h => absurd h List.not_mem_nil) (co_make l HB (n := n) hr (by omega)) (cwV 2 X.2.2.2.2 gL_make_X6_make rfl rfl rfl (by decide +kernel) ⟨Nat.le_of_ble_eq_true rfl, Nat.le_of_ble_eq_true rfl⟩) rfl rfl hl.1 (Nat.le_of_ble_eq_true rfl) dL_make_3 ⟨Nat.le_of_ble_eq_true rfl, Nat.le_of_ble_eq_true rfl⟩ (fun L2 K2 R2 I2 A2 Q2 N2 H locs hW hF hsz hk hL2 => ?_)
  obtain ⟨a, b, Q1, A1, hS, rfl, rfl⟩ := hF
  have hna : ∀ k i, lv T k i → ad k i ≠ a := fun k i hl9 z => hS.2.1 (z ▸ HB.mem hl9)
  have hnb : ∀ k i, lv T k i → ad k i ≠ b := fun k i hl9 z => hS.2.2.1 (z ▸ HB.mem hl9)
  have H19 := (HB.mono hS.1).kept19 (d := 0) (n := n) (g := fun _ => nI 0) (fun _ _ => rfl)
  refine lv_i2l (v := (nI (T 1 (T 2 r))).toInt64) X.1 X.2.1 dL_make_6 rfl ?_
  exact hE9 _ _ _ _ _ _ _ (adS ad (fS T) a b) L2 K2 R2 I2 _ _ N2 rfl (show _ ≤ 2 by decide) (show _ ≤ 260 by decide) hW (H19.newS (h := fun k => cpF D 19 0 (fun _ => nI 0) n 19 k) hr hS.2.2.2.2.1 hna hnb hS.2.2.2.1 (fun j hj => by rw [hS.2.2.2.2.2 j, cpF_in (Nat.zero_le _) (by omega)]; rfl) (fun j hj => H19.md.2.2.2 j)) (adS_k (Or.inl ⟨by decide, by decide⟩)) dL_make_7

set_option maxHeartbeats 4000000 in
set_option maxRecDepth 100000 in
theorem wx_put (l : Launch) (hst : l.stackTraces = false) {G : va_G} {kT : Nat → ClassId} {a0 : Nat} {T : mT} {D : mD} (I : mI T) (J : mJD D) {r f : Nat} {x : Int32} (hr : r < 4) (h : f < T 1 (T 2 r)) : wL l yL_put wsL_put ({ frames := 8, cells := 2, slots := 260, locals := 146 } : Room) G kT a0 [.ref (a0), .int (nI (r)), .int (nI (f)), .int (x)] T D (((D 0 (256 * T 2 r + f)) : Int32).toInt64) (T) (u2 D 0 (256 * T 2 r + f) (x &&& nI 255)) := by
  refine wstL (cc := cL_put) (maxL := 5) (hh := [(0, 8, 9, 17)]) (by decide) rfl (Nat.le_of_ble_eq_true rfl) (fun ad L K R I A Q N HB h09 p e s m args below meth c Z hE9 X hT hE hW ls hl => ?_)
  subst h09
  have X : CallFix p m c cL_put 5 s args wsL_put RL := X
  have hl : lv_has ls 5 [(0, .ref (ad 0 0)), (1, .int (nI (r))), (2, .int (nI (f))), (3, .int (x))] := hl
  refine lv_aload_n X.1 X.2.1 dL_put_0 rfl (lv_at hl 0 rfl) ?_
  refine lv_iload_n X.1 X.2.1 dL_put_1 rfl (lv_at hl 1 rfl) ?_
  refine lv_iload_n X.1 X.2.1 dL_put_2 rfl (lv_at hl 2 rfl) ?_
  refine lv_iload_n X.1 X.2.1 dL_put_3 rfl (lv_at hl 3 rfl) ?_
  refine cFi X hW (HB.mem lv_0) (pC_6 (HB.kn lv_0 rfl)) rfl (co_put l HB hr h) (cwV 3 X.2.2.2.2 gL_put_X6_put rfl rfl rfl (by decide +kernel) ⟨Nat.le_of_ble_eq_true rfl, Nat.le_of_ble_eq_true rfl⟩) rfl rfl hl.1 (Nat.le_of_ble_eq_true rfl) dL_put_4 ⟨Nat.le_of_ble_eq_true rfl, Nat.le_of_ble_eq_true rfl⟩ (fun H locs hW hsz hk => ?_)
  refine lv_i2l (v := (D 0 (256 * T 2 r + f)).toInt64) X.1 X.2.1 dL_put_7 rfl ?_
  exact hE9 _ _ _ _ _ _ _ ad L K _ _ _ _ N (rfl) (show _ ≤ 2 by decide) (show _ ≤ 260 by decide) hW (by rw [u2_cp, u2_cp]; exact HB.putS (uS_row hr) (by omega) (fun _ _ => rfl) (fun _ _ => and_255 x)) rfl dL_put_8

set_option maxHeartbeats 4000000 in
set_option maxRecDepth 100000 in
theorem wx_get (l : Launch) (hst : l.stackTraces = false) {G : va_G} {kT : Nat → ClassId} {a0 : Nat} {T : mT} {D : mD} (I : mI T) (J : mJD D) {r f : Nat} (hr : r < 4) (h : f < T 1 (T 2 r)) : wL l yL_get wsL_get ({ frames := 8, cells := 2, slots := 260, locals := 144 } : Room) G kT a0 [.ref (a0), .int (nI (r)), .int (nI (f))] T D (((D 0 (256 * T 2 r + f)) : Int32).toInt64) (T) (D) := by
  refine wstL (cc := cL_get) (maxL := 4) (hh := [(0, 7, 8, 17)]) (by decide) rfl (Nat.le_of_ble_eq_true rfl) (fun ad L K R I A Q N HB h09 p e s m args below meth c Z hE9 X hT hE hW ls hl => ?_)
  subst h09
  have X : CallFix p m c cL_get 4 s args wsL_get RL := X
  have hl : lv_has ls 4 [(0, .ref (ad 0 0)), (1, .int (nI (r))), (2, .int (nI (f)))] := hl
  refine lv_aload_n X.1 X.2.1 dL_get_0 rfl (lv_at hl 0 rfl) ?_
  refine lv_iload_n X.1 X.2.1 dL_get_1 rfl (lv_at hl 1 rfl) ?_
  refine lv_iload_n X.1 X.2.1 dL_get_2 rfl (lv_at hl 2 rfl) ?_
  refine cFi X hW (HB.mem lv_0) (pC_6 (HB.kn lv_0 rfl)) rfl (co_get l HB hr h) (cwV 2 X.2.2.2.2 gL_get_X6_get rfl rfl rfl (by decide +kernel) ⟨Nat.le_of_ble_eq_true rfl, Nat.le_of_ble_eq_true rfl⟩) rfl rfl hl.1 (Nat.le_of_ble_eq_true rfl) dL_get_3 ⟨Nat.le_of_ble_eq_true rfl, Nat.le_of_ble_eq_true rfl⟩ (fun H locs hW hsz hk => ?_)
  refine lv_i2l (v := (D 0 (256 * T 2 r + f)).toInt64) X.1 X.2.1 dL_get_6 rfl ?_
  exact hE9 _ _ _ _ _ _ _ ad L K _ _ _ _ N (rfl) (show _ ≤ 2 by decide) (show _ ≤ 260 by decide) hW (HB) rfl dL_get_7

set_option maxHeartbeats 4000000 in
set_option maxRecDepth 100000 in
theorem wx_length (l : Launch) (hst : l.stackTraces = false) {G : va_G} {kT : Nat → ClassId} {a0 : Nat} {T : mT} {D : mD} (I : mI T) {r : Nat} (hr : r < 4) : wL l yL_length wsL_length ({ frames := 8, cells := 2, slots := 260, locals := 142 } : Room) G kT a0 [.ref (a0), .int (nI (r))] T D (((nI (T 1 (T 2 r))) : Int32).toInt64) (T) (D) := by
  refine wstL (cc := cL_length) (maxL := 3) (hh := [(0, 6, 7, 17)]) (by decide) rfl (Nat.le_of_ble_eq_true rfl) (fun ad L K R I A Q N HB h09 p e s m args below meth c Z hE9 X hT hE hW ls hl => ?_)
  subst h09
  have X : CallFix p m c cL_length 3 s args wsL_length RL := X
  have hl : lv_has ls 3 [(0, .ref (ad 0 0)), (1, .int (nI (r)))] := hl
  refine lv_aload_n X.1 X.2.1 dL_length_0 rfl (lv_at hl 0 rfl) ?_
  refine lv_iload_n X.1 X.2.1 dL_length_1 rfl (lv_at hl 1 rfl) ?_
  refine cFi X hW (HB.mem lv_0) (pC_6 (HB.kn lv_0 rfl)) rfl (co_length l HB hr) (cwV 1 X.2.2.2.2 gL_length_X6_length rfl rfl rfl (by decide +kernel) ⟨Nat.le_of_ble_eq_true rfl, Nat.le_of_ble_eq_true rfl⟩) rfl rfl hl.1 (Nat.le_of_ble_eq_true rfl) dL_length_2 ⟨Nat.le_of_ble_eq_true rfl, Nat.le_of_ble_eq_true rfl⟩ (fun H locs hW hsz hk => ?_)
  refine lv_i2l (v := (nI (T 1 (T 2 r))).toInt64) X.1 X.2.1 dL_length_5 rfl ?_
  exact hE9 _ _ _ _ _ _ _ ad L K _ _ _ _ N (rfl) (show _ ≤ 2 by decide) (show _ ≤ 260 by decide) hW (HB) rfl dL_length_6

set_option maxHeartbeats 4000000 in
set_option maxRecDepth 100000 in
theorem wx_begin (l : Launch) (hst : l.stackTraces = false) {G : va_G} {kT : Nat → ClassId} {a0 : Nat} {T : mT} {D : mD} {w : Nat} (hw : w < 3) : wL l yL_begin wsL_begin ({ frames := 8, cells := 2, slots := 260, locals := 142 } : Room) G kT a0 [.ref (a0), .int (nI (w))] T D (((nI (T 7 (w))) : Int32).toInt64) (u2 T 7 (w) 0) (D) := by
  refine wstL (cc := cL_begin) (maxL := 3) (hh := [(0, 6, 7, 17)]) (by decide) rfl (Nat.le_of_ble_eq_true rfl) (fun ad L K R I A Q N HB h09 p e s m args below meth c Z hE9 X hT hE hW ls hl => ?_)
  subst h09
  have X : CallFix p m c cL_begin 3 s args wsL_begin RL := X
  have hl : lv_has ls 3 [(0, .ref (ad 0 0)), (1, .int (nI (w)))] := hl
  refine lv_aload_n X.1 X.2.1 dL_begin_0 rfl (lv_at hl 0 rfl) ?_
  refine lv_iload_n X.1 X.2.1 dL_begin_1 rfl (lv_at hl 1 rfl) ?_
  refine cFi X hW (HB.mem lv_0) (pC_6 (HB.kn lv_0 rfl)) rfl (co_begin l HB hw) (cwV 1 X.2.2.2.2 gL_begin_X6_begin rfl rfl rfl (by decide +kernel) ⟨Nat.le_of_ble_eq_true rfl, Nat.le_of_ble_eq_true rfl⟩) rfl rfl hl.1 (Nat.le_of_ble_eq_true rfl) dL_begin_2 ⟨Nat.le_of_ble_eq_true rfl, Nat.le_of_ble_eq_true rfl⟩ (fun H locs hW hsz hk => ?_)
  refine lv_i2l (v := (nI (T 7 w)).toInt64) X.1 X.2.1 dL_begin_5 rfl ?_
  exact hE9 _ _ _ _ _ _ _ ad L K _ _ _ _ N (rfl) (show _ ≤ 2 by decide) (show _ ≤ 260 by decide) hW (HB.zeroW (by omega)) rfl dL_begin_6

set_option maxHeartbeats 4000000 in
set_option maxRecDepth 100000 in
theorem wx_empty (l : Launch) (hst : l.stackTraces = false) {G : va_G} {kT : Nat → ClassId} {a0 : Nat} {T : mT} {D : mD} {w : Nat} (hw : w < 3) : wL l yL_empty wsL_empty ({ frames := 8, cells := 2, slots := 260, locals := 142 } : Room) G kT a0 [.ref (a0), .int (nI (w))] T D (((nI (T 7 (3 + w))) : Int32).toInt64) (u2 T 7 (3 + w) 0) (D) := by
  refine wstL (cc := cL_empty) (maxL := 3) (hh := [(0, 6, 7, 17)]) (by decide) rfl (Nat.le_of_ble_eq_true rfl) (fun ad L K R I A Q N HB h09 p e s m args below meth c Z hE9 X hT hE hW ls hl => ?_)
  subst h09
  have X : CallFix p m c cL_empty 3 s args wsL_empty RL := X
  have hl : lv_has ls 3 [(0, .ref (ad 0 0)), (1, .int (nI (w)))] := hl
  refine lv_aload_n X.1 X.2.1 dL_empty_0 rfl (lv_at hl 0 rfl) ?_
  refine lv_iload_n X.1 X.2.1 dL_empty_1 rfl (lv_at hl 1 rfl) ?_
  refine cFi X hW (HB.mem lv_0) (pC_6 (HB.kn lv_0 rfl)) rfl (co_empty l HB hw) (cwV 1 X.2.2.2.2 gL_empty_X6_empty rfl rfl rfl (by decide +kernel) ⟨Nat.le_of_ble_eq_true rfl, Nat.le_of_ble_eq_true rfl⟩) rfl rfl hl.1 (Nat.le_of_ble_eq_true rfl) dL_empty_2 ⟨Nat.le_of_ble_eq_true rfl, Nat.le_of_ble_eq_true rfl⟩ (fun H locs hW hsz hk => ?_)
  refine lv_i2l (v := (nI (T 7 (3 + w))).toInt64) X.1 X.2.1 dL_empty_5 rfl ?_
  exact hE9 _ _ _ _ _ _ _ ad L K _ _ _ _ N (rfl) (show _ ≤ 2 by decide) (show _ ≤ 260 by decide) hW (HB.zeroW (by omega)) rfl dL_empty_6

set_option maxHeartbeats 4000000 in
set_option maxRecDepth 100000 in
theorem wx_writeText (l : Launch) (hst : l.stackTraces = false) {G : va_G} {kT : Nat → ClassId} {a0 : Nat} {T : mT} {D : mD} (I : mI T) {w r f n : Nat} (hw : w < 3) (hr : r < 4) (h : f + n ≤ T 1 (T 2 r)) (h2 : T 7 (w) + n ≤ 256) : wL l yL_writeText wsL_writeText ({ frames := 9, cells := 2, slots := 260, locals := 171 } : Room) G kT a0 [.ref (a0), .int (nI (w)), .int (nI (r)), .int (nI (f)), .int (nI (n))] T D (((nI (T 7 (w) + n)) : Int32).toInt64) (adT T (w) n) (adD T D (w) (fun i => D 0 (256 * T 2 r + f + i) &&& nI 255) n) := by
  refine wstL (cc := cL_writeText) (maxL := 6) (hh := [(0, 10, 11, 17), (0, 10, 17, 46)]) (by decide) rfl (Nat.le_of_ble_eq_true rfl) (fun ad L K R I A Q N HB h09 p e s m args below meth c Z hE9 X hT hE hW ls hl => ?_)
  subst h09
  have X : CallFix p m c cL_writeText 6 s args wsL_writeText RL := X
  have hl : lv_has ls 6 [(0, .ref (ad 0 0)), (1, .int (nI (w))), (2, .int (nI (r))), (3, .int (nI (f))), (4, .int (nI (n)))] := hl
  refine lv_aload_n X.1 X.2.1 dL_writeText_0 rfl (lv_at hl 0 rfl) ?_
  refine lv_iload_n X.1 X.2.1 dL_writeText_1 rfl (lv_at hl 1 rfl) ?_
  refine lv_iload_n X.1 X.2.1 dL_writeText_2 rfl (lv_at hl 2 rfl) ?_
  refine lv_iload_n X.1 X.2.1 dL_writeText_3 rfl (lv_at hl 3 rfl) ?_
  refine lv_iload X.1 X.2.1 dL_writeText_4 (lv_at hl 4 rfl) ?_
  refine cFi X hW (HB.mem lv_0) (pC_6 (HB.kn lv_0 rfl)) rfl (co_writeText l HB hw hr h h2) (cwV 4 X.2.2.2.2 gL_writeText_X6_writeText rfl rfl rfl (by decide +kernel) ⟨Nat.le_of_ble_eq_true rfl, Nat.le_of_ble_eq_true rfl⟩) rfl rfl hl.1 (Nat.le_of_ble_eq_true rfl) dL_writeText_6 ⟨Nat.le_of_ble_eq_true rfl, Nat.le_of_ble_eq_true rfl⟩ (fun H locs hW hsz hk => ?_)
  refine lv_i2l (v := (nI (T 7 w + n)).toInt64) X.1 X.2.1 dL_writeText_9 rfl ?_
  exact hE9 _ _ _ _ _ _ _ ad L K _ _ _ _ N (rfl) (show _ ≤ 2 by decide) (show _ ≤ 260 by decide) hW (HB.addW (a := w) (by omega) h2 (fun i hi => by rw [HB.sA (uS_row hr) (by omega), show 256 * T 2 r + f + i = 256 * T 2 r + (f + i) by omega]; exact (HB.md.1 _).symm) (fun _ _ => and_255 _)) rfl dL_writeText_10

set_option maxHeartbeats 4000000 in
set_option maxRecDepth 100000 in
theorem wx_writeSigns (l : Launch) (hst : l.stackTraces = false) {G : va_G} {kT : Nat → ClassId} {a0 : Nat} {T : mT} {D : mD} (I : mI T) {w r f n : Nat} (hw : w < 3) (hr : r < 4) (h : f + n ≤ T 1 (T 2 r)) (h2 : T 7 (w) + n ≤ 256) : wL l yL_writeSigns wsL_writeSigns ({ frames := 9, cells := 2, slots := 260, locals := 171 } : Room) G kT a0 [.ref (a0), .int (nI (w)), .int (nI (r)), .int (nI (f)), .int (nI (n))] T D (((nI (T 7 (w) + n)) : Int32).toInt64) (adT T (w) n) (adD T D (w) (fun i => D 0 (256 * T 2 r + f + i) &&& nI 255) n) := by
  refine wstL (cc := cL_writeSigns) (maxL := 6) (hh := [(0, 10, 11, 17), (0, 10, 17, 46)]) (by decide) rfl (Nat.le_of_ble_eq_true rfl) (fun ad L K R I A Q N HB h09 p e s m args below meth c Z hE9 X hT hE hW ls hl => ?_)
  subst h09
  have X : CallFix p m c cL_writeSigns 6 s args wsL_writeSigns RL := X
  have hl : lv_has ls 6 [(0, .ref (ad 0 0)), (1, .int (nI (w))), (2, .int (nI (r))), (3, .int (nI (f))), (4, .int (nI (n)))] := hl
  refine lv_aload_n X.1 X.2.1 dL_writeSigns_0 rfl (lv_at hl 0 rfl) ?_
  refine lv_iload_n X.1 X.2.1 dL_writeSigns_1 rfl (lv_at hl 1 rfl) ?_
  refine lv_iload_n X.1 X.2.1 dL_writeSigns_2 rfl (lv_at hl 2 rfl) ?_
  refine lv_iload_n X.1 X.2.1 dL_writeSigns_3 rfl (lv_at hl 3 rfl) ?_
  refine lv_iload X.1 X.2.1 dL_writeSigns_4 (lv_at hl 4 rfl) ?_
  refine cFi X hW (HB.mem lv_0) (pC_6 (HB.kn lv_0 rfl)) rfl (co_writeSigns l HB hw hr h h2) (cwV 4 X.2.2.2.2 gL_writeSigns_X6_writeSigns rfl rfl rfl (by decide +kernel) ⟨Nat.le_of_ble_eq_true rfl, Nat.le_of_ble_eq_true rfl⟩) rfl rfl hl.1 (Nat.le_of_ble_eq_true rfl) dL_writeSigns_6 ⟨Nat.le_of_ble_eq_true rfl, Nat.le_of_ble_eq_true rfl⟩ (fun H locs hW hsz hk => ?_)
  refine lv_i2l (v := (nI (T 7 w + n)).toInt64) X.1 X.2.1 dL_writeSigns_9 rfl ?_
  exact hE9 _ _ _ _ _ _ _ ad L K _ _ _ _ N (rfl) (show _ ≤ 2 by decide) (show _ ≤ 260 by decide) hW (HB.addW (a := w) (by omega) h2 (fun i hi => by rw [HB.sA (uS_row hr) (by omega), show 256 * T 2 r + f + i = 256 * T 2 r + (f + i) by omega]; exact (HB.md.1 _).symm) (fun _ _ => and_255 _)) rfl dL_writeSigns_10

set_option maxHeartbeats 4000000 in
set_option maxRecDepth 100000 in
theorem wx_arrayText (l : Launch) (hst : l.stackTraces = false) {G : va_G} {kT : Nat → ClassId} {a0 : Nat} {T : mT} {D : mD} (I : mI T) {w r f n : Nat} (hw : w < 3) (hr : r < 4) (h : f + n ≤ T 1 (T 2 r)) (h2 : T 7 (3 + w) + n ≤ 256) : wL l yL_arrayText wsL_arrayText ({ frames := 9, cells := 2, slots := 260, locals := 171 } : Room) G kT a0 [.ref (a0), .int (nI (w)), .int (nI (r)), .int (nI (f)), .int (nI (n))] T D (((nI (T 7 (3 + w) + n)) : Int32).toInt64) (adT T (3 + w) n) (adD T D (3 + w) (fun i => D 0 (256 * T 2 r + f + i) &&& nI 255) n) := by
  refine wstL (cc := cL_arrayText) (maxL := 6) (hh := [(0, 10, 11, 17), (0, 10, 17, 46)]) (by decide) rfl (Nat.le_of_ble_eq_true rfl) (fun ad L K R I A Q N HB h09 p e s m args below meth c Z hE9 X hT hE hW ls hl => ?_)
  subst h09
  have X : CallFix p m c cL_arrayText 6 s args wsL_arrayText RL := X
  have hl : lv_has ls 6 [(0, .ref (ad 0 0)), (1, .int (nI (w))), (2, .int (nI (r))), (3, .int (nI (f))), (4, .int (nI (n)))] := hl
  refine lv_aload_n X.1 X.2.1 dL_arrayText_0 rfl (lv_at hl 0 rfl) ?_
  refine lv_iload_n X.1 X.2.1 dL_arrayText_1 rfl (lv_at hl 1 rfl) ?_
  refine lv_iload_n X.1 X.2.1 dL_arrayText_2 rfl (lv_at hl 2 rfl) ?_
  refine lv_iload_n X.1 X.2.1 dL_arrayText_3 rfl (lv_at hl 3 rfl) ?_
  refine lv_iload X.1 X.2.1 dL_arrayText_4 (lv_at hl 4 rfl) ?_
  refine cFi X hW (HB.mem lv_0) (pC_6 (HB.kn lv_0 rfl)) rfl (co_arrayText l HB hw hr h h2) (cwV 4 X.2.2.2.2 gL_arrayText_X6_arrayText rfl rfl rfl (by decide +kernel) ⟨Nat.le_of_ble_eq_true rfl, Nat.le_of_ble_eq_true rfl⟩) rfl rfl hl.1 (Nat.le_of_ble_eq_true rfl) dL_arrayText_6 ⟨Nat.le_of_ble_eq_true rfl, Nat.le_of_ble_eq_true rfl⟩ (fun H locs hW hsz hk => ?_)
  refine lv_i2l (v := (nI (T 7 (3 + w) + n)).toInt64) X.1 X.2.1 dL_arrayText_9 rfl ?_
  exact hE9 _ _ _ _ _ _ _ ad L K _ _ _ _ N (rfl) (show _ ≤ 2 by decide) (show _ ≤ 260 by decide) hW (HB.addW (a := (3 + w)) (by omega) h2 (fun i hi => by rw [HB.sA (uS_row hr) (by omega), show 256 * T 2 r + f + i = 256 * T 2 r + (f + i) by omega]; exact (HB.md.1 _).symm) (fun _ _ => and_255 _)) rfl dL_arrayText_10

set_option maxHeartbeats 4000000 in
set_option maxRecDepth 100000 in
theorem wx_arraySigns (l : Launch) (hst : l.stackTraces = false) {G : va_G} {kT : Nat → ClassId} {a0 : Nat} {T : mT} {D : mD} (I : mI T) {w r f n : Nat} (hw : w < 3) (hr : r < 4) (h : f + n ≤ T 1 (T 2 r)) (h2 : T 7 (3 + w) + n ≤ 256) : wL l yL_arraySigns wsL_arraySigns ({ frames := 9, cells := 2, slots := 260, locals := 171 } : Room) G kT a0 [.ref (a0), .int (nI (w)), .int (nI (r)), .int (nI (f)), .int (nI (n))] T D (((nI (T 7 (3 + w) + n)) : Int32).toInt64) (adT T (3 + w) n) (adD T D (3 + w) (fun i => D 0 (256 * T 2 r + f + i) &&& nI 255) n) := by
  refine wstL (cc := cL_arraySigns) (maxL := 6) (hh := [(0, 10, 11, 17), (0, 10, 17, 46)]) (by decide) rfl (Nat.le_of_ble_eq_true rfl) (fun ad L K R I A Q N HB h09 p e s m args below meth c Z hE9 X hT hE hW ls hl => ?_)
  subst h09
  have X : CallFix p m c cL_arraySigns 6 s args wsL_arraySigns RL := X
  have hl : lv_has ls 6 [(0, .ref (ad 0 0)), (1, .int (nI (w))), (2, .int (nI (r))), (3, .int (nI (f))), (4, .int (nI (n)))] := hl
  refine lv_aload_n X.1 X.2.1 dL_arraySigns_0 rfl (lv_at hl 0 rfl) ?_
  refine lv_iload_n X.1 X.2.1 dL_arraySigns_1 rfl (lv_at hl 1 rfl) ?_
  refine lv_iload_n X.1 X.2.1 dL_arraySigns_2 rfl (lv_at hl 2 rfl) ?_
  refine lv_iload_n X.1 X.2.1 dL_arraySigns_3 rfl (lv_at hl 3 rfl) ?_
  refine lv_iload X.1 X.2.1 dL_arraySigns_4 (lv_at hl 4 rfl) ?_
  refine cFi X hW (HB.mem lv_0) (pC_6 (HB.kn lv_0 rfl)) rfl (co_arraySigns l HB hw hr h h2) (cwV 4 X.2.2.2.2 gL_arraySigns_X6_arraySigns rfl rfl rfl (by decide +kernel) ⟨Nat.le_of_ble_eq_true rfl, Nat.le_of_ble_eq_true rfl⟩) rfl rfl hl.1 (Nat.le_of_ble_eq_true rfl) dL_arraySigns_6 ⟨Nat.le_of_ble_eq_true rfl, Nat.le_of_ble_eq_true rfl⟩ (fun H locs hW hsz hk => ?_)
  refine lv_i2l (v := (nI (T 7 (3 + w) + n)).toInt64) X.1 X.2.1 dL_arraySigns_9 rfl ?_
  exact hE9 _ _ _ _ _ _ _ ad L K _ _ _ _ N (rfl) (show _ ≤ 2 by decide) (show _ ≤ 260 by decide) hW (HB.addW (a := (3 + w)) (by omega) h2 (fun i hi => by rw [HB.sA (uS_row hr) (by omega), show 256 * T 2 r + f + i = 256 * T 2 r + (f + i) by omega]; exact (HB.md.1 _).symm) (fun _ _ => and_255 _)) rfl dL_arraySigns_10

set_option maxHeartbeats 4000000 in
set_option maxRecDepth 100000 in
theorem wx_take (l : Launch) (hst : l.stackTraces = false) {G : va_G} {kT : Nat → ClassId} {a0 : Nat} {T : mT} {D : mD} (I : mI T) {w r : Nat} (hw : w < 3) (hr : r < 4) : wL l yL_take wsL_take ({ frames := 9, cells := 2, slots := 260, locals := 166 } : Room) G kT a0 [.ref (a0), .int (nI (w)), .int (nI (r))] T D (((nI (T 7 (w))) : Int32).toInt64) (beT T r (T 7 (w))) (beD T (cpF D 19 0 (fun i => D 6 (256 * (w) + i)) (T 7 (w))) (T 7 (w))) := by
  refine wstL (cc := cL_take) (maxL := 4) (hh := [(0, 7, 8, 17)]) (by decide) rfl (Nat.le_of_ble_eq_true rfl) (fun ad L K R I A Q N HB h09 p e s m args below meth c Z hE9 X hT hE hW ls hl => ?_)
  subst h09
  have X : CallFix p m c cL_take 4 s args wsL_take RL := X
  have hl : lv_has ls 4 [(0, .ref (ad 0 0)), (1, .int (nI (w))), (2, .int (nI (r)))] := hl
  refine lv_aload_n X.1 X.2.1 dL_take_0 rfl (lv_at hl 0 rfl) ?_
  refine lv_iload_n X.1 X.2.1 dL_take_1 rfl (lv_at hl 1 rfl) ?_
  refine lv_iload_n X.1 X.2.1 dL_take_2 rfl (lv_at hl 2 rfl) ?_
  refine cFN (cs := []) X hW (HB.mem lv_0) (pC_6 (HB.kn lv_0 rfl)) rfl (fun C h => absurd h List.not_mem_nil) (co_take l HB hw hr) (cwV 2 X.2.2.2.2 gL_take_X6_take rfl rfl rfl (by decide +kernel) ⟨Nat.le_of_ble_eq_true rfl, Nat.le_of_ble_eq_true rfl⟩) rfl rfl hl.1 (Nat.le_of_ble_eq_true rfl) dL_take_3 ⟨Nat.le_of_ble_eq_true rfl, Nat.le_of_ble_eq_true rfl⟩ (fun L2 K2 R2 I2 A2 Q2 N2 H locs hW hF hsz hk hL2 => ?_)
  obtain ⟨a, b, Q1, A1, hS, rfl, rfl⟩ := hF
  have hna : ∀ k i, lv T k i → ad k i ≠ a := fun k i hl9 z => hS.2.1 (z ▸ HB.mem hl9)
  have hnb : ∀ k i, lv T k i → ad k i ≠ b := fun k i hl9 z => hS.2.2.1 (z ▸ HB.mem hl9)
  have HB1 := HB.mono hS.1
  have H19 := (HB1.keepA (A2 := cpF A1 b 0 (fun i => A1 (ad 8 w) i) (T 7 w)) (fun k i hl9 => cpF_ne (hnb k i hl9))).kept19 (d := 0) (n := T 7 w) (g := fun i => D 6 (256 * w + i)) (fun _ _ => HB.md.2.2.1 _)
  refine lv_i2l (v := (nI (T 7 w)).toInt64) X.1 X.2.1 dL_take_6 rfl ?_
  exact hE9 _ _ _ _ _ _ _ (adS ad (fS T) a b) L2 K2 R2 I2 _ _ N2 rfl (show _ ≤ 2 by decide) (show _ ≤ 260 by decide) hW (H19.newS (h := fun k => cpF D 19 0 (fun i => D 6 (256 * w + i)) (T 7 w) 19 k) hr hS.2.2.2.2.1 hna hnb hS.2.2.2.1 (fun j hj => by rw [cpF_in (Nat.zero_le _) (by omega), cpF_in (Nat.zero_le _) (by omega), Nat.sub_zero]; exact HB1.wA (by omega) hj) (fun j hj => H19.md.2.2.2 j)) (adS_k (Or.inl ⟨by decide, by decide⟩)) dL_take_7

set_option maxHeartbeats 4000000 in
set_option maxRecDepth 100000 in
theorem wx_arrayTake (l : Launch) (hst : l.stackTraces = false) {G : va_G} {kT : Nat → ClassId} {a0 : Nat} {T : mT} {D : mD} (I : mI T) {w r : Nat} (hw : w < 3) (hr : r < 4) : wL l yL_arrayTake wsL_arrayTake ({ frames := 9, cells := 2, slots := 260, locals := 166 } : Room) G kT a0 [.ref (a0), .int (nI (w)), .int (nI (r))] T D (((nI (T 7 (3 + w))) : Int32).toInt64) (beT T r (T 7 (3 + w))) (beD T (cpF D 19 0 (fun i => D 6 (256 * (3 + w) + i)) (T 7 (3 + w))) (T 7 (3 + w))) := by
  refine wstL (cc := cL_arrayTake) (maxL := 4) (hh := [(0, 7, 8, 17)]) (by decide) rfl (Nat.le_of_ble_eq_true rfl) (fun ad L K R I A Q N HB h09 p e s m args below meth c Z hE9 X hT hE hW ls hl => ?_)
  subst h09
  have X : CallFix p m c cL_arrayTake 4 s args wsL_arrayTake RL := X
  have hl : lv_has ls 4 [(0, .ref (ad 0 0)), (1, .int (nI (w))), (2, .int (nI (r)))] := hl
  refine lv_aload_n X.1 X.2.1 dL_arrayTake_0 rfl (lv_at hl 0 rfl) ?_
  refine lv_iload_n X.1 X.2.1 dL_arrayTake_1 rfl (lv_at hl 1 rfl) ?_
  refine lv_iload_n X.1 X.2.1 dL_arrayTake_2 rfl (lv_at hl 2 rfl) ?_
  refine cFN (cs := []) X hW (HB.mem lv_0) (pC_6 (HB.kn lv_0 rfl)) rfl (fun C h => absurd h List.not_mem_nil) (co_arrayTake l HB hw hr) (cwV 2 X.2.2.2.2 gL_arrayTake_X6_arrayTake rfl rfl rfl (by decide +kernel) ⟨Nat.le_of_ble_eq_true rfl, Nat.le_of_ble_eq_true rfl⟩) rfl rfl hl.1 (Nat.le_of_ble_eq_true rfl) dL_arrayTake_3 ⟨Nat.le_of_ble_eq_true rfl, Nat.le_of_ble_eq_true rfl⟩ (fun L2 K2 R2 I2 A2 Q2 N2 H locs hW hF hsz hk hL2 => ?_)
  obtain ⟨a, b, Q1, A1, hS, rfl, rfl⟩ := hF
  have hna : ∀ k i, lv T k i → ad k i ≠ a := fun k i hl9 z => hS.2.1 (z ▸ HB.mem hl9)
  have hnb : ∀ k i, lv T k i → ad k i ≠ b := fun k i hl9 z => hS.2.2.1 (z ▸ HB.mem hl9)
  have HB1 := HB.mono hS.1
  have H19 := (HB1.keepA (A2 := cpF A1 b 0 (fun i => A1 (ad 8 (3 + w)) i) (T 7 (3 + w))) (fun k i hl9 => cpF_ne (hnb k i hl9))).kept19 (d := 0) (n := T 7 (3 + w)) (g := fun i => D 6 (256 * (3 + w) + i)) (fun _ _ => HB.md.2.2.1 _)
  refine lv_i2l (v := (nI (T 7 (3 + w))).toInt64) X.1 X.2.1 dL_arrayTake_6 rfl ?_
  exact hE9 _ _ _ _ _ _ _ (adS ad (fS T) a b) L2 K2 R2 I2 _ _ N2 rfl (show _ ≤ 2 by decide) (show _ ≤ 260 by decide) hW (H19.newS (h := fun k => cpF D 19 0 (fun i => D 6 (256 * (3 + w) + i)) (T 7 (3 + w)) 19 k) hr hS.2.2.2.2.1 hna hnb hS.2.2.2.1 (fun j hj => by rw [cpF_in (Nat.zero_le _) (by omega), cpF_in (Nat.zero_le _) (by omega), Nat.sub_zero]; exact HB1.wA (by omega) hj) (fun j hj => H19.md.2.2.2 j)) (adS_k (Or.inl ⟨by decide, by decide⟩)) dL_arrayTake_7

set_option maxHeartbeats 4000000 in
set_option maxRecDepth 100000 in
theorem wx_open (l : Launch) (hst : l.stackTraces = false) {G : va_G} {kT : Nat → ClassId} {a0 : Nat} {T : mT} {D : mD} (I : mI T) {i r f n : Nat} (hi : i < 3) (hr : r < 4) (hf : f ≤ T 1 (T 2 r)) (h : n < 1001) : wL l yL_open wsL_open ({ frames := 8, cells := 2, slots := 260, locals := 148 } : Room) G kT a0 [.ref (a0), .int (nI (i)), .int (nI (r)), .int (nI (f)), .int (nI (n))] T D (((nI (min (f + n) (T 1 (T 2 r)) - f)) : Int32).toInt64) (opT T i r f (min (f + n) (T 1 (T 2 r)))) (D) := by
  refine wstL (cc := cL_open) (maxL := 6) (hh := [(0, 10, 11, 17), (0, 10, 17, 23)]) (by decide) rfl (Nat.le_of_ble_eq_true rfl) (fun ad L K R I A Q N HB h09 p e s m args below meth c Z hE9 X hT hE hW ls hl => ?_)
  subst h09
  have X : CallFix p m c cL_open 6 s args wsL_open RL := X
  have hl : lv_has ls 6 [(0, .ref (ad 0 0)), (1, .int (nI (i))), (2, .int (nI (r))), (3, .int (nI (f))), (4, .int (nI (n)))] := hl
  have e9 : f + min n (T 1 (T 2 r) - f) = min (f + n) (T 1 (T 2 r)) := by omega
  refine lv_aload_n X.1 X.2.1 dL_open_0 rfl (lv_at hl 0 rfl) ?_
  refine lv_iload_n X.1 X.2.1 dL_open_1 rfl (lv_at hl 1 rfl) ?_
  refine lv_iload_n X.1 X.2.1 dL_open_2 rfl (lv_at hl 2 rfl) ?_
  refine lv_iload_n X.1 X.2.1 dL_open_3 rfl (lv_at hl 3 rfl) ?_
  refine lv_iload X.1 X.2.1 dL_open_4 (lv_at hl 4 rfl) ?_
  refine cFi X hW (HB.mem lv_0) (pC_6 (HB.kn lv_0 rfl)) rfl (co_open l HB hi hr hf h) (cwV 4 X.2.2.2.2 gL_open_X6_open rfl rfl rfl (by decide +kernel) ⟨Nat.le_of_ble_eq_true rfl, Nat.le_of_ble_eq_true rfl⟩) rfl rfl hl.1 (Nat.le_of_ble_eq_true rfl) dL_open_6 ⟨Nat.le_of_ble_eq_true rfl, Nat.le_of_ble_eq_true rfl⟩ (fun H locs hW hsz hk => ?_)
  refine lv_i2l (v := (nI (f + min n (T 1 (T 2 r) - f) - f)).toInt64) X.1 X.2.1 dL_open_9 rfl ?_
  exact hE9 _ _ _ _ _ _ _ ad L K _ _ _ _ N (by rw [e9]) (show _ ≤ 2 by decide) (show _ ≤ 260 by decide) hW (by rw [e9]; exact HB.opened hi hr (by omega) (by omega)) rfl dL_open_10

set_option maxHeartbeats 4000000 in
set_option maxRecDepth 100000 in
theorem wx_shut_b (l : Launch) (hst : l.stackTraces = false) {G : va_G} {kT : Nat → ClassId} {a0 : Nat} {T : mT} {D : mD} (I : mI T) {i : Nat} (hi : i < 3) (h : T 8 i ≠ 0) (h2 : T 12 i = 0) : wL l yL_shut wsL_shut ({ frames := 8, cells := 2, slots := 260, locals := 144 } : Room) G kT a0 [.ref (a0), .int (nI (i))] T D (((nI (T 10 i - T 9 i)) : Int32).toInt64) (u2 T 12 i 1) (D) := by
  refine wstL (cc := cL_shut) (maxL := 3) (hh := [(0, 6, 7, 17), (0, 6, 12, 79)]) (by decide) rfl (Nat.le_of_ble_eq_true rfl) (fun ad L K R I A Q N HB h09 p e s m args below meth c Z hE9 X hT hE hW ls hl => ?_)
  subst h09
  have X : CallFix p m c cL_shut 3 s args wsL_shut RL := X
  have hl : lv_has ls 3 [(0, .ref (ad 0 0)), (1, .int (nI (i)))] := hl
  refine lv_aload_n X.1 X.2.1 dL_shut_0 rfl (lv_at hl 0 rfl) ?_
  refine lv_iload_n X.1 X.2.1 dL_shut_1 rfl (lv_at hl 1 rfl) ?_
  refine cFi X hW (HB.mem lv_0) (pC_6 (HB.kn lv_0 rfl)) rfl (co_shut_b l HB hi h h2) (cwV 1 X.2.2.2.2 gL_shut_X6_shut rfl rfl rfl (by decide +kernel) ⟨Nat.le_of_ble_eq_true rfl, Nat.le_of_ble_eq_true rfl⟩) rfl rfl hl.1 (Nat.le_of_ble_eq_true rfl) dL_shut_2 ⟨Nat.le_of_ble_eq_true rfl, Nat.le_of_ble_eq_true rfl⟩ (fun H locs hW hsz hk => ?_)
  refine lv_i2l (v := (nI (T 10 i - T 9 i)).toInt64) X.1 X.2.1 dL_shut_5 rfl ?_
  exact hE9 _ _ _ _ _ _ _ ad L K _ _ _ _ N (rfl) (show _ ≤ 2 by decide) (show _ ≤ 260 by decide) hW (HB.shut hi) rfl dL_shut_6

set_option maxHeartbeats 4000000 in
set_option maxRecDepth 100000 in
theorem wx_read (l : Launch) (hst : l.stackTraces = false) {G : va_G} {kT : Nat → ClassId} {a0 : Nat} {T : mT} {D : mD} (I : mI T) {i : Nat} (hi : i < 3) (h : ¬ clo T i) (h2 : ¬ T 9 i = T 10 i) : wL l yL_read wsL_read ({ frames := 9, cells := 2, slots := 260, locals := 164 } : Room) G kT a0 [.ref (a0), .int (nI (i))] T D (((D 0 (256 * (T 8 i - 1) + T 9 i)) : Int32).toInt64) (u2 T 9 i (T 9 i + 1)) (D) := by
  refine wstL (cc := cL_read) (maxL := 3) (hh := [(0, 6, 7, 17), (0, 6, 12, 79)]) (by decide) rfl (Nat.le_of_ble_eq_true rfl) (fun ad L K R I A Q N HB h09 p e s m args below meth c Z hE9 X hT hE hW ls hl => ?_)
  subst h09
  have X : CallFix p m c cL_read 3 s args wsL_read RL := X
  have hl : lv_has ls 3 [(0, .ref (ad 0 0)), (1, .int (nI (i)))] := hl
  have hm9 := HB.mi.rd hi
  refine lv_aload_n X.1 X.2.1 dL_read_0 rfl (lv_at hl 0 rfl) ?_
  refine lv_iload_n X.1 X.2.1 dL_read_1 rfl (lv_at hl 1 rfl) ?_
  refine cFi X hW (HB.mem lv_0) (pC_6 (HB.kn lv_0 rfl)) rfl (co_read l HB hi h h2) (cwV 1 X.2.2.2.2 gL_read_X6_read rfl rfl rfl (by decide +kernel) ⟨Nat.le_of_ble_eq_true rfl, Nat.le_of_ble_eq_true rfl⟩) rfl rfl hl.1 (Nat.le_of_ble_eq_true rfl) dL_read_2 ⟨Nat.le_of_ble_eq_true rfl, Nat.le_of_ble_eq_true rfl⟩ (fun H locs hW hsz hk => ?_)
  refine lv_i2l (v := (D 0 (256 * (T 8 i - 1) + T 9 i)).toInt64) X.1 X.2.1 dL_read_5 rfl ?_
  exact hE9 _ _ _ _ _ _ _ ad L K _ _ _ _ N (rfl) (show _ ≤ 2 by decide) (show _ ≤ 260 by decide) hW (HB.place hi (by omega)) rfl dL_read_6

set_option maxHeartbeats 4000000 in
set_option maxRecDepth 100000 in
theorem wx_read_e (l : Launch) (hst : l.stackTraces = false) {G : va_G} {kT : Nat → ClassId} {a0 : Nat} {T : mT} {D : mD} (I : mI T) {i : Nat} (hi : i < 3) (h : ¬ clo T i) (h2 : T 9 i = T 10 i) : wL l yL_read wsL_read ({ frames := 9, cells := 2, slots := 260, locals := 164 } : Room) G kT a0 [.ref (a0), .int (nI (i))] T D (((-1) : Int32).toInt64) (T) (D) := by
  refine wstL (cc := cL_read) (maxL := 3) (hh := [(0, 6, 7, 17), (0, 6, 12, 79)]) (by decide) rfl (Nat.le_of_ble_eq_true rfl) (fun ad L K R I A Q N HB h09 p e s m args below meth c Z hE9 X hT hE hW ls hl => ?_)
  subst h09
  have X : CallFix p m c cL_read 3 s args wsL_read RL := X
  have hl : lv_has ls 3 [(0, .ref (ad 0 0)), (1, .int (nI (i)))] := hl
  refine lv_aload_n X.1 X.2.1 dL_read_0 rfl (lv_at hl 0 rfl) ?_
  refine lv_iload_n X.1 X.2.1 dL_read_1 rfl (lv_at hl 1 rfl) ?_
  refine cFi X hW (HB.mem lv_0) (pC_6 (HB.kn lv_0 rfl)) rfl (co_read_e l HB hi h h2) (cwV 1 X.2.2.2.2 gL_read_X6_read rfl rfl rfl (by decide +kernel) ⟨Nat.le_of_ble_eq_true rfl, Nat.le_of_ble_eq_true rfl⟩) rfl rfl hl.1 (Nat.le_of_ble_eq_true rfl) dL_read_2 ⟨Nat.le_of_ble_eq_true rfl, Nat.le_of_ble_eq_true rfl⟩ (fun H locs hW hsz hk => ?_)
  refine lv_i2l (v := (-1).toInt64) X.1 X.2.1 dL_read_5 rfl ?_
  exact hE9 _ _ _ _ _ _ _ ad L K _ _ _ _ N (rfl) (show _ ≤ 2 by decide) (show _ ≤ 260 by decide) hW (HB) rfl dL_read_6

set_option maxHeartbeats 4000000 in
set_option maxRecDepth 100000 in
theorem wx_read_2 (l : Launch) (hst : l.stackTraces = false) {G : va_G} {kT : Nat → ClassId} {a0 : Nat} {T : mT} {D : mD} (I : mI T) {i : Nat} (hi : i < 3) (h : clo T i) : wL l yL_read wsL_read ({ frames := 9, cells := 2, slots := 260, locals := 164 } : Room) G kT a0 [.ref (a0), .int (nI (i))] T D (-4000000000000000002) (T) (D) := by
  refine wstL (cc := cL_read) (maxL := 3) (hh := [(0, 6, 7, 17), (0, 6, 12, 79)]) (by decide) rfl (Nat.le_of_ble_eq_true rfl) (fun ad L K R I A Q N HB h09 p e s m args below meth c Z hE9 X hT hE hW ls hl => ?_)
  subst h09
  have X : CallFix p m c cL_read 3 s args wsL_read RL := X
  have hl : lv_has ls 3 [(0, .ref (ad 0 0)), (1, .int (nI (i)))] := hl
  refine lv_aload_n X.1 X.2.1 dL_read_0 rfl (lv_at hl 0 rfl) ?_
  refine lv_iload_n X.1 X.2.1 dL_read_1 rfl (lv_at hl 1 rfl) ?_
  refine cCV hE X hW (HB.mem lv_0) (pC_6 (HB.kn lv_0 rfl)) rfl (cb_read_b l hst HB hi h) (cwV 1 X.2.2.2.2 gL_read_X6_read rfl rfl rfl (by decide +kernel) ⟨Nat.le_of_ble_eq_true rfl, Nat.le_of_ble_eq_true rfl⟩) rfl rfl hl.1 (Nat.le_of_ble_eq_true rfl) dL_read_2 ⟨Nat.le_of_ble_eq_true rfl, Nat.le_of_ble_eq_true rfl⟩ (fun H locs q8 ce hW hsz hk hce hcv hcl => ?_)
  refine vx_catch X.2.2.2.1 [⟨0, 6, 7, 17⟩] ⟨0, 6, 12, 79⟩ [] hT (List.forall_mem_cons.mpr ⟨Or.inr ⟨by decide, "java/lang/IndexOutOfBoundsException", X.2.2.2.2 (.classLink RL 17 "java/lang/IndexOutOfBoundsException") (List.mem_cons_of_mem _ (List.mem_append_left _ (List.mem_append_left _ (List.mem_append_left _ (List.mem_append_left _ (List.mem_append_left _ (List.mem_append_left _ (List.mem_append_left _ (List.mem_of_getElem? (i := 0) rfl))))))))), hE.2.2.2.2 ("java/lang/UnsupportedOperationException", "java/lang/IndexOutOfBoundsException") (by decide +kernel)⟩, (fun z hz => absurd hz List.not_mem_nil)⟩) (by decide) (by decide) (X.2.2.2.2 (.classLink RL 79 "java/lang/UnsupportedOperationException") (List.mem_cons_of_mem _ (List.mem_append_left _ (List.mem_append_left _ (List.mem_append_left _ (List.mem_append_left _ (List.mem_append_left _ (List.mem_append_left _ (List.mem_append_left _ (List.mem_of_getElem? (i := 1) rfl)))))))))) (va_Nw.use rfl (hE.2.2.1 (.castable "java/lang/UnsupportedOperationException" "java/lang/UnsupportedOperationException") (by decide +kernel))) hce hcv hcl ?_
  refine lv_astore_n (lv' := [(2, .ref (q8)), (0, .ref (ad 0 0)), (1, .int (nI (i)))]) X.1 X.2.1 dL_read_12 rfl hl (by decide) rfl (fun ls hl => ?_)
  refine lv_ldc2 X.1 X.2.1 X.2.2.2.1 (X.2.2.2.2 (.constantLong RL 25 (-4000000000000000002)) (List.mem_cons_of_mem _ (List.mem_append_left _ (List.mem_append_left _ (List.mem_append_left _ (List.mem_append_left _ (List.mem_append_left _ (List.mem_append_left _ (List.mem_append_left _ (List.mem_of_getElem? (i := 3) rfl)))))))))) dL_read_13 ?_
  exact hE9 _ _ _ _ _ _ _ ad L K R I A Q N rfl (show _ ≤ 2 by decide) (show _ ≤ 260 by decide) hW HB rfl dL_read_16

set_option maxHeartbeats 4000000 in
set_option maxRecDepth 100000 in
theorem wx_readPart_z (l : Launch) (hst : l.stackTraces = false) {G : va_G} {kT : Nat → ClassId} {a0 : Nat} {T : mT} {D : mD} (I : mI T) {i r f n : Nat} (hi : i < 3) (hr : r < 4) (hf : f + n ≤ T 1 (T 2 r)) (hn : n ≠ 0) (h : ¬ clo T i) (h4 : ¬ T 8 i = T 2 r + 1) (h5 : min n (T 10 i - T 9 i) = 0) : wL l yL_readPart wsL_readPart ({ frames := 9, cells := 2, slots := 260, locals := 169 } : Room) G kT a0 [.ref (a0), .int (nI (i)), .int (nI (r)), .int (nI (f)), .int (nI (n))] T D (((-1) : Int32).toInt64) (u2 T 9 i (T 9 i + min n (T 10 i - T 9 i))) (cpF D 0 (256 * T 2 r + f) (rpF T D i) (min n (T 10 i - T 9 i))) := by
  refine wstL (cc := cL_readPart) (maxL := 6) (hh := [(0, 10, 11, 17), (0, 10, 17, 23), (0, 10, 23, 79), (0, 10, 29, 46)]) (by decide) rfl (Nat.le_of_ble_eq_true rfl) (fun ad L K R I A Q N HB h09 p e s m args below meth c Z hE9 X hT hE hW ls hl => ?_)
  subst h09
  have X : CallFix p m c cL_readPart 6 s args wsL_readPart RL := X
  have hl : lv_has ls 6 [(0, .ref (ad 0 0)), (1, .int (nI (i))), (2, .int (nI (r))), (3, .int (nI (f))), (4, .int (nI (n)))] := hl
  have hm9 := HB.mi.rd hi
  refine lv_aload_n X.1 X.2.1 dL_readPart_0 rfl (lv_at hl 0 rfl) ?_
  refine lv_iload_n X.1 X.2.1 dL_readPart_1 rfl (lv_at hl 1 rfl) ?_
  refine lv_iload_n X.1 X.2.1 dL_readPart_2 rfl (lv_at hl 2 rfl) ?_
  refine lv_iload_n X.1 X.2.1 dL_readPart_3 rfl (lv_at hl 3 rfl) ?_
  refine lv_iload X.1 X.2.1 dL_readPart_4 (lv_at hl 4 rfl) ?_
  refine cFi X hW (HB.mem lv_0) (pC_6 (HB.kn lv_0 rfl)) rfl (co_readPart_e l HB hi hr hf hn h h4 (by omega)) (cwV 4 X.2.2.2.2 gL_readPart_X6_readPart rfl rfl rfl (by decide +kernel) ⟨Nat.le_of_ble_eq_true rfl, Nat.le_of_ble_eq_true rfl⟩) rfl rfl hl.1 (Nat.le_of_ble_eq_true rfl) dL_readPart_6 ⟨Nat.le_of_ble_eq_true rfl, Nat.le_of_ble_eq_true rfl⟩ (fun H locs hW hsz hk => ?_)
  refine lv_i2l (v := (-1).toInt64) X.1 X.2.1 dL_readPart_9 rfl ?_
  exact hE9 _ _ _ _ _ _ _ ad L K _ _ _ _ N (rfl) (show _ ≤ 2 by decide) (show _ ≤ 260 by decide) hW (by rw [h5, cpF_0, Nat.add_zero, u2_self]; exact HB) rfl dL_readPart_10

set_option maxHeartbeats 4000000 in
set_option maxRecDepth 100000 in
theorem wx_readPart_p (l : Launch) (hst : l.stackTraces = false) {G : va_G} {kT : Nat → ClassId} {a0 : Nat} {T : mT} {D : mD} (I : mI T) {i r f n : Nat} (hi : i < 3) (hr : r < 4) (hf : f + n ≤ T 1 (T 2 r)) (hn : n ≠ 0) (h : ¬ clo T i) (h4 : ¬ T 8 i = T 2 r + 1) (h5 : min n (T 10 i - T 9 i) ≠ 0) : wL l yL_readPart wsL_readPart ({ frames := 9, cells := 2, slots := 260, locals := 169 } : Room) G kT a0 [.ref (a0), .int (nI (i)), .int (nI (r)), .int (nI (f)), .int (nI (n))] T D (((nI (min n (T 10 i - T 9 i))) : Int32).toInt64) (u2 T 9 i (T 9 i + min n (T 10 i - T 9 i))) (cpF D 0 (256 * T 2 r + f) (rpF T D i) (min n (T 10 i - T 9 i))) := by
  refine wstL (cc := cL_readPart) (maxL := 6) (hh := [(0, 10, 11, 17), (0, 10, 17, 23), (0, 10, 23, 79), (0, 10, 29, 46)]) (by decide) rfl (Nat.le_of_ble_eq_true rfl) (fun ad L K R I A Q N HB h09 p e s m args below meth c Z hE9 X hT hE hW ls hl => ?_)
  subst h09
  have X : CallFix p m c cL_readPart 6 s args wsL_readPart RL := X
  have hl : lv_has ls 6 [(0, .ref (ad 0 0)), (1, .int (nI (i))), (2, .int (nI (r))), (3, .int (nI (f))), (4, .int (nI (n)))] := hl
  have hm9 := HB.mi.rd hi
  have h81 : T 8 i ≠ 0 := fun z => h (Or.inl z)
  refine lv_aload_n X.1 X.2.1 dL_readPart_0 rfl (lv_at hl 0 rfl) ?_
  refine lv_iload_n X.1 X.2.1 dL_readPart_1 rfl (lv_at hl 1 rfl) ?_
  refine lv_iload_n X.1 X.2.1 dL_readPart_2 rfl (lv_at hl 2 rfl) ?_
  refine lv_iload_n X.1 X.2.1 dL_readPart_3 rfl (lv_at hl 3 rfl) ?_
  refine lv_iload X.1 X.2.1 dL_readPart_4 (lv_at hl 4 rfl) ?_
  refine cFi X hW (HB.mem lv_0) (pC_6 (HB.kn lv_0 rfl)) rfl (co_readPart l HB hi hr hf hn h h4 (by omega)) (cwV 4 X.2.2.2.2 gL_readPart_X6_readPart rfl rfl rfl (by decide +kernel) ⟨Nat.le_of_ble_eq_true rfl, Nat.le_of_ble_eq_true rfl⟩) rfl rfl hl.1 (Nat.le_of_ble_eq_true rfl) dL_readPart_6 ⟨Nat.le_of_ble_eq_true rfl, Nat.le_of_ble_eq_true rfl⟩ (fun H locs hW hsz hk => ?_)
  refine lv_i2l (v := (nI (min n (T 10 i - T 9 i))).toInt64) X.1 X.2.1 dL_readPart_9 rfl ?_
  exact hE9 _ _ _ _ _ _ _ ad L K _ _ _ _ N (rfl) (show _ ≤ 2 by decide) (show _ ≤ 260 by decide) hW ((HB.putS (uS_row hr) (g := rpF T D i) (by omega) (fun k hk => by have h9 := hm9.2.2.2.2.2 h81; rw [HB.sA (uS_rd hi h81) (by omega), rpF, show 256 * (T 8 i - 1) + T 9 i + k = 256 * (T 8 i - 1) + (T 9 i + k) by omega]) (fun k hk => HB.md.1 _)).place hi (by omega)) rfl dL_readPart_10

set_option maxHeartbeats 4000000 in
set_option maxRecDepth 100000 in
theorem wx_mark (l : Launch) (hst : l.stackTraces = false) {G : va_G} {kT : Nat → ClassId} {a0 : Nat} {T : mT} {D : mD} (I : mI T) {i : Nat} {lm : Int32} (hi : i < 3) (hm : ¬ lm < 0) (h : ¬ clo T i) : wL l yL_mark wsL_mark ({ frames := 9, cells := 2, slots := 260, locals := 166 } : Room) G kT a0 [.ref (a0), .int (nI (i)), .int (lm)] T D (((nI (T 10 i - T 9 i)) : Int32).toInt64) (u2 T 11 i (T 9 i)) (D) := by
  refine wstL (cc := cL_mark) (maxL := 4) (hh := [(0, 7, 8, 17), (0, 7, 13, 23), (0, 7, 18, 79)]) (by decide) rfl (Nat.le_of_ble_eq_true rfl) (fun ad L K R I A Q N HB h09 p e s m args below meth c Z hE9 X hT hE hW ls hl => ?_)
  subst h09
  have X : CallFix p m c cL_mark 4 s args wsL_mark RL := X
  have hl : lv_has ls 4 [(0, .ref (ad 0 0)), (1, .int (nI (i))), (2, .int (lm))] := hl
  have hm9 := HB.mi.rd hi
  refine lv_aload_n X.1 X.2.1 dL_mark_0 rfl (lv_at hl 0 rfl) ?_
  refine lv_iload_n X.1 X.2.1 dL_mark_1 rfl (lv_at hl 1 rfl) ?_
  refine lv_iload_n X.1 X.2.1 dL_mark_2 rfl (lv_at hl 2 rfl) ?_
  refine cFi X hW (HB.mem lv_0) (pC_6 (HB.kn lv_0 rfl)) rfl (co_mark l HB hi hm h) (cwV 2 X.2.2.2.2 gL_mark_X6_mark rfl rfl rfl (by decide +kernel) ⟨Nat.le_of_ble_eq_true rfl, Nat.le_of_ble_eq_true rfl⟩) rfl rfl hl.1 (Nat.le_of_ble_eq_true rfl) dL_mark_3 ⟨Nat.le_of_ble_eq_true rfl, Nat.le_of_ble_eq_true rfl⟩ (fun H locs hW hsz hk => ?_)
  refine lv_i2l (v := (nI (T 10 i - T 9 i)).toInt64) X.1 X.2.1 dL_mark_6 rfl ?_
  exact hE9 _ _ _ _ _ _ _ ad L K _ _ _ _ N (rfl) (show _ ≤ 2 by decide) (show _ ≤ 260 by decide) hW (HB.marked hi (by omega)) rfl dL_mark_7

set_option maxHeartbeats 4000000 in
set_option maxRecDepth 100000 in
theorem wx_back (l : Launch) (hst : l.stackTraces = false) {G : va_G} {kT : Nat → ClassId} {a0 : Nat} {T : mT} {D : mD} (I : mI T) {i : Nat} (hi : i < 3) (h : ¬ clo T i) : wL l yL_back wsL_back ({ frames := 9, cells := 2, slots := 260, locals := 165 } : Room) G kT a0 [.ref (a0), .int (nI (i))] T D (((nI (T 10 i - T 11 i)) : Int32).toInt64) (u2 T 9 i (T 11 i)) (D) := by
  refine wstL (cc := cL_back) (maxL := 3) (hh := [(0, 6, 7, 17), (0, 6, 12, 79)]) (by decide) rfl (Nat.le_of_ble_eq_true rfl) (fun ad L K R I A Q N HB h09 p e s m args below meth c Z hE9 X hT hE hW ls hl => ?_)
  subst h09
  have X : CallFix p m c cL_back 3 s args wsL_back RL := X
  have hl : lv_has ls 3 [(0, .ref (ad 0 0)), (1, .int (nI (i)))] := hl
  have hm9 := HB.mi.rd hi
  refine lv_aload_n X.1 X.2.1 dL_back_0 rfl (lv_at hl 0 rfl) ?_
  refine lv_iload_n X.1 X.2.1 dL_back_1 rfl (lv_at hl 1 rfl) ?_
  refine cFi X hW (HB.mem lv_0) (pC_6 (HB.kn lv_0 rfl)) rfl (co_back l HB hi h) (cwV 1 X.2.2.2.2 gL_back_X6_back rfl rfl rfl (by decide +kernel) ⟨Nat.le_of_ble_eq_true rfl, Nat.le_of_ble_eq_true rfl⟩) rfl rfl hl.1 (Nat.le_of_ble_eq_true rfl) dL_back_2 ⟨Nat.le_of_ble_eq_true rfl, Nat.le_of_ble_eq_true rfl⟩ (fun H locs hW hsz hk => ?_)
  refine lv_i2l (v := (nI (T 10 i - T 11 i)).toInt64) X.1 X.2.1 dL_back_5 rfl ?_
  exact hE9 _ _ _ _ _ _ _ ad L K _ _ _ _ N (rfl) (show _ ≤ 2 by decide) (show _ ≤ 260 by decide) hW (HB.place hi (by omega)) rfl dL_back_6

set_option maxHeartbeats 4000000 in
set_option maxRecDepth 100000 in
theorem wx_skip (l : Launch) (hst : l.stackTraces = false) {G : va_G} {kT : Nat → ClassId} {a0 : Nat} {T : mT} {D : mD} {i : Nat} {lm : Int64} (hi : i < 3) (h : ¬ clo T i) : wL l yL_skip wsL_skip ({ frames := 9, cells := 2, slots := 260, locals := 166 } : Room) G kT a0 [.ref (a0), .int (nI (i)), .long (lm)] T D (lN (skN lm (T 10 i - T 9 i))) (u2 T 9 i (T 9 i + skN lm (T 10 i - T 9 i))) (D) := by
  refine wstL (cc := cL_skip) (maxL := 5) (hh := [(0, 6, 7, 17), (0, 6, 13, 79)]) (by decide) rfl (Nat.le_of_ble_eq_true rfl) (fun ad L K R I A Q N HB h09 p e s m args below meth c Z hE9 X hT hE hW ls hl => ?_)
  subst h09
  have X : CallFix p m c cL_skip 5 s args wsL_skip RL := X
  have hl : lv_has ls 5 [(0, .ref (ad 0 0)), (1, .int (nI (i))), (2, .long (lm))] := hl
  have hm9 := HB.mi.rd hi
  refine lv_aload_n X.1 X.2.1 dL_skip_0 rfl (lv_at hl 0 rfl) ?_
  refine lv_iload_n X.1 X.2.1 dL_skip_1 rfl (lv_at hl 1 rfl) ?_
  refine lv_lload_n X.1 X.2.1 dL_skip_2 rfl (lv_at hl 2 rfl) ?_
  refine cFl X hW (HB.mem lv_0) (pC_6 (HB.kn lv_0 rfl)) rfl (co_skip l HB (lm := lm) hi h) (cwV 2 X.2.2.2.2 gL_skip_X6_skip rfl rfl rfl (by decide +kernel) ⟨Nat.le_of_ble_eq_true rfl, Nat.le_of_ble_eq_true rfl⟩) rfl rfl hl.1 (Nat.le_of_ble_eq_true rfl) dL_skip_3 ⟨Nat.le_of_ble_eq_true rfl, Nat.le_of_ble_eq_true rfl⟩ (fun H locs hW hsz hk => ?_)
  exact hE9 _ _ _ _ _ _ _ ad L K _ _ _ _ N (rfl) (show _ ≤ 2 by decide) (show _ ≤ 260 by decide) hW (HB.place hi (by have h5 := skN_le lm (T 10 i - T 9 i); omega)) rfl dL_skip_6

set_option maxHeartbeats 4000000 in
set_option maxRecDepth 100000 in
theorem wx_areLike (l : Launch) (hst : l.stackTraces = false) {G : va_G} {kT : Nat → ClassId} {a0 : Nat} {T : mT} {D : mD} {w v : Nat} (hw : w < 3) (hv : v < 3) (h : sk_like T D w (3 + v) = 1) : wL l yL_areLike wsL_areLike ({ frames := 8, cells := 2, slots := 260, locals := 143 } : Room) G kT a0 [.ref (a0), .int (nI (w)), .int (nI (v))] T D (((nI 1) : Int32).toInt64) (T) (D) := by
  refine wstL (cc := cL_areLike) (maxL := 4) (hh := [(0, 14, 15, 17)]) (by decide) rfl (Nat.le_of_ble_eq_true rfl) (fun ad L K R I A Q N HB h09 p e s m args below meth c Z hE9 X hT hE hW ls hl => ?_)
  subst h09
  have X : CallFix p m c cL_areLike 4 s args wsL_areLike RL := X
  have hl : lv_has ls 4 [(0, .ref (ad 0 0)), (1, .int (nI (w))), (2, .int (nI (v)))] := hl
  refine lv_aload_n X.1 X.2.1 dL_areLike_0 rfl (lv_at hl 0 rfl) ?_
  refine lv_iload_n X.1 X.2.1 dL_areLike_1 rfl (lv_at hl 1 rfl) ?_
  refine lv_iload_n X.1 X.2.1 dL_areLike_2 rfl (lv_at hl 2 rfl) ?_
  refine cFi X hW (HB.mem lv_0) (pC_6 (HB.kn lv_0 rfl)) rfl (co_areLike l HB hw hv) (cwV 2 X.2.2.2.2 gL_areLike_X6_areLike rfl rfl rfl (by decide +kernel) ⟨Nat.le_of_ble_eq_true rfl, Nat.le_of_ble_eq_true rfl⟩) rfl rfl hl.1 (Nat.le_of_ble_eq_true rfl) dL_areLike_3 ⟨Nat.le_of_ble_eq_true rfl, Nat.le_of_ble_eq_true rfl⟩ (fun H locs hW hsz hk => ?_)
  refine n_if_eq_f (tgt := 13) X.1 X.2.1 dL_areLike_6 (by decide) (by omega) (by omega) ?_
  refine lv_lconst (v := lN 1) X.1 X.2.1 dL_areLike_9 rfl ?_
  refine lv_goto (tgt := 14) X.1 X.2.1 dL_areLike_10 (by decide) ?_
  exact hE9 _ _ _ _ _ _ _ ad L K _ _ _ _ N (rfl) (show _ ≤ 2 by decide) (show _ ≤ 260 by decide) hW (HB) rfl dL_areLike_14

set_option maxHeartbeats 4000000 in
set_option maxRecDepth 100000 in
theorem wx_isTrue (l : Launch) (hst : l.stackTraces = false) {G : va_G} {kT : Nat → ClassId} {a0 : Nat} {T : mT} {D : mD} : wL l yL_isTrue wsL_isTrue ({ frames := 6, cells := 2, slots := 260, locals := 133 } : Room) G kT a0 [.ref (a0)] T D 1 T D := by
  refine wstL0 (cc := cL_isTrue) (maxL := 1) (by decide) rfl (Nat.le_of_ble_eq_true rfl) (fun ad L K R I A Q N HB h09 p e s m args below meth c Z hE9 X hW ls hl => ?_)
  subst h09
  have X : CallFix p m c cL_isTrue 1 s args wsL_isTrue RL := X
  have hl : lv_has ls 1 [(0, .ref (ad 0 0))] := hl
  refine lv_aload_n X.1 X.2.1 dL_isTrue_0 rfl (lv_at hl 0 rfl) ?_
  refine cFN (cs := []) X hW (HB.mem lv_0) (pC_6 (HB.kn lv_0 rfl)) rfl (fun C h => absurd h List.not_mem_nil) (co_isTrue l HB) (cwV 0 X.2.2.2.2 gL_isTrue_X6_isTrue rfl rfl rfl (by decide +kernel) ⟨Nat.le_of_ble_eq_true rfl, Nat.le_of_ble_eq_true rfl⟩) rfl rfl hl.1 (Nat.le_of_ble_eq_true rfl) dL_isTrue_1 ⟨Nat.le_of_ble_eq_true rfl, Nat.le_of_ble_eq_true rfl⟩ (fun L2 K2 R2 I2 A2 Q2 N2 H locs hW hF hsz hk hL2 => ?_)
  obtain ⟨rfl, rfl, rfl, HB2⟩ := hF
  refine n_if_eq_f (tgt := 11) X.1 X.2.1 dL_isTrue_4 (by decide) (by decide) (by omega) ?_
  refine lv_lconst (v := lN 1) X.1 X.2.1 dL_isTrue_7 rfl ?_
  refine lv_goto (tgt := 12) X.1 X.2.1 dL_isTrue_8 (by decide) ?_
  exact hE9 _ _ _ _ _ _ _ ad _ _ _ _ _ _ _ rfl (show _ ≤ 2 by decide) (show _ ≤ 260 by decide) hW (HB2) (rfl) dL_isTrue_12
