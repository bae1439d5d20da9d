/-! the trial: what it changes is its own -/
section SCR
variable {T : mT} {D : mD} {ad : pD} {L : List Nat} {K : pN} {R : pR} {I : pI} {A : mD} {Q : pR} {N : pN}
/-- the trial's own names -/
def own (k i : Nat) : Prop := (k = 8 ∧ (i = 6 ∨ i = 7)) ∨ (13 ≤ k ∧ k ≤ 16 ∧ i = 0)
theorem own_lv {k i : Nat} (h : own k i) : lv T k i := by
  rcases h with ⟨rfl, h⟩ | ⟨h1, h2, rfl⟩
  · exact lv_8 (by omega)
  · exact lv_t (by omega) h2
theorem Rep.tA (HB : Rep T D ad L K R I A Q N) {k i : Nat} (ho : own k i) {A2 : mD} (hA : ∀ y, y ≠ ad k i → A2 y = A y) : Rep T D ad L K R I A2 Q N := by
  have hl := own_lv (T := T) ho
  refine ⟨HB.1, HB.2.1, HB.2.2.1, fun z hz => ?_, fun z hz => ?_, ⟨fun w hw => ?_, HB.rw.2⟩, HB.rr, HB.rj, HB.mi, HB.md⟩
  · rw [hA _ (HB.ne (lv_4 hz) hl (by rcases ho with ⟨e, _⟩ | ⟨e, _⟩ <;> exact Or.inl (by omega)))]; exact HB.rs z hz
  · rw [hA _ (HB.ne (lv_6 hz) hl (by rcases ho with ⟨e, _⟩ | ⟨e, _⟩ <;> exact Or.inl (by omega)))]; exact HB.rb z hz
  · rw [hA _ (HB.ne (lv_8 (by omega)) hl (by rcases ho with ⟨e, e2⟩ | ⟨e, _⟩; exact Or.inr (by omega); exact Or.inl (by omega)))]; exact HB.rw.1 w hw
theorem Rep.tI (HB : Rep T D ad L K R I A Q N) {x : Nat} (hx : x = ad 9 3 ∨ x = ad 10 2) {I2 : pI} (hI : ∀ f y, y ≠ x → I2 f y = I f y) : Rep T D ad L K R I2 A Q N := by
  have n7 : ∀ w, w < 8 → ad 7 w ≠ x := fun w hw => hx.elim (fun e => by rw [e]; exact HB.ne (lv_7 hw) (lv_9 (by decide)) (Or.inl (by decide))) (fun e => by rw [e]; exact HB.ne (lv_7 hw) (lv_10 (by decide)) (Or.inl (by decide)))
  have n9 : ∀ i, i < 3 → ad 9 i ≠ x := fun i hi => hx.elim (fun e => by rw [e]; exact HB.ne (lv_9 (by omega)) (lv_9 (by decide)) (Or.inr (by omega))) (fun e => by rw [e]; exact HB.ne (lv_9 (by omega)) (lv_10 (by decide)) (Or.inl (by decide)))
  have n10 : ∀ j, j < 2 → ad 10 j ≠ x := fun j hj => hx.elim (fun e => by rw [e]; exact HB.ne (lv_10 (by omega)) (lv_9 (by decide)) (Or.inl (by decide))) (fun e => by rw [e]; exact HB.ne (lv_10 (by omega)) (lv_10 (by decide)) (Or.inr (by omega)))
  refine ⟨HB.1, HB.2.1, HB.2.2.1, HB.rs, HB.rb, ⟨fun w hw => ?_, fun w h1 h2 => ?_⟩, fun i hi => ?_, fun j hj => ?_, HB.mi, HB.md⟩
  · rw [hI _ _ (n7 w (by omega))]; exact HB.rw.1 w hw
  · rw [hI _ _ (n7 w h2)]; exact HB.rw.2 w h1 h2
  · rw [hI _ _ (n9 i hi), hI _ _ (n9 i hi), hI _ _ (n9 i hi), hI _ _ (n9 i hi), hI _ _ (n9 i hi)]; exact HB.rr i hi
  · rw [hI _ _ (n10 j hj), hI _ _ (n10 j hj), hI _ _ (n10 j hj), hI _ _ (n10 j hj), hI _ _ (n10 j hj)]; exact HB.rj j hj
theorem Rep.tW (HB : Rep T D ad L K R I A Q N) {w n : Nat} (hw : w = 6 ∨ w = 7) (hn : n ≤ 256) : Rep T D ad L K R (u2 I 10 (ad 7 w) (nI n)) A Q N := by
  have hl : lv T 7 w := lv_7 (by omega)
  refine ⟨HB.1, HB.2.1, HB.2.2.1, HB.rs, HB.rb, ⟨fun v hv => ?_, fun v h1 h2 => ?_⟩, HB.rr, HB.rj, HB.mi, HB.md⟩
  · rw [u2_nj (HB.ne (lv_7 (by omega)) hl (Or.inr (by omega)))]; exact HB.rw.1 v hv
  · by_cases e : v = w
    · subst e; exact ⟨n, hn, u2_eq⟩
    · rw [u2_nj (HB.ne (lv_7 h2) hl (Or.inr e))]; exact HB.rw.2 v h1 h2
theorem Rep.tR (HB : Rep T D ad L K R I A Q N) {v : Option Nat} : Rep T D ad L K (u2 R 2 (ad 9 3) v) I A Q N := by
  have hk : ∀ f b, f ≠ 2 → u2 R 2 (ad 9 3) v f b = R f b := fun f b h => congrFun (u2_ne h) _
  refine ⟨HB.1, ⟨fun k hk6 => (hk _ _ (by omega)).trans (HB.rc.1 k hk6), HB.rc.2⟩, HB.2.2.1, fun z hz => HB.rs z hz, fun z hz => HB.rb z hz, HB.rw, fun i hi => ⟨(HB.rr i hi).1, fun z => ?_⟩, HB.rj, HB.mi, HB.md⟩
  obtain ⟨g1, g2, g3⟩ := (HB.rr i hi).2 z
  exact ⟨g1, (u2_nj (HB.ne (lv_9 (by omega)) (lv_9 (by decide)) (Or.inr (by omega)))).trans g2, g3⟩
theorem Rep.tQ (HB : Rep T D ad L K R I A Q N) {Q2 : pR} (hQ : ∀ y, y ≠ ad 11 2 → Q2 y = Q y) : Rep T D ad L K R I A Q2 N := by
  have q : ∀ k i, lv T k i → (k ≠ 11 ∨ i ≠ 2) → Q2 (ad k i) = Q (ad k i) := fun k i h h2 => hQ _ (HB.ne h (lv_11 (by decide)) h2)
  obtain ⟨c1, c2, c3, c9, c10, c11, c12, c13⟩ := HB.rc
  refine ⟨HB.1, ⟨c1, c2, c3, ?_, ?_, ?_, ?_, c13⟩, ⟨?_, ?_⟩, HB.rs, HB.rb, HB.rw, HB.rr, fun j hj => ?_, HB.mi, HB.md⟩
  · rw [q 1 2 (lv_1 (by decide)) (Or.inl (by decide))]; exact c9
  · rw [q 1 3 (lv_1 (by decide)) (Or.inl (by decide))]; exact c10
  · rw [q 1 4 (lv_1 (by decide)) (Or.inl (by decide))]; exact c11
  · rw [q 1 5 (lv_1 (by decide)) (Or.inl (by decide))]; exact c12
  · rw [q 1 0 (lv_1 (by decide)) (Or.inl (by decide))]; exact HB.rq.1
  · rw [q 1 1 (lv_1 (by decide)) (Or.inl (by decide))]; exact HB.rq.2
  · rw [q 11 j (lv_11 (by omega)) (Or.inr (by omega))]; exact HB.rj j hj
theorem Rep.rt (HB : Rep T D ad L K R I A Q N) : rpT ad R N := HB.rc.2.2.2.2.2.2.2.2.2
theorem Rep.trow (HB : Rep T D ad L K R I A Q N) : isSR L K R N (ad 12 0) (ad 13 0) 256 :=
  ⟨HB.mem (lv_t (by decide) (by decide)), HB.kn (lv_t (by decide) (by decide)) rfl, HB.rt.2.2.2.2.2.2.2.2.1, HB.mem (lv_t (by decide) (by decide)), HB.kn (lv_t (by decide) (by decide)) rfl, HB.rt.2.2.2.2.2.2.2.2.2.1, Nat.le_refl _⟩
theorem Rep.tthree (HB : Rep T D ad L K R I A Q N) : isCA L K N (ad 14 0) 3 :=
  ⟨HB.mem (lv_t (by decide) (by decide)), HB.kn (lv_t (by decide) (by decide)) rfl, HB.rt.2.2.2.2.2.2.2.2.2.2.1, by decide⟩
end SCR
/-- a trial's call leaves the state -/
def ΦR (T : mT) (D : mD) (ad : pD) (L : List Nat) (K N : pN) : pΦ := fun L2 K2 R2 I2 A2 Q2 N2 => L = L2 ∧ K = K2 ∧ N = N2 ∧ Rep T D ad L K R2 I2 A2 Q2 N
theorem cN_of_cM {l : Launch} {y : MethodName} {ws : List Cond} {rm : Room} {G : va_G} {kT : Nat → ClassId} {as : List Value} {L : List Nat} {K : pN} {R R2 : pR} {I I2 : pI} {A A2 : mD} {Q Q2 : pR} {N : pN} {r : Int32} {Φ : pΦ} (h : cMi l y ws rm G kT as L K R I A Q N r R2 I2 A2 Q2) (hΦ : Φ L K R2 I2 A2 Q2 N) : cNi l y ws rm G kT as L K R I A Q N 0 0 [] r Φ := by
  intro sz p e ha hc hk s m args below hf happ hpre hk2
  obtain ⟨e1, e2, e3, e4, e5, -⟩ := hpre
  obtain ⟨n, o, g1, g2, g3, ⟨⟨v, u, q1, q2, q3, q4⟩, q5⟩, g5⟩ := h sz p e ha hc hk s m args below hf happ ⟨e1, e2, e3, e4, e5⟩ hk2
  exact ⟨n, o, g1, g2, g3, ⟨⟨v, u, q1, q2, L, K, R2, I2, A2, Q2, N, q3, q4, e5, fun a ha => Or.inl ha, hΦ⟩, q5⟩, g5⟩
set_option maxHeartbeats 4000000 in
set_option maxRecDepth 100000 in
theorem ct_openReader (l : Launch) {G : va_G} {kT : Nat → ClassId} {L : List Nat} {K : Nat → Nat} {R : pR} {I : pI} {A : mD} {Q : pR} {N : Nat → Nat} {T : mT} {D : mD} {ad : pD} (HB : Rep T D ad L K R I A Q N) {w : Nat} (hw : w < 6) : cMv l yX5_openReader wsX5_openReader ({ frames := 2, cells := 0, slots := 0, locals := 44 } : Room) G kT [.ref (ad 2 0), .ref (ad 7 w)] L K (R) (I) (A) (Q) N (u2 R 2 (ad 9 3) (some (ad 12 0))) (opI I (ad 9 3) 0 (T 7 w)) (cpF A (ad 13 0) 0 (fun i => A (ad 8 w) i) (T 7 w)) (Q) := by
  refine cstv (cc := cX5_openReader) (maxL := 2) (ret := none) (by decide) rfl rfl (Nat.le_of_ble_eq_true rfl) (fun p e s m args below meth c Z hE X hW ls hl => ?_)
  have X : CallFix p m c cX5_openReader 2 s args wsX5_openReader RX5 := X
  have hl : lv_has ls 2 [(0, .ref (ad 2 0)), (1, .ref (ad 7 w))] := hl
  have hin2 : ∀ w ∈ wsX20, w ∈ wsX5_openReader := fun w h => List.mem_cons_of_mem _ (List.mem_append_left _ (List.mem_append_right _ (h)))
  have hin3 : ∀ w ∈ wsX30, w ∈ wsX5_openReader := fun w h => List.mem_cons_of_mem _ (List.mem_append_left _ (List.mem_append_left _ (List.mem_append_left _ (List.mem_append_right _ (h)))))
  have hin4 : ∀ w ∈ wsX40, w ∈ wsX5_openReader := fun w h => List.mem_cons_of_mem _ (List.mem_append_left _ (List.mem_append_left _ (List.mem_append_right _ (h))))
  have hin5 : ∀ w ∈ wsX50, w ∈ wsX5_openReader := fun w h => List.mem_cons_of_mem _ (List.mem_append_left _ (List.mem_append_left _ (List.mem_append_left _ (List.mem_append_left _ (List.mem_append_right _ (h))))))
  have hwr := HB.wr hw
  have hn9 := hwr.2.2.2.2.2.2.2
  have e9 : 0 + min (T 7 w) (256 - 0) = T 7 w := by omega
  refine lv_aload_n X.1 X.2.1 dX5_openReader_0 rfl (lv_at hl 1 rfl) ?_
  refine lv_aload_n X.1 X.2.1 dX5_openReader_1 rfl (lv_at hl 0 rfl) ?_
  refine cg_5_row X hin5 hW (HB.mem lv_2) (HB.kn lv_2 rfl) (HB.rt.1) (X.2.2.2.2 (.fieldLink RX5 14 "Strandbook$Trial" "row" "LStrandbook$SignRow;") (List.mem_cons_of_mem _ (List.mem_append_left _ (List.mem_append_left _ (List.mem_append_left _ (List.mem_append_left _ (List.mem_append_left _ (List.mem_append_left _ (List.mem_of_getElem? (i := 0) rfl))))))))) dX5_openReader_2 ?_
  refine cg_3_signs X hin3 hW (HB.mem (lv_t (by decide) (by decide))) (HB.kn (lv_t (by decide) (by decide)) rfl) (HB.rt.2.2.2.2.2.2.2.2.1) (X.2.2.2.2 (.fieldLink RX5 85 "Strandbook$SignRow" "signs" "[C") (List.mem_cons_of_mem _ (List.mem_append_left _ (List.mem_append_left _ (List.mem_append_left _ (List.mem_append_left _ (List.mem_append_left _ (List.mem_append_left _ (List.mem_of_getElem? (i := 1) rfl))))))))) dX5_openReader_5 ?_
  refine cVv X hW (hwr.1) (pC_4 (hwr.2.1)) rfl (ct_copyTo l hwr (sr := ad 13 0) (k := 256) ⟨HB.trow.2.2.2.1, HB.trow.2.2.2.2.1, HB.trow.2.2.2.2.2.1, Nat.le_refl _⟩ (HB.ne (lv_8 (by omega)) (lv_t (by decide) (by decide)) (Or.inl (by decide))) (by omega) (fun i hi => HB.wN hw hi)) (cwV 1 X.2.2.2.2 gX5_openReader_X4_copyTo rfl rfl rfl (by decide +kernel) ⟨Nat.le_of_ble_eq_true rfl, Nat.le_of_ble_eq_true rfl⟩) rfl rfl hl.1 (Nat.le_of_ble_eq_true rfl) dX5_openReader_8 ⟨Nat.zero_le _, Nat.zero_le _⟩ (fun H locs hW => ?_)
  refine lv_aload_n X.1 X.2.1 dX5_openReader_11 rfl (lv_at hl 0 rfl) ?_
  refine cg_5_reader X hin5 hW (HB.mem lv_2) (HB.kn lv_2 rfl) (HB.rt.2.2.1) (X.2.2.2.2 (.fieldLink RX5 27 "Strandbook$Trial" "reader" "LStrandbook$SignReader;") (List.mem_cons_of_mem _ (List.mem_append_left _ (List.mem_append_left _ (List.mem_append_left _ (List.mem_append_left _ (List.mem_append_left _ (List.mem_append_left _ (List.mem_of_getElem? (i := 2) rfl))))))))) dX5_openReader_12 ?_
  refine lv_aload_n X.1 X.2.1 dX5_openReader_15 rfl (lv_at hl 0 rfl) ?_
  refine cg_5_row X hin5 hW (HB.mem lv_2) (HB.kn lv_2 rfl) (HB.rt.1) (X.2.2.2.2 (.fieldLink RX5 14 "Strandbook$Trial" "row" "LStrandbook$SignRow;") (List.mem_cons_of_mem _ (List.mem_append_left _ (List.mem_append_left _ (List.mem_append_left _ (List.mem_append_left _ (List.mem_append_left _ (List.mem_append_left _ (List.mem_of_getElem? (i := 0) rfl))))))))) dX5_openReader_16 ?_
  refine lv_iconst (v := nI 0) X.1 X.2.1 dX5_openReader_19 (by decide) ?_
  refine lv_aload_n X.1 X.2.1 dX5_openReader_20 rfl (lv_at hl 1 rfl) ?_
  refine cg_4_count X hin4 hW (hwr.1) (hwr.2.1) (hwr.2.2.2.2.2.2.1) (X.2.2.2.2 (.fieldLink RX5 92 "Strandbook$SignWriter" "count" "I") (List.mem_cons_of_mem _ (List.mem_append_left _ (List.mem_append_left _ (List.mem_append_left _ (List.mem_append_left _ (List.mem_append_left _ (List.mem_append_left _ (List.mem_of_getElem? (i := 3) rfl))))))))) dX5_openReader_21 ?_
  refine cVv X hW (HB.mem (lv_9 (by decide))) (pC_2 (HB.kn (lv_9 (by decide)) rfl)) rfl (ct_openOn l (HB.mem (lv_9 (by decide))) (HB.kn (lv_9 (by decide)) rfl) HB.trow (Nat.zero_le _) (by omega)) (cwV 3 X.2.2.2.2 gX5_openReader_X2_openOn rfl rfl rfl (by decide +kernel) ⟨Nat.le_of_ble_eq_true rfl, Nat.le_of_ble_eq_true rfl⟩) rfl rfl hl.1 (Nat.le_of_ble_eq_true rfl) dX5_openReader_24 ⟨Nat.zero_le _, Nat.zero_le _⟩ (fun H locs hW => ?_)
  exact hE _ _ _ _ (hW.eq rfl (by rw [e9]; rfl) rfl rfl) dX5_openReader_27
set_option maxHeartbeats 4000000 in
set_option maxRecDepth 100000 in
theorem ct_readOnes (l : Launch) {G : va_G} {kT : Nat → ClassId} {L : List Nat} {K : Nat → Nat} {R : pR} {I : pI} {A : mD} {Q : pR} {N : Nat → Nat} {T : mT} {D : mD} {ad : pD} (HB : Rep T D ad L K R I A Q N) {w : Nat} (hw : w < 6) : cMi l yX5_isReadByOnes wsX5_isReadByOnes ({ frames := 3, cells := 0, slots := 0, locals := 65 } : Room) G kT [.ref (ad 2 0), .ref (ad 7 w)] L K (R) (I) (A) (Q) N (nI 1) (u2 R 2 (ad 9 3) (some (ad 12 0))) (u2 (opI I (ad 9 3) 0 (T 7 w)) 5 (ad 9 3) (nI (T 7 w))) (cpF A (ad 13 0) 0 (fun i => A (ad 8 w) i) (T 7 w)) (Q) := by
  refine csti (cc := cX5_isReadByOnes) (maxL := 3) (ret := (some .boolean)) (by decide) rfl ⟨_, rfl⟩ (Nat.le_of_ble_eq_true rfl) (fun p e s m args below meth c Z hE X hW ls hl => ?_)
  have X : CallFix p m c cX5_isReadByOnes 3 s args wsX5_isReadByOnes RX5 := X
  have hl : lv_has ls 3 [(0, .ref (ad 2 0)), (1, .ref (ad 7 w))] := hl
  have hin2 : ∀ w ∈ wsX20, w ∈ wsX5_isReadByOnes := fun w h => List.mem_cons_of_mem _ (List.mem_append_left _ (List.mem_append_right _ (h)))
  have hin3 : ∀ w ∈ wsX30, w ∈ wsX5_isReadByOnes := fun w h => List.mem_cons_of_mem _ (List.mem_append_left _ (List.mem_append_left _ (List.mem_append_right _ (h))))
  have hin4 : ∀ w ∈ wsX40, w ∈ wsX5_isReadByOnes := fun w h => List.mem_cons_of_mem _ (List.mem_append_left _ (List.mem_append_left _ (List.mem_append_left _ (List.mem_append_left _ (List.mem_append_right _ (h))))))
  have hin5 : ∀ w ∈ wsX50, w ∈ wsX5_isReadByOnes := fun w h => List.mem_cons_of_mem _ (List.mem_append_left _ (List.mem_append_left _ (List.mem_append_left _ (List.mem_append_right _ (h)))))
  have hwr := HB.wr hw
  have hn9 := hwr.2.2.2.2.2.2.2
  have e50 : opI I (ad 9 3) 0 (T 7 w) = u2 (opI I (ad 9 3) 0 (T 7 w)) 5 (ad 9 3) (nI 0) := (show u2 (opI I (ad 9 3) 0 (T 7 w)) 5 (ad 9 3) (nI 0) = opI I (ad 9 3) 0 (T 7 w) by rw [← opI_5 (I := I) (th := ad 9 3) (f := 0) (e := T 7 w)]; exact u2_self).symm
  refine lv_aload_n X.1 X.2.1 dX5_isReadByOnes_0 rfl (lv_at hl 0 rfl) ?_
  refine lv_aload_n X.1 X.2.1 dX5_isReadByOnes_1 rfl (lv_at hl 1 rfl) ?_
  refine cVv X hW (HB.mem lv_2) (pC_5 (HB.kn lv_2 rfl)) rfl (ct_openReader l HB hw) (cwV 1 X.2.2.2.2 gX5_isReadByOnes_X5_openReader rfl rfl rfl (by decide +kernel) ⟨Nat.le_of_ble_eq_true rfl, Nat.le_of_ble_eq_true rfl⟩) rfl rfl hl.1 (Nat.le_of_ble_eq_true rfl) dX5_isReadByOnes_2 ⟨Nat.zero_le _, Nat.zero_le _⟩ (fun H locs hW => ?_)
  refine lv_iconst (v := nI 0) X.1 X.2.1 dX5_isReadByOnes_5 (by decide) ?_
  refine lv_istore_n (lv' := [(2, .int (nI (0))), (0, .ref (ad 2 0)), (1, .ref (ad 7 w))]) X.1 X.2.1 dX5_isReadByOnes_6 rfl hl (by decide) rfl (fun ls hl => ?_)
  have loop7 : ∀ (n7 k7 : Nat), k7 + n7 = T 7 w → ∀ (H : Heap) (locs : List Loc), cH G kT L L K ((u2 R 2 (ad 9 3) (some (ad 12 0)))) (u2 (opI I (ad 9 3) 0 (T 7 w)) 5 (ad 9 3) (nI k7)) ((cpF A (ad 13 0) 0 (fun i => A (ad 8 w) i) (T 7 w))) (Q) N s H locs → ∀ ls : Array Slot, lv_has ls 3 [(0, .ref (ad 2 0)), (1, .ref (ad 7 w)), (2, .int (nI (k7)))] → W p l e ({ frames := 3, cells := 0, slots := 0, locals := 65 } : Room) s m args below meth c H locs 0 0 Z (F0 m 7 ls []) := by
    intro n7
    induction n7 with
    | zero =>
      intro k7 hk7  H locs hW ls hl
      obtain rfl : T 7 w = k7 := by omega
      refine lv_iload_n X.1 X.2.1 dX5_isReadByOnes_7 rfl (lv_at hl 2 rfl) ?_
      refine lv_aload_n X.1 X.2.1 dX5_isReadByOnes_8 rfl (lv_at hl 1 rfl) ?_
      refine cg_4_count X hin4 hW (hwr.1) (hwr.2.1) ((congrFun (u2_ne (by decide)) _).trans (hwr.2.2.2.2.2.2.1)) (X.2.2.2.2 (.fieldLink RX5 92 "Strandbook$SignWriter" "count" "I") (List.mem_cons_of_mem _ (List.mem_append_left _ (List.mem_append_left _ (List.mem_append_left _ (List.mem_append_left _ (List.mem_append_left _ (List.mem_append_left _ (List.mem_of_getElem? (i := 0) rfl))))))))) dX5_isReadByOnes_9 ?_
      refine n_icmp_ge_t (tgt := 39) X.1 X.2.1 dX5_isReadByOnes_12 (by decide) (by omega) (by omega) (by omega) ?_
      refine lv_aload_n X.1 X.2.1 dX5_isReadByOnes_39 rfl (lv_at hl 0 rfl) ?_
      refine cg_5_reader X hin5 hW (HB.mem lv_2) (HB.kn lv_2 rfl) ((congrFun (u2_ne (by decide)) _).trans (HB.rt.2.2.1)) (X.2.2.2.2 (.fieldLink RX5 27 "Strandbook$Trial" "reader" "LStrandbook$SignReader;") (List.mem_cons_of_mem _ (List.mem_append_left _ (List.mem_append_left _ (List.mem_append_left _ (List.mem_append_left _ (List.mem_append_left _ (List.mem_append_left _ (List.mem_of_getElem? (i := 1) rfl))))))))) dX5_isReadByOnes_40 ?_
      refine cVi X hW (HB.mem (lv_9 (by decide))) (pC_2 (HB.kn (lv_9 (by decide)) rfl)) rfl (ct_readOne_e l (a := T 7 w) (b := T 7 w) (ro := ad 12 0) ⟨HB.mem (lv_9 (by decide)), HB.kn (lv_9 (by decide)) rfl, u2_eq, u2_eq, (congrFun (u2_ne (by decide)) _).trans opI_6, (by omega), (by omega)⟩ rfl) (cwV 0 X.2.2.2.2 gX5_isReadByOnes_X2_readOne rfl rfl rfl (by decide +kernel) ⟨Nat.le_of_ble_eq_true rfl, Nat.le_of_ble_eq_true rfl⟩) rfl rfl hl.1 (Nat.le_of_ble_eq_true rfl) dX5_isReadByOnes_43 ⟨Nat.zero_le _, Nat.zero_le _⟩ (fun H locs hW => ?_)
      refine lv_iconst (v := -1) X.1 X.2.1 dX5_isReadByOnes_46 (by decide) ?_
      refine x_icmp_ne_f (tgt := 54) X.1 X.2.1 dX5_isReadByOnes_47 (by decide) (rfl) ?_
      refine lv_iconst (v := nI 1) X.1 X.2.1 dX5_isReadByOnes_50 (by decide) ?_
      refine lv_goto (tgt := 55) X.1 X.2.1 dX5_isReadByOnes_51 (by decide) ?_
      exact hE _ _ _ _ _ (rfl) (fun ty hty => by cases hty; exact nI_zb (by omega)) hW dX5_isReadByOnes_55
    | succ n7 ih7 =>
      intro k7 hk7  H locs hW ls hl
      refine lv_iload_n X.1 X.2.1 dX5_isReadByOnes_7 rfl (lv_at hl 2 rfl) ?_
      refine lv_aload_n X.1 X.2.1 dX5_isReadByOnes_8 rfl (lv_at hl 1 rfl) ?_
      refine cg_4_count X hin4 hW (hwr.1) (hwr.2.1) ((congrFun (u2_ne (by decide)) _).trans (hwr.2.2.2.2.2.2.1)) (X.2.2.2.2 (.fieldLink RX5 92 "Strandbook$SignWriter" "count" "I") (List.mem_cons_of_mem _ (List.mem_append_left _ (List.mem_append_left _ (List.mem_append_left _ (List.mem_append_left _ (List.mem_append_left _ (List.mem_append_left _ (List.mem_of_getElem? (i := 0) rfl))))))))) dX5_isReadByOnes_9 ?_
      refine n_icmp_ge_f (tgt := 39) X.1 X.2.1 dX5_isReadByOnes_12 (by decide) (by omega) (by omega) (by omega) ?_
      refine lv_aload_n X.1 X.2.1 dX5_isReadByOnes_15 rfl (lv_at hl 0 rfl) ?_
      refine cg_5_reader X hin5 hW (HB.mem lv_2) (HB.kn lv_2 rfl) ((congrFun (u2_ne (by decide)) _).trans (HB.rt.2.2.1)) (X.2.2.2.2 (.fieldLink RX5 27 "Strandbook$Trial" "reader" "LStrandbook$SignReader;") (List.mem_cons_of_mem _ (List.mem_append_left _ (List.mem_append_left _ (List.mem_append_left _ (List.mem_append_left _ (List.mem_append_left _ (List.mem_append_left _ (List.mem_of_getElem? (i := 1) rfl))))))))) dX5_isReadByOnes_16 ?_
      refine cVi X hW (HB.mem (lv_9 (by decide))) (pC_2 (HB.kn (lv_9 (by decide)) rfl)) rfl (ct_readOne l (a := k7) (b := T 7 w) (k := 256) (ro := ad 12 0) (sr := ad 13 0) ⟨HB.mem (lv_9 (by decide)), HB.kn (lv_9 (by decide)) rfl, u2_eq, u2_eq, (congrFun (u2_ne (by decide)) _).trans opI_6, (by omega), (by omega)⟩ ⟨HB.trow.1, HB.trow.2.1, (congrFun (u2_ne (by decide)) _).trans HB.trow.2.2.1, HB.trow.2.2.2⟩ (by omega) (by omega)) (cwV 0 X.2.2.2.2 gX5_isReadByOnes_X2_readOne rfl rfl rfl (by decide +kernel) ⟨Nat.le_of_ble_eq_true rfl, Nat.le_of_ble_eq_true rfl⟩) rfl rfl hl.1 (Nat.le_of_ble_eq_true rfl) dX5_isReadByOnes_19 ⟨Nat.zero_le _, Nat.zero_le _⟩ (fun H locs hW => ?_)
      refine lv_aload_n X.1 X.2.1 dX5_isReadByOnes_22 rfl (lv_at hl 1 rfl) ?_
      refine cg_4_signs X hin4 hW (hwr.1) (hwr.2.1) ((congrFun (u2_ne (by decide)) _).trans (hwr.2.2.1)) (X.2.2.2.2 (.fieldLink RX5 108 "Strandbook$SignWriter" "signs" "[C") (List.mem_cons_of_mem _ (List.mem_append_left _ (List.mem_append_left _ (List.mem_append_left _ (List.mem_append_left _ (List.mem_append_left _ (List.mem_append_left _ (List.mem_of_getElem? (i := 2) rfl))))))))) dX5_isReadByOnes_23 ?_
      refine lv_iload_n X.1 X.2.1 dX5_isReadByOnes_26 rfl (lv_at hl 2 rfl) ?_
      refine cld_8 X hW (v := (cpF A (ad 13 0) 0 (fun i => A (ad 8 w) i) (T 7 w)) (ad 8 w) k7) (hwr.2.2.2.1) (hwr.2.2.2.2.1) (by rw [hwr.2.2.2.2.2.1]; omega) (by omega) (rfl) dX5_isReadByOnes_27 ?_
      refine x_icmp_eq_t (tgt := 33) X.1 X.2.1 dX5_isReadByOnes_28 (by decide) ((cpF_in (Nat.zero_le _) (by omega)).trans (congrFun (cpF_ne (HB.ne (lv_8 (by omega)) (lv_t (by decide) (by decide)) (Or.inl (by decide)))) _).symm) ?_
      refine lv_iinc (v := nI (k7 + 1)) (lv' := [(2, .int (nI (k7 + 1))), (0, .ref (ad 2 0)), (1, .ref (ad 7 w))]) X.1 X.2.1 dX5_isReadByOnes_33 hl (k := 2) rfl (nI_1 _) (by decide) rfl (fun ls hl => ?_)
      refine lv_goto (tgt := 7) X.1 X.2.1 dX5_isReadByOnes_36 (by decide) ?_
      exact ih7 (k7 + 1) (by omega) _ _ (hW.eq (rfl) (u2_uu) (rfl) (rfl)) ls (lv_sub hl [1, 2, 0] rfl)
  exact loop7 ((T 7 w) - (0)) (0) (by omega) _ _ (hW.eq (rfl) (e50) (rfl) (rfl)) ls (lv_sub hl [1, 2, 0] rfl)
