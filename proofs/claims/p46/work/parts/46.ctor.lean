/-! the trial -/
def tN (t : pD) (S : pN) (L L2 : List Nat) (K2 : pN) : Prop := ∀ q ∈ ([(12, 0), (13, 0), (14, 0), (9, 3), (7, 6), (8, 6), (7, 7), (8, 7), (15, 0), (16, 0), (10, 2), (11, 2)] : List (Nat × Nat)), t q.1 q.2 ∉ L ∧ t q.1 q.2 ∈ L2 ∧ K2 (t q.1 q.2) = kd q.1 q.2 ∧ S (t q.1 q.2) = 100 * q.1 + q.2
theorem tn_of {t : pD} {S : pN} {L L2 : List Nat} {K2 : pN} (h0 : t 12 0 ∉ L ∧ t 12 0 ∈ L2 ∧ K2 (t 12 0) = kd 12 0 ∧ S (t 12 0) = 1200) (h1 : t 13 0 ∉ L ∧ t 13 0 ∈ L2 ∧ K2 (t 13 0) = kd 13 0 ∧ S (t 13 0) = 1300) (h2 : t 14 0 ∉ L ∧ t 14 0 ∈ L2 ∧ K2 (t 14 0) = kd 14 0 ∧ S (t 14 0) = 1400) (h3 : t 9 3 ∉ L ∧ t 9 3 ∈ L2 ∧ K2 (t 9 3) = kd 9 3 ∧ S (t 9 3) = 903) (h4 : t 7 6 ∉ L ∧ t 7 6 ∈ L2 ∧ K2 (t 7 6) = kd 7 6 ∧ S (t 7 6) = 706) (h5 : t 8 6 ∉ L ∧ t 8 6 ∈ L2 ∧ K2 (t 8 6) = kd 8 6 ∧ S (t 8 6) = 806) (h6 : t 7 7 ∉ L ∧ t 7 7 ∈ L2 ∧ K2 (t 7 7) = kd 7 7 ∧ S (t 7 7) = 707) (h7 : t 8 7 ∉ L ∧ t 8 7 ∈ L2 ∧ K2 (t 8 7) = kd 8 7 ∧ S (t 8 7) = 807) (h8 : t 15 0 ∉ L ∧ t 15 0 ∈ L2 ∧ K2 (t 15 0) = kd 15 0 ∧ S (t 15 0) = 1500) (h9 : t 16 0 ∉ L ∧ t 16 0 ∈ L2 ∧ K2 (t 16 0) = kd 16 0 ∧ S (t 16 0) = 1600) (h10 : t 10 2 ∉ L ∧ t 10 2 ∈ L2 ∧ K2 (t 10 2) = kd 10 2 ∧ S (t 10 2) = 1002) (h11 : t 11 2 ∉ L ∧ t 11 2 ∈ L2 ∧ K2 (t 11 2) = kd 11 2 ∧ S (t 11 2) = 1102) : tN t S L L2 K2 := by
  intro q hq
  simp only [List.mem_cons, List.not_mem_nil, or_false] at hq
  rcases hq with rfl | rfl | rfl | rfl | rfl | rfl | rfl | rfl | rfl | rfl | rfl | rfl
  · exact h0
  · exact h1
  · exact h2
  · exact h3
  · exact h4
  · exact h5
  · exact h6
  · exact h7
  · exact h8
  · exact h9
  · exact h10
  · exact h11
def tF (t : pD) (R2 : pR) (I2 : pI) (N2 : pN) : Prop := rpT t R2 N2 ∧ (R2 4 (t 7 6) = some (t 8 6) ∧ N2 (t 8 6) = 256 ∧ I2 10 (t 7 6) = 0) ∧ (R2 4 (t 7 7) = some (t 8 7) ∧ N2 (t 8 7) = 256 ∧ I2 10 (t 7 7) = 0) ∧ R2 1 (t 10 2) = some (t 11 2) ∧ N2 (t 11 2) = 3
def trP (th : Nat) (L : List Nat) (K : pN) (R : pR) (I : pI) (A : mD) (Q : pR) (N : pN) : pΦ := fun L2 K2 R2 I2 A2 Q2 N2 => ∃ (t : pD) (S : pN), tN t S L L2 K2 ∧ tF t R2 I2 N2 ∧ pXe th L K R I A Q N L2 K2 R2 I2 A2 Q2 N2 ∧ th ∈ L2 ∧ K2 th = 5 ∧ t 2 0 = th
set_option maxHeartbeats 4000000 in
set_option maxRecDepth 100000 in
theorem ck_Trial (l : Launch) {G : va_G} {kT : Nat → ClassId} {L : List Nat} {K : Nat → Nat} {R : pR} {I : pI} {A : mD} {Q : pR} {N : Nat → Nat} {th : Nat} (h1 : th ∈ L) (h2 : K th = 5) : cNv l yX5_init wsX5_init ({ frames := 3, cells := 14, slots := 1242, locals := 53 } : Room) G kT [.ref th] L K R I A Q N 14 1242 [.inl RX0, .inr (RX5, 26, yX2_init), .inr (RX5, 33, yX4_init), .inr (RX5, 50, yX1_init)] (trP th L K R I A Q N) := by
  refine cstNv (cc := cX5_init) (maxL := 1) (ret := none) (by decide) rfl rfl (Nat.le_of_ble_eq_true rfl) (fun p e s m args below meth c Z hE X hni hAO hW ls hl => ?_)
  have X : CallFix p m c cX5_init 1 s args wsX5_init RX5 := X
  have hl : lv_has ls 1 [(0, .ref (th))] := hl
  have hin1 : ∀ w ∈ wsX10, w ∈ wsX5_init := fun w h => List.mem_cons_of_mem _ (List.mem_append_right _ (h))
  have hin2 : ∀ w ∈ wsX20, w ∈ wsX5_init := fun w h => List.mem_cons_of_mem _ (List.mem_append_left _ (List.mem_append_left _ (List.mem_append_right _ (h))))
  have hin3 : ∀ w ∈ wsX30, w ∈ wsX5_init := fun w h => List.mem_cons_of_mem _ (List.mem_append_left _ (List.mem_append_left _ (List.mem_append_left _ (List.mem_append_left _ (List.mem_append_right _ (h))))))
  have hin4 : ∀ w ∈ wsX40, w ∈ wsX5_init := fun w h => List.mem_cons_of_mem _ (List.mem_append_left _ (List.mem_append_right _ (h)))
  have hin5 : ∀ w ∈ wsX50, w ∈ wsX5_init := fun w h => List.mem_cons_of_mem _ (List.mem_append_left _ (List.mem_append_left _ (List.mem_append_left _ (List.mem_append_right _ (h)))))
  have hP00 : pXe th L K R I A Q N L K R I A Q N := pXe.rf
  refine lv_aload_n X.1 X.2.1 dX5_init_0 rfl (lv_at hl 0 rfl) ?_
  refine W.objInit X.1 X.2.1 X.2.2.2.1 (X.2.2.2.2 (.methodLink RX5 3 objectInit) (List.mem_cons_of_mem _ (List.mem_append_left _ (List.mem_append_left _ (List.mem_append_left _ (List.mem_append_left _ (List.mem_append_left _ (List.mem_append_left _ (List.mem_of_getElem? (i := 0) rfl))))))))) (X.2.2.2.2 (.instanceMethod objectInit) (List.mem_cons_of_mem _ (List.mem_append_left _ (List.mem_append_left _ (List.mem_append_left _ (List.mem_append_left _ (List.mem_append_left _ (List.mem_append_left _ (List.mem_of_getElem? (i := 1) rfl))))))))) (X.2.2.2.2 (.code objectInit ⟨#[0xb1]⟩ 1 none) (List.mem_cons_of_mem _ (List.mem_append_left _ (List.mem_append_left _ (List.mem_append_left _ (List.mem_append_left _ (List.mem_append_left _ (List.mem_append_left _ (List.mem_of_getElem? (i := 2) rfl))))))))) rfl (hl.1.trans X.2.2.1.symm) rfl dX5_init_1 (Nat.le_of_ble_eq_true rfl) (Nat.le_of_ble_eq_true rfl) ?_
  refine W.eq (g2 := F0 m 4 ls []) rfl ?_
  refine lv_aload_n X.1 X.2.1 dX5_init_4 rfl (lv_at hl 0 rfl) ?_
  refine cnw_3 X hin3 hW (X.2.2.2.2 (.classLink RX5 9 RX3) (List.mem_cons_of_mem _ (List.mem_append_left _ (List.mem_append_left _ (List.mem_append_left _ (List.mem_append_left _ (List.mem_append_left _ (List.mem_append_left _ (List.mem_of_getElem? (i := 3) rfl))))))))) (X.2.2.2.2 (.instantiable RX3 1) (List.mem_cons_of_mem _ (List.mem_append_left _ (List.mem_append_left _ (List.mem_append_left _ (List.mem_append_left _ (List.mem_append_left _ (List.mem_append_left _ (List.mem_of_getElem? (i := 4) rfl))))))))) (X.2.2.2.2 (.initialized RX3) (List.mem_cons_of_mem _ (List.mem_append_left _ (List.mem_append_left _ (List.mem_append_left _ (List.mem_append_left _ (List.mem_append_left _ (List.mem_append_left _ (List.mem_of_getElem? (i := 5) rfl))))))))) (Nat.le_of_ble_eq_true rfl) (Nat.le_of_ble_eq_true rfl) dX5_init_5 (fun n1 L1 K1 R1 I1 A1 Q1 N1 H hX1 hn1 hm1 hk1 hr1 hi1 hW => ?_)
  have q1 : n1 ∉ L := fun z => hn1 ((hP00 _ z).1)
  have q2 : th ≠ n1 := fun z => hn1 (z ▸ h1)
  have q3 := hX1 th h1
  have q4 := q3.2.1.trans h2
  have q5 := q3.1
  have q6 := (hP00).step hX1
  refine lv_dup X.1 X.2.1 dX5_init_8 rfl ?_
  refine lv_sipush (v := nI 256) X.1 X.2.1 dX5_init_9 (by decide) ?_
  refine cINv (cs := []) X hW (fun C h => absurd h List.not_mem_nil) (ck_SignRow l hm1 hk1 (n := 256) (by decide)) (cwI 1 X.2.2.2.2 gX5_init_X3_init rfl rfl rfl (X.2.2.2.2 (.initialized RX3) (List.mem_cons_of_mem _ (List.mem_append_left _ (List.mem_append_left _ (List.mem_append_left _ (List.mem_append_left _ (List.mem_append_left _ (List.mem_append_left _ (List.mem_of_getElem? (i := 5) rfl))))))))) (X.2.2.2.2 (.methodLink RX5 11 yX3_init) (List.mem_cons_of_mem _ (List.mem_append_left _ (List.mem_append_left _ (List.mem_append_left _ (List.mem_append_left _ (List.mem_append_left _ (List.mem_append_right _ (List.mem_of_getElem? (i := 1) rfl))))))))) (X.2.2.2.2 (.instanceMethod yX3_init) (List.mem_cons_of_mem _ (List.mem_append_left _ (List.mem_append_left _ (List.mem_append_left _ (List.mem_append_left _ (List.mem_append_left _ (List.mem_append_right _ (List.mem_of_getElem? (i := 2) rfl))))))))) rfl (by decide +kernel) ⟨Nat.le_of_ble_eq_true rfl, Nat.le_of_ble_eq_true rfl⟩) rfl rfl hl.1 (Nat.le_of_ble_eq_true rfl) dX5_init_12 ⟨(Nat.le_of_ble_eq_true rfl), (Nat.le_of_ble_eq_true rfl)⟩ (fun L2 K2 R2 I2 A2 Q2 N2 H locs hW hF2 => ?_)
  obtain ⟨b2, hbn2, hbm2, hbk2, hbN2, hbf2, hbX2⟩ := hF2
  have q7 : (u2 R1 3 (n1) (some (b2))) 3 n1 = some (b2) := u2_eq
  have q8 : b2 ∉ L := fun z => hbn2 ((q6 _ z).1)
  have q9 : th ≠ b2 := fun z => hbn2 (z ▸ q5)
  have q10 : n1 ≠ b2 := fun z => hbn2 (z ▸ hm1)
  have q11 := hbX2 th q5
  have q12 := q11.2.1.trans q4
  have q13 := q11.1
  have q14 := hbX2 n1 hm1
  have q15 := (q14.2.2.1 3).trans q7
  have q16 := q14.2.1.trans hk1
  have q17 := q14.1
  have q18 := ((q6).newR (f := 3) (v := some (b2)) q1).step hbX2
  refine cpf_5_row X hin5 hni hW (q13) (q12) (X.2.2.2.2 (.fieldLink RX5 14 "Strandbook$Trial" "row" "LStrandbook$SignRow;") (List.mem_cons_of_mem _ (List.mem_append_left _ (List.mem_append_left _ (List.mem_append_left _ (List.mem_append_left _ (List.mem_append_left _ (List.mem_append_left _ (List.mem_of_getElem? (i := 6) rfl))))))))) dX5_init_15 (fun H locs hW => ?_)
  have q19 := (congrFun (u2_ne (F := R2) (k := 5) (j := th) (v := some (n1)) (show 3 ≠ 5 by decide)) n1).trans q15
  have q20 : (u2 R2 5 (th) (some (n1))) 5 th = some (n1) := u2_eq
  have q21 := (q18).put (f := 5) (v := some (n1))
  refine lv_aload_n X.1 X.2.1 dX5_init_18 rfl (lv_at hl 0 rfl) ?_
  refine lv_iconst (v := nI 3) X.1 X.2.1 dX5_init_19 (by decide) ?_
  refine cna_8 X hW (X.2.2.2.2 (.arrayClass .char) (List.mem_cons_of_mem _ (List.mem_append_left _ (List.mem_append_left _ (List.mem_append_left _ (List.mem_append_left _ (List.mem_append_left _ (List.mem_append_left _ (List.mem_of_getElem? (i := 7) rfl))))))))) (n := 3) (by decide) (Nat.le_of_ble_eq_true rfl) (Nat.le_of_ble_eq_true rfl) dX5_init_20 (fun n3 L3 K3 R3 I3 A3 Q3 N3 H hX3 hn3 hm3 hk3 hN3 hf3 hW => ?_)
  have q22 : n3 ∉ L := fun z => hn3 ((q21 _ z).1)
  have q23 : th ≠ n3 := fun z => hn3 (z ▸ q13)
  have q24 : n1 ≠ n3 := fun z => hn3 (z ▸ q17)
  have q25 : b2 ≠ n3 := fun z => hn3 (z ▸ hbm2)
  have q26 := hX3 th q13
  have q27 := (q26.2.2.1 5).trans q20
  have q28 := q26.2.1.trans q12
  have q29 := q26.1
  have q30 := hX3 n1 q17
  have q31 := (q30.2.2.1 3).trans q19
  have q32 := q30.2.1.trans q16
  have q33 := q30.1
  have q34 := hX3 b2 hbm2
  have q35 := (q34.2.2.2.2.2.2).trans hbN2
  have q36 := q34.2.1.trans hbk2
  have q37 := q34.1
  have q38 := (q21).step hX3
  refine cpf_5_three X hin5 hni hW (q29) (q28) (X.2.2.2.2 (.fieldLink RX5 20 "Strandbook$Trial" "three" "[C") (List.mem_cons_of_mem _ (List.mem_append_left _ (List.mem_append_left _ (List.mem_append_left _ (List.mem_append_left _ (List.mem_append_left _ (List.mem_append_left _ (List.mem_of_getElem? (i := 8) rfl))))))))) dX5_init_22 (fun H locs hW => ?_)
  have q39 := (congrFun (u2_ne (F := R3) (k := 6) (j := th) (v := some (n3)) (show 5 ≠ 6 by decide)) th).trans q27
  have q40 := (congrFun (u2_ne (F := R3) (k := 6) (j := th) (v := some (n3)) (show 3 ≠ 6 by decide)) n1).trans q31
  have q41 : (u2 R3 6 (th) (some (n3))) 6 th = some (n3) := u2_eq
  have q42 := (q38).put (f := 6) (v := some (n3))
  refine lv_aload_n X.1 X.2.1 dX5_init_25 rfl (lv_at hl 0 rfl) ?_
  refine cnw_2 X hin2 hW (X.2.2.2.2 (.classLink RX5 24 RX2) (List.mem_cons_of_mem _ (List.mem_append_left _ (List.mem_append_left _ (List.mem_append_left _ (List.mem_append_left _ (List.mem_append_left _ (List.mem_append_left _ (List.mem_of_getElem? (i := 9) rfl))))))))) (X.2.2.2.2 (.instantiable RX2 6) (List.mem_cons_of_mem _ (List.mem_append_left _ (List.mem_append_left _ (List.mem_append_left _ (List.mem_append_left _ (List.mem_append_left _ (List.mem_append_left _ (List.mem_of_getElem? (i := 10) rfl))))))))) (X.2.2.2.2 (.initialized RX2) (List.mem_cons_of_mem _ (List.mem_append_left _ (List.mem_append_left _ (List.mem_append_left _ (List.mem_append_left _ (List.mem_append_left _ (List.mem_append_left _ (List.mem_of_getElem? (i := 11) rfl))))))))) (Nat.le_of_ble_eq_true rfl) (Nat.le_of_ble_eq_true rfl) dX5_init_26 (fun n4 L4 K4 R4 I4 A4 Q4 N4 H hX4 hn4 hm4 hk4 hr4 hi4 hW => ?_)
  have q43 : n4 ∉ L := fun z => hn4 ((q42 _ z).1)
  have q44 : th ≠ n4 := fun z => hn4 (z ▸ q29)
  have q45 : n1 ≠ n4 := fun z => hn4 (z ▸ q33)
  have q46 : b2 ≠ n4 := fun z => hn4 (z ▸ q37)
  have q47 : n3 ≠ n4 := fun z => hn4 (z ▸ hm3)
  have q48 := hX4 th q29
  have q49 := (q48.2.2.1 5).trans q39
  have q50 := (q48.2.2.1 6).trans q41
  have q51 := q48.2.1.trans q28
  have q52 := q48.1
  have q53 := hX4 n1 q33
  have q54 := (q53.2.2.1 3).trans q40
  have q55 := q53.2.1.trans q32
  have q56 := q53.1
  have q57 := hX4 b2 q37
  have q58 := (q57.2.2.2.2.2.2).trans q35
  have q59 := q57.2.1.trans q36
  have q60 := q57.1
  have q61 := hX4 n3 hm3
  have q62 := (q61.2.2.2.2.2.2).trans hN3
  have q63 := q61.2.1.trans hk3
  have q64 := q61.1
  have q65 := (q42).step hX4
  refine lv_dup X.1 X.2.1 dX5_init_29 rfl ?_
  refine cKNv (cs := []) X hW (fun C h => absurd h List.not_mem_nil) (ck_SignReader l hm4 hk4) ⟨va_cnB 0 X.2.2.2.2 gX5_init_X2_init_n26 rfl rfl rfl (hAO (.inr (RX5, 26, yX2_init)) (List.mem_of_getElem? (i := 1) rfl)) (X.2.2.2.2 (.initialized RX2) (List.mem_cons_of_mem _ (List.mem_append_left _ (List.mem_append_left _ (List.mem_append_left _ (List.mem_append_left _ (List.mem_append_left _ (List.mem_append_left _ (List.mem_of_getElem? (i := 11) rfl))))))))) (by decide +kernel) ⟨Nat.le_of_ble_eq_true rfl, Nat.le_of_ble_eq_true rfl⟩, rfl, (X.2.2.2.2 (.instanceMethod yX2_init) (List.mem_cons_of_mem _ (List.mem_append_left _ (List.mem_append_left _ (List.mem_append_left _ (List.mem_append_left _ (List.mem_append_left _ (List.mem_append_right _ (List.mem_of_getElem? (i := 6) rfl)))))))))⟩ rfl rfl hl.1 (Nat.le_of_ble_eq_true rfl) dX5_init_30 ⟨(Nat.le_of_ble_eq_true rfl), (Nat.le_of_ble_eq_true rfl)⟩ (fun L5 K5 R5 I5 A5 Q5 N5 H locs hW hF5 => ?_)
  obtain ⟨ra5, rb5, hra5, hrb5, hrab5, hrs5, hbX5⟩ := hF5
  have q66 := (congrFun (u2_ne (F := R4) (k := 2) (j := n4) (v := some (ra5)) (show 5 ≠ 2 by decide)) th).trans q49
  have q67 := (congrFun (u2_ne (F := R4) (k := 2) (j := n4) (v := some (ra5)) (show 6 ≠ 2 by decide)) th).trans q50
  have q68 := (congrFun (u2_ne (F := R4) (k := 2) (j := n4) (v := some (ra5)) (show 3 ≠ 2 by decide)) n1).trans q54
  have q69 : (u2 R4 2 (n4) (some (ra5))) 2 n4 = some (ra5) := u2_eq
  have q70 := hbX5 th q52
  have q71 := (q70.2.2.1 5).trans q66
  have q72 := (q70.2.2.1 6).trans q67
  have q73 := q70.2.1.trans q51
  have q74 := q70.1
  have q75 := hbX5 n1 q56
  have q76 := (q75.2.2.1 3).trans q68
  have q77 := q75.2.1.trans q55
  have q78 := q75.1
  have q79 := hbX5 b2 q60
  have q80 := (q79.2.2.2.2.2.2).trans q58
  have q81 := q79.2.1.trans q59
  have q82 := q79.1
  have q83 := hbX5 n3 q64
  have q84 := (q83.2.2.2.2.2.2).trans q62
  have q85 := q83.2.1.trans q63
  have q86 := q83.1
  have q87 := hbX5 n4 hm4
  have q88 := (q87.2.2.1 2).trans q69
  have q89 := q87.2.1.trans hk4
  have q90 := q87.1
  have q91 := ((q65).newR (f := 2) (v := some (ra5)) q43).step hbX5
  refine cpf_5_reader X hin5 hni hW (q74) (q73) (X.2.2.2.2 (.fieldLink RX5 27 "Strandbook$Trial" "reader" "LStrandbook$SignReader;") (List.mem_cons_of_mem _ (List.mem_append_left _ (List.mem_append_left _ (List.mem_append_left _ (List.mem_append_left _ (List.mem_append_left _ (List.mem_append_left _ (List.mem_of_getElem? (i := 12) rfl))))))))) dX5_init_33 (fun H locs hW => ?_)
  have q92 := (congrFun (u2_ne (F := R5) (k := 7) (j := th) (v := some (n4)) (show 5 ≠ 7 by decide)) th).trans q71
  have q93 := (congrFun (u2_ne (F := R5) (k := 7) (j := th) (v := some (n4)) (show 6 ≠ 7 by decide)) th).trans q72
  have q94 := (congrFun (u2_ne (F := R5) (k := 7) (j := th) (v := some (n4)) (show 3 ≠ 7 by decide)) n1).trans q76
  have q95 := (congrFun (u2_ne (F := R5) (k := 7) (j := th) (v := some (n4)) (show 2 ≠ 7 by decide)) n4).trans q88
  have q96 : (u2 R5 7 (th) (some (n4))) 7 th = some (n4) := u2_eq
  have q97 := (q91).put (f := 7) (v := some (n4))
  refine lv_aload_n X.1 X.2.1 dX5_init_36 rfl (lv_at hl 0 rfl) ?_
  refine cnw_4 X hin4 hW (X.2.2.2.2 (.classLink RX5 31 RX4) (List.mem_cons_of_mem _ (List.mem_append_left _ (List.mem_append_left _ (List.mem_append_left _ (List.mem_append_left _ (List.mem_append_left _ (List.mem_append_left _ (List.mem_of_getElem? (i := 13) rfl))))))))) (X.2.2.2.2 (.instantiable RX4 2) (List.mem_cons_of_mem _ (List.mem_append_left _ (List.mem_append_left _ (List.mem_append_left _ (List.mem_append_left _ (List.mem_append_left _ (List.mem_append_left _ (List.mem_of_getElem? (i := 14) rfl))))))))) (X.2.2.2.2 (.initialized RX4) (List.mem_cons_of_mem _ (List.mem_append_left _ (List.mem_append_left _ (List.mem_append_left _ (List.mem_append_left _ (List.mem_append_left _ (List.mem_append_left _ (List.mem_of_getElem? (i := 15) rfl))))))))) (Nat.le_of_ble_eq_true rfl) (Nat.le_of_ble_eq_true rfl) dX5_init_37 (fun n6 L6 K6 R6 I6 A6 Q6 N6 H hX6 hn6 hm6 hk6 hr6 hi6 hW => ?_)
  have q98 : n6 ∉ L := fun z => hn6 ((q97 _ z).1)
  have q99 : th ≠ n6 := fun z => hn6 (z ▸ q74)
  have q100 : n1 ≠ n6 := fun z => hn6 (z ▸ q78)
  have q101 : b2 ≠ n6 := fun z => hn6 (z ▸ q82)
  have q102 : n3 ≠ n6 := fun z => hn6 (z ▸ q86)
  have q103 : n4 ≠ n6 := fun z => hn6 (z ▸ q90)
  have q104 := hX6 th q74
  have q105 := (q104.2.2.1 5).trans q92
  have q106 := (q104.2.2.1 6).trans q93
  have q107 := (q104.2.2.1 7).trans q96
  have q108 := q104.2.1.trans q73
  have q109 := q104.1
  have q110 := hX6 n1 q78
  have q111 := (q110.2.2.1 3).trans q94
  have q112 := q110.2.1.trans q77
  have q113 := q110.1
  have q114 := hX6 b2 q82
  have q115 := (q114.2.2.2.2.2.2).trans q80
  have q116 := q114.2.1.trans q81
  have q117 := q114.1
  have q118 := hX6 n3 q86
  have q119 := (q118.2.2.2.2.2.2).trans q84
  have q120 := q118.2.1.trans q85
  have q121 := q118.1
  have q122 := hX6 n4 q90
  have q123 := (q122.2.2.1 2).trans q95
  have q124 := q122.2.1.trans q89
  have q125 := q122.1
  have q126 := (q97).step hX6
  refine lv_dup X.1 X.2.1 dX5_init_40 rfl ?_
  refine cKNv (cs := []) X hW (fun C h => absurd h List.not_mem_nil) (ck_SignWriter l hm6 hk6) ⟨va_cnB 0 X.2.2.2.2 gX5_init_X4_init_n33 rfl rfl rfl (hAO (.inr (RX5, 33, yX4_init)) (List.mem_of_getElem? (i := 2) rfl)) (X.2.2.2.2 (.initialized RX4) (List.mem_cons_of_mem _ (List.mem_append_left _ (List.mem_append_left _ (List.mem_append_left _ (List.mem_append_left _ (List.mem_append_left _ (List.mem_append_left _ (List.mem_of_getElem? (i := 15) rfl))))))))) (by decide +kernel) ⟨Nat.le_of_ble_eq_true rfl, Nat.le_of_ble_eq_true rfl⟩, rfl, (X.2.2.2.2 (.instanceMethod yX4_init) (List.mem_cons_of_mem _ (List.mem_append_left _ (List.mem_append_left _ (List.mem_append_left _ (List.mem_append_left _ (List.mem_append_left _ (List.mem_append_right _ (List.mem_of_getElem? (i := 12) rfl)))))))))⟩ rfl rfl hl.1 (Nat.le_of_ble_eq_true rfl) dX5_init_41 ⟨(Nat.le_of_ble_eq_true rfl), (Nat.le_of_ble_eq_true rfl)⟩ (fun L7 K7 R7 I7 A7 Q7 N7 H locs hW hF7 => ?_)
  obtain ⟨b7, hbn7, hbm7, hbk7, hbN7, hbf7, hbX7⟩ := hF7
  have q127 := (congrFun (u2_ne (F := R6) (k := 4) (j := n6) (v := some (b7)) (show 5 ≠ 4 by decide)) th).trans q105
  have q128 := (congrFun (u2_ne (F := R6) (k := 4) (j := n6) (v := some (b7)) (show 6 ≠ 4 by decide)) th).trans q106
  have q129 := (congrFun (u2_ne (F := R6) (k := 4) (j := n6) (v := some (b7)) (show 7 ≠ 4 by decide)) th).trans q107
  have q130 := (congrFun (u2_ne (F := R6) (k := 4) (j := n6) (v := some (b7)) (show 3 ≠ 4 by decide)) n1).trans q111
  have q131 := (congrFun (u2_ne (F := R6) (k := 4) (j := n6) (v := some (b7)) (show 2 ≠ 4 by decide)) n4).trans q123
  have q132 : (u2 R6 4 (n6) (some (b7))) 4 n6 = some (b7) := u2_eq
  have q133 : b7 ∉ L := fun z => hbn7 ((q126 _ z).1)
  have q134 : th ≠ b7 := fun z => hbn7 (z ▸ q109)
  have q135 : n1 ≠ b7 := fun z => hbn7 (z ▸ q113)
  have q136 : b2 ≠ b7 := fun z => hbn7 (z ▸ q117)
  have q137 : n3 ≠ b7 := fun z => hbn7 (z ▸ q121)
  have q138 : n4 ≠ b7 := fun z => hbn7 (z ▸ q125)
  have q139 : n6 ≠ b7 := fun z => hbn7 (z ▸ hm6)
  have q140 := hbX7 th q109
  have q141 := (q140.2.2.1 5).trans q127
  have q142 := (q140.2.2.1 6).trans q128
  have q143 := (q140.2.2.1 7).trans q129
  have q144 := q140.2.1.trans q108
  have q145 := q140.1
  have q146 := hbX7 n1 q113
  have q147 := (q146.2.2.1 3).trans q130
  have q148 := q146.2.1.trans q112
  have q149 := q146.1
  have q150 := hbX7 b2 q117
  have q151 := (q150.2.2.2.2.2.2).trans q115
  have q152 := q150.2.1.trans q116
  have q153 := q150.1
  have q154 := hbX7 n3 q121
  have q155 := (q154.2.2.2.2.2.2).trans q119
  have q156 := q154.2.1.trans q120
  have q157 := q154.1
  have q158 := hbX7 n4 q125
  have q159 := (q158.2.2.1 2).trans q131
  have q160 := q158.2.1.trans q124
  have q161 := q158.1
  have q162 := hbX7 n6 hm6
  have q163 := (q162.2.2.1 4).trans q132
  have q164 := (q162.2.2.2.1 10).trans (hi6 10)
  have q165 := q162.2.1.trans hk6
  have q166 := q162.1
  have q167 := ((q126).newR (f := 4) (v := some (b7)) q98).step hbX7
  refine cpf_5_textWriter X hin5 hni hW (q145) (q144) (X.2.2.2.2 (.fieldLink RX5 34 "Strandbook$Trial" "textWriter" "LStrandbook$SignWriter;") (List.mem_cons_of_mem _ (List.mem_append_left _ (List.mem_append_left _ (List.mem_append_left _ (List.mem_append_left _ (List.mem_append_left _ (List.mem_append_left _ (List.mem_of_getElem? (i := 16) rfl))))))))) dX5_init_44 (fun H locs hW => ?_)
  have q168 := (congrFun (u2_ne (F := R7) (k := 8) (j := th) (v := some (n6)) (show 5 ≠ 8 by decide)) th).trans q141
  have q169 := (congrFun (u2_ne (F := R7) (k := 8) (j := th) (v := some (n6)) (show 6 ≠ 8 by decide)) th).trans q142
  have q170 := (congrFun (u2_ne (F := R7) (k := 8) (j := th) (v := some (n6)) (show 7 ≠ 8 by decide)) th).trans q143
  have q171 := (congrFun (u2_ne (F := R7) (k := 8) (j := th) (v := some (n6)) (show 3 ≠ 8 by decide)) n1).trans q147
  have q172 := (congrFun (u2_ne (F := R7) (k := 8) (j := th) (v := some (n6)) (show 2 ≠ 8 by decide)) n4).trans q159
  have q173 := (congrFun (u2_ne (F := R7) (k := 8) (j := th) (v := some (n6)) (show 4 ≠ 8 by decide)) n6).trans q163
  have q174 : (u2 R7 8 (th) (some (n6))) 8 th = some (n6) := u2_eq
  have q175 := (q167).put (f := 8) (v := some (n6))
  refine lv_aload_n X.1 X.2.1 dX5_init_47 rfl (lv_at hl 0 rfl) ?_
  refine cnw_4 X hin4 hW (X.2.2.2.2 (.classLink RX5 31 RX4) (List.mem_cons_of_mem _ (List.mem_append_left _ (List.mem_append_left _ (List.mem_append_left _ (List.mem_append_left _ (List.mem_append_left _ (List.mem_append_left _ (List.mem_of_getElem? (i := 13) rfl))))))))) (X.2.2.2.2 (.instantiable RX4 2) (List.mem_cons_of_mem _ (List.mem_append_left _ (List.mem_append_left _ (List.mem_append_left _ (List.mem_append_left _ (List.mem_append_left _ (List.mem_append_left _ (List.mem_of_getElem? (i := 14) rfl))))))))) (X.2.2.2.2 (.initialized RX4) (List.mem_cons_of_mem _ (List.mem_append_left _ (List.mem_append_left _ (List.mem_append_left _ (List.mem_append_left _ (List.mem_append_left _ (List.mem_append_left _ (List.mem_of_getElem? (i := 15) rfl))))))))) (Nat.le_of_ble_eq_true rfl) (Nat.le_of_ble_eq_true rfl) dX5_init_48 (fun n8 L8 K8 R8 I8 A8 Q8 N8 H hX8 hn8 hm8 hk8 hr8 hi8 hW => ?_)
  have q176 : n8 ∉ L := fun z => hn8 ((q175 _ z).1)
  have q177 : th ≠ n8 := fun z => hn8 (z ▸ q145)
  have q178 : n1 ≠ n8 := fun z => hn8 (z ▸ q149)
  have q179 : b2 ≠ n8 := fun z => hn8 (z ▸ q153)
  have q180 : n3 ≠ n8 := fun z => hn8 (z ▸ q157)
  have q181 : n4 ≠ n8 := fun z => hn8 (z ▸ q161)
  have q182 : n6 ≠ n8 := fun z => hn8 (z ▸ q166)
  have q183 : b7 ≠ n8 := fun z => hn8 (z ▸ hbm7)
  have q184 := hX8 th q145
  have q185 := (q184.2.2.1 5).trans q168
  have q186 := (q184.2.2.1 6).trans q169
  have q187 := (q184.2.2.1 7).trans q170
  have q188 := (q184.2.2.1 8).trans q174
  have q189 := q184.2.1.trans q144
  have q190 := q184.1
  have q191 := hX8 n1 q149
  have q192 := (q191.2.2.1 3).trans q171
  have q193 := q191.2.1.trans q148
  have q194 := q191.1
  have q195 := hX8 b2 q153
  have q196 := (q195.2.2.2.2.2.2).trans q151
  have q197 := q195.2.1.trans q152
  have q198 := q195.1
  have q199 := hX8 n3 q157
  have q200 := (q199.2.2.2.2.2.2).trans q155
  have q201 := q199.2.1.trans q156
  have q202 := q199.1
  have q203 := hX8 n4 q161
  have q204 := (q203.2.2.1 2).trans q172
  have q205 := q203.2.1.trans q160
  have q206 := q203.1
  have q207 := hX8 n6 q166
  have q208 := (q207.2.2.1 4).trans q173
  have q209 := (q207.2.2.2.1 10).trans q164
  have q210 := q207.2.1.trans q165
  have q211 := q207.1
  have q212 := hX8 b7 hbm7
  have q213 := (q212.2.2.2.2.2.2).trans hbN7
  have q214 := q212.2.1.trans hbk7
  have q215 := q212.1
  have q216 := (q175).step hX8
  refine lv_dup X.1 X.2.1 dX5_init_51 rfl ?_
  refine cKNv (cs := []) X hW (fun C h => absurd h List.not_mem_nil) (ck_SignWriter l hm8 hk8) ⟨va_cnB 0 X.2.2.2.2 gX5_init_X4_init_n33 rfl rfl rfl (hAO (.inr (RX5, 33, yX4_init)) (List.mem_of_getElem? (i := 2) rfl)) (X.2.2.2.2 (.initialized RX4) (List.mem_cons_of_mem _ (List.mem_append_left _ (List.mem_append_left _ (List.mem_append_left _ (List.mem_append_left _ (List.mem_append_left _ (List.mem_append_left _ (List.mem_of_getElem? (i := 15) rfl))))))))) (by decide +kernel) ⟨Nat.le_of_ble_eq_true rfl, Nat.le_of_ble_eq_true rfl⟩, rfl, (X.2.2.2.2 (.instanceMethod yX4_init) (List.mem_cons_of_mem _ (List.mem_append_left _ (List.mem_append_left _ (List.mem_append_left _ (List.mem_append_left _ (List.mem_append_left _ (List.mem_append_right _ (List.mem_of_getElem? (i := 12) rfl)))))))))⟩ rfl rfl hl.1 (Nat.le_of_ble_eq_true rfl) dX5_init_52 ⟨(Nat.le_of_ble_eq_true rfl), (Nat.le_of_ble_eq_true rfl)⟩ (fun L9 K9 R9 I9 A9 Q9 N9 H locs hW hF9 => ?_)
  obtain ⟨b9, hbn9, hbm9, hbk9, hbN9, hbf9, hbX9⟩ := hF9
  have q217 := (congrFun (u2_ne (F := R8) (k := 4) (j := n8) (v := some (b9)) (show 5 ≠ 4 by decide)) th).trans q185
  have q218 := (congrFun (u2_ne (F := R8) (k := 4) (j := n8) (v := some (b9)) (show 6 ≠ 4 by decide)) th).trans q186
  have q219 := (congrFun (u2_ne (F := R8) (k := 4) (j := n8) (v := some (b9)) (show 7 ≠ 4 by decide)) th).trans q187
  have q220 := (congrFun (u2_ne (F := R8) (k := 4) (j := n8) (v := some (b9)) (show 8 ≠ 4 by decide)) th).trans q188
  have q221 := (congrFun (u2_ne (F := R8) (k := 4) (j := n8) (v := some (b9)) (show 3 ≠ 4 by decide)) n1).trans q192
  have q222 := (congrFun (u2_ne (F := R8) (k := 4) (j := n8) (v := some (b9)) (show 2 ≠ 4 by decide)) n4).trans q204
  have q223 := (u2_nj (F := R8) (k := 4) (v := some (b9)) q182).trans q208
  have q224 : (u2 R8 4 (n8) (some (b9))) 4 n8 = some (b9) := u2_eq
  have q225 : b9 ∉ L := fun z => hbn9 ((q216 _ z).1)
  have q226 : th ≠ b9 := fun z => hbn9 (z ▸ q190)
  have q227 : n1 ≠ b9 := fun z => hbn9 (z ▸ q194)
  have q228 : b2 ≠ b9 := fun z => hbn9 (z ▸ q198)
  have q229 : n3 ≠ b9 := fun z => hbn9 (z ▸ q202)
  have q230 : n4 ≠ b9 := fun z => hbn9 (z ▸ q206)
  have q231 : n6 ≠ b9 := fun z => hbn9 (z ▸ q211)
  have q232 : b7 ≠ b9 := fun z => hbn9 (z ▸ q215)
  have q233 : n8 ≠ b9 := fun z => hbn9 (z ▸ hm8)
  have q234 := hbX9 th q190
  have q235 := (q234.2.2.1 5).trans q217
  have q236 := (q234.2.2.1 6).trans q218
  have q237 := (q234.2.2.1 7).trans q219
  have q238 := (q234.2.2.1 8).trans q220
  have q239 := q234.2.1.trans q189
  have q240 := q234.1
  have q241 := hbX9 n1 q194
  have q242 := (q241.2.2.1 3).trans q221
  have q243 := q241.2.1.trans q193
  have q244 := q241.1
  have q245 := hbX9 b2 q198
  have q246 := (q245.2.2.2.2.2.2).trans q196
  have q247 := q245.2.1.trans q197
  have q248 := q245.1
  have q249 := hbX9 n3 q202
  have q250 := (q249.2.2.2.2.2.2).trans q200
  have q251 := q249.2.1.trans q201
  have q252 := q249.1
  have q253 := hbX9 n4 q206
  have q254 := (q253.2.2.1 2).trans q222
  have q255 := q253.2.1.trans q205
  have q256 := q253.1
  have q257 := hbX9 n6 q211
  have q258 := (q257.2.2.1 4).trans q223
  have q259 := (q257.2.2.2.1 10).trans q209
  have q260 := q257.2.1.trans q210
  have q261 := q257.1
  have q262 := hbX9 b7 q215
  have q263 := (q262.2.2.2.2.2.2).trans q213
  have q264 := q262.2.1.trans q214
  have q265 := q262.1
  have q266 := hbX9 n8 hm8
  have q267 := (q266.2.2.1 4).trans q224
  have q268 := (q266.2.2.2.1 10).trans (hi8 10)
  have q269 := q266.2.1.trans hk8
  have q270 := q266.1
  have q271 := ((q216).newR (f := 4) (v := some (b9)) q176).step hbX9
  refine cpf_5_arrayWriter X hin5 hni hW (q240) (q239) (X.2.2.2.2 (.fieldLink RX5 38 "Strandbook$Trial" "arrayWriter" "LStrandbook$SignWriter;") (List.mem_cons_of_mem _ (List.mem_append_left _ (List.mem_append_left _ (List.mem_append_left _ (List.mem_append_left _ (List.mem_append_left _ (List.mem_append_left _ (List.mem_of_getElem? (i := 17) rfl))))))))) dX5_init_55 (fun H locs hW => ?_)
  have q272 := (congrFun (u2_ne (F := R9) (k := 9) (j := th) (v := some (n8)) (show 5 ≠ 9 by decide)) th).trans q235
  have q273 := (congrFun (u2_ne (F := R9) (k := 9) (j := th) (v := some (n8)) (show 6 ≠ 9 by decide)) th).trans q236
  have q274 := (congrFun (u2_ne (F := R9) (k := 9) (j := th) (v := some (n8)) (show 7 ≠ 9 by decide)) th).trans q237
  have q275 := (congrFun (u2_ne (F := R9) (k := 9) (j := th) (v := some (n8)) (show 8 ≠ 9 by decide)) th).trans q238
  have q276 := (congrFun (u2_ne (F := R9) (k := 9) (j := th) (v := some (n8)) (show 3 ≠ 9 by decide)) n1).trans q242
  have q277 := (congrFun (u2_ne (F := R9) (k := 9) (j := th) (v := some (n8)) (show 2 ≠ 9 by decide)) n4).trans q254
  have q278 := (congrFun (u2_ne (F := R9) (k := 9) (j := th) (v := some (n8)) (show 4 ≠ 9 by decide)) n6).trans q258
  have q279 := (congrFun (u2_ne (F := R9) (k := 9) (j := th) (v := some (n8)) (show 4 ≠ 9 by decide)) n8).trans q267
  have q280 : (u2 R9 9 (th) (some (n8))) 9 th = some (n8) := u2_eq
  have q281 := (q271).put (f := 9) (v := some (n8))
  refine lv_aload_n X.1 X.2.1 dX5_init_58 rfl (lv_at hl 0 rfl) ?_
  refine lv_sipush (v := nI 192) X.1 X.2.1 dX5_init_59 (by decide) ?_
  refine cna_7 X hW (X.2.2.2.2 (.arrayClass .byte) (List.mem_cons_of_mem _ (List.mem_append_left _ (List.mem_append_left _ (List.mem_append_left _ (List.mem_append_left _ (List.mem_append_left _ (List.mem_append_left _ (List.mem_of_getElem? (i := 18) rfl))))))))) (n := 192) (by decide) (Nat.le_of_ble_eq_true rfl) (Nat.le_of_ble_eq_true rfl) dX5_init_62 (fun n10 L10 K10 R10 I10 A10 Q10 N10 H hX10 hn10 hm10 hk10 hN10 hf10 hW => ?_)
  have q282 : n10 ∉ L := fun z => hn10 ((q281 _ z).1)
  have q283 : th ≠ n10 := fun z => hn10 (z ▸ q240)
  have q284 : n1 ≠ n10 := fun z => hn10 (z ▸ q244)
  have q285 : b2 ≠ n10 := fun z => hn10 (z ▸ q248)
  have q286 : n3 ≠ n10 := fun z => hn10 (z ▸ q252)
  have q287 : n4 ≠ n10 := fun z => hn10 (z ▸ q256)
  have q288 : n6 ≠ n10 := fun z => hn10 (z ▸ q261)
  have q289 : b7 ≠ n10 := fun z => hn10 (z ▸ q265)
  have q290 : n8 ≠ n10 := fun z => hn10 (z ▸ q270)
  have q291 : b9 ≠ n10 := fun z => hn10 (z ▸ hbm9)
  have q292 := hX10 th q240
  have q293 := (q292.2.2.1 5).trans q272
  have q294 := (q292.2.2.1 6).trans q273
  have q295 := (q292.2.2.1 7).trans q274
  have q296 := (q292.2.2.1 8).trans q275
  have q297 := (q292.2.2.1 9).trans q280
  have q298 := q292.2.1.trans q239
  have q299 := q292.1
  have q300 := hX10 n1 q244
  have q301 := (q300.2.2.1 3).trans q276
  have q302 := q300.2.1.trans q243
  have q303 := q300.1
  have q304 := hX10 b2 q248
  have q305 := (q304.2.2.2.2.2.2).trans q246
  have q306 := q304.2.1.trans q247
  have q307 := q304.1
  have q308 := hX10 n3 q252
  have q309 := (q308.2.2.2.2.2.2).trans q250
  have q310 := q308.2.1.trans q251
  have q311 := q308.1
  have q312 := hX10 n4 q256
  have q313 := (q312.2.2.1 2).trans q277
  have q314 := q312.2.1.trans q255
  have q315 := q312.1
  have q316 := hX10 n6 q261
  have q317 := (q316.2.2.1 4).trans q278
  have q318 := (q316.2.2.2.1 10).trans q259
  have q319 := q316.2.1.trans q260
  have q320 := q316.1
  have q321 := hX10 b7 q265
  have q322 := (q321.2.2.2.2.2.2).trans q263
  have q323 := q321.2.1.trans q264
  have q324 := q321.1
  have q325 := hX10 n8 q270
  have q326 := (q325.2.2.1 4).trans q279
  have q327 := (q325.2.2.2.1 10).trans q268
  have q328 := q325.2.1.trans q269
  have q329 := q325.1
  have q330 := hX10 b9 hbm9
  have q331 := (q330.2.2.2.2.2.2).trans hbN9
  have q332 := q330.2.1.trans hbk9
  have q333 := q330.1
  have q334 := (q281).step hX10
  refine cpf_5_together X hin5 hni hW (q299) (q298) (X.2.2.2.2 (.fieldLink RX5 41 "Strandbook$Trial" "together" "[B") (List.mem_cons_of_mem _ (List.mem_append_left _ (List.mem_append_left _ (List.mem_append_left _ (List.mem_append_left _ (List.mem_append_left _ (List.mem_append_left _ (List.mem_of_getElem? (i := 19) rfl))))))))) dX5_init_64 (fun H locs hW => ?_)
  have q335 := (congrFun (u2_ne (F := R10) (k := 10) (j := th) (v := some (n10)) (show 5 ≠ 10 by decide)) th).trans q293
  have q336 := (congrFun (u2_ne (F := R10) (k := 10) (j := th) (v := some (n10)) (show 6 ≠ 10 by decide)) th).trans q294
  have q337 := (congrFun (u2_ne (F := R10) (k := 10) (j := th) (v := some (n10)) (show 7 ≠ 10 by decide)) th).trans q295
  have q338 := (congrFun (u2_ne (F := R10) (k := 10) (j := th) (v := some (n10)) (show 8 ≠ 10 by decide)) th).trans q296
  have q339 := (congrFun (u2_ne (F := R10) (k := 10) (j := th) (v := some (n10)) (show 9 ≠ 10 by decide)) th).trans q297
  have q340 := (congrFun (u2_ne (F := R10) (k := 10) (j := th) (v := some (n10)) (show 3 ≠ 10 by decide)) n1).trans q301
  have q341 := (congrFun (u2_ne (F := R10) (k := 10) (j := th) (v := some (n10)) (show 2 ≠ 10 by decide)) n4).trans q313
  have q342 := (congrFun (u2_ne (F := R10) (k := 10) (j := th) (v := some (n10)) (show 4 ≠ 10 by decide)) n6).trans q317
  have q343 := (congrFun (u2_ne (F := R10) (k := 10) (j := th) (v := some (n10)) (show 4 ≠ 10 by decide)) n8).trans q326
  have q344 : (u2 R10 10 (th) (some (n10))) 10 th = some (n10) := u2_eq
  have q345 := (q334).put (f := 10) (v := some (n10))
  refine lv_aload_n X.1 X.2.1 dX5_init_67 rfl (lv_at hl 0 rfl) ?_
  refine lv_iconst (v := nI 2) X.1 X.2.1 dX5_init_68 (by decide) ?_
  refine cna_7 X hW (X.2.2.2.2 (.arrayClass .byte) (List.mem_cons_of_mem _ (List.mem_append_left _ (List.mem_append_left _ (List.mem_append_left _ (List.mem_append_left _ (List.mem_append_left _ (List.mem_append_left _ (List.mem_of_getElem? (i := 18) rfl))))))))) (n := 2) (by decide) (Nat.le_of_ble_eq_true rfl) (Nat.le_of_ble_eq_true rfl) dX5_init_69 (fun n11 L11 K11 R11 I11 A11 Q11 N11 H hX11 hn11 hm11 hk11 hN11 hf11 hW => ?_)
  have q346 : n11 ∉ L := fun z => hn11 ((q345 _ z).1)
  have q347 : th ≠ n11 := fun z => hn11 (z ▸ q299)
  have q348 : n1 ≠ n11 := fun z => hn11 (z ▸ q303)
  have q349 : b2 ≠ n11 := fun z => hn11 (z ▸ q307)
  have q350 : n3 ≠ n11 := fun z => hn11 (z ▸ q311)
  have q351 : n4 ≠ n11 := fun z => hn11 (z ▸ q315)
  have q352 : n6 ≠ n11 := fun z => hn11 (z ▸ q320)
  have q353 : b7 ≠ n11 := fun z => hn11 (z ▸ q324)
  have q354 : n8 ≠ n11 := fun z => hn11 (z ▸ q329)
  have q355 : b9 ≠ n11 := fun z => hn11 (z ▸ q333)
  have q356 : n10 ≠ n11 := fun z => hn11 (z ▸ hm10)
  have q357 := hX11 th q299
  have q358 := (q357.2.2.1 5).trans q335
  have q359 := (q357.2.2.1 6).trans q336
  have q360 := (q357.2.2.1 7).trans q337
  have q361 := (q357.2.2.1 8).trans q338
  have q362 := (q357.2.2.1 9).trans q339
  have q363 := (q357.2.2.1 10).trans q344
  have q364 := q357.2.1.trans q298
  have q365 := q357.1
  have q366 := hX11 n1 q303
  have q367 := (q366.2.2.1 3).trans q340
  have q368 := q366.2.1.trans q302
  have q369 := q366.1
  have q370 := hX11 b2 q307
  have q371 := (q370.2.2.2.2.2.2).trans q305
  have q372 := q370.2.1.trans q306
  have q373 := q370.1
  have q374 := hX11 n3 q311
  have q375 := (q374.2.2.2.2.2.2).trans q309
  have q376 := q374.2.1.trans q310
  have q377 := q374.1
  have q378 := hX11 n4 q315
  have q379 := (q378.2.2.1 2).trans q341
  have q380 := q378.2.1.trans q314
  have q381 := q378.1
  have q382 := hX11 n6 q320
  have q383 := (q382.2.2.1 4).trans q342
  have q384 := (q382.2.2.2.1 10).trans q318
  have q385 := q382.2.1.trans q319
  have q386 := q382.1
  have q387 := hX11 b7 q324
  have q388 := (q387.2.2.2.2.2.2).trans q322
  have q389 := q387.2.1.trans q323
  have q390 := q387.1
  have q391 := hX11 n8 q329
  have q392 := (q391.2.2.1 4).trans q343
  have q393 := (q391.2.2.2.1 10).trans q327
  have q394 := q391.2.1.trans q328
  have q395 := q391.1
  have q396 := hX11 b9 q333
  have q397 := (q396.2.2.2.2.2.2).trans q331
  have q398 := q396.2.1.trans q332
  have q399 := q396.1
  have q400 := hX11 n10 hm10
  have q401 := (q400.2.2.2.2.2.2).trans hN10
  have q402 := q400.2.1.trans hk10
  have q403 := q400.1
  have q404 := (q345).step hX11
  refine cpf_5_two X hin5 hni hW (q365) (q364) (X.2.2.2.2 (.fieldLink RX5 45 "Strandbook$Trial" "two" "[B") (List.mem_cons_of_mem _ (List.mem_append_left _ (List.mem_append_left _ (List.mem_append_left _ (List.mem_append_left _ (List.mem_append_left _ (List.mem_append_left _ (List.mem_of_getElem? (i := 20) rfl))))))))) dX5_init_71 (fun H locs hW => ?_)
  have q405 := (congrFun (u2_ne (F := R11) (k := 11) (j := th) (v := some (n11)) (show 5 ≠ 11 by decide)) th).trans q358
  have q406 := (congrFun (u2_ne (F := R11) (k := 11) (j := th) (v := some (n11)) (show 6 ≠ 11 by decide)) th).trans q359
  have q407 := (congrFun (u2_ne (F := R11) (k := 11) (j := th) (v := some (n11)) (show 7 ≠ 11 by decide)) th).trans q360
  have q408 := (congrFun (u2_ne (F := R11) (k := 11) (j := th) (v := some (n11)) (show 8 ≠ 11 by decide)) th).trans q361
  have q409 := (congrFun (u2_ne (F := R11) (k := 11) (j := th) (v := some (n11)) (show 9 ≠ 11 by decide)) th).trans q362
  have q410 := (congrFun (u2_ne (F := R11) (k := 11) (j := th) (v := some (n11)) (show 10 ≠ 11 by decide)) th).trans q363
  have q411 := (congrFun (u2_ne (F := R11) (k := 11) (j := th) (v := some (n11)) (show 3 ≠ 11 by decide)) n1).trans q367
  have q412 := (congrFun (u2_ne (F := R11) (k := 11) (j := th) (v := some (n11)) (show 2 ≠ 11 by decide)) n4).trans q379
  have q413 := (congrFun (u2_ne (F := R11) (k := 11) (j := th) (v := some (n11)) (show 4 ≠ 11 by decide)) n6).trans q383
  have q414 := (congrFun (u2_ne (F := R11) (k := 11) (j := th) (v := some (n11)) (show 4 ≠ 11 by decide)) n8).trans q392
  have q415 : (u2 R11 11 (th) (some (n11))) 11 th = some (n11) := u2_eq
  have q416 := (q404).put (f := 11) (v := some (n11))
  refine lv_aload_n X.1 X.2.1 dX5_init_74 rfl (lv_at hl 0 rfl) ?_
  refine cnw_1 X hin1 hW (X.2.2.2.2 (.classLink RX5 48 RX1) (List.mem_cons_of_mem _ (List.mem_append_left _ (List.mem_append_left _ (List.mem_append_left _ (List.mem_append_left _ (List.mem_append_left _ (List.mem_append_left _ (List.mem_of_getElem? (i := 21) rfl))))))))) (X.2.2.2.2 (.instantiable RX1 6) (List.mem_cons_of_mem _ (List.mem_append_left _ (List.mem_append_left _ (List.mem_append_left _ (List.mem_append_left _ (List.mem_append_left _ (List.mem_append_left _ (List.mem_of_getElem? (i := 22) rfl))))))))) (X.2.2.2.2 (.initialized RX1) (List.mem_cons_of_mem _ (List.mem_append_left _ (List.mem_append_left _ (List.mem_append_left _ (List.mem_append_left _ (List.mem_append_left _ (List.mem_append_left _ (List.mem_of_getElem? (i := 23) rfl))))))))) (Nat.le_of_ble_eq_true rfl) (Nat.le_of_ble_eq_true rfl) dX5_init_75 (fun n12 L12 K12 R12 I12 A12 Q12 N12 H hX12 hn12 hm12 hk12 hr12 hi12 hW => ?_)
  have q417 : n12 ∉ L := fun z => hn12 ((q416 _ z).1)
  have q418 : th ≠ n12 := fun z => hn12 (z ▸ q365)
  have q419 : n1 ≠ n12 := fun z => hn12 (z ▸ q369)
  have q420 : b2 ≠ n12 := fun z => hn12 (z ▸ q373)
  have q421 : n3 ≠ n12 := fun z => hn12 (z ▸ q377)
  have q422 : n4 ≠ n12 := fun z => hn12 (z ▸ q381)
  have q423 : n6 ≠ n12 := fun z => hn12 (z ▸ q386)
  have q424 : b7 ≠ n12 := fun z => hn12 (z ▸ q390)
  have q425 : n8 ≠ n12 := fun z => hn12 (z ▸ q395)
  have q426 : b9 ≠ n12 := fun z => hn12 (z ▸ q399)
  have q427 : n10 ≠ n12 := fun z => hn12 (z ▸ q403)
  have q428 : n11 ≠ n12 := fun z => hn12 (z ▸ hm11)
  have q429 := hX12 th q365
  have q430 := (q429.2.2.1 5).trans q405
  have q431 := (q429.2.2.1 6).trans q406
  have q432 := (q429.2.2.1 7).trans q407
  have q433 := (q429.2.2.1 8).trans q408
  have q434 := (q429.2.2.1 9).trans q409
  have q435 := (q429.2.2.1 10).trans q410
  have q436 := (q429.2.2.1 11).trans q415
  have q437 := q429.2.1.trans q364
  have q438 := q429.1
  have q439 := hX12 n1 q369
  have q440 := (q439.2.2.1 3).trans q411
  have q441 := q439.2.1.trans q368
  have q442 := q439.1
  have q443 := hX12 b2 q373
  have q444 := (q443.2.2.2.2.2.2).trans q371
  have q445 := q443.2.1.trans q372
  have q446 := q443.1
  have q447 := hX12 n3 q377
  have q448 := (q447.2.2.2.2.2.2).trans q375
  have q449 := q447.2.1.trans q376
  have q450 := q447.1
  have q451 := hX12 n4 q381
  have q452 := (q451.2.2.1 2).trans q412
  have q453 := q451.2.1.trans q380
  have q454 := q451.1
  have q455 := hX12 n6 q386
  have q456 := (q455.2.2.1 4).trans q413
  have q457 := (q455.2.2.2.1 10).trans q384
  have q458 := q455.2.1.trans q385
  have q459 := q455.1
  have q460 := hX12 b7 q390
  have q461 := (q460.2.2.2.2.2.2).trans q388
  have q462 := q460.2.1.trans q389
  have q463 := q460.1
  have q464 := hX12 n8 q395
  have q465 := (q464.2.2.1 4).trans q414
  have q466 := (q464.2.2.2.1 10).trans q393
  have q467 := q464.2.1.trans q394
  have q468 := q464.1
  have q469 := hX12 b9 q399
  have q470 := (q469.2.2.2.2.2.2).trans q397
  have q471 := q469.2.1.trans q398
  have q472 := q469.1
  have q473 := hX12 n10 q403
  have q474 := (q473.2.2.2.2.2.2).trans q401
  have q475 := q473.2.1.trans q402
  have q476 := q473.1
  have q477 := hX12 n11 hm11
  have q478 := (q477.2.2.2.2.2.2).trans hN11
  have q479 := q477.2.1.trans hk11
  have q480 := q477.1
  have q481 := (q416).step hX12
  refine lv_dup X.1 X.2.1 dX5_init_78 rfl ?_
  refine cKNv (cs := [.inl RX0]) X hW (fun C h => hAO C (by rw [List.mem_singleton.mp h]; exact List.mem_of_getElem? (i := 0) rfl)) (ck_JoinedStream l hm12 hk12) ⟨va_cnB 0 X.2.2.2.2 gX5_init_X1_init_n50 rfl rfl rfl (hAO (.inr (RX5, 50, yX1_init)) (List.mem_of_getElem? (i := 3) rfl)) (X.2.2.2.2 (.initialized RX1) (List.mem_cons_of_mem _ (List.mem_append_left _ (List.mem_append_left _ (List.mem_append_left _ (List.mem_append_left _ (List.mem_append_left _ (List.mem_append_left _ (List.mem_of_getElem? (i := 23) rfl))))))))) (by decide +kernel) ⟨Nat.le_of_ble_eq_true rfl, Nat.le_of_ble_eq_true rfl⟩, rfl, (X.2.2.2.2 (.instanceMethod yX1_init) (List.mem_cons_of_mem _ (List.mem_append_left _ (List.mem_append_left _ (List.mem_append_left _ (List.mem_append_left _ (List.mem_append_left _ (List.mem_append_right _ (List.mem_of_getElem? (i := 16) rfl)))))))))⟩ rfl rfl hl.1 (Nat.le_of_ble_eq_true rfl) dX5_init_79 ⟨(Nat.le_of_ble_eq_true rfl), (Nat.le_of_ble_eq_true rfl)⟩ (fun L13 K13 R13 I13 A13 Q13 N13 H locs hW hF13 => ?_)
  obtain ⟨b13, hbn13, hbm13, hbk13, hbN13, hbf13, hbX13⟩ := hF13
  have q482 := (congrFun (u2_ne (F := R12) (k := 1) (j := n12) (v := some (b13)) (show 5 ≠ 1 by decide)) th).trans q430
  have q483 := (congrFun (u2_ne (F := R12) (k := 1) (j := n12) (v := some (b13)) (show 6 ≠ 1 by decide)) th).trans q431
  have q484 := (congrFun (u2_ne (F := R12) (k := 1) (j := n12) (v := some (b13)) (show 7 ≠ 1 by decide)) th).trans q432
  have q485 := (congrFun (u2_ne (F := R12) (k := 1) (j := n12) (v := some (b13)) (show 8 ≠ 1 by decide)) th).trans q433
  have q486 := (congrFun (u2_ne (F := R12) (k := 1) (j := n12) (v := some (b13)) (show 9 ≠ 1 by decide)) th).trans q434
  have q487 := (congrFun (u2_ne (F := R12) (k := 1) (j := n12) (v := some (b13)) (show 10 ≠ 1 by decide)) th).trans q435
  have q488 := (congrFun (u2_ne (F := R12) (k := 1) (j := n12) (v := some (b13)) (show 11 ≠ 1 by decide)) th).trans q436
  have q489 := (congrFun (u2_ne (F := R12) (k := 1) (j := n12) (v := some (b13)) (show 3 ≠ 1 by decide)) n1).trans q440
  have q490 := (congrFun (u2_ne (F := R12) (k := 1) (j := n12) (v := some (b13)) (show 2 ≠ 1 by decide)) n4).trans q452
  have q491 := (congrFun (u2_ne (F := R12) (k := 1) (j := n12) (v := some (b13)) (show 4 ≠ 1 by decide)) n6).trans q456
  have q492 := (congrFun (u2_ne (F := R12) (k := 1) (j := n12) (v := some (b13)) (show 4 ≠ 1 by decide)) n8).trans q465
  have q493 : (u2 R12 1 (n12) (some (b13))) 1 n12 = some (b13) := u2_eq
  have q494 : b13 ∉ L := fun z => hbn13 ((q481 _ z).1)
  have q495 : th ≠ b13 := fun z => hbn13 (z ▸ q438)
  have q496 : n1 ≠ b13 := fun z => hbn13 (z ▸ q442)
  have q497 : b2 ≠ b13 := fun z => hbn13 (z ▸ q446)
  have q498 : n3 ≠ b13 := fun z => hbn13 (z ▸ q450)
  have q499 : n4 ≠ b13 := fun z => hbn13 (z ▸ q454)
  have q500 : n6 ≠ b13 := fun z => hbn13 (z ▸ q459)
  have q501 : b7 ≠ b13 := fun z => hbn13 (z ▸ q463)
  have q502 : n8 ≠ b13 := fun z => hbn13 (z ▸ q468)
  have q503 : b9 ≠ b13 := fun z => hbn13 (z ▸ q472)
  have q504 : n10 ≠ b13 := fun z => hbn13 (z ▸ q476)
  have q505 : n11 ≠ b13 := fun z => hbn13 (z ▸ q480)
  have q506 : n12 ≠ b13 := fun z => hbn13 (z ▸ hm12)
  have q507 := hbX13 th q438
  have q508 := (q507.2.2.1 5).trans q482
  have q509 := (q507.2.2.1 6).trans q483
  have q510 := (q507.2.2.1 7).trans q484
  have q511 := (q507.2.2.1 8).trans q485
  have q512 := (q507.2.2.1 9).trans q486
  have q513 := (q507.2.2.1 10).trans q487
  have q514 := (q507.2.2.1 11).trans q488
  have q515 := q507.2.1.trans q437
  have q516 := q507.1
  have q517 := hbX13 n1 q442
  have q518 := (q517.2.2.1 3).trans q489
  have q519 := q517.2.1.trans q441
  have q520 := q517.1
  have q521 := hbX13 b2 q446
  have q522 := (q521.2.2.2.2.2.2).trans q444
  have q523 := q521.2.1.trans q445
  have q524 := q521.1
  have q525 := hbX13 n3 q450
  have q526 := (q525.2.2.2.2.2.2).trans q448
  have q527 := q525.2.1.trans q449
  have q528 := q525.1
  have q529 := hbX13 n4 q454
  have q530 := (q529.2.2.1 2).trans q490
  have q531 := q529.2.1.trans q453
  have q532 := q529.1
  have q533 := hbX13 n6 q459
  have q534 := (q533.2.2.1 4).trans q491
  have q535 := (q533.2.2.2.1 10).trans q457
  have q536 := q533.2.1.trans q458
  have q537 := q533.1
  have q538 := hbX13 b7 q463
  have q539 := (q538.2.2.2.2.2.2).trans q461
  have q540 := q538.2.1.trans q462
  have q541 := q538.1
  have q542 := hbX13 n8 q468
  have q543 := (q542.2.2.1 4).trans q492
  have q544 := (q542.2.2.2.1 10).trans q466
  have q545 := q542.2.1.trans q467
  have q546 := q542.1
  have q547 := hbX13 b9 q472
  have q548 := (q547.2.2.2.2.2.2).trans q470
  have q549 := q547.2.1.trans q471
  have q550 := q547.1
  have q551 := hbX13 n10 q476
  have q552 := (q551.2.2.2.2.2.2).trans q474
  have q553 := q551.2.1.trans q475
  have q554 := q551.1
  have q555 := hbX13 n11 q480
  have q556 := (q555.2.2.2.2.2.2).trans q478
  have q557 := q555.2.1.trans q479
  have q558 := q555.1
  have q559 := hbX13 n12 hm12
  have q560 := (q559.2.2.1 1).trans q493
  have q561 := q559.2.1.trans hk12
  have q562 := q559.1
  have q563 := ((q481).newR (f := 1) (v := some (b13)) q417).step hbX13
  refine cpf_5_stream X hin5 hni hW (q516) (q515) (X.2.2.2.2 (.fieldLink RX5 51 "Strandbook$Trial" "stream" "LStrandbook$JoinedStream;") (List.mem_cons_of_mem _ (List.mem_append_left _ (List.mem_append_left _ (List.mem_append_left _ (List.mem_append_left _ (List.mem_append_left _ (List.mem_append_right _ (List.mem_of_getElem? (i := 0) rfl))))))))) dX5_init_82 (fun H locs hW => ?_)
  have q564 := (congrFun (u2_ne (F := R13) (k := 12) (j := th) (v := some (n12)) (show 5 ≠ 12 by decide)) th).trans q508
  have q565 := (congrFun (u2_ne (F := R13) (k := 12) (j := th) (v := some (n12)) (show 6 ≠ 12 by decide)) th).trans q509
  have q566 := (congrFun (u2_ne (F := R13) (k := 12) (j := th) (v := some (n12)) (show 7 ≠ 12 by decide)) th).trans q510
  have q567 := (congrFun (u2_ne (F := R13) (k := 12) (j := th) (v := some (n12)) (show 8 ≠ 12 by decide)) th).trans q511
  have q568 := (congrFun (u2_ne (F := R13) (k := 12) (j := th) (v := some (n12)) (show 9 ≠ 12 by decide)) th).trans q512
  have q569 := (congrFun (u2_ne (F := R13) (k := 12) (j := th) (v := some (n12)) (show 10 ≠ 12 by decide)) th).trans q513
  have q570 := (congrFun (u2_ne (F := R13) (k := 12) (j := th) (v := some (n12)) (show 11 ≠ 12 by decide)) th).trans q514
  have q571 := (congrFun (u2_ne (F := R13) (k := 12) (j := th) (v := some (n12)) (show 3 ≠ 12 by decide)) n1).trans q518
  have q572 := (congrFun (u2_ne (F := R13) (k := 12) (j := th) (v := some (n12)) (show 2 ≠ 12 by decide)) n4).trans q530
  have q573 := (congrFun (u2_ne (F := R13) (k := 12) (j := th) (v := some (n12)) (show 4 ≠ 12 by decide)) n6).trans q534
  have q574 := (congrFun (u2_ne (F := R13) (k := 12) (j := th) (v := some (n12)) (show 4 ≠ 12 by decide)) n8).trans q543
  have q575 := (congrFun (u2_ne (F := R13) (k := 12) (j := th) (v := some (n12)) (show 1 ≠ 12 by decide)) n12).trans q560
  have q576 : (u2 R13 12 (th) (some (n12))) 12 th = some (n12) := u2_eq
  have q577 := (q563).put (f := 12) (v := some (n12))
  exact hE _ _ _ _ _ _ _ _ _ _ _ _ _ (Nat.le_of_ble_eq_true rfl) (Nat.le_of_ble_eq_true rfl) hW ⟨fun k i => if k = 2 then th else if k = 12 then n1 else if k = 13 then b2 else if k = 14 then n3 else if k = 9 then n4 else if k = 7 then (if i = 6 then n6 else n8) else if k = 8 then (if i = 6 then b7 else b9) else if k = 15 then n10 else if k = 16 then n11 else if k = 10 then n12 else b13, fun a => if a = n1 then 1200 else if a = b2 then 1300 else if a = n3 then 1400 else if a = n4 then 903 else if a = n6 then 706 else if a = b7 then 806 else if a = n8 then 707 else if a = b9 then 807 else if a = n10 then 1500 else if a = n11 then 1600 else if a = n12 then 1002 else if a = b13 then 1102 else 0, tn_of (⟨q1, q520, q519, if_pos rfl⟩) (⟨q8, q524, q523, (if_neg (fun z => q10 z.symm)).trans (if_pos rfl)⟩) (⟨q22, q528, q527, (if_neg (fun z => q24 z.symm)).trans ((if_neg (fun z => q25 z.symm)).trans (if_pos rfl))⟩) (⟨q43, q532, q531, (if_neg (fun z => q45 z.symm)).trans ((if_neg (fun z => q46 z.symm)).trans ((if_neg (fun z => q47 z.symm)).trans (if_pos rfl)))⟩) (⟨q98, q537, q536, (if_neg (fun z => q100 z.symm)).trans ((if_neg (fun z => q101 z.symm)).trans ((if_neg (fun z => q102 z.symm)).trans ((if_neg (fun z => q103 z.symm)).trans (if_pos rfl))))⟩) (⟨q133, q541, q540, (if_neg (fun z => q135 z.symm)).trans ((if_neg (fun z => q136 z.symm)).trans ((if_neg (fun z => q137 z.symm)).trans ((if_neg (fun z => q138 z.symm)).trans ((if_neg (fun z => q139 z.symm)).trans (if_pos rfl)))))⟩) (⟨q176, q546, q545, (if_neg (fun z => q178 z.symm)).trans ((if_neg (fun z => q179 z.symm)).trans ((if_neg (fun z => q180 z.symm)).trans ((if_neg (fun z => q181 z.symm)).trans ((if_neg (fun z => q182 z.symm)).trans ((if_neg (fun z => q183 z.symm)).trans (if_pos rfl))))))⟩) (⟨q225, q550, q549, (if_neg (fun z => q227 z.symm)).trans ((if_neg (fun z => q228 z.symm)).trans ((if_neg (fun z => q229 z.symm)).trans ((if_neg (fun z => q230 z.symm)).trans ((if_neg (fun z => q231 z.symm)).trans ((if_neg (fun z => q232 z.symm)).trans ((if_neg (fun z => q233 z.symm)).trans (if_pos rfl)))))))⟩) (⟨q282, q554, q553, (if_neg (fun z => q284 z.symm)).trans ((if_neg (fun z => q285 z.symm)).trans ((if_neg (fun z => q286 z.symm)).trans ((if_neg (fun z => q287 z.symm)).trans ((if_neg (fun z => q288 z.symm)).trans ((if_neg (fun z => q289 z.symm)).trans ((if_neg (fun z => q290 z.symm)).trans ((if_neg (fun z => q291 z.symm)).trans (if_pos rfl))))))))⟩) (⟨q346, q558, q557, (if_neg (fun z => q348 z.symm)).trans ((if_neg (fun z => q349 z.symm)).trans ((if_neg (fun z => q350 z.symm)).trans ((if_neg (fun z => q351 z.symm)).trans ((if_neg (fun z => q352 z.symm)).trans ((if_neg (fun z => q353 z.symm)).trans ((if_neg (fun z => q354 z.symm)).trans ((if_neg (fun z => q355 z.symm)).trans ((if_neg (fun z => q356 z.symm)).trans (if_pos rfl)))))))))⟩) (⟨q417, q562, q561, (if_neg (fun z => q419 z.symm)).trans ((if_neg (fun z => q420 z.symm)).trans ((if_neg (fun z => q421 z.symm)).trans ((if_neg (fun z => q422 z.symm)).trans ((if_neg (fun z => q423 z.symm)).trans ((if_neg (fun z => q424 z.symm)).trans ((if_neg (fun z => q425 z.symm)).trans ((if_neg (fun z => q426 z.symm)).trans ((if_neg (fun z => q427 z.symm)).trans ((if_neg (fun z => q428 z.symm)).trans (if_pos rfl))))))))))⟩) (⟨q494, hbm13, hbk13, (if_neg (fun z => q496 z.symm)).trans ((if_neg (fun z => q497 z.symm)).trans ((if_neg (fun z => q498 z.symm)).trans ((if_neg (fun z => q499 z.symm)).trans ((if_neg (fun z => q500 z.symm)).trans ((if_neg (fun z => q501 z.symm)).trans ((if_neg (fun z => q502 z.symm)).trans ((if_neg (fun z => q503 z.symm)).trans ((if_neg (fun z => q504 z.symm)).trans ((if_neg (fun z => q505 z.symm)).trans ((if_neg (fun z => q506 z.symm)).trans (if_pos rfl)))))))))))⟩), ⟨⟨q564, q565, q566, q567, q568, q569, q570, q576, q571, q522, q526, q552, q556⟩, ⟨q573, q539, q535⟩, ⟨q574, q548, q544⟩, q575, hbN13⟩, q577, q516, q515, rfl⟩ dX5_init_85
