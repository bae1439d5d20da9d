/-! isTrue -/
section IR
variable {p : Program} {l : Launch} {e : Env} {R : Room} {s : State} {m : MethodId} {args : Array Value} {below : List Frame} {meth : Method} {c : Code} {H : Heap} {locs : List Loc} {cells slots : Nat} {Q : State → Prop} {cc : ByteArray} {pc : Nat} {ls : Array Slot} {rest : List Value}
theorem rem4 : ∀ a : Nat, a < 8 → nI a - nI a / nI 4 * nI 4 = nI (a % 4) := by decide
theorem n_irem4 (hexec : p.tables.exec = Jvm.exec) (hb : c.code = cc) {a : Nat} (ha : a < 8) (hdg : decode cc pc = .ok (.irem, 1)) (k : W p l e R s m args below meth c H locs cells slots Q (F0 m (pc + 1) ls (.int (nI (a % 4)) :: rest))) : W p l e R s m args below meth c H locs cells slots Q (F0 m pc ls (.int (nI 4) :: .int (nI a) :: rest)) := by
  intro T hT X
  obtain ⟨t, g, b⟩ := k T hT X
  refine ⟨t, ?_, b⟩
  have hz : ¬ (nI 4 = 0) := by decide
  jvm_step X.here [X.here.top, hexec, hb, hdg, Jvm.Op.irem.wp_sem, hz]
  rw [rem4 a ha]
  exact g
end IR
set_option maxHeartbeats 4000000 in
set_option maxRecDepth 100000 in
theorem co_isTrue (l : Launch) {G : va_G} {kT : Nat → ClassId} {L : List Nat} {K : Nat → Nat} {R : pR} {I : pI} {A : mD} {Q : pR} {N : Nat → Nat} {T : mT} {D : mD} {ad : pD} (HB : Rep T D ad L K R I A Q N) : cNi l yX6_isTrue wsX6_isTrue ({ frames := 5, cells := 0, slots := 0, locals := 110 } : Room) G kT [.ref (ad 0 0)] L K R I A Q N 0 0 [] (nI 1) (ΦR T D ad L K N) := by
  refine cstNb (cc := cX6_isTrue) (maxL := 4) (ret := (some .boolean)) (by decide) rfl rfl (nI_zb (by decide)) (Nat.le_of_ble_eq_true rfl) (fun p e s m args below meth c Z hE X hni hAO hW ls hl => ?_)
  have X : CallFix p m c cX6_isTrue 4 s args wsX6_isTrue RX6 := X
  have hl : lv_has ls 4 [(0, .ref (ad 0 0))] := hl
  have hin0 : ∀ w ∈ wsX00, w ∈ wsX6_isTrue := fun w h => List.mem_cons_of_mem _ (List.mem_append_left _ (List.mem_append_left _ (List.mem_append_right _ (h))))
  have hin1 : ∀ w ∈ wsX10, w ∈ wsX6_isTrue := fun w h => List.mem_cons_of_mem _ (List.mem_append_left _ (List.mem_append_right _ (h)))
  have hin2 : ∀ w ∈ wsX20, w ∈ wsX6_isTrue := fun w h => List.mem_cons_of_mem _ (List.mem_append_left _ (List.mem_append_left _ (List.mem_append_left _ (List.mem_append_right _ (h)))))
  have hin3 : ∀ w ∈ wsX30, w ∈ wsX6_isTrue := fun w h => List.mem_cons_of_mem _ (List.mem_append_left _ (List.mem_append_left _ (List.mem_append_left _ (List.mem_append_left _ (List.mem_append_right _ (h))))))
  have hin4 : ∀ w ∈ wsX40, w ∈ wsX6_isTrue := fun w h => List.mem_cons_of_mem _ (List.mem_append_left _ (List.mem_append_left _ (List.mem_append_left _ (List.mem_append_left _ (List.mem_append_left _ (List.mem_append_left _ (List.mem_append_right _ (h))))))))
  have hin5 : ∀ w ∈ wsX50, w ∈ wsX6_isTrue := fun w h => List.mem_cons_of_mem _ (List.mem_append_left _ (List.mem_append_left _ (List.mem_append_left _ (List.mem_append_left _ (List.mem_append_left _ (List.mem_append_right _ (h)))))))
  have hin6 : ∀ w ∈ wsX60, w ∈ wsX6_isTrue := fun w h => List.mem_cons_of_mem _ (List.mem_append_left _ (List.mem_append_left _ (List.mem_append_left _ (List.mem_append_left _ (List.mem_append_left _ (List.mem_append_left _ (List.mem_append_left _ (List.mem_append_right _ (h)))))))))
  have loop49 : ∀ (n k : Nat) (R9 : pR) (I9 : pI) (A9 : mD) (Q9 : pR), k + n = 4 → Rep T D ad L K R9 I9 A9 Q9 N → ∀ (H : Heap) (locs : List Loc), cH G kT L L K R9 I9 A9 Q9 N s H locs → ∀ ls : Array Slot, lv_has ls 4 [(0, .ref (ad 0 0)), (1, .int (nI (k)))] → W p l e ({ frames := 5, cells := 0, slots := 0, locals := 110 } : Room) s m args below meth c H locs 0 0 Z (F0 m 49 ls []) := by
    intro n
    induction n with
    | zero =>
      intro k R9 I9 A9 Q9 hk HB H locs hW ls hl
      obtain rfl : k = 4 := by omega
      refine lv_iload_n X.1 X.2.1 dX6_isTrue_49 rfl (lv_at hl 1 rfl) ?_
      refine lv_iconst (v := nI 4) X.1 X.2.1 dX6_isTrue_50 (by decide) ?_
      refine n_icmp_ge_t (tgt := 102) X.1 X.2.1 dX6_isTrue_51 (by decide) (by decide) (by omega) (by omega) ?_
      refine lv_iconst (v := nI 1) X.1 X.2.1 dX6_isTrue_102 (by decide) ?_
      exact hE _ _ _ _ _ _ _ _ _ _ _ _ _ _ (rfl) (show _ ≤ 0 by omega) (show _ ≤ 0 by omega) hW (⟨rfl, rfl, rfl, HB⟩) dX6_isTrue_103
    | succ n ih =>
      intro k R9 I9 A9 Q9 hk HB H locs hW ls hl
      refine lv_iload_n X.1 X.2.1 dX6_isTrue_49 rfl (lv_at hl 1 rfl) ?_
      refine lv_iconst (v := nI 4) X.1 X.2.1 dX6_isTrue_50 (by decide) ?_
      refine n_icmp_ge_f (tgt := 102) X.1 X.2.1 dX6_isTrue_51 (by decide) (by omega) (by omega) (by omega) ?_
      refine lv_aload_n X.1 X.2.1 dX6_isTrue_54 rfl (lv_at hl 0 rfl) ?_
      refine cg_6_byteRows X hin6 hW (HB.mem lv_0) (HB.kn lv_0 rfl) (HB.rc.1 1 (by decide)) (X.2.2.2.2 (.fieldLink RX6 20 "Strandbook" "byteRows" "[LStrandbook$ByteRow;") (List.mem_cons_of_mem _ (List.mem_append_left _ (List.mem_append_left _ (List.mem_append_left _ (List.mem_append_left _ (List.mem_append_left _ (List.mem_append_left _ (List.mem_append_left _ (List.mem_append_left _ (List.mem_append_left _ (List.mem_of_getElem? (i := 3) rfl)))))))))))) dX6_isTrue_55 ?_
      refine lv_iload_n X.1 X.2.1 dX6_isTrue_58 rfl (lv_at hl 1 rfl) ?_
      refine lv_iconst (v := nI 1) X.1 X.2.1 dX6_isTrue_59 (by decide) ?_
      refine n_iadd X.1 X.2.1 dX6_isTrue_60 ?_
      refine lv_iconst (v := nI 4) X.1 X.2.1 dX6_isTrue_61 (by decide) ?_
      refine n_irem4 X.1 X.2.1 (by omega) dX6_isTrue_62 ?_
      refine cld_10 X hW (HB.mem (lv_1 (by decide))) (HB.kn (lv_1 (by decide)) rfl) (by rw [HB.rc.2.2.1.2.1]; omega) (by omega) (HB.rq.2 ((k + 1) % 4) (by omega)) dX6_isTrue_63 ?_
      refine lv_astore_n (lv' := [(2, .ref (ad 5 (T 5 ((k + 1) % 4)))), (0, .ref (ad 0 0)), (1, .int (nI (k)))]) X.1 X.2.1 dX6_isTrue_64 rfl hl (by decide) rfl (fun ls hl => ?_)
      refine lv_aload_n X.1 X.2.1 dX6_isTrue_65 rfl (lv_at hl 1 rfl) ?_
      refine cg_6_byteRows X hin6 hW (HB.mem lv_0) (HB.kn lv_0 rfl) (HB.rc.1 1 (by decide)) (X.2.2.2.2 (.fieldLink RX6 20 "Strandbook" "byteRows" "[LStrandbook$ByteRow;") (List.mem_cons_of_mem _ (List.mem_append_left _ (List.mem_append_left _ (List.mem_append_left _ (List.mem_append_left _ (List.mem_append_left _ (List.mem_append_left _ (List.mem_append_left _ (List.mem_append_left _ (List.mem_append_left _ (List.mem_of_getElem? (i := 3) rfl)))))))))))) dX6_isTrue_66 ?_
      refine lv_iload_n X.1 X.2.1 dX6_isTrue_69 rfl (lv_at hl 2 rfl) ?_
      refine lv_iconst (v := nI 2) X.1 X.2.1 dX6_isTrue_70 (by decide) ?_
      refine n_iadd X.1 X.2.1 dX6_isTrue_71 ?_
      refine lv_iconst (v := nI 4) X.1 X.2.1 dX6_isTrue_72 (by decide) ?_
      refine n_irem4 X.1 X.2.1 (by omega) dX6_isTrue_73 ?_
      refine cld_10 X hW (HB.mem (lv_1 (by decide))) (HB.kn (lv_1 (by decide)) rfl) (by rw [HB.rc.2.2.1.2.1]; omega) (by omega) (HB.rq.2 ((k + 2) % 4) (by omega)) dX6_isTrue_74 ?_
      refine lv_astore_n (lv' := [(3, .ref (ad 5 (T 5 ((k + 2) % 4)))), (2, .ref (ad 5 (T 5 ((k + 1) % 4)))), (0, .ref (ad 0 0)), (1, .int (nI (k)))]) X.1 X.2.1 dX6_isTrue_75 rfl hl (by decide) rfl (fun ls hl => ?_)
      refine lv_aload_n X.1 X.2.1 dX6_isTrue_76 rfl (lv_at hl 2 rfl) ?_
      refine cg_6_trial X hin6 hW (HB.mem lv_0) (HB.kn lv_0 rfl) (HB.rc.2.1) (X.2.2.2.2 (.fieldLink RX6 52 "Strandbook" "trial" "LStrandbook$Trial;") (List.mem_cons_of_mem _ (List.mem_append_left _ (List.mem_append_left _ (List.mem_append_left _ (List.mem_append_left _ (List.mem_append_left _ (List.mem_append_left _ (List.mem_append_left _ (List.mem_append_left _ (List.mem_append_left _ (List.mem_of_getElem? (i := 0) rfl)))))))))))) dX6_isTrue_77 ?_
      refine lv_aload_n X.1 X.2.1 dX6_isTrue_80 rfl (lv_at hl 2 rfl) ?_
      refine cg_6_byteRows X hin6 hW (HB.mem lv_0) (HB.kn lv_0 rfl) (HB.rc.1 1 (by decide)) (X.2.2.2.2 (.fieldLink RX6 20 "Strandbook" "byteRows" "[LStrandbook$ByteRow;") (List.mem_cons_of_mem _ (List.mem_append_left _ (List.mem_append_left _ (List.mem_append_left _ (List.mem_append_left _ (List.mem_append_left _ (List.mem_append_left _ (List.mem_append_left _ (List.mem_append_left _ (List.mem_append_left _ (List.mem_of_getElem? (i := 3) rfl)))))))))))) dX6_isTrue_81 ?_
      refine lv_iload_n X.1 X.2.1 dX6_isTrue_84 rfl (lv_at hl 3 rfl) ?_
      refine cld_10 X hW (HB.mem (lv_1 (by decide))) (HB.kn (lv_1 (by decide)) rfl) (by rw [HB.rc.2.2.1.2.1]; omega) (by omega) (HB.rq.2 k (by omega)) dX6_isTrue_85 ?_
      refine lv_aload_n X.1 X.2.1 dX6_isTrue_86 rfl (lv_at hl 1 rfl) ?_
      refine lv_aload_n X.1 X.2.1 dX6_isTrue_87 rfl (lv_at hl 0 rfl) ?_
      refine cVNi (cs := []) (HB.mem lv_2) (pC_5 (HB.kn lv_2 rfl)) rfl X hW (fun C h => absurd h List.not_mem_nil) (cr_holdsForRows l HB (a := k) (b := (k + 1) % 4) (d := (k + 2) % 4) (by omega) (by omega) (by omega)) (cwV 3 X.2.2.2.2 gX6_isTrue_X5_holdsForRows rfl rfl rfl (by decide +kernel) ⟨Nat.le_of_ble_eq_true rfl, Nat.le_of_ble_eq_true rfl⟩) rfl rfl hl.1 (Nat.le_of_ble_eq_true rfl) dX6_isTrue_88 ⟨(show _ ≤ 0 by omega), (show _ ≤ 0 by omega)⟩ (fun L1 K1 R1 I1 A1 Q1 N1 H locs hW hF1 => ?_)
      obtain ⟨rfl, rfl, rfl, HB1⟩ := hF1
      refine n_if_ne_t (tgt := 96) X.1 X.2.1 dX6_isTrue_91 (by decide) (by decide) (by omega) ?_
      refine lv_iinc (v := nI (k + 1)) (lv' := [(1, .int (nI (k + 1))), (3, .ref (ad 5 (T 5 ((k + 2) % 4)))), (2, .ref (ad 5 (T 5 ((k + 1) % 4)))), (0, .ref (ad 0 0))]) X.1 X.2.1 dX6_isTrue_96 hl (k := 3) rfl (nI_1 _) (by decide) rfl (fun ls hl => ?_)
      refine lv_goto (tgt := 49) X.1 X.2.1 dX6_isTrue_99 (by decide) ?_
      exact ih (k + 1) _ _ _ _ (by omega) HB1 _ _ hW ls (lv_sub hl [3, 0] rfl)
  have loop2 : ∀ (n k : Nat) (R9 : pR) (I9 : pI) (A9 : mD) (Q9 : pR), k + n = 3 → Rep T D ad L K R9 I9 A9 Q9 N → ∀ (H : Heap) (locs : List Loc), cH G kT L L K R9 I9 A9 Q9 N s H locs → ∀ ls : Array Slot, lv_has ls 4 [(0, .ref (ad 0 0)), (1, .int (nI (k)))] → W p l e ({ frames := 5, cells := 0, slots := 0, locals := 110 } : Room) s m args below meth c H locs 0 0 Z (F0 m 2 ls []) := by
    intro n
    induction n with
    | zero =>
      intro k R9 I9 A9 Q9 hk HB H locs hW ls hl
      obtain rfl : k = 3 := by omega
      refine lv_iload_n X.1 X.2.1 dX6_isTrue_2 rfl (lv_at hl 1 rfl) ?_
      refine lv_iconst (v := nI 3) X.1 X.2.1 dX6_isTrue_3 (by decide) ?_
      refine n_icmp_ge_t (tgt := 47) X.1 X.2.1 dX6_isTrue_4 (by decide) (by decide) (by omega) (by omega) ?_
      refine lv_iconst (v := nI 0) X.1 X.2.1 dX6_isTrue_47 (by decide) ?_
      refine lv_istore_n (lv' := [(1, .int (nI (0))), (0, .ref (ad 0 0))]) X.1 X.2.1 dX6_isTrue_48 rfl hl (by decide) rfl (fun ls hl => ?_)
      exact loop49 4 0 _ _ _ _ rfl HB _ _ hW ls (lv_sub hl [1, 0] rfl)
    | succ n ih =>
      intro k R9 I9 A9 Q9 hk HB H locs hW ls hl
      refine lv_iload_n X.1 X.2.1 dX6_isTrue_2 rfl (lv_at hl 1 rfl) ?_
      refine lv_iconst (v := nI 3) X.1 X.2.1 dX6_isTrue_3 (by decide) ?_
      refine n_icmp_ge_f (tgt := 47) X.1 X.2.1 dX6_isTrue_4 (by decide) (by omega) (by omega) (by omega) ?_
      refine lv_aload_n X.1 X.2.1 dX6_isTrue_7 rfl (lv_at hl 0 rfl) ?_
      refine cg_6_trial X hin6 hW (HB.mem lv_0) (HB.kn lv_0 rfl) (HB.rc.2.1) (X.2.2.2.2 (.fieldLink RX6 52 "Strandbook" "trial" "LStrandbook$Trial;") (List.mem_cons_of_mem _ (List.mem_append_left _ (List.mem_append_left _ (List.mem_append_left _ (List.mem_append_left _ (List.mem_append_left _ (List.mem_append_left _ (List.mem_append_left _ (List.mem_append_left _ (List.mem_append_left _ (List.mem_of_getElem? (i := 0) rfl)))))))))))) dX6_isTrue_8 ?_
      refine lv_aload_n X.1 X.2.1 dX6_isTrue_11 rfl (lv_at hl 0 rfl) ?_
      refine cg_6_textWriters X hin6 hW (HB.mem lv_0) (HB.kn lv_0 rfl) (HB.rc.1 2 (by decide)) (X.2.2.2.2 (.fieldLink RX6 27 "Strandbook" "textWriters" "[LStrandbook$SignWriter;") (List.mem_cons_of_mem _ (List.mem_append_left _ (List.mem_append_left _ (List.mem_append_left _ (List.mem_append_left _ (List.mem_append_left _ (List.mem_append_left _ (List.mem_append_left _ (List.mem_append_left _ (List.mem_append_left _ (List.mem_of_getElem? (i := 1) rfl)))))))))))) dX6_isTrue_12 ?_
      refine lv_iload_n X.1 X.2.1 dX6_isTrue_15 rfl (lv_at hl 1 rfl) ?_
      refine cld_14 X hW (HB.mem (lv_1 (by decide))) (HB.kn (lv_1 (by decide)) rfl) (by rw [HB.rc.2.2.1.2.2.1]; omega) (by omega) (HB.rc.2.2.2.1 k (by omega)) dX6_isTrue_16 ?_
      refine cVNi (cs := []) (HB.mem lv_2) (pC_5 (HB.kn lv_2 rfl)) rfl X hW (fun C h => absurd h List.not_mem_nil) (cr_holdsForWriter l HB (w := k) (by omega)) (cwV 1 X.2.2.2.2 gX6_isTrue_X5_holdsForWriter rfl rfl rfl (by decide +kernel) ⟨Nat.le_of_ble_eq_true rfl, Nat.le_of_ble_eq_true rfl⟩) rfl rfl hl.1 (Nat.le_of_ble_eq_true rfl) dX6_isTrue_17 ⟨(show _ ≤ 0 by omega), (show _ ≤ 0 by omega)⟩ (fun L1 K1 R1 I1 A1 Q1 N1 H locs hW hF1 => ?_)
      obtain ⟨rfl, rfl, rfl, HB1⟩ := hF1
      refine n_if_eq_f (tgt := 39) X.1 X.2.1 dX6_isTrue_20 (by decide) (by decide) (by omega) ?_
      refine lv_aload_n X.1 X.2.1 dX6_isTrue_23 rfl (lv_at hl 0 rfl) ?_
      refine cg_6_trial X hin6 hW (HB1.mem lv_0) (HB1.kn lv_0 rfl) (HB1.rc.2.1) (X.2.2.2.2 (.fieldLink RX6 52 "Strandbook" "trial" "LStrandbook$Trial;") (List.mem_cons_of_mem _ (List.mem_append_left _ (List.mem_append_left _ (List.mem_append_left _ (List.mem_append_left _ (List.mem_append_left _ (List.mem_append_left _ (List.mem_append_left _ (List.mem_append_left _ (List.mem_append_left _ (List.mem_of_getElem? (i := 0) rfl)))))))))))) dX6_isTrue_24 ?_
      refine lv_aload_n X.1 X.2.1 dX6_isTrue_27 rfl (lv_at hl 0 rfl) ?_
      refine cg_6_arrayWriters X hin6 hW (HB1.mem lv_0) (HB1.kn lv_0 rfl) (HB1.rc.1 3 (by decide)) (X.2.2.2.2 (.fieldLink RX6 31 "Strandbook" "arrayWriters" "[LStrandbook$SignWriter;") (List.mem_cons_of_mem _ (List.mem_append_left _ (List.mem_append_left _ (List.mem_append_left _ (List.mem_append_left _ (List.mem_append_left _ (List.mem_append_left _ (List.mem_append_left _ (List.mem_append_left _ (List.mem_append_left _ (List.mem_of_getElem? (i := 2) rfl)))))))))))) dX6_isTrue_28 ?_
      refine lv_iload_n X.1 X.2.1 dX6_isTrue_31 rfl (lv_at hl 1 rfl) ?_
      refine cld_14 X hW (HB1.mem (lv_1 (by decide))) (HB1.kn (lv_1 (by decide)) rfl) (by rw [HB1.rc.2.2.1.2.2.2.1]; omega) (by omega) (HB1.rc.2.2.2.2.1 k (by omega)) dX6_isTrue_32 ?_
      refine cVNi (cs := []) (HB1.mem lv_2) (pC_5 (HB1.kn lv_2 rfl)) rfl X hW (fun C h => absurd h List.not_mem_nil) (cr_holdsForWriter l HB1 (w := 3 + k) (by omega)) (cwV 1 X.2.2.2.2 gX6_isTrue_X5_holdsForWriter rfl rfl rfl (by decide +kernel) ⟨Nat.le_of_ble_eq_true rfl, Nat.le_of_ble_eq_true rfl⟩) rfl rfl hl.1 (Nat.le_of_ble_eq_true rfl) dX6_isTrue_33 ⟨(show _ ≤ 0 by omega), (show _ ≤ 0 by omega)⟩ (fun L2 K2 R2 I2 A2 Q2 N2 H locs hW hF2 => ?_)
      obtain ⟨rfl, rfl, rfl, HB2⟩ := hF2
      refine n_if_ne_t (tgt := 41) X.1 X.2.1 dX6_isTrue_36 (by decide) (by decide) (by omega) ?_
      refine lv_iinc (v := nI (k + 1)) (lv' := [(1, .int (nI (k + 1))), (0, .ref (ad 0 0))]) X.1 X.2.1 dX6_isTrue_41 hl (k := 1) rfl (nI_1 _) (by decide) rfl (fun ls hl => ?_)
      refine lv_goto (tgt := 2) X.1 X.2.1 dX6_isTrue_44 (by decide) ?_
      exact ih (k + 1) _ _ _ _ (by omega) HB2 _ _ hW ls (lv_sub hl [1, 0] rfl)
  refine lv_iconst (v := nI 0) X.1 X.2.1 dX6_isTrue_0 (by decide) ?_
  refine lv_istore_n (lv' := [(1, .int (nI (0))), (0, .ref (ad 0 0))]) X.1 X.2.1 dX6_isTrue_1 rfl hl (by decide) rfl (fun ls hl => ?_)
  exact loop2 3 0 _ _ _ _ rfl HB _ _ hW ls (lv_sub hl [1, 0] rfl)
