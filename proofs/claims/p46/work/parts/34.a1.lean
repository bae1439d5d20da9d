/-! constructors -/
/-- the field f of th is a new array of n -/
def nwP (f kd th n : Nat) (L : List Nat) (K : pN) (R : pR) (I : pI) (A : mD) (Q : pR) (N : pN) : pΦ := fun L2 K2 R2 I2 A2 Q2 N2 => ∃ b, b ∉ L ∧ b ∈ L2 ∧ K2 b = kd ∧ N2 b = n ∧ (kd < 10 → ∀ j, A2 b j = 0) ∧ pX L K (u2 R f th (some b)) I A Q N L2 K2 R2 I2 A2 Q2 N2
/-- a new row of signs a with its array b -/
def nwS (a b n : Nat) (L : List Nat) (K : pN) (R : pR) (I : pI) (A : mD) (Q : pR) (N : pN) (L2 : List Nat) (K2 : pN) (R2 : pR) (I2 : pI) (A2 : mD) (Q2 : pR) (N2 : pN) : Prop := pX L K R I A Q N L2 K2 R2 I2 A2 Q2 N2 ∧ a ∉ L ∧ b ∉ L ∧ a ≠ b ∧ isSR L2 K2 R2 N2 a b n ∧ ∀ j, A2 b j = 0
def nwB (a b n : Nat) (L : List Nat) (K : pN) (R : pR) (I : pI) (A : mD) (Q : pR) (N : pN) (L2 : List Nat) (K2 : pN) (R2 : pR) (I2 : pI) (A2 : mD) (Q2 : pR) (N2 : pN) : Prop := pX L K R I A Q N L2 K2 R2 I2 A2 Q2 N2 ∧ a ∉ L ∧ b ∉ L ∧ a ≠ b ∧ isBR L2 K2 R2 N2 a b n ∧ ∀ j, A2 b j = 0
section NW
variable {L L1 L2 : List Nat} {K K1 K2 : pN} {R R1 R2 : pR} {I I1 I2 : pI} {A A1 A2 : mD} {Q Q1 Q2 : pR} {N N1 N2 : pN}
theorem pX.through {b k : Nat} {v : Option Nat} (h : pX L K R I A Q N L1 K1 R1 I1 A1 Q1 N1) (hb : b ∉ L) (g : pX L1 K1 (u2 R1 k b v) I1 A1 Q1 N1 L2 K2 R2 I2 A2 Q2 N2) : pX L K R I A Q N L2 K2 R2 I2 A2 Q2 N2 := (h.newR hb).tr g
theorem nwS_of {a n : Nat} (hX : pX L K R I A Q N L1 K1 R1 I1 A1 Q1 N1) (hn : a ∉ L) (hm : a ∈ L1) (hk : K1 a = 3) (h9 : n ≤ 256) (hF : nwP 3 8 a n L1 K1 R1 I1 A1 Q1 N1 L2 K2 R2 I2 A2 Q2 N2) : ∃ b, nwS a b n L K R I A Q N L2 K2 R2 I2 A2 Q2 N2 := by
  obtain ⟨b, h1, h2, h3, h4, h5, h6⟩ := hF
  obtain ⟨g1, g2, g3, -⟩ := h6 a hm
  exact ⟨b, hX.through hn h6, hn, fun z => h1 ((hX b z).1), fun z => h1 (z ▸ hm), ⟨g1, g2.trans hk, (g3 3).trans u2_eq, h2, h3, h4, h9⟩, h5 (by decide)⟩
theorem nwB_of {a n : Nat} (hX : pX L K R I A Q N L1 K1 R1 I1 A1 Q1 N1) (hn : a ∉ L) (hm : a ∈ L1) (hk : K1 a = 0) (h9 : n ≤ 64) (hF : nwP 0 7 a n L1 K1 R1 I1 A1 Q1 N1 L2 K2 R2 I2 A2 Q2 N2) : ∃ b, nwB a b n L K R I A Q N L2 K2 R2 I2 A2 Q2 N2 := by
  obtain ⟨b, h1, h2, h3, h4, h5, h6⟩ := hF
  obtain ⟨g1, g2, g3, -⟩ := h6 a hm
  exact ⟨b, hX.through hn h6, hn, fun z => h1 ((hX b z).1), fun z => h1 (z ▸ hm), ⟨g1, g2.trans hk, (g3 0).trans u2_eq, h2, h3, h4, h9⟩, h5 (by decide)⟩
end NW
set_option maxHeartbeats 4000000 in
set_option maxRecDepth 100000 in
theorem ck_SignRow (l : Launch) {G : va_G} {kT : Nat → ClassId} {L : List Nat} {K : Nat → Nat} {R : pR} {I : pI} {A : mD} {Q : pR} {N : Nat → Nat} {th n : Nat} (h1 : th ∈ L) (h2 : K th = 3) (hn9 : n ≤ 256) : cNv l yX3_init wsX3_init ({ frames := 1, cells := 1, slots := 256, locals := 12 } : Room) G kT [.ref (th), .int (nI (n))] L K R I A Q N 1 256 [] (nwP 3 8 th n L K R I A Q N) := by
  refine cstNv (cc := cX3_init) (maxL := 2) (ret := none) (by decide) rfl rfl (Nat.le_of_ble_eq_true rfl) (fun p e s m args below meth c Z hE X hni hAO hW ls hl => ?_)
  have X : CallFix p m c cX3_init 2 s args wsX3_init RX3 := X
  have hl : lv_has ls 2 [(0, .ref (th)), (1, .int (nI (n)))] := hl
  have hin3 : ∀ w ∈ wsX30, w ∈ wsX3_init := fun w h => List.mem_cons_of_mem _ (List.mem_append_right _ (h))
  refine lv_aload_n X.1 X.2.1 dX3_init_0 rfl (lv_at hl 0 rfl) ?_
  refine W.objInit X.1 X.2.1 X.2.2.2.1 (X.2.2.2.2 (.methodLink RX3 1 objectInit) (List.mem_cons_of_mem _ (List.mem_append_left _ (List.mem_of_getElem? (i := 0) rfl)))) (X.2.2.2.2 (.instanceMethod objectInit) (List.mem_cons_of_mem _ (List.mem_append_left _ (List.mem_of_getElem? (i := 1) rfl)))) (X.2.2.2.2 (.code objectInit ⟨#[0xb1]⟩ 1 none) (List.mem_cons_of_mem _ (List.mem_append_left _ (List.mem_of_getElem? (i := 2) rfl)))) rfl (hl.1.trans X.2.2.1.symm) rfl dX3_init_1 (Nat.le_of_ble_eq_true rfl) (Nat.le_of_ble_eq_true rfl) ?_
  refine W.eq (g2 := F0 m 4 ls []) rfl ?_
  refine lv_aload_n X.1 X.2.1 dX3_init_4 rfl (lv_at hl 0 rfl) ?_
  refine lv_iload_n X.1 X.2.1 dX3_init_5 rfl (lv_at hl 1 rfl) ?_
  refine cna_8 X hW (X.2.2.2.2 (.arrayClass .char) (List.mem_cons_of_mem _ (List.mem_append_left _ (List.mem_of_getElem? (i := 3) rfl)))) (n := n) (by omega) (show _ ≤ 1 by omega) (show _ ≤ 256 by omega) dX3_init_6 (fun n1 L1 K1 R1 I1 A1 Q1 N1 H hX1 hn1 hm1 hk1 hN1 hf1 hW => ?_)
  refine cpf_3_signs X hin3 hni hW ((hX1 th h1).1) ((hX1 th h1).2.1.trans h2) (X.2.2.2.2 (.fieldLink RX3 7 "Strandbook$SignRow" "signs" "[C") (List.mem_cons_of_mem _ (List.mem_append_left _ (List.mem_of_getElem? (i := 4) rfl)))) dX3_init_8 (fun H locs hW => ?_)
  exact hE _ _ _ _ _ _ _ _ _ _ _ _ _ (show _ ≤ 1 by omega) (show _ ≤ 256 by omega) hW (⟨n1, hn1, hm1, hk1, hN1, fun _ => hf1, hX1.uR⟩) dX3_init_11
set_option maxHeartbeats 4000000 in
set_option maxRecDepth 100000 in
theorem ck_ByteRow (l : Launch) {G : va_G} {kT : Nat → ClassId} {L : List Nat} {K : Nat → Nat} {R : pR} {I : pI} {A : mD} {Q : pR} {N : Nat → Nat} {th n : Nat} (h1 : th ∈ L) (h2 : K th = 0) (hn9 : n ≤ 64) : cNv l yX0_init wsX0_init ({ frames := 1, cells := 1, slots := 64, locals := 12 } : Room) G kT [.ref (th), .int (nI (n))] L K R I A Q N 1 64 [] (nwP 0 7 th n L K R I A Q N) := by
  refine cstNv (cc := cX0_init) (maxL := 2) (ret := none) (by decide) rfl rfl (Nat.le_of_ble_eq_true rfl) (fun p e s m args below meth c Z hE X hni hAO hW ls hl => ?_)
  have X : CallFix p m c cX0_init 2 s args wsX0_init RX0 := X
  have hl : lv_has ls 2 [(0, .ref (th)), (1, .int (nI (n)))] := hl
  have hin0 : ∀ w ∈ wsX00, w ∈ wsX0_init := fun w h => List.mem_cons_of_mem _ (List.mem_append_right _ (h))
  refine lv_aload_n X.1 X.2.1 dX0_init_0 rfl (lv_at hl 0 rfl) ?_
  refine W.objInit X.1 X.2.1 X.2.2.2.1 (X.2.2.2.2 (.methodLink RX0 1 objectInit) (List.mem_cons_of_mem _ (List.mem_append_left _ (List.mem_of_getElem? (i := 0) rfl)))) (X.2.2.2.2 (.instanceMethod objectInit) (List.mem_cons_of_mem _ (List.mem_append_left _ (List.mem_of_getElem? (i := 1) rfl)))) (X.2.2.2.2 (.code objectInit ⟨#[0xb1]⟩ 1 none) (List.mem_cons_of_mem _ (List.mem_append_left _ (List.mem_of_getElem? (i := 2) rfl)))) rfl (hl.1.trans X.2.2.1.symm) rfl dX0_init_1 (Nat.le_of_ble_eq_true rfl) (Nat.le_of_ble_eq_true rfl) ?_
  refine W.eq (g2 := F0 m 4 ls []) rfl ?_
  refine lv_aload_n X.1 X.2.1 dX0_init_4 rfl (lv_at hl 0 rfl) ?_
  refine lv_iload_n X.1 X.2.1 dX0_init_5 rfl (lv_at hl 1 rfl) ?_
  refine cna_7 X hW (X.2.2.2.2 (.arrayClass .byte) (List.mem_cons_of_mem _ (List.mem_append_left _ (List.mem_of_getElem? (i := 3) rfl)))) (n := n) (by omega) (show _ ≤ 1 by omega) (show _ ≤ 64 by omega) dX0_init_6 (fun n1 L1 K1 R1 I1 A1 Q1 N1 H hX1 hn1 hm1 hk1 hN1 hf1 hW => ?_)
  refine cpf_0_bytes X hin0 hni hW ((hX1 th h1).1) ((hX1 th h1).2.1.trans h2) (X.2.2.2.2 (.fieldLink RX0 7 "Strandbook$ByteRow" "bytes" "[B") (List.mem_cons_of_mem _ (List.mem_append_left _ (List.mem_of_getElem? (i := 4) rfl)))) dX0_init_8 (fun H locs hW => ?_)
  exact hE _ _ _ _ _ _ _ _ _ _ _ _ _ (show _ ≤ 1 by omega) (show _ ≤ 64 by omega) hW (⟨n1, hn1, hm1, hk1, hN1, fun _ => hf1, hX1.uR⟩) dX0_init_11
set_option maxHeartbeats 4000000 in
set_option maxRecDepth 100000 in
theorem ck_SignWriter (l : Launch) {G : va_G} {kT : Nat → ClassId} {L : List Nat} {K : Nat → Nat} {R : pR} {I : pI} {A : mD} {Q : pR} {N : Nat → Nat} {th : Nat} (h1 : th ∈ L) (h2 : K th = 4)  : cNv l yX4_init wsX4_init ({ frames := 1, cells := 1, slots := 256, locals := 12 } : Room) G kT [.ref (th)] L K R I A Q N 1 256 [] (nwP 4 8 th 256 L K R I A Q N) := by
  refine cstNv (cc := cX4_init) (maxL := 1) (ret := none) (by decide) rfl rfl (Nat.le_of_ble_eq_true rfl) (fun p e s m args below meth c Z hE X hni hAO hW ls hl => ?_)
  have X : CallFix p m c cX4_init 1 s args wsX4_init RX4 := X
  have hl : lv_has ls 1 [(0, .ref (th))] := hl
  have hin4 : ∀ w ∈ wsX40, w ∈ wsX4_init := fun w h => List.mem_cons_of_mem _ (List.mem_append_right _ (h))
  refine lv_aload_n X.1 X.2.1 dX4_init_0 rfl (lv_at hl 0 rfl) ?_
  refine W.objInit X.1 X.2.1 X.2.2.2.1 (X.2.2.2.2 (.methodLink RX4 3 objectInit) (List.mem_cons_of_mem _ (List.mem_append_left _ (List.mem_of_getElem? (i := 0) rfl)))) (X.2.2.2.2 (.instanceMethod objectInit) (List.mem_cons_of_mem _ (List.mem_append_left _ (List.mem_of_getElem? (i := 1) rfl)))) (X.2.2.2.2 (.code objectInit ⟨#[0xb1]⟩ 1 none) (List.mem_cons_of_mem _ (List.mem_append_left _ (List.mem_of_getElem? (i := 2) rfl)))) rfl (hl.1.trans X.2.2.1.symm) rfl dX4_init_1 (Nat.le_of_ble_eq_true rfl) (Nat.le_of_ble_eq_true rfl) ?_
  refine W.eq (g2 := F0 m 4 ls []) rfl ?_
  refine lv_aload_n X.1 X.2.1 dX4_init_4 rfl (lv_at hl 0 rfl) ?_
  refine lv_sipush (v := nI 256) X.1 X.2.1 dX4_init_5 (by decide) ?_
  refine cna_8 X hW (X.2.2.2.2 (.arrayClass .char) (List.mem_cons_of_mem _ (List.mem_append_left _ (List.mem_of_getElem? (i := 3) rfl)))) (n := 256) (by decide) (show _ ≤ 1 by omega) (show _ ≤ 256 by omega) dX4_init_8 (fun n1 L1 K1 R1 I1 A1 Q1 N1 H hX1 hn1 hm1 hk1 hN1 hf1 hW => ?_)
  refine cpf_4_signs X hin4 hni hW ((hX1 th h1).1) ((hX1 th h1).2.1.trans h2) (X.2.2.2.2 (.fieldLink RX4 9 "Strandbook$SignWriter" "signs" "[C") (List.mem_cons_of_mem _ (List.mem_append_left _ (List.mem_of_getElem? (i := 4) rfl)))) dX4_init_10 (fun H locs hW => ?_)
  exact hE _ _ _ _ _ _ _ _ _ _ _ _ _ (show _ ≤ 1 by omega) (show _ ≤ 256 by omega) hW (⟨n1, hn1, hm1, hk1, hN1, fun _ => hf1, hX1.uR⟩) dX4_init_13
set_option maxHeartbeats 4000000 in
set_option maxRecDepth 100000 in
theorem ck_JoinedStream (l : Launch) {G : va_G} {kT : Nat → ClassId} {L : List Nat} {K : Nat → Nat} {R : pR} {I : pI} {A : mD} {Q : pR} {N : Nat → Nat} {th : Nat} (h1 : th ∈ L) (h2 : K th = 1)  : cNv l yX1_init wsX1_init ({ frames := 1, cells := 1, slots := 3, locals := 12 } : Room) G kT [.ref (th)] L K R I A Q N 1 3 [.inl RX0] (nwP 1 10 th 3 L K R I A Q N) := by
  refine cstNv (cc := cX1_init) (maxL := 1) (ret := none) (by decide) rfl rfl (Nat.le_of_ble_eq_true rfl) (fun p e s m args below meth c Z hE X hni hAO hW ls hl => ?_)
  have X : CallFix p m c cX1_init 1 s args wsX1_init RX1 := X
  have hl : lv_has ls 1 [(0, .ref (th))] := hl
  have hin1 : ∀ w ∈ wsX10, w ∈ wsX1_init := fun w h => List.mem_cons_of_mem _ (List.mem_append_right _ (h))
  refine lv_aload_n X.1 X.2.1 dX1_init_0 rfl (lv_at hl 0 rfl) ?_
  refine W.objInit X.1 X.2.1 X.2.2.2.1 (X.2.2.2.2 (.methodLink RX1 3 objectInit) (List.mem_cons_of_mem _ (List.mem_append_left _ (List.mem_of_getElem? (i := 0) rfl)))) (X.2.2.2.2 (.instanceMethod objectInit) (List.mem_cons_of_mem _ (List.mem_append_left _ (List.mem_of_getElem? (i := 1) rfl)))) (X.2.2.2.2 (.code objectInit ⟨#[0xb1]⟩ 1 none) (List.mem_cons_of_mem _ (List.mem_append_left _ (List.mem_of_getElem? (i := 2) rfl)))) rfl (hl.1.trans X.2.2.1.symm) rfl dX1_init_1 (Nat.le_of_ble_eq_true rfl) (Nat.le_of_ble_eq_true rfl) ?_
  refine W.eq (g2 := F0 m 4 ls []) rfl ?_
  refine lv_aload_n X.1 X.2.1 dX1_init_4 rfl (lv_at hl 0 rfl) ?_
  refine lv_iconst (v := nI 3) X.1 X.2.1 dX1_init_5 (by decide) ?_
  refine cna_10 X hW (X.2.2.2.2 (.classLink RX1 9 RX0) (List.mem_cons_of_mem _ (List.mem_append_left _ (List.mem_of_getElem? (i := 3) rfl)))) (hAO (.inl RX0) (List.mem_of_getElem? (i := 0) rfl)) (n := 3) (by decide) (show _ ≤ 1 by omega) (show _ ≤ 3 by omega) dX1_init_6 (fun n1 L1 K1 R1 I1 A1 Q1 N1 H hX1 hn1 hm1 hk1 hN1 hf1 hW => ?_)
  refine cpf_1_parts X hin1 hni hW ((hX1 th h1).1) ((hX1 th h1).2.1.trans h2) (X.2.2.2.2 (.fieldLink RX1 11 "Strandbook$JoinedStream" "parts" "[LStrandbook$ByteRow;") (List.mem_cons_of_mem _ (List.mem_append_left _ (List.mem_of_getElem? (i := 4) rfl)))) dX1_init_9 (fun H locs hW => ?_)
  exact hE _ _ _ _ _ _ _ _ _ _ _ _ _ (show _ ≤ 1 by omega) (show _ ≤ 3 by omega) hW (⟨n1, hn1, hm1, hk1, hN1, fun z => absurd z (by decide), hX1.uR⟩) dX1_init_12
set_option maxHeartbeats 4000000 in
set_option maxRecDepth 100000 in
theorem ck_SignReader (l : Launch) {G : va_G} {kT : Nat → ClassId} {L : List Nat} {K : Nat → Nat} {R : pR} {I : pI} {A : mD} {Q : pR} {N : Nat → Nat} {th : Nat} (h1 : th ∈ L) (h2 : K th = 2) : cNv l yX2_init wsX2_init ({ frames := 2, cells := 2, slots := 257, locals := 33 } : Room) G kT [.ref (th)] L K R I A Q N 2 257 [] (fun L2 K2 R2 I2 A2 Q2 N2 => ∃ a b, a ∉ L ∧ b ∉ L ∧ a ≠ b ∧ isSR L2 K2 R2 N2 a b 0 ∧ pX L K (u2 R 2 th (some a)) I A Q N L2 K2 R2 I2 A2 Q2 N2) := by
  refine cstNv (cc := cX2_init) (maxL := 1) (ret := none) (by decide) rfl rfl (Nat.le_of_ble_eq_true rfl) (fun p e s m args below meth c Z hE X hni hAO hW ls hl => ?_)
  have X : CallFix p m c cX2_init 1 s args wsX2_init RX2 := X
  have hl : lv_has ls 1 [(0, .ref (th))] := hl
  have hin2 : ∀ w ∈ wsX20, w ∈ wsX2_init := fun w h => List.mem_cons_of_mem _ (List.mem_append_right _ (h))
  have hin3 : ∀ w ∈ wsX30, w ∈ wsX2_init := fun w h => List.mem_cons_of_mem _ (List.mem_append_left _ (List.mem_append_right _ (h)))
  refine lv_aload_n X.1 X.2.1 dX2_init_0 rfl (lv_at hl 0 rfl) ?_
  refine W.objInit X.1 X.2.1 X.2.2.2.1 (X.2.2.2.2 (.methodLink RX2 1 objectInit) (List.mem_cons_of_mem _ (List.mem_append_left _ (List.mem_append_left _ (List.mem_of_getElem? (i := 0) rfl))))) (X.2.2.2.2 (.instanceMethod objectInit) (List.mem_cons_of_mem _ (List.mem_append_left _ (List.mem_append_left _ (List.mem_of_getElem? (i := 1) rfl))))) (X.2.2.2.2 (.code objectInit ⟨#[0xb1]⟩ 1 none) (List.mem_cons_of_mem _ (List.mem_append_left _ (List.mem_append_left _ (List.mem_of_getElem? (i := 2) rfl))))) rfl (hl.1.trans X.2.2.1.symm) rfl dX2_init_1 (Nat.le_of_ble_eq_true rfl) (Nat.le_of_ble_eq_true rfl) ?_
  refine W.eq (g2 := F0 m 4 ls []) rfl ?_
  refine lv_aload_n X.1 X.2.1 dX2_init_4 rfl (lv_at hl 0 rfl) ?_
  refine cnw_3 X hin3 hW (X.2.2.2.2 (.classLink RX2 7 RX3) (List.mem_cons_of_mem _ (List.mem_append_left _ (List.mem_append_left _ (List.mem_of_getElem? (i := 3) rfl))))) (X.2.2.2.2 (.instantiable RX3 1) (List.mem_cons_of_mem _ (List.mem_append_left _ (List.mem_append_left _ (List.mem_of_getElem? (i := 4) rfl))))) (X.2.2.2.2 (.initialized RX3) (List.mem_cons_of_mem _ (List.mem_append_left _ (List.mem_append_left _ (List.mem_of_getElem? (i := 5) rfl))))) (show _ ≤ 2 by omega) (show _ ≤ 257 by omega) dX2_init_5 (fun n1 L1 K1 R1 I1 A1 Q1 N1 H hX1 hn1 hm1 hk1 hr1 hi1 hW => ?_)
  refine lv_dup X.1 X.2.1 dX2_init_8 rfl ?_
  refine lv_iconst (v := nI 0) X.1 X.2.1 dX2_init_9 (by decide) ?_
  refine cINv (cs := []) X hW (fun C h => absurd h List.not_mem_nil) (ck_SignRow l hm1 hk1 (n := 0) (by omega)) (cwI 1 X.2.2.2.2 gX2_init_X3_init rfl rfl rfl (X.2.2.2.2 (.initialized RX3) (List.mem_cons_of_mem _ (List.mem_append_left _ (List.mem_append_left _ (List.mem_of_getElem? (i := 5) rfl))))) (X.2.2.2.2 (.methodLink RX2 9 yX3_init) (List.mem_cons_of_mem _ (List.mem_append_left _ (List.mem_append_left _ (List.mem_of_getElem? (i := 7) rfl))))) (X.2.2.2.2 (.instanceMethod yX3_init) (List.mem_cons_of_mem _ (List.mem_append_left _ (List.mem_append_left _ (List.mem_of_getElem? (i := 8) rfl))))) rfl (by decide +kernel) ⟨Nat.le_of_ble_eq_true rfl, Nat.le_of_ble_eq_true rfl⟩) rfl rfl hl.1 (Nat.le_of_ble_eq_true rfl) dX2_init_10 ⟨(show _ ≤ 2 by omega), (show _ ≤ 257 by omega)⟩ (fun L2 K2 R2 I2 A2 Q2 N2 H locs hW hF2 => ?_)
  obtain ⟨b2, hS2⟩ := nwS_of hX1 hn1 hm1 hk1 (by omega) hF2
  refine cp_2_row X hin2 hW ((hS2.1 th h1).1) ((hS2.1 th h1).2.1.trans h2) (X.2.2.2.2 (.fieldLink RX2 12 "Strandbook$SignReader" "row" "LStrandbook$SignRow;") (List.mem_cons_of_mem _ (List.mem_append_left _ (List.mem_append_left _ (List.mem_of_getElem? (i := 6) rfl))))) dX2_init_13 (fun H locs hW => ?_)
  exact hE _ _ _ _ _ _ _ _ _ _ _ _ _ (show _ ≤ 2 by omega) (show _ ≤ 257 by omega) hW (⟨n1, b2, hS2.2.1, hS2.2.2.1, hS2.2.2.2.1, ⟨hS2.2.2.2.2.1.1, hS2.2.2.2.2.1.2.1, (congrFun (u2_ne (by decide)) _).trans hS2.2.2.2.2.1.2.2.1, hS2.2.2.2.2.1.2.2.2⟩, hS2.1.uR⟩) dX2_init_16
section RPX
variable {L L2 : List Nat} {K K2 : pN} {R R2 : pR} {I I2 : pI} {A A2 : mD} {Q Q2 : pR} {N N2 : pN} {T : mT} {D : mD} {ad : pD}
theorem Rep.mono (HB : Rep T D ad L K R I A Q N) (h : pX L K R I A Q N L2 K2 R2 I2 A2 Q2 N2) : Rep T D ad L2 K2 R2 I2 A2 Q2 N2 := by
  have hK : ∀ {k i}, lv T k i → ad k i ∈ L2 ∧ K2 (ad k i) = K (ad k i) := fun hl => ⟨(h _ (HB.mem hl)).1, (h _ (HB.mem hl)).2.1⟩
  have hR : ∀ {k i} (f : Nat), lv T k i → R2 f (ad k i) = R f (ad k i) := fun f hl => (h _ (HB.mem hl)).2.2.1 f
  have hI : ∀ {k i} (f : Nat), lv T k i → I2 f (ad k i) = I f (ad k i) := fun f hl => (h _ (HB.mem hl)).2.2.2.1 f
  have hA : ∀ {k i}, lv T k i → A2 (ad k i) = A (ad k i) := fun hl => (h _ (HB.mem hl)).2.2.2.2.1
  have hQ : ∀ {k i}, lv T k i → Q2 (ad k i) = Q (ad k i) := fun hl => (h _ (HB.mem hl)).2.2.2.2.2.1
  have hN : ∀ {k i}, lv T k i → N2 (ad k i) = N (ad k i) := fun hl => (h _ (HB.mem hl)).2.2.2.2.2.2
  obtain ⟨hA0, hC, hQ0, hS, hB, hW, hRd, hJ, hmi, hmd⟩ := HB
  refine ⟨⟨fun k i hl => ⟨(hK hl).1, (hK hl).2.trans (hA0.1 k i hl).2⟩, hA0.2⟩, ?_, ?_, ?_, ?_, ?_, ?_, ?_, hmi, hmd⟩
  · obtain ⟨c1, c2, ⟨c3, c4, c5, c6, c7, c8⟩, c9, c10, c11, c12, c13, c14, t1, t2, t3, t4, t5, t6, t7, t8, t9, t10, t11, t12, t13⟩ := hC
    refine ⟨fun k hk => (hR _ lv_0).trans (c1 k hk), (hR _ lv_0).trans c2, ⟨(hN (lv_1 (by decide))).trans c3, (hN (lv_1 (by decide))).trans c4, (hN (lv_1 (by decide))).trans c5, (hN (lv_1 (by decide))).trans c6, (hN (lv_1 (by decide))).trans c7, (hN (lv_1 (by decide))).trans c8⟩,
      fun w hw => (congrFun (hQ (lv_1 (by decide))) w).trans (c9 w hw), fun w hw => (congrFun (hQ (lv_1 (by decide))) w).trans (c10 w hw), fun w hw => (congrFun (hQ (lv_1 (by decide))) w).trans (c11 w hw), fun w hw => (congrFun (hQ (lv_1 (by decide))) w).trans (c12 w hw),
      fun w hw => ⟨(hR _ (lv_7 hw)).trans (c13 w hw).1, (hN (lv_8 hw)).trans (c13 w hw).2⟩, fun j hj => ⟨(hR _ (lv_10 hj)).trans (c14 j hj).1, (hN (lv_11 hj)).trans (c14 j hj).2⟩,
      (hR _ lv_2).trans t1, (hR _ lv_2).trans t2, (hR _ lv_2).trans t3, (hR _ lv_2).trans t4, (hR _ lv_2).trans t5, (hR _ lv_2).trans t6, (hR _ lv_2).trans t7, (hR _ lv_2).trans t8, (hR _ (lv_t (by decide) (by decide))).trans t9, (hN (lv_t (by decide) (by decide))).trans t10, (hN (lv_t (by decide) (by decide))).trans t11, (hN (lv_t (by decide) (by decide))).trans t12, (hN (lv_t (by decide) (by decide))).trans t13⟩
  · exact ⟨fun r hr => (congrFun (hQ (lv_1 (by decide))) r).trans (hQ0.1 r hr), fun r hr => (congrFun (hQ (lv_1 (by decide))) r).trans (hQ0.2 r hr)⟩
  · exact fun z hz => ⟨(hR _ (lv_3 hz)).trans (hS z hz).1, (hN (lv_4 hz)).trans (hS z hz).2.1, fun j hj => (congrFun (hA (lv_4 hz)) j).trans ((hS z hz).2.2 j hj)⟩
  · exact fun z hz => ⟨(hR _ (lv_5 hz)).trans (hB z hz).1, (hN (lv_6 hz)).trans (hB z hz).2.1, fun j hj => (congrFun (hA (lv_6 hz)) j).trans ((hB z hz).2.2 j hj)⟩
  · exact ⟨fun w hw => ⟨(hI _ (lv_7 (by omega))).trans (hW.1 w hw).1, fun j hj => (congrFun (hA (lv_8 (by omega))) j).trans ((hW.1 w hw).2 j hj)⟩, fun w h1 h2 => by obtain ⟨n, g1, g2⟩ := hW.2 w h1 h2; exact ⟨n, g1, (hI _ (lv_7 h2)).trans g2⟩⟩
  · exact fun i hi => ⟨fun z => (hI _ (lv_9 (by omega))).trans ((hRd i hi).1 z), fun z => by
      obtain ⟨g1, g2, g3, g4, g5, g6⟩ := (hRd i hi).2 z
      exact ⟨(hI _ (lv_9 (by omega))).trans g1, (hR _ (lv_9 (by omega))).trans g2, (hI _ (lv_9 (by omega))).trans g3, (hI _ (lv_9 (by omega))).trans g4, (hI _ (lv_9 (by omega))).trans g5, (hI _ (lv_9 (by omega))).trans g6⟩⟩
  · exact fun j hj => by
      obtain ⟨g1, g2, ⟨pl, g3, g4, g5⟩, g6, g7, g8⟩ := hJ j hj
      exact ⟨(hI _ (lv_10 (by omega))).trans g1, (hI _ (lv_10 (by omega))).trans g2, ⟨pl, (hI _ (lv_10 (by omega))).trans g3, g4, g5⟩, (hI _ (lv_10 (by omega))).trans g6, (hI _ (lv_10 (by omega))).trans g7, fun k hk => (congrFun (hQ (lv_11 (by omega))) k).trans (g8 k hk)⟩
end RPX
set_option maxHeartbeats 4000000 in
set_option maxRecDepth 100000 in
theorem co_make (l : Launch) {G : va_G} {kT : Nat → ClassId} {L : List Nat} {K : Nat → Nat} {R : pR} {I : pI} {A : mD} {Q : pR} {N : Nat → Nat} {T : mT} {D : mD} {ad : pD} (HB : Rep T D ad L K R I A Q N) {r n : Nat} (hr : r < 4) (hn : n ≤ 256) : cNi l yX6_make wsX6_make ({ frames := 7, cells := 2, slots := 257, locals := 121 } : Room) G kT [.ref (ad 0 0), .int (nI (r)), .int (nI (n))] L K R I A Q N 2 257 [] (nI (T 1 (T 2 r))) (fun L2 K2 R2 I2 A2 Q2 N2 => ∃ a b Q1 A1, nwS a b n L K R I A Q N L2 K2 R2 I2 A1 Q1 N2 ∧ Q2 = u2 Q1 (ad 1 0) r (some a) ∧ A2 = A1) := by
  refine cstNi (cc := cX6_make) (maxL := 4) (ret := (some .int)) (by decide) rfl rfl (Nat.le_of_ble_eq_true rfl) (fun p e s m args below meth c Z hE X hni hAO hW ls hl => ?_)
  have X : CallFix p m c cX6_make 4 s args wsX6_make RX6 := X
  have hl : lv_has ls 4 [(0, .ref (ad 0 0)), (1, .int (nI (r))), (2, .int (nI (n)))] := hl
  have hin3 : ∀ w ∈ wsX30, w ∈ wsX6_make := fun w h => List.mem_cons_of_mem _ (List.mem_append_left _ (List.mem_append_left _ (List.mem_append_left _ (List.mem_append_right _ (h)))))
  have hin6 : ∀ w ∈ wsX60, w ∈ wsX6_make := fun w h => List.mem_cons_of_mem _ (List.mem_append_left _ (List.mem_append_left _ (List.mem_append_right _ (h))))
  have hu := uS_row (T := T) hr
  have hsr := HB.sr hu
  have hl9 := hsr.2.2.2.2.2.2
  refine lv_aload_n X.1 X.2.1 dX6_make_0 rfl (lv_at hl 0 rfl) ?_
  refine lv_iload_n X.1 X.2.1 dX6_make_1 rfl (lv_at hl 1 rfl) ?_
  refine cVr X hW (HB.mem lv_0) (pC_6 (HB.kn lv_0 rfl)) rfl (cg_signRowAt l HB (r := r) (by omega)) (cwV 1 X.2.2.2.2 gX6_make_X6_signRowAt rfl rfl rfl (by decide +kernel) ⟨Nat.le_of_ble_eq_true rfl, Nat.le_of_ble_eq_true rfl⟩) rfl rfl hl.1 (Nat.le_of_ble_eq_true rfl) dX6_make_2 ⟨Nat.zero_le _, Nat.zero_le _⟩ (fun H locs hW => ?_)
  refine cg_3_signs X hin3 hW (hsr.1) (hsr.2.1) (hsr.2.2.1) (X.2.2.2.2 (.fieldLink RX6 60 "Strandbook$SignRow" "signs" "[C") (List.mem_cons_of_mem _ (List.mem_append_left _ (List.mem_append_left _ (List.mem_append_left _ (List.mem_append_left _ (List.mem_of_getElem? (i := 2) rfl))))))) dX6_make_5 ?_
  refine cln_8 X hW (hsr.2.2.2.1) (hsr.2.2.2.2.1) (hsr.2.2.2.2.2.1) dX6_make_8 ?_
  refine lv_istore_n (lv' := [(3, .int (nI (T 1 (T 2 r)))), (0, .ref (ad 0 0)), (1, .int (nI (r))), (2, .int (nI (n)))]) X.1 X.2.1 dX6_make_9 rfl hl (by decide) rfl (fun ls hl => ?_)
  refine lv_iload_n X.1 X.2.1 dX6_make_10 rfl (lv_at hl 3 rfl) ?_
  refine n_if_lt_f (tgt := 21) X.1 X.2.1 dX6_make_11 (by decide) (by omega) ?_
  refine lv_iload_n X.1 X.2.1 dX6_make_14 rfl (lv_at hl 3 rfl) ?_
  refine lv_sipush (v := nI 256) X.1 X.2.1 dX6_make_15 (by decide) ?_
  refine n_icmp_le_t (tgt := 31) X.1 X.2.1 dX6_make_18 (by decide) (by omega) (by omega) (by omega) ?_
  refine lv_aload_n X.1 X.2.1 dX6_make_31 rfl (lv_at hl 1 rfl) ?_
  refine cg_6_signRows X hin6 hW (HB.mem lv_0) (HB.kn lv_0 rfl) (HB.rc.1 0 (by decide)) (X.2.2.2.2 (.fieldLink RX6 11 "Strandbook" "signRows" "[LStrandbook$SignRow;") (List.mem_cons_of_mem _ (List.mem_append_left _ (List.mem_append_left _ (List.mem_append_left _ (List.mem_append_left _ (List.mem_of_getElem? (i := 3) rfl))))))) dX6_make_32 ?_
  refine lv_iload_n X.1 X.2.1 dX6_make_35 rfl (lv_at hl 2 rfl) ?_
  refine cnw_3 X hin3 hW (X.2.2.2.2 (.classLink RX6 9 RX3) (List.mem_cons_of_mem _ (List.mem_append_left _ (List.mem_append_left _ (List.mem_append_left _ (List.mem_append_left _ (List.mem_of_getElem? (i := 4) rfl))))))) (X.2.2.2.2 (.instantiable RX3 1) (List.mem_cons_of_mem _ (List.mem_append_left _ (List.mem_append_left _ (List.mem_append_left _ (List.mem_append_left _ (List.mem_of_getElem? (i := 5) rfl))))))) (X.2.2.2.2 (.initialized RX3) (List.mem_cons_of_mem _ (List.mem_append_left _ (List.mem_append_left _ (List.mem_append_left _ (List.mem_append_left _ (List.mem_of_getElem? (i := 6) rfl))))))) (show _ ≤ 2 by omega) (show _ ≤ 257 by omega) dX6_make_36 (fun n1 L1 K1 R1 I1 A1 Q1 N1 H hX1 hn1 hm1 hk1 hr1 hi1 hW => ?_)
  refine lv_dup X.1 X.2.1 dX6_make_39 rfl ?_
  refine lv_iload_n X.1 X.2.1 dX6_make_40 rfl (lv_at hl 3 rfl) ?_
  refine cINv (cs := []) X hW (fun C h => absurd h List.not_mem_nil) (ck_SignRow l hm1 hk1 (n := n) (by omega)) (cwI 1 X.2.2.2.2 gX6_make_X3_init rfl rfl rfl (X.2.2.2.2 (.initialized RX3) (List.mem_cons_of_mem _ (List.mem_append_left _ (List.mem_append_left _ (List.mem_append_left _ (List.mem_append_left _ (List.mem_of_getElem? (i := 6) rfl))))))) (X.2.2.2.2 (.methodLink RX6 15 yX3_init) (List.mem_cons_of_mem _ (List.mem_append_left _ (List.mem_append_left _ (List.mem_append_left _ (List.mem_append_left _ (List.mem_of_getElem? (i := 14) rfl))))))) (X.2.2.2.2 (.instanceMethod yX3_init) (List.mem_cons_of_mem _ (List.mem_append_left _ (List.mem_append_left _ (List.mem_append_left _ (List.mem_append_left _ (List.mem_of_getElem? (i := 15) rfl))))))) rfl (by decide +kernel) ⟨Nat.le_of_ble_eq_true rfl, Nat.le_of_ble_eq_true rfl⟩) rfl rfl hl.1 (Nat.le_of_ble_eq_true rfl) dX6_make_41 ⟨(show _ ≤ 2 by omega), (show _ ≤ 257 by omega)⟩ (fun L2 K2 R2 I2 A2 Q2 N2 H locs hW hF2 => ?_)
  obtain ⟨b2, hS2⟩ := nwS_of hX1 hn1 hm1 hk1 (by omega) hF2
  have HB2 := HB.mono hS2.1
  refine cst_13 X hW (HB2.mem (lv_1 (by decide))) (HB2.kn (lv_1 (by decide)) rfl) (hS2.2.2.2.2.1.1) (hS2.2.2.2.2.1.2.1) (by rw [HB2.rc.2.2.1.1]; omega) (by omega) dX6_make_44 (fun H locs hW => ?_)
  refine lv_iload_n X.1 X.2.1 dX6_make_45 rfl (lv_at hl 0 rfl) ?_
  exact hE _ _ _ _ _ _ _ _ _ _ _ _ _ _ (rfl) (show _ ≤ 2 by omega) (show _ ≤ 257 by omega) hW (⟨n1, b2, Q2, A2, hS2, rfl, rfl⟩) dX6_make_46
set_option maxHeartbeats 4000000 in
set_option maxRecDepth 100000 in
theorem cg_takeInto (l : Launch) {G : va_G} {kT : Nat → ClassId} {L : List Nat} {K : Nat → Nat} {R : pR} {I : pI} {A : mD} {Q : pR} {N : Nat → Nat} {T : mT} {D : mD} {ad : pD} (HB : Rep T D ad L K R I A Q N) {w r : Nat} (hw : w < 6) (hr : r < 4) : cNi l yX6_takeInto wsX6_takeInto ({ frames := 7, cells := 2, slots := 257, locals := 121 } : Room) G kT [.ref (ad 0 0), .ref (ad 7 w), .int (nI (r))] L K R I A Q N 2 257 [] (nI (T 7 w)) (fun L2 K2 R2 I2 A2 Q2 N2 => ∃ a b Q1 A1, nwS a b (T 7 w) L K R I A Q N L2 K2 R2 I2 A1 Q1 N2 ∧ Q2 = u2 Q1 (ad 1 0) r (some a) ∧ A2 = cpF A1 b 0 (fun i => A1 (ad 8 w) i) (T 7 w)) := by
  refine cstNi (cc := cX6_takeInto) (maxL := 4) (ret := (some .int)) (by decide) rfl rfl (Nat.le_of_ble_eq_true rfl) (fun p e s m args below meth c Z hE X hni hAO hW ls hl => ?_)
  have X : CallFix p m c cX6_takeInto 4 s args wsX6_takeInto RX6 := X
  have hl : lv_has ls 4 [(0, .ref (ad 0 0)), (1, .ref (ad 7 w)), (2, .int (nI (r)))] := hl
  have hin3 : ∀ w ∈ wsX30, w ∈ wsX6_takeInto := fun w h => List.mem_cons_of_mem _ (List.mem_append_left _ (List.mem_append_left _ (List.mem_append_left _ (List.mem_append_left _ (List.mem_append_right _ (h))))))
  have hin4 : ∀ w ∈ wsX40, w ∈ wsX6_takeInto := fun w h => List.mem_cons_of_mem _ (List.mem_append_left _ (List.mem_append_left _ (List.mem_append_left _ (List.mem_append_right _ (h)))))
  have hin6 : ∀ w ∈ wsX60, w ∈ wsX6_takeInto := fun w h => List.mem_cons_of_mem _ (List.mem_append_left _ (List.mem_append_left _ (List.mem_append_right _ (h))))
  have hu := uS_row (T := T) hr
  have hsr := HB.sr hu
  have hl9 := hsr.2.2.2.2.2.2
  have hwr := HB.wr hw
  have hw9 := hwr.2.2.2.2.2.2.2
  refine lv_aload_n X.1 X.2.1 dX6_takeInto_0 rfl (lv_at hl 0 rfl) ?_
  refine lv_iload_n X.1 X.2.1 dX6_takeInto_1 rfl (lv_at hl 2 rfl) ?_
  refine cVr X hW (HB.mem lv_0) (pC_6 (HB.kn lv_0 rfl)) rfl (cg_signRowAt l HB (r := r) (by omega)) (cwV 1 X.2.2.2.2 gX6_takeInto_X6_signRowAt rfl rfl rfl (by decide +kernel) ⟨Nat.le_of_ble_eq_true rfl, Nat.le_of_ble_eq_true rfl⟩) rfl rfl hl.1 (Nat.le_of_ble_eq_true rfl) dX6_takeInto_2 ⟨Nat.zero_le _, Nat.zero_le _⟩ (fun H locs hW => ?_)
  refine lv_pop X.1 X.2.1 dX6_takeInto_5 rfl ?_
  refine cnw_3 X hin3 hW (X.2.2.2.2 (.classLink RX6 9 RX3) (List.mem_cons_of_mem _ (List.mem_append_left _ (List.mem_append_left _ (List.mem_append_left _ (List.mem_append_left _ (List.mem_append_left _ (List.mem_append_left _ (List.mem_of_getElem? (i := 0) rfl))))))))) (X.2.2.2.2 (.instantiable RX3 1) (List.mem_cons_of_mem _ (List.mem_append_left _ (List.mem_append_left _ (List.mem_append_left _ (List.mem_append_left _ (List.mem_append_left _ (List.mem_append_left _ (List.mem_of_getElem? (i := 1) rfl))))))))) (X.2.2.2.2 (.initialized RX3) (List.mem_cons_of_mem _ (List.mem_append_left _ (List.mem_append_left _ (List.mem_append_left _ (List.mem_append_left _ (List.mem_append_left _ (List.mem_append_left _ (List.mem_of_getElem? (i := 2) rfl))))))))) (show _ ≤ 2 by omega) (show _ ≤ 257 by omega) dX6_takeInto_6 (fun n1 L1 K1 R1 I1 A1 Q1 N1 H hX1 hn1 hm1 hk1 hr1 hi1 hW => ?_)
  have HB1 := HB.mono hX1
  have hwr1 := HB1.wr hw
  refine lv_dup X.1 X.2.1 dX6_takeInto_9 rfl ?_
  refine lv_aload_n X.1 X.2.1 dX6_takeInto_10 rfl (lv_at hl 1 rfl) ?_
  refine cg_4_count X hin4 hW (hwr1.1) (hwr1.2.1) (hwr1.2.2.2.2.2.2.1) (X.2.2.2.2 (.fieldLink RX6 107 "Strandbook$SignWriter" "count" "I") (List.mem_cons_of_mem _ (List.mem_append_left _ (List.mem_append_left _ (List.mem_append_left _ (List.mem_append_left _ (List.mem_append_left _ (List.mem_append_left _ (List.mem_of_getElem? (i := 3) rfl))))))))) dX6_takeInto_11 ?_
  refine cINv (cs := []) X hW (fun C h => absurd h List.not_mem_nil) (ck_SignRow l hm1 hk1 (n := T 7 w) (by omega)) (cwI 1 X.2.2.2.2 gX6_takeInto_X3_init rfl rfl rfl (X.2.2.2.2 (.initialized RX3) (List.mem_cons_of_mem _ (List.mem_append_left _ (List.mem_append_left _ (List.mem_append_left _ (List.mem_append_left _ (List.mem_append_left _ (List.mem_append_left _ (List.mem_of_getElem? (i := 2) rfl))))))))) (X.2.2.2.2 (.methodLink RX6 15 yX3_init) (List.mem_cons_of_mem _ (List.mem_append_left _ (List.mem_append_left _ (List.mem_append_left _ (List.mem_append_left _ (List.mem_append_left _ (List.mem_append_left _ (List.mem_of_getElem? (i := 13) rfl))))))))) (X.2.2.2.2 (.instanceMethod yX3_init) (List.mem_cons_of_mem _ (List.mem_append_left _ (List.mem_append_left _ (List.mem_append_left _ (List.mem_append_left _ (List.mem_append_left _ (List.mem_append_left _ (List.mem_of_getElem? (i := 14) rfl))))))))) rfl (by decide +kernel) ⟨Nat.le_of_ble_eq_true rfl, Nat.le_of_ble_eq_true rfl⟩) rfl rfl hl.1 (Nat.le_of_ble_eq_true rfl) dX6_takeInto_14 ⟨(show _ ≤ 2 by omega), (show _ ≤ 257 by omega)⟩ (fun L2 K2 R2 I2 A2 Q2 N2 H locs hW hF2 => ?_)
  obtain ⟨b2, hS2⟩ := nwS_of hX1 hn1 hm1 hk1 (by omega) hF2
  have HB2 := HB.mono hS2.1
  have hwr2 := HB2.wr hw
  have hb8 : b2 ≠ ad 8 w := fun z => hS2.2.2.1 (z ▸ HB.mem (lv_8 (by omega)))
  refine lv_astore_n (lv' := [(3, .ref (n1)), (0, .ref (ad 0 0)), (1, .ref (ad 7 w)), (2, .int (nI (r)))]) X.1 X.2.1 dX6_takeInto_17 rfl hl (by decide) rfl (fun ls hl => ?_)
  refine lv_aload_n X.1 X.2.1 dX6_takeInto_18 rfl (lv_at hl 2 rfl) ?_
  refine lv_aload_n X.1 X.2.1 dX6_takeInto_19 rfl (lv_at hl 0 rfl) ?_
  refine cg_3_signs X hin3 hW (hS2.2.2.2.2.1.1) (hS2.2.2.2.2.1.2.1) (hS2.2.2.2.2.1.2.2.1) (X.2.2.2.2 (.fieldLink RX6 60 "Strandbook$SignRow" "signs" "[C") (List.mem_cons_of_mem _ (List.mem_append_left _ (List.mem_append_left _ (List.mem_append_left _ (List.mem_append_left _ (List.mem_append_left _ (List.mem_append_left _ (List.mem_of_getElem? (i := 4) rfl))))))))) dX6_takeInto_20 ?_
  refine cVv X hW (hwr2.1) (pC_4 (hwr2.2.1)) rfl (ct_copyTo l hwr2 (sr := b2) (k := T 7 w) ⟨hS2.2.2.2.2.1.2.2.2.1, hS2.2.2.2.2.1.2.2.2.2.1, hS2.2.2.2.2.1.2.2.2.2.2.1, by omega⟩ (fun z => hb8 z.symm) (Nat.le_refl _) (fun i hi => HB2.wN hw hi)) (cwV 1 X.2.2.2.2 gX6_takeInto_X4_copyTo rfl rfl rfl (by decide +kernel) ⟨Nat.le_of_ble_eq_true rfl, Nat.le_of_ble_eq_true rfl⟩) rfl rfl hl.1 (Nat.le_of_ble_eq_true rfl) dX6_takeInto_23 ⟨(show _ ≤ 2 by omega), (show _ ≤ 257 by omega)⟩ (fun H locs hW => ?_)
  refine lv_aload_n X.1 X.2.1 dX6_takeInto_26 rfl (lv_at hl 1 rfl) ?_
  refine cg_6_signRows X hin6 hW (HB2.mem lv_0) (HB2.kn lv_0 rfl) (HB2.rc.1 0 (by decide)) (X.2.2.2.2 (.fieldLink RX6 11 "Strandbook" "signRows" "[LStrandbook$SignRow;") (List.mem_cons_of_mem _ (List.mem_append_left _ (List.mem_append_left _ (List.mem_append_left _ (List.mem_append_left _ (List.mem_append_left _ (List.mem_append_left _ (List.mem_of_getElem? (i := 5) rfl))))))))) dX6_takeInto_27 ?_
  refine lv_iload_n X.1 X.2.1 dX6_takeInto_30 rfl (lv_at hl 3 rfl) ?_
  refine lv_aload_n X.1 X.2.1 dX6_takeInto_31 rfl (lv_at hl 0 rfl) ?_
  refine cst_13 X hW (HB2.mem (lv_1 (by decide))) (HB2.kn (lv_1 (by decide)) rfl) (hS2.2.2.2.2.1.1) (hS2.2.2.2.2.1.2.1) (by rw [HB2.rc.2.2.1.1]; omega) (by omega) dX6_takeInto_32 (fun H locs hW => ?_)
  refine lv_aload_n X.1 X.2.1 dX6_takeInto_33 rfl (lv_at hl 0 rfl) ?_
  refine cg_3_signs X hin3 hW (hS2.2.2.2.2.1.1) (hS2.2.2.2.2.1.2.1) (hS2.2.2.2.2.1.2.2.1) (X.2.2.2.2 (.fieldLink RX6 60 "Strandbook$SignRow" "signs" "[C") (List.mem_cons_of_mem _ (List.mem_append_left _ (List.mem_append_left _ (List.mem_append_left _ (List.mem_append_left _ (List.mem_append_left _ (List.mem_append_left _ (List.mem_of_getElem? (i := 4) rfl))))))))) dX6_takeInto_34 ?_
  refine cln_8 X hW (hS2.2.2.2.2.1.2.2.2.1) (hS2.2.2.2.2.1.2.2.2.2.1) (hS2.2.2.2.2.1.2.2.2.2.2.1) dX6_takeInto_37 ?_
  exact hE _ _ _ _ _ _ _ _ _ _ _ _ _ _ (rfl) (show _ ≤ 2 by omega) (show _ ≤ 257 by omega) hW (⟨n1, b2, Q2, A2, hS2, rfl, rfl⟩) dX6_takeInto_38
