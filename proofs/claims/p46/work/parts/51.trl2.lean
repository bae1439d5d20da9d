section CN
variable {p : Program} {l : Launch} {e : Env} {Rm : Room} {s : State} {m : MethodId} {args : Array Value} {below : List Frame} {meth : Method} {c : Code} {H : Heap} {locs : List Loc} {cells slots : Nat} {Z : State → Prop} {cc : ByteArray} {pc nL : Nat} {ls : Array Slot} {rest : List Value} {Ts : List Cond} {own : String}
variable {G : va_G} {kT : Nat → ClassId} {L0 L : List Nat} {K : Nat → Nat} {R : pR} {I : pI} {A : mD} {Q : pR} {N : Nat → Nat}
variable {y : MethodName} {ws ws2 : List Cond} {rm : Room} {as : List Value} {maxL index n mc ms : Nat} {ret : Option FieldType} {bytes : ByteArray} {cs : List cAx} {Φ : pΦ}
theorem cstNb {r : Int32} (hy : plainName y.cls = true) (hw : ws = Cond.code y cc maxL ret :: ws2) (hret : ret = some .boolean) (hnr : narrow .boolean (.int r) = .int r) (hlen : (lg_sl as).length ≤ maxL) (body : ∀ (p : Program) (e : Env) (s : State) (m : MethodId) (args : Array Value) (below : List Frame) (meth : Method) (c : Code) (Z : State → Prop), (∀ (H : Heap) (locs : List Loc) (pc : Nat) (ls : Array Slot) (cells slots : Nat) (v : Int32) (L2 : List Nat) (K2 : pN) (R2 : pR) (I2 : pI) (A2 : mD) (Q2 : pR) (N2 : pN), v = r → cells ≤ mc → slots ≤ ms → cH G kT L L2 K2 R2 I2 A2 Q2 N2 s H locs → Φ L2 K2 R2 I2 A2 Q2 N2 → decode cc pc = .ok (.ireturn, 1) → W p l e rm s m args below meth c H locs cells slots Z (F0 m pc ls [.int v])) → CallFix p m c cc maxL s args ws y.cls → meth.name = y.name → (∀ C ∈ cs, cAe C s) → cH G kT L L K R I A Q N s s.heap [] → ∀ ls : Array Slot, lv_has ls maxL (lv_args 0 as) → W p l e rm s m args below meth c s.heap [] 0 0 Z (F0 m 0 ls [])) : cNi l y ws rm G kT as L K R I A Q N mc ms cs r Φ := by
  intro sz
  refine Met.ofW (cc := cc) (maxL := maxL) (ret := ret) hy hw ?_
  intro p e s m args below meth c s₁ B hml hv
  obtain ⟨rfl, hsz, hK, hP, hnd, hAO⟩ := hv
  subst hsz
  have hl := lv_entry as (n := maxL) hlen
  rw [lg_entry_eq]
  have X : CallFix p m c cc maxL s _ ws y.cls := ⟨B.exec, B.bytes, hml, findClass_of_methodNamed B.named, atoms_spec (ws := ws) B.pre⟩
  refine body p e s m _ below meth c _ (fun H locs pc ls cells slots v L2 K2 R2 I2 A2 Q2 N2 hv hc hs hW hF hdg => ?_) X (name_of_methodNamed B.named B.method).1 hAO ⟨hK, hP, hnd, fun a h => Or.inl h, va_S.rf⟩ _ hl
  exact W.widen hc hs (W.zret (v := v) X.1 X.2.1 (B.returns.trans hret) (by rw [hv]; exact hnr) (fun t ht hWm => ⟨⟨v, (), rfl, hv, L2, K2, R2, I2, A2, Q2, N2, va_K.moved hWm.alike hW.1, by rw [ht]; exact hW.2.1, hW.2.2.1, hW.2.2.2.1, hF⟩, hW.2.2.2.2.F ht⟩) hW.2.2.2.2.2.2 hdg B.notSynchronized)
end CN
/-! the trial: by threes, poured -/
def thA (A : mD) (x y n : Nat) : Nat → mD | 0 => A | k + 1 => cpF (thA A x y n k) x 0 (fun j => thA A x y n k y (3 * k + j)) (min 3 (n - 3 * k))
theorem thA_ne {A : mD} {x y n b : Nat} (h : b ≠ x) : ∀ k, thA A x y n k b = A b
  | 0 => rfl
  | k + 1 => by rw [thA, cpF_ne h]; exact thA_ne h k
theorem u2_b {α : Type} {F : Nat → Nat → α} {f x : Nat} {v : α} {g y : Nat} (h : y ≠ x) : u2 F f x v g y = F g y := by
  by_cases e : g = f
  · subst e; exact u2_nj h
  · exact congrFun (u2_ne e) _
theorem opI_b {I : pI} {x f e g y : Nat} (h : y ≠ x) : opI I x f e g y = I g y := by
  rw [opI, u2_b h, u2_b h, u2_b h, u2_b h, u2_b h]
set_option maxHeartbeats 4000000 in
set_option maxRecDepth 100000 in
theorem ct_readThrees (l : Launch) {G : va_G} {kT : Nat → ClassId} {L : List Nat} {K : Nat → Nat} {R : pR} {I : pI} {A : mD} {Q : pR} {N : Nat → Nat} {T : mT} {D : mD} {ad : pD} (HB : Rep T D ad L K R I A Q N) {w : Nat} (hw : w < 6) : cMi l yX5_isReadByThrees wsX5_isReadByThrees ({ frames := 3, cells := 0, slots := 0, locals := 65 } : Room) G kT [.ref (ad 2 0), .ref (ad 7 w)] L K (R) (I) (A) (Q) N (nI 1) (u2 R 2 (ad 9 3) (some (ad 12 0))) (u2 (opI I (ad 9 3) 0 (T 7 w)) 5 (ad 9 3) (nI (T 7 w))) (thA (cpF A (ad 13 0) 0 (fun i => A (ad 8 w) i) (T 7 w)) (ad 14 0) (ad 13 0) (T 7 w) ((T 7 w + 2) / 3)) (Q) := by
  refine csti (cc := cX5_isReadByThrees) (maxL := 5) (ret := (some .boolean)) (by decide) rfl ⟨_, rfl⟩ (Nat.le_of_ble_eq_true rfl) (fun p e s m args below meth c Z hE X hW ls hl => ?_)
  have X : CallFix p m c cX5_isReadByThrees 5 s args wsX5_isReadByThrees RX5 := X
  have hl : lv_has ls 5 [(0, .ref (ad 2 0)), (1, .ref (ad 7 w))] := hl
  have hin2 : ∀ w ∈ wsX20, w ∈ wsX5_isReadByThrees := fun w h => List.mem_cons_of_mem _ (List.mem_append_left _ (List.mem_append_right _ (h)))
  have hin3 : ∀ w ∈ wsX30, w ∈ wsX5_isReadByThrees := fun w h => List.mem_cons_of_mem _ (List.mem_append_left _ (List.mem_append_left _ (List.mem_append_right _ (h))))
  have hin4 : ∀ w ∈ wsX40, w ∈ wsX5_isReadByThrees := fun w h => List.mem_cons_of_mem _ (List.mem_append_left _ (List.mem_append_left _ (List.mem_append_left _ (List.mem_append_left _ (List.mem_append_right _ (h))))))
  have hin5 : ∀ w ∈ wsX50, w ∈ wsX5_isReadByThrees := fun w h => List.mem_cons_of_mem _ (List.mem_append_left _ (List.mem_append_left _ (List.mem_append_left _ (List.mem_append_right _ (h)))))
  have hwr := HB.wr hw
  have hn9 := hwr.2.2.2.2.2.2.2
  have e50 : opI I (ad 9 3) 0 (T 7 w) = u2 (opI I (ad 9 3) 0 (T 7 w)) 5 (ad 9 3) (nI 0) := (show u2 (opI I (ad 9 3) 0 (T 7 w)) 5 (ad 9 3) (nI 0) = opI I (ad 9 3) 0 (T 7 w) by rw [← opI_5 (I := I) (th := ad 9 3) (f := 0) (e := T 7 w)]; exact u2_self).symm
  refine lv_aload_n X.1 X.2.1 dX5_isReadByThrees_0 rfl (lv_at hl 0 rfl) ?_
  refine lv_aload_n X.1 X.2.1 dX5_isReadByThrees_1 rfl (lv_at hl 1 rfl) ?_
  refine cVv X hW (HB.mem lv_2) (pC_5 (HB.kn lv_2 rfl)) rfl (ct_openReader l HB hw) (cwV 1 X.2.2.2.2 gX5_isReadByThrees_X5_openReader rfl rfl rfl (by decide +kernel) ⟨Nat.le_of_ble_eq_true rfl, Nat.le_of_ble_eq_true rfl⟩) rfl rfl hl.1 (Nat.le_of_ble_eq_true rfl) dX5_isReadByThrees_2 ⟨Nat.zero_le _, Nat.zero_le _⟩ (fun H locs hW => ?_)
  refine lv_iconst (v := nI 0) X.1 X.2.1 dX5_isReadByThrees_5 (by decide) ?_
  refine lv_istore_n (lv' := [(2, .int (nI (0))), (0, .ref (ad 2 0)), (1, .ref (ad 7 w))]) X.1 X.2.1 dX5_isReadByThrees_6 rfl hl (by decide) rfl (fun ls hl => ?_)
  have loop7 : ∀ (n7 k7 : Nat), k7 + n7 = ((T 7 w + 2) / 3) → ∀ (H : Heap) (locs : List Loc), cH G kT L L K ((u2 R 2 (ad 9 3) (some (ad 12 0)))) (u2 (opI I (ad 9 3) 0 (T 7 w)) 5 (ad 9 3) (nI (min (T 7 w) (3 * k7)))) (thA (cpF A (ad 13 0) 0 (fun i => A (ad 8 w) i) (T 7 w)) (ad 14 0) (ad 13 0) (T 7 w) k7) (Q) N s H locs → ∀ ls : Array Slot, lv_has ls 5 [(0, .ref (ad 2 0)), (1, .ref (ad 7 w)), (2, .int (nI (3 * k7)))] → W p l e ({ frames := 3, cells := 0, slots := 0, locals := 65 } : Room) s m args below meth c H locs 0 0 Z (F0 m 7 ls []) := by
    intro n7
    induction n7 with
    | zero =>
      intro k7 hk7  H locs hW ls hl
      obtain rfl : ((T 7 w + 2) / 3) = k7 := by omega
      have e6 : min (T 7 w) (3 * ((T 7 w + 2) / 3)) = T 7 w := by omega
      rw [e6] at hW
      refine lv_iload_n X.1 X.2.1 dX5_isReadByThrees_7 rfl (lv_at hl 2 rfl) ?_
      refine lv_aload_n X.1 X.2.1 dX5_isReadByThrees_8 rfl (lv_at hl 1 rfl) ?_
      refine cg_4_count X hin4 hW (hwr.1) (hwr.2.1) ((congrFun (u2_ne (by decide)) _).trans (hwr.2.2.2.2.2.2.1)) (X.2.2.2.2 (.fieldLink RX5 92 "Strandbook$SignWriter" "count" "I") (List.mem_cons_of_mem _ (List.mem_append_left _ (List.mem_append_left _ (List.mem_append_left _ (List.mem_append_left _ (List.mem_append_left _ (List.mem_append_left _ (List.mem_of_getElem? (i := 0) rfl))))))))) dX5_isReadByThrees_9 ?_
      refine n_icmp_ge_t (tgt := 87) X.1 X.2.1 dX5_isReadByThrees_12 (by decide) (by omega) (by omega) (by omega) ?_
      refine lv_aload_n X.1 X.2.1 dX5_isReadByThrees_87 rfl (lv_at hl 0 rfl) ?_
      refine cg_5_reader X hin5 hW (HB.mem lv_2) (HB.kn lv_2 rfl) ((congrFun (u2_ne (by decide)) _).trans (HB.rt.2.2.1)) (X.2.2.2.2 (.fieldLink RX5 27 "Strandbook$Trial" "reader" "LStrandbook$SignReader;") (List.mem_cons_of_mem _ (List.mem_append_left _ (List.mem_append_left _ (List.mem_append_left _ (List.mem_append_left _ (List.mem_append_left _ (List.mem_append_left _ (List.mem_of_getElem? (i := 5) rfl))))))))) dX5_isReadByThrees_88 ?_
      refine lv_aload_n X.1 X.2.1 dX5_isReadByThrees_91 rfl (lv_at hl 0 rfl) ?_
      refine cg_5_three X hin5 hW (HB.mem lv_2) (HB.kn lv_2 rfl) ((congrFun (u2_ne (by decide)) _).trans (HB.rt.2.1)) (X.2.2.2.2 (.fieldLink RX5 20 "Strandbook$Trial" "three" "[C") (List.mem_cons_of_mem _ (List.mem_append_left _ (List.mem_append_left _ (List.mem_append_left _ (List.mem_append_left _ (List.mem_append_left _ (List.mem_append_left _ (List.mem_of_getElem? (i := 6) rfl))))))))) dX5_isReadByThrees_92 ?_
      refine lv_iconst (v := nI 0) X.1 X.2.1 dX5_isReadByThrees_95 (by decide) ?_
      refine lv_iconst (v := nI 3) X.1 X.2.1 dX5_isReadByThrees_96 (by decide) ?_
      refine cVi X hW (HB.mem (lv_9 (by decide))) (pC_2 (HB.kn (lv_9 (by decide)) rfl)) rfl (ct_readSome_e l (a := T 7 w) (b := T 7 w) (ro := ad 12 0) (ta := ad 14 0) (f := 0) (n := 3) ⟨HB.mem (lv_9 (by decide)), HB.kn (lv_9 (by decide)) rfl, u2_eq, u2_eq, (congrFun (u2_ne (by decide)) _).trans opI_6, (by omega), (by omega)⟩ rfl) (cwV 3 X.2.2.2.2 gX5_isReadByThrees_X2_readSome rfl rfl rfl (by decide +kernel) ⟨Nat.le_of_ble_eq_true rfl, Nat.le_of_ble_eq_true rfl⟩) rfl rfl hl.1 (Nat.le_of_ble_eq_true rfl) dX5_isReadByThrees_97 ⟨Nat.zero_le _, Nat.zero_le _⟩ (fun H locs hW => ?_)
      refine lv_iconst (v := -1) X.1 X.2.1 dX5_isReadByThrees_100 (by decide) ?_
      refine x_icmp_ne_f (tgt := 108) X.1 X.2.1 dX5_isReadByThrees_101 (by decide) (rfl) ?_
      refine lv_iconst (v := nI 1) X.1 X.2.1 dX5_isReadByThrees_104 (by decide) ?_
      refine lv_goto (tgt := 109) X.1 X.2.1 dX5_isReadByThrees_105 (by decide) ?_
      exact hE _ _ _ _ _ (rfl) (fun ty hty => by cases hty; exact nI_zb (by omega)) hW dX5_isReadByThrees_109
    | succ n7 ih7 =>
      intro k7 hk7  H locs hW ls hl
      have h37 : 3 * k7 < T 7 w := by omega
      have e7 : min (T 7 w) (3 * k7) = 3 * k7 := by omega
      rw [e7] at hW
      have e8 : 3 * k7 + min 3 (T 7 w - 3 * k7) = min (T 7 w) (3 * (k7 + 1)) := by omega
      have e13 : thA (cpF A (ad 13 0) 0 (fun i => A (ad 8 w) i) (T 7 w)) (ad 14 0) (ad 13 0) (T 7 w) k7 (ad 13 0) = (cpF A (ad 13 0) 0 (fun i => A (ad 8 w) i) (T 7 w)) (ad 13 0) := thA_ne (HB.ne (lv_t (by decide) (by decide)) (lv_t (by decide) (by decide)) (Or.inl (by decide))) k7
      have e8w : thA (cpF A (ad 13 0) 0 (fun i => A (ad 8 w) i) (T 7 w)) (ad 14 0) (ad 13 0) (T 7 w) k7 (ad 8 w) = A (ad 8 w) := (thA_ne (HB.ne (lv_8 (by omega)) (lv_t (by decide) (by decide)) (Or.inl (by decide))) k7).trans (cpF_ne (HB.ne (lv_8 (by omega)) (lv_t (by decide) (by decide)) (Or.inl (by decide))))
      refine lv_iload_n X.1 X.2.1 dX5_isReadByThrees_7 rfl (lv_at hl 2 rfl) ?_
      refine lv_aload_n X.1 X.2.1 dX5_isReadByThrees_8 rfl (lv_at hl 1 rfl) ?_
      refine cg_4_count X hin4 hW (hwr.1) (hwr.2.1) ((congrFun (u2_ne (by decide)) _).trans (hwr.2.2.2.2.2.2.1)) (X.2.2.2.2 (.fieldLink RX5 92 "Strandbook$SignWriter" "count" "I") (List.mem_cons_of_mem _ (List.mem_append_left _ (List.mem_append_left _ (List.mem_append_left _ (List.mem_append_left _ (List.mem_append_left _ (List.mem_append_left _ (List.mem_of_getElem? (i := 0) rfl))))))))) dX5_isReadByThrees_9 ?_
      refine n_icmp_ge_f (tgt := 87) X.1 X.2.1 dX5_isReadByThrees_12 (by decide) (by omega) (by omega) (by omega) ?_
      refine lv_iconst (v := nI 3) X.1 X.2.1 dX5_isReadByThrees_15 (by decide) ?_
      refine lv_aload_n X.1 X.2.1 dX5_isReadByThrees_16 rfl (lv_at hl 1 rfl) ?_
      refine cg_4_count X hin4 hW (hwr.1) (hwr.2.1) ((congrFun (u2_ne (by decide)) _).trans (hwr.2.2.2.2.2.2.1)) (X.2.2.2.2 (.fieldLink RX5 92 "Strandbook$SignWriter" "count" "I") (List.mem_cons_of_mem _ (List.mem_append_left _ (List.mem_append_left _ (List.mem_append_left _ (List.mem_append_left _ (List.mem_append_left _ (List.mem_append_left _ (List.mem_of_getElem? (i := 0) rfl))))))))) dX5_isReadByThrees_17 ?_
      refine lv_iload_n X.1 X.2.1 dX5_isReadByThrees_20 rfl (lv_at hl 2 rfl) ?_
      refine n_isub X.1 X.2.1 (by omega) dX5_isReadByThrees_21 ?_
      refine va_mmin X.1 X.2.1 (X.2.2.1.trans hl.1.symm) X.2.2.2.1 (X.2.2.2.2 (.methodLink RX5 109 Lib.Math.min.name) (List.mem_cons_of_mem _ (List.mem_append_left _ (List.mem_append_left _ (List.mem_append_left _ (List.mem_append_left _ (List.mem_append_left _ (List.mem_append_left _ (List.mem_of_getElem? (i := 1) rfl))))))))) (X.2.2.2.2 (.static Lib.Math.min.name) (List.mem_cons_of_mem _ (List.mem_append_left _ (List.mem_append_left _ (List.mem_append_left _ (List.mem_append_left _ (List.mem_append_left _ (List.mem_append_left _ (List.mem_of_getElem? (i := 2) rfl))))))))) (X.2.2.2.2 (.initialized "java/lang/Math") (List.mem_cons_of_mem _ (List.mem_append_left _ (List.mem_append_left _ (List.mem_append_left _ (List.mem_append_left _ (List.mem_append_left _ (List.mem_append_left _ (List.mem_of_getElem? (i := 3) rfl))))))))) (X.2.2.2.2 (.code Lib.Math.min.name Lib.Math.min.code 2 (some .int)) (List.mem_cons_of_mem _ (List.mem_append_left _ (List.mem_append_left _ (List.mem_append_left _ (List.mem_append_left _ (List.mem_append_left _ (List.mem_append_left _ (List.mem_of_getElem? (i := 4) rfl))))))))) (Nat.le_of_ble_eq_true rfl) (Nat.le_of_ble_eq_true rfl) (Nat.zero_le _) (Nat.zero_le _) dX5_isReadByThrees_22 ?_
      refine n_cv (y := nI (min 3 (T 7 w - (3 * k7)))) (min_nI (by omega) (by omega)) ?_
      refine lv_istore_n (lv' := [(3, .int (nI (min 3 (T 7 w - (3 * k7))))), (0, .ref (ad 2 0)), (1, .ref (ad 7 w)), (2, .int (nI (3 * k7)))]) X.1 X.2.1 dX5_isReadByThrees_25 rfl hl (by decide) rfl (fun ls hl => ?_)
      refine lv_aload_n X.1 X.2.1 dX5_isReadByThrees_26 rfl (lv_at hl 1 rfl) ?_
      refine cg_5_reader X hin5 hW (HB.mem lv_2) (HB.kn lv_2 rfl) ((congrFun (u2_ne (by decide)) _).trans (HB.rt.2.2.1)) (X.2.2.2.2 (.fieldLink RX5 27 "Strandbook$Trial" "reader" "LStrandbook$SignReader;") (List.mem_cons_of_mem _ (List.mem_append_left _ (List.mem_append_left _ (List.mem_append_left _ (List.mem_append_left _ (List.mem_append_left _ (List.mem_append_left _ (List.mem_of_getElem? (i := 5) rfl))))))))) dX5_isReadByThrees_27 ?_
      refine lv_aload_n X.1 X.2.1 dX5_isReadByThrees_30 rfl (lv_at hl 1 rfl) ?_
      refine cg_5_three X hin5 hW (HB.mem lv_2) (HB.kn lv_2 rfl) ((congrFun (u2_ne (by decide)) _).trans (HB.rt.2.1)) (X.2.2.2.2 (.fieldLink RX5 20 "Strandbook$Trial" "three" "[C") (List.mem_cons_of_mem _ (List.mem_append_left _ (List.mem_append_left _ (List.mem_append_left _ (List.mem_append_left _ (List.mem_append_left _ (List.mem_append_left _ (List.mem_of_getElem? (i := 6) rfl))))))))) dX5_isReadByThrees_31 ?_
      refine lv_iconst (v := nI 0) X.1 X.2.1 dX5_isReadByThrees_34 (by decide) ?_
      refine lv_iconst (v := nI 3) X.1 X.2.1 dX5_isReadByThrees_35 (by decide) ?_
      refine cVi X hW (HB.mem (lv_9 (by decide))) (pC_2 (HB.kn (lv_9 (by decide)) rfl)) rfl (ct_readSome l (a := 3 * k7) (b := T 7 w) (k := 256) (ro := ad 12 0) (sr := ad 13 0) (ta := ad 14 0) (f := 0) (n := 3) (tk := 3) ⟨HB.mem (lv_9 (by decide)), HB.kn (lv_9 (by decide)) rfl, u2_eq, u2_eq, (congrFun (u2_ne (by decide)) _).trans opI_6, (by omega), (by omega)⟩ ⟨HB.trow.1, HB.trow.2.1, (congrFun (u2_ne (by decide)) _).trans HB.trow.2.2.1, HB.trow.2.2.2⟩ (by omega) HB.tthree (HB.ne (lv_t (by decide) (by decide)) (lv_t (by decide) (by decide)) (Or.inl (by decide))) (by decide) h37 (fun i hi => by rw [e13, cpF_in (Nat.zero_le _) (by omega)]; exact HB.wN hw (by omega))) (cwV 3 X.2.2.2.2 gX5_isReadByThrees_X2_readSome rfl rfl rfl (by decide +kernel) ⟨Nat.le_of_ble_eq_true rfl, Nat.le_of_ble_eq_true rfl⟩) rfl rfl hl.1 (Nat.le_of_ble_eq_true rfl) dX5_isReadByThrees_36 ⟨Nat.zero_le _, Nat.zero_le _⟩ (fun H locs hW => ?_)
      refine lv_iload_n X.1 X.2.1 dX5_isReadByThrees_39 rfl (lv_at hl 0 rfl) ?_
      refine n_icmp_eq_t (tgt := 45) X.1 X.2.1 dX5_isReadByThrees_40 (by decide) (by omega) (by omega) (by omega) ?_
      refine lv_iconst (v := nI 0) X.1 X.2.1 dX5_isReadByThrees_45 (by decide) ?_
      refine lv_istore (lv' := [(4, .int (nI (0))), (3, .int (nI (min 3 (T 7 w - (3 * k7))))), (0, .ref (ad 2 0)), (1, .ref (ad 7 w)), (2, .int (nI (3 * k7)))]) X.1 X.2.1 dX5_isReadByThrees_46 hl (by decide) rfl (fun ls hl => ?_)
      have loop48 : ∀ (n48 k48 : Nat), k48 + n48 = min 3 (T 7 w - (3 * k7)) → ∀ (H : Heap) (locs : List Loc), cH G kT L L K ((u2 R 2 (ad 9 3) (some (ad 12 0)))) ((u2 (u2 (opI I (ad 9 3) 0 (T 7 w)) 5 (ad 9 3) (nI (3 * k7))) 5 (ad 9 3) (nI (3 * k7 + min 3 (T 7 w - 3 * k7))))) ((cpF (thA (cpF A (ad 13 0) 0 (fun i => A (ad 8 w) i) (T 7 w)) (ad 14 0) (ad 13 0) (T 7 w) k7) (ad 14 0) 0 (fun i => thA (cpF A (ad 13 0) 0 (fun i => A (ad 8 w) i) (T 7 w)) (ad 14 0) (ad 13 0) (T 7 w) k7 (ad 13 0) (3 * k7 + i)) (min 3 (T 7 w - 3 * k7)))) (Q) N s H locs → ∀ ls : Array Slot, lv_has ls 5 [(0, .ref (ad 2 0)), (1, .ref (ad 7 w)), (2, .int (nI (3 * k7))), (3, .int (nI (min 3 (T 7 w - (3 * k7))))), (4, .int (nI (k48)))] → W p l e ({ frames := 3, cells := 0, slots := 0, locals := 65 } : Room) s m args below meth c H locs 0 0 Z (F0 m 48 ls []) := by
        intro n48
        induction n48 with
        | zero =>
          intro k48 hk48  H locs hW ls hl
          obtain rfl : min 3 (T 7 w - (3 * k7)) = k48 := by omega
          refine lv_iload X.1 X.2.1 dX5_isReadByThrees_48 (lv_at hl 4 rfl) ?_
          refine lv_iload_n X.1 X.2.1 dX5_isReadByThrees_50 rfl (lv_at hl 3 rfl) ?_
          refine n_icmp_ge_t (tgt := 81) X.1 X.2.1 dX5_isReadByThrees_51 (by decide) (by omega) (by omega) (by omega) ?_
          refine lv_iinc (v := nI (3 * k7 + 3)) (lv' := [(2, .int (nI (3 * k7 + 3))), (0, .ref (ad 2 0)), (1, .ref (ad 7 w)), (3, .int (nI (min 3 (T 7 w - (3 * k7))))), (4, .int (nI (min 3 (T 7 w - (3 * k7)))))]) X.1 X.2.1 dX5_isReadByThrees_81 hl (k := 2) rfl (nI_add _ 3) (by decide) rfl (fun ls hl => ?_)
          refine lv_goto (tgt := 7) X.1 X.2.1 dX5_isReadByThrees_84 (by decide) ?_
          exact ih7 (k7 + 1) (by omega) _ _ (hW.eq (rfl) ((by rw [u2_uu, e8])) (rfl) (rfl)) ls (by have h9 := lv_sub hl [1, 2, 0] rfl; rw [show 3 * (k7 + 1) = 3 * k7 + 3 by omega]; exact h9)
        | succ n48 ih48 =>
          intro k48 hk48  H locs hW ls hl
          refine lv_iload X.1 X.2.1 dX5_isReadByThrees_48 (lv_at hl 4 rfl) ?_
          refine lv_iload_n X.1 X.2.1 dX5_isReadByThrees_50 rfl (lv_at hl 3 rfl) ?_
          refine n_icmp_ge_f (tgt := 81) X.1 X.2.1 dX5_isReadByThrees_51 (by decide) (by omega) (by omega) (by omega) ?_
          refine lv_aload_n X.1 X.2.1 dX5_isReadByThrees_54 rfl (lv_at hl 0 rfl) ?_
          refine cg_5_three X hin5 hW (HB.mem lv_2) (HB.kn lv_2 rfl) ((congrFun (u2_ne (by decide)) _).trans (HB.rt.2.1)) (X.2.2.2.2 (.fieldLink RX5 20 "Strandbook$Trial" "three" "[C") (List.mem_cons_of_mem _ (List.mem_append_left _ (List.mem_append_left _ (List.mem_append_left _ (List.mem_append_left _ (List.mem_append_left _ (List.mem_append_left _ (List.mem_of_getElem? (i := 6) rfl))))))))) dX5_isReadByThrees_55 ?_
          refine lv_iload X.1 X.2.1 dX5_isReadByThrees_58 (lv_at hl 4 rfl) ?_
          refine cld_8 X hW (v := (cpF (thA (cpF A (ad 13 0) 0 (fun i => A (ad 8 w) i) (T 7 w)) (ad 14 0) (ad 13 0) (T 7 w) k7) (ad 14 0) 0 (fun i => thA (cpF A (ad 13 0) 0 (fun i => A (ad 8 w) i) (T 7 w)) (ad 14 0) (ad 13 0) (T 7 w) k7 (ad 13 0) (3 * k7 + i)) (min 3 (T 7 w - 3 * k7))) (ad 14 0) k48) (HB.mem (lv_t (by decide) (by decide))) (HB.kn (lv_t (by decide) (by decide)) rfl) (by rw [HB.rt.2.2.2.2.2.2.2.2.2.2.1]; omega) (by omega) (rfl) dX5_isReadByThrees_60 ?_
          refine lv_aload_n X.1 X.2.1 dX5_isReadByThrees_61 rfl (lv_at hl 1 rfl) ?_
          refine cg_4_signs X hin4 hW (hwr.1) (hwr.2.1) ((congrFun (u2_ne (by decide)) _).trans (hwr.2.2.1)) (X.2.2.2.2 (.fieldLink RX5 108 "Strandbook$SignWriter" "signs" "[C") (List.mem_cons_of_mem _ (List.mem_append_left _ (List.mem_append_left _ (List.mem_append_left _ (List.mem_append_left _ (List.mem_append_left _ (List.mem_append_left _ (List.mem_of_getElem? (i := 7) rfl))))))))) dX5_isReadByThrees_62 ?_
          refine lv_iload_n X.1 X.2.1 dX5_isReadByThrees_65 rfl (lv_at hl 2 rfl) ?_
          refine lv_iload X.1 X.2.1 dX5_isReadByThrees_66 (lv_at hl 4 rfl) ?_
          refine n_iadd X.1 X.2.1 dX5_isReadByThrees_68 ?_
          refine cld_8 X hW (v := (cpF (thA (cpF A (ad 13 0) 0 (fun i => A (ad 8 w) i) (T 7 w)) (ad 14 0) (ad 13 0) (T 7 w) k7) (ad 14 0) 0 (fun i => thA (cpF A (ad 13 0) 0 (fun i => A (ad 8 w) i) (T 7 w)) (ad 14 0) (ad 13 0) (T 7 w) k7 (ad 13 0) (3 * k7 + i)) (min 3 (T 7 w - 3 * k7))) (ad 8 w) ((3 * k7) + k48)) (hwr.2.2.2.1) (hwr.2.2.2.2.1) (by rw [hwr.2.2.2.2.2.1]; omega) (by omega) (rfl) dX5_isReadByThrees_69 ?_
          refine x_icmp_eq_t (tgt := 75) X.1 X.2.1 dX5_isReadByThrees_70 (by decide) (by rw [cpF_in (Nat.zero_le _) (by omega), cpF_ne (HB.ne (lv_8 (by omega)) (lv_t (by decide) (by decide)) (Or.inl (by decide))), e8w, e13, cpF_in (Nat.zero_le _) (by omega), Nat.sub_zero, Nat.sub_zero]) ?_
          refine lv_iinc (v := nI (k48 + 1)) (lv' := [(4, .int (nI (k48 + 1))), (0, .ref (ad 2 0)), (1, .ref (ad 7 w)), (2, .int (nI (3 * k7))), (3, .int (nI (min 3 (T 7 w - (3 * k7)))))]) X.1 X.2.1 dX5_isReadByThrees_75 hl (k := 4) rfl (nI_1 _) (by decide) rfl (fun ls hl => ?_)
          refine lv_goto (tgt := 48) X.1 X.2.1 dX5_isReadByThrees_78 (by decide) ?_
          exact ih48 (k48 + 1) (by omega) _ _ (hW.eq (rfl) (rfl) (rfl) (rfl)) ls (lv_sub hl [1, 2, 3, 4, 0] rfl)
      exact loop48 ((min 3 (T 7 w - (3 * k7))) - (0)) (0) (by omega) _ _ (hW.eq (rfl) (rfl) (rfl) (rfl)) ls (lv_sub hl [2, 3, 4, 1, 0] rfl)
  exact loop7 ((((T 7 w + 2) / 3)) - (0)) (0) (by omega) _ _ (hW.eq (rfl) ((by rw [show min (T 7 w) (3 * 0) = 0 by omega]; exact e50)) (rfl) (rfl)) ls (lv_sub hl [1, 2, 0] rfl)
set_option maxHeartbeats 4000000 in
set_option maxRecDepth 100000 in
theorem ct_poured (l : Launch) {G : va_G} {kT : Nat → ClassId} {L : List Nat} {K : Nat → Nat} {R : pR} {I : pI} {A : mD} {Q : pR} {N : Nat → Nat} {T : mT} {D : mD} {ad : pD} (HB : Rep T D ad L K R I A Q N) {w : Nat} (hw : w < 6) : cMi l yX5_isPoured wsX5_isPoured ({ frames := 1, cells := 0, slots := 0, locals := 24 } : Room) G kT [.ref (ad 2 0), .ref (ad 7 w)] L K (R) (I) (A) (Q) N (nI 1) (R) (u2 (u2 (u2 (u2 I 10 (ad 7 7) (nI 0)) 10 (ad 7 7) (nI (0 + T 7 w))) 10 (ad 7 6) (nI 0)) 10 (ad 7 6) (nI (0 + (0 + T 7 w)))) (cpF (cpF A (ad 8 7) 0 (fun i => A (ad 8 w) (0 + i)) (T 7 w)) (ad 8 6) 0 (fun i => (cpF A (ad 8 7) 0 (fun i => A (ad 8 w) (0 + i)) (T 7 w)) (ad 8 7) (0 + i)) (0 + T 7 w)) (Q) := by
  refine csti (cc := cX5_isPoured) (maxL := 2) (ret := (some .boolean)) (by decide) rfl ⟨_, rfl⟩ (Nat.le_of_ble_eq_true rfl) (fun p e s m args below meth c Z hE X hW ls hl => ?_)
  have X : CallFix p m c cX5_isPoured 2 s args wsX5_isPoured RX5 := X
  have hl : lv_has ls 2 [(0, .ref (ad 2 0)), (1, .ref (ad 7 w))] := hl
  have hin4 : ∀ w ∈ wsX40, w ∈ wsX5_isPoured := fun w h => List.mem_cons_of_mem _ (List.mem_append_left _ (List.mem_append_right _ (h)))
  have hin5 : ∀ w ∈ wsX50, w ∈ wsX5_isPoured := fun w h => List.mem_cons_of_mem _ (List.mem_append_left _ (List.mem_append_left _ (List.mem_append_right _ (h))))
  have hwr := HB.wr hw
  have hn9 := hwr.2.2.2.2.2.2.2
  obtain ⟨c7, hc7, hi7⟩ := HB.rw.2 7 (by decide) (by decide)
  obtain ⟨c6, hc6, hi6⟩ := HB.rw.2 6 (by decide) (by decide)
  have m8 : ∀ i, i < T 7 w → (cpF A (ad 8 7) 0 (fun i => A (ad 8 w) (0 + i)) (T 7 w)) (ad 8 7) i = A (ad 8 w) i := fun i hi => by rw [cpF_in (Nat.zero_le _) (by omega), Nat.zero_add, Nat.sub_zero]
  refine lv_aload_n X.1 X.2.1 dX5_isPoured_0 rfl (lv_at hl 0 rfl) ?_
  refine cg_5_arrayWriter X hin5 hW (HB.mem lv_2) (HB.kn lv_2 rfl) (HB.rt.2.2.2.2.1) (X.2.2.2.2 (.fieldLink RX5 38 "Strandbook$Trial" "arrayWriter" "LStrandbook$SignWriter;") (List.mem_cons_of_mem _ (List.mem_append_left _ (List.mem_append_left _ (List.mem_append_left _ (List.mem_of_getElem? (i := 0) rfl)))))) dX5_isPoured_1 ?_
  refine cVi X hW (HB.mem (lv_7 (by decide))) (pC_4 (HB.kn (lv_7 (by decide)) rfl)) rfl (ct_giveUpAll l (n := c7) ⟨HB.mem (lv_7 (by decide)), HB.kn (lv_7 (by decide)) rfl, (HB.rc.2.2.2.2.2.2.2.1 7 (by decide)).1, HB.mem (lv_8 (by decide)), HB.kn (lv_8 (by decide)) rfl, (HB.rc.2.2.2.2.2.2.2.1 7 (by decide)).2, hi7, hc7⟩) (cwV 0 X.2.2.2.2 gX5_isPoured_X4_giveUpAll rfl rfl rfl (by decide +kernel) ⟨Nat.le_of_ble_eq_true rfl, Nat.le_of_ble_eq_true rfl⟩) rfl rfl hl.1 (Nat.le_of_ble_eq_true rfl) dX5_isPoured_4 ⟨Nat.zero_le _, Nat.zero_le _⟩ (fun H locs hW => ?_)
  refine lv_pop X.1 X.2.1 dX5_isPoured_7 rfl ?_
  refine lv_aload_n X.1 X.2.1 dX5_isPoured_8 rfl (lv_at hl 0 rfl) ?_
  refine cg_5_arrayWriter X hin5 hW (HB.mem lv_2) (HB.kn lv_2 rfl) (HB.rt.2.2.2.2.1) (X.2.2.2.2 (.fieldLink RX5 38 "Strandbook$Trial" "arrayWriter" "LStrandbook$SignWriter;") (List.mem_cons_of_mem _ (List.mem_append_left _ (List.mem_append_left _ (List.mem_append_left _ (List.mem_of_getElem? (i := 0) rfl)))))) dX5_isPoured_9 ?_
  refine lv_aload_n X.1 X.2.1 dX5_isPoured_12 rfl (lv_at hl 1 rfl) ?_
  refine cg_4_signs X hin4 hW (hwr.1) (hwr.2.1) (hwr.2.2.1) (X.2.2.2.2 (.fieldLink RX5 108 "Strandbook$SignWriter" "signs" "[C") (List.mem_cons_of_mem _ (List.mem_append_left _ (List.mem_append_left _ (List.mem_append_left _ (List.mem_of_getElem? (i := 1) rfl)))))) dX5_isPoured_13 ?_
  refine lv_iconst (v := nI 0) X.1 X.2.1 dX5_isPoured_16 (by decide) ?_
  refine lv_aload_n X.1 X.2.1 dX5_isPoured_17 rfl (lv_at hl 1 rfl) ?_
  refine cg_4_count X hin4 hW (hwr.1) (hwr.2.1) ((u2_nj ((HB.ne (lv_7 (by omega)) (lv_7 (by decide)) (Or.inr (by omega))))).trans (hwr.2.2.2.2.2.2.1)) (X.2.2.2.2 (.fieldLink RX5 92 "Strandbook$SignWriter" "count" "I") (List.mem_cons_of_mem _ (List.mem_append_left _ (List.mem_append_left _ (List.mem_append_left _ (List.mem_of_getElem? (i := 2) rfl)))))) dX5_isPoured_18 ?_
  refine cVv X hW (HB.mem (lv_7 (by decide))) (pC_4 (HB.kn (lv_7 (by decide)) rfl)) rfl (ct_addAll l (n := 0) (sr := ad 8 w) (k := 256) (f := 0) (j := T 7 w) ⟨HB.mem (lv_7 (by decide)), HB.kn (lv_7 (by decide)) rfl, (HB.rc.2.2.2.2.2.2.2.1 7 (by decide)).1, HB.mem (lv_8 (by decide)), HB.kn (lv_8 (by decide)) rfl, (HB.rc.2.2.2.2.2.2.2.1 7 (by decide)).2, u2_eq, (Nat.zero_le _)⟩ ⟨hwr.2.2.2.1, hwr.2.2.2.2.1, hwr.2.2.2.2.2.1, Nat.le_refl _⟩ (HB.ne (lv_8 (by omega)) (lv_8 (by decide)) (Or.inr (by omega))) (by omega) (by omega) (fun i _ hi => HB.wN hw (by omega))) (cwV 3 X.2.2.2.2 gX5_isPoured_X4_addAll rfl rfl rfl (by decide +kernel) ⟨Nat.le_of_ble_eq_true rfl, Nat.le_of_ble_eq_true rfl⟩) rfl rfl hl.1 (Nat.le_of_ble_eq_true rfl) dX5_isPoured_21 ⟨Nat.zero_le _, Nat.zero_le _⟩ (fun H locs hW => ?_)
  refine lv_aload_n X.1 X.2.1 dX5_isPoured_24 rfl (lv_at hl 0 rfl) ?_
  refine cg_5_textWriter X hin5 hW (HB.mem lv_2) (HB.kn lv_2 rfl) (HB.rt.2.2.2.1) (X.2.2.2.2 (.fieldLink RX5 34 "Strandbook$Trial" "textWriter" "LStrandbook$SignWriter;") (List.mem_cons_of_mem _ (List.mem_append_left _ (List.mem_append_left _ (List.mem_append_left _ (List.mem_of_getElem? (i := 3) rfl)))))) dX5_isPoured_25 ?_
  refine cVi X hW (HB.mem (lv_7 (by decide))) (pC_4 (HB.kn (lv_7 (by decide)) rfl)) rfl (ct_giveUpAll l (n := c6) ⟨HB.mem (lv_7 (by decide)), HB.kn (lv_7 (by decide)) rfl, (HB.rc.2.2.2.2.2.2.2.1 6 (by decide)).1, HB.mem (lv_8 (by decide)), HB.kn (lv_8 (by decide)) rfl, (HB.rc.2.2.2.2.2.2.2.1 6 (by decide)).2, ((u2_nj (HB.ne (lv_7 (by decide)) (lv_7 (by decide)) (Or.inr (by decide)))).trans ((u2_nj (HB.ne (lv_7 (by decide)) (lv_7 (by decide)) (Or.inr (by decide)))).trans hi6)), hc6⟩) (cwV 0 X.2.2.2.2 gX5_isPoured_X4_giveUpAll rfl rfl rfl (by decide +kernel) ⟨Nat.le_of_ble_eq_true rfl, Nat.le_of_ble_eq_true rfl⟩) rfl rfl hl.1 (Nat.le_of_ble_eq_true rfl) dX5_isPoured_28 ⟨Nat.zero_le _, Nat.zero_le _⟩ (fun H locs hW => ?_)
  refine lv_pop X.1 X.2.1 dX5_isPoured_31 rfl ?_
  refine lv_aload_n X.1 X.2.1 dX5_isPoured_32 rfl (lv_at hl 0 rfl) ?_
  refine cg_5_textWriter X hin5 hW (HB.mem lv_2) (HB.kn lv_2 rfl) (HB.rt.2.2.2.1) (X.2.2.2.2 (.fieldLink RX5 34 "Strandbook$Trial" "textWriter" "LStrandbook$SignWriter;") (List.mem_cons_of_mem _ (List.mem_append_left _ (List.mem_append_left _ (List.mem_append_left _ (List.mem_of_getElem? (i := 3) rfl)))))) dX5_isPoured_33 ?_
  refine lv_aload_n X.1 X.2.1 dX5_isPoured_36 rfl (lv_at hl 0 rfl) ?_
  refine cg_5_arrayWriter X hin5 hW (HB.mem lv_2) (HB.kn lv_2 rfl) (HB.rt.2.2.2.2.1) (X.2.2.2.2 (.fieldLink RX5 38 "Strandbook$Trial" "arrayWriter" "LStrandbook$SignWriter;") (List.mem_cons_of_mem _ (List.mem_append_left _ (List.mem_append_left _ (List.mem_append_left _ (List.mem_of_getElem? (i := 0) rfl)))))) dX5_isPoured_37 ?_
  refine cg_4_signs X hin4 hW (HB.mem (lv_7 (by decide))) (HB.kn (lv_7 (by decide)) rfl) ((HB.rc.2.2.2.2.2.2.2.1 7 (by decide)).1) (X.2.2.2.2 (.fieldLink RX5 108 "Strandbook$SignWriter" "signs" "[C") (List.mem_cons_of_mem _ (List.mem_append_left _ (List.mem_append_left _ (List.mem_append_left _ (List.mem_of_getElem? (i := 1) rfl)))))) dX5_isPoured_40 ?_
  refine lv_iconst (v := nI 0) X.1 X.2.1 dX5_isPoured_43 (by decide) ?_
  refine lv_aload_n X.1 X.2.1 dX5_isPoured_44 rfl (lv_at hl 0 rfl) ?_
  refine cg_5_arrayWriter X hin5 hW (HB.mem lv_2) (HB.kn lv_2 rfl) (HB.rt.2.2.2.2.1) (X.2.2.2.2 (.fieldLink RX5 38 "Strandbook$Trial" "arrayWriter" "LStrandbook$SignWriter;") (List.mem_cons_of_mem _ (List.mem_append_left _ (List.mem_append_left _ (List.mem_append_left _ (List.mem_of_getElem? (i := 0) rfl)))))) dX5_isPoured_45 ?_
  refine cg_4_count X hin4 hW (HB.mem (lv_7 (by decide))) (HB.kn (lv_7 (by decide)) rfl) ((u2_nj ((HB.ne (lv_7 (by decide)) (lv_7 (by decide)) (Or.inr (by decide))))).trans (u2_eq)) (X.2.2.2.2 (.fieldLink RX5 92 "Strandbook$SignWriter" "count" "I") (List.mem_cons_of_mem _ (List.mem_append_left _ (List.mem_append_left _ (List.mem_append_left _ (List.mem_of_getElem? (i := 2) rfl)))))) dX5_isPoured_48 ?_
  refine cVv X hW (HB.mem (lv_7 (by decide))) (pC_4 (HB.kn (lv_7 (by decide)) rfl)) rfl (ct_addAll l (n := 0) (sr := ad 8 7) (k := 256) (f := 0) (j := 0 + T 7 w) ⟨HB.mem (lv_7 (by decide)), HB.kn (lv_7 (by decide)) rfl, (HB.rc.2.2.2.2.2.2.2.1 6 (by decide)).1, HB.mem (lv_8 (by decide)), HB.kn (lv_8 (by decide)) rfl, (HB.rc.2.2.2.2.2.2.2.1 6 (by decide)).2, u2_eq, (Nat.zero_le _)⟩ ⟨HB.mem (lv_8 (by decide)), HB.kn (lv_8 (by decide)) rfl, (HB.rc.2.2.2.2.2.2.2.1 7 (by decide)).2, Nat.le_refl _⟩ (HB.ne (lv_8 (by decide)) (lv_8 (by decide)) (Or.inr (by decide))) (by omega) (by omega) (fun i _ hi => by rw [m8 i (by omega)]; exact HB.wN hw (by omega))) (cwV 3 X.2.2.2.2 gX5_isPoured_X4_addAll rfl rfl rfl (by decide +kernel) ⟨Nat.le_of_ble_eq_true rfl, Nat.le_of_ble_eq_true rfl⟩) rfl rfl hl.1 (Nat.le_of_ble_eq_true rfl) dX5_isPoured_51 ⟨Nat.zero_le _, Nat.zero_le _⟩ (fun H locs hW => ?_)
  refine lv_aload_n X.1 X.2.1 dX5_isPoured_54 rfl (lv_at hl 0 rfl) ?_
  refine cg_5_arrayWriter X hin5 hW (HB.mem lv_2) (HB.kn lv_2 rfl) (HB.rt.2.2.2.2.1) (X.2.2.2.2 (.fieldLink RX5 38 "Strandbook$Trial" "arrayWriter" "LStrandbook$SignWriter;") (List.mem_cons_of_mem _ (List.mem_append_left _ (List.mem_append_left _ (List.mem_append_left _ (List.mem_of_getElem? (i := 0) rfl)))))) dX5_isPoured_55 ?_
  refine lv_aload_n X.1 X.2.1 dX5_isPoured_58 rfl (lv_at hl 1 rfl) ?_
  refine cVi X hW (HB.mem (lv_7 (by decide))) (pC_4 (HB.kn (lv_7 (by decide)) rfl)) rfl (ct_hasSame_t l (n := T 7 w) ⟨HB.mem (lv_7 (by decide)), HB.kn (lv_7 (by decide)) rfl, (HB.rc.2.2.2.2.2.2.2.1 7 (by decide)).1, HB.mem (lv_8 (by decide)), HB.kn (lv_8 (by decide)) rfl, (HB.rc.2.2.2.2.2.2.2.1 7 (by decide)).2, ((u2_nj (HB.ne (lv_7 (by decide)) (lv_7 (by decide)) (Or.inr (by decide)))).trans ((u2_nj (HB.ne (lv_7 (by decide)) (lv_7 (by decide)) (Or.inr (by decide)))).trans (u2_eq.trans (congrArg nI (Nat.zero_add _))))), hn9⟩ ⟨hwr.1, hwr.2.1, hwr.2.2.1, hwr.2.2.2.1, hwr.2.2.2.2.1, hwr.2.2.2.2.2.1, ((u2_nj (HB.ne (lv_7 (by omega)) (lv_7 (by decide)) (Or.inr (by omega)))).trans ((u2_nj (HB.ne (lv_7 (by omega)) (lv_7 (by decide)) (Or.inr (by omega)))).trans ((u2_nj (HB.ne (lv_7 (by omega)) (lv_7 (by decide)) (Or.inr (by omega)))).trans ((u2_nj (HB.ne (lv_7 (by omega)) (lv_7 (by decide)) (Or.inr (by omega)))).trans hwr.2.2.2.2.2.2.1)))), hwr.2.2.2.2.2.2.2⟩ (fun i hi => by rw [cpF_ne (HB.ne (lv_8 (by decide)) (lv_8 (by decide)) (Or.inr (by decide))), m8 i hi, cpF_ne (HB.ne (lv_8 (by omega)) (lv_8 (by decide)) (Or.inr (by omega))), cpF_ne (HB.ne (lv_8 (by omega)) (lv_8 (by decide)) (Or.inr (by omega)))])) (cwV 1 X.2.2.2.2 gX5_isPoured_X4_hasSameAs rfl rfl rfl (by decide +kernel) ⟨Nat.le_of_ble_eq_true rfl, Nat.le_of_ble_eq_true rfl⟩) rfl rfl hl.1 (Nat.le_of_ble_eq_true rfl) dX5_isPoured_59 ⟨Nat.zero_le _, Nat.zero_le _⟩ (fun H locs hW => ?_)
  refine n_if_eq_f (tgt := 80) X.1 X.2.1 dX5_isPoured_62 (by decide) (by decide) (by omega) ?_
  refine lv_aload_n X.1 X.2.1 dX5_isPoured_65 rfl (lv_at hl 0 rfl) ?_
  refine cg_5_textWriter X hin5 hW (HB.mem lv_2) (HB.kn lv_2 rfl) (HB.rt.2.2.2.1) (X.2.2.2.2 (.fieldLink RX5 34 "Strandbook$Trial" "textWriter" "LStrandbook$SignWriter;") (List.mem_cons_of_mem _ (List.mem_append_left _ (List.mem_append_left _ (List.mem_append_left _ (List.mem_of_getElem? (i := 3) rfl)))))) dX5_isPoured_66 ?_
  refine lv_aload_n X.1 X.2.1 dX5_isPoured_69 rfl (lv_at hl 1 rfl) ?_
  refine cVi X hW (HB.mem (lv_7 (by decide))) (pC_4 (HB.kn (lv_7 (by decide)) rfl)) rfl (ct_hasSame_t l (n := T 7 w) ⟨HB.mem (lv_7 (by decide)), HB.kn (lv_7 (by decide)) rfl, (HB.rc.2.2.2.2.2.2.2.1 6 (by decide)).1, HB.mem (lv_8 (by decide)), HB.kn (lv_8 (by decide)) rfl, (HB.rc.2.2.2.2.2.2.2.1 6 (by decide)).2, (u2_eq.trans (congrArg nI (by rw [Nat.zero_add, Nat.zero_add]))), hn9⟩ ⟨hwr.1, hwr.2.1, hwr.2.2.1, hwr.2.2.2.1, hwr.2.2.2.2.1, hwr.2.2.2.2.2.1, ((u2_nj (HB.ne (lv_7 (by omega)) (lv_7 (by decide)) (Or.inr (by omega)))).trans ((u2_nj (HB.ne (lv_7 (by omega)) (lv_7 (by decide)) (Or.inr (by omega)))).trans ((u2_nj (HB.ne (lv_7 (by omega)) (lv_7 (by decide)) (Or.inr (by omega)))).trans ((u2_nj (HB.ne (lv_7 (by omega)) (lv_7 (by decide)) (Or.inr (by omega)))).trans hwr.2.2.2.2.2.2.1)))), hwr.2.2.2.2.2.2.2⟩ (fun i hi => by rw [cpF_in (Nat.zero_le _) (by omega), Nat.zero_add, Nat.sub_zero, m8 i hi, cpF_ne (HB.ne (lv_8 (by omega)) (lv_8 (by decide)) (Or.inr (by omega))), cpF_ne (HB.ne (lv_8 (by omega)) (lv_8 (by decide)) (Or.inr (by omega)))])) (cwV 1 X.2.2.2.2 gX5_isPoured_X4_hasSameAs rfl rfl rfl (by decide +kernel) ⟨Nat.le_of_ble_eq_true rfl, Nat.le_of_ble_eq_true rfl⟩) rfl rfl hl.1 (Nat.le_of_ble_eq_true rfl) dX5_isPoured_70 ⟨Nat.zero_le _, Nat.zero_le _⟩ (fun H locs hW => ?_)
  refine n_if_eq_f (tgt := 80) X.1 X.2.1 dX5_isPoured_73 (by decide) (by decide) (by omega) ?_
  refine lv_iconst (v := nI 1) X.1 X.2.1 dX5_isPoured_76 (by decide) ?_
  refine lv_goto (tgt := 81) X.1 X.2.1 dX5_isPoured_77 (by decide) ?_
  exact hE _ _ _ _ _ (rfl) (fun ty hty => by cases hty; exact nI_zb (by omega)) hW dX5_isPoured_81
theorem cr_readOnes (l : Launch) {G : va_G} {kT : Nat → ClassId} {L : List Nat} {K : Nat → Nat} {R : pR} {I : pI} {A : mD} {Q : pR} {N : Nat → Nat} {T : mT} {D : mD} {ad : pD} (HB : Rep T D ad L K R I A Q N) {w : Nat} (hw : w < 6) : cNi l yX5_isReadByOnes wsX5_isReadByOnes ({ frames := 3, cells := 0, slots := 0, locals := 65 } : Room) G kT [.ref (ad 2 0), .ref (ad 7 w)] L K R I A Q N 0 0 [] (nI 1) (ΦR T D ad L K N) :=
  cN_of_cM (ct_readOnes l HB hw) ⟨rfl, rfl, rfl, ((HB.tA (k := 13) (i := 0) (Or.inr ⟨by decide, by decide, rfl⟩) (fun y hy => cpF_ne hy)).tR).tI (Or.inl rfl) (fun f y hy => (u2_b hy).trans (opI_b hy))⟩
theorem cr_readThrees (l : Launch) {G : va_G} {kT : Nat → ClassId} {L : List Nat} {K : Nat → Nat} {R : pR} {I : pI} {A : mD} {Q : pR} {N : Nat → Nat} {T : mT} {D : mD} {ad : pD} (HB : Rep T D ad L K R I A Q N) {w : Nat} (hw : w < 6) : cNi l yX5_isReadByThrees wsX5_isReadByThrees ({ frames := 3, cells := 0, slots := 0, locals := 65 } : Room) G kT [.ref (ad 2 0), .ref (ad 7 w)] L K R I A Q N 0 0 [] (nI 1) (ΦR T D ad L K N) :=
  cN_of_cM (ct_readThrees l HB hw) ⟨rfl, rfl, rfl, (((HB.tA (k := 13) (i := 0) (Or.inr ⟨by decide, by decide, rfl⟩) (fun y hy => cpF_ne hy)).tA (k := 14) (i := 0) (Or.inr ⟨by decide, by decide, rfl⟩) (fun y hy => thA_ne hy _)).tR).tI (Or.inl rfl) (fun f y hy => (u2_b hy).trans (opI_b hy))⟩
theorem cr_poured (l : Launch) {G : va_G} {kT : Nat → ClassId} {L : List Nat} {K : Nat → Nat} {R : pR} {I : pI} {A : mD} {Q : pR} {N : Nat → Nat} {T : mT} {D : mD} {ad : pD} (HB : Rep T D ad L K R I A Q N) {w : Nat} (hw : w < 6) : cNi l yX5_isPoured wsX5_isPoured ({ frames := 1, cells := 0, slots := 0, locals := 24 } : Room) G kT [.ref (ad 2 0), .ref (ad 7 w)] L K R I A Q N 0 0 [] (nI 1) (ΦR T D ad L K N) :=
  cN_of_cM (ct_poured l HB hw) ⟨rfl, rfl, rfl, by
    have h9 := (HB.wr hw).2.2.2.2.2.2.2
    exact ((((((HB.tA (k := 8) (i := 7) (Or.inl ⟨rfl, Or.inr rfl⟩) (fun y hy => cpF_ne hy)).tA (k := 8) (i := 6) (Or.inl ⟨rfl, Or.inl rfl⟩) (fun y hy => cpF_ne hy)).tW (w := 7) (n := 0) (Or.inr rfl) (by decide)).tW (w := 7) (n := 0 + T 7 w) (Or.inr rfl) (by omega)).tW (w := 6) (n := 0) (Or.inl rfl) (by decide)).tW (w := 6) (n := 0 + (0 + T 7 w)) (Or.inl rfl) (by omega))⟩
set_option maxHeartbeats 4000000 in
set_option maxRecDepth 100000 in
theorem cr_holdsForWriter (l : Launch) {G : va_G} {kT : Nat → ClassId} {L : List Nat} {K : Nat → Nat} {R : pR} {I : pI} {A : mD} {Q : pR} {N : Nat → Nat} {T : mT} {D : mD} {ad : pD} (HB : Rep T D ad L K R I A Q N) {w : Nat} (hw : w < 6) : cNi l yX5_holdsForWriter wsX5_holdsForWriter ({ frames := 4, cells := 0, slots := 0, locals := 89 } : Room) G kT [.ref (ad 2 0), .ref (ad 7 w)] L K R I A Q N 0 0 [] (nI 1) (ΦR T D ad L K N) := by
  refine cstNb (cc := cX5_holdsForWriter) (maxL := 2) (ret := (some .boolean)) (by decide) rfl rfl (nI_zb (by decide)) (Nat.le_of_ble_eq_true rfl) (fun p e s m args below meth c Z hE X hni hAO hW ls hl => ?_)
  have X : CallFix p m c cX5_holdsForWriter 2 s args wsX5_holdsForWriter RX5 := X
  have hl : lv_has ls 2 [(0, .ref (ad 2 0)), (1, .ref (ad 7 w))] := hl
  have hin2 : ∀ w ∈ wsX20, w ∈ wsX5_holdsForWriter := fun w h => List.mem_cons_of_mem _ (List.mem_append_left _ (List.mem_append_right _ (h)))
  have hin3 : ∀ w ∈ wsX30, w ∈ wsX5_holdsForWriter := fun w h => List.mem_cons_of_mem _ (List.mem_append_left _ (List.mem_append_left _ (List.mem_append_right _ (h))))
  have hin4 : ∀ w ∈ wsX40, w ∈ wsX5_holdsForWriter := fun w h => List.mem_cons_of_mem _ (List.mem_append_left _ (List.mem_append_left _ (List.mem_append_left _ (List.mem_append_left _ (List.mem_append_right _ (h))))))
  have hin5 : ∀ w ∈ wsX50, w ∈ wsX5_holdsForWriter := fun w h => List.mem_cons_of_mem _ (List.mem_append_left _ (List.mem_append_left _ (List.mem_append_left _ (List.mem_append_right _ (h)))))
  refine lv_aload_n X.1 X.2.1 dX5_holdsForWriter_0 rfl (lv_at hl 0 rfl) ?_
  refine lv_aload_n X.1 X.2.1 dX5_holdsForWriter_1 rfl (lv_at hl 1 rfl) ?_
  refine cVNi (cs := []) (HB.mem lv_2) (pC_5 (HB.kn lv_2 rfl)) rfl X hW (fun C h => absurd h List.not_mem_nil) (cr_readOnes l HB hw) (cwV 1 X.2.2.2.2 gX5_holdsForWriter_X5_isReadByOnes rfl rfl rfl (by decide +kernel) ⟨Nat.le_of_ble_eq_true rfl, Nat.le_of_ble_eq_true rfl⟩) rfl rfl hl.1 (Nat.le_of_ble_eq_true rfl) dX5_holdsForWriter_2 ⟨(show _ ≤ 0 by omega), (show _ ≤ 0 by omega)⟩ (fun L1 K1 R1 I1 A1 Q1 N1 H locs hW hF1 => ?_)
  obtain ⟨rfl, rfl, rfl, HB1⟩ := hF1
  refine n_if_eq_f (tgt := 28) X.1 X.2.1 dX5_holdsForWriter_5 (by decide) (by decide) (by omega) ?_
  refine lv_aload_n X.1 X.2.1 dX5_holdsForWriter_8 rfl (lv_at hl 0 rfl) ?_
  refine lv_aload_n X.1 X.2.1 dX5_holdsForWriter_9 rfl (lv_at hl 1 rfl) ?_
  refine cVNi (cs := []) (HB1.mem lv_2) (pC_5 (HB1.kn lv_2 rfl)) rfl X hW (fun C h => absurd h List.not_mem_nil) (cr_readThrees l HB1 hw) (cwV 1 X.2.2.2.2 gX5_holdsForWriter_X5_isReadByThrees rfl rfl rfl (by decide +kernel) ⟨Nat.le_of_ble_eq_true rfl, Nat.le_of_ble_eq_true rfl⟩) rfl rfl hl.1 (Nat.le_of_ble_eq_true rfl) dX5_holdsForWriter_10 ⟨(show _ ≤ 0 by omega), (show _ ≤ 0 by omega)⟩ (fun L2 K2 R2 I2 A2 Q2 N2 H locs hW hF2 => ?_)
  obtain ⟨rfl, rfl, rfl, HB2⟩ := hF2
  refine n_if_eq_f (tgt := 28) X.1 X.2.1 dX5_holdsForWriter_13 (by decide) (by decide) (by omega) ?_
  refine lv_aload_n X.1 X.2.1 dX5_holdsForWriter_16 rfl (lv_at hl 0 rfl) ?_
  refine lv_aload_n X.1 X.2.1 dX5_holdsForWriter_17 rfl (lv_at hl 1 rfl) ?_
  refine cVNi (cs := []) (HB2.mem lv_2) (pC_5 (HB2.kn lv_2 rfl)) rfl X hW (fun C h => absurd h List.not_mem_nil) (cr_poured l HB2 hw) (cwV 1 X.2.2.2.2 gX5_holdsForWriter_X5_isPoured rfl rfl rfl (by decide +kernel) ⟨Nat.le_of_ble_eq_true rfl, Nat.le_of_ble_eq_true rfl⟩) rfl rfl hl.1 (Nat.le_of_ble_eq_true rfl) dX5_holdsForWriter_18 ⟨(show _ ≤ 0 by omega), (show _ ≤ 0 by omega)⟩ (fun L3 K3 R3 I3 A3 Q3 N3 H locs hW hF3 => ?_)
  obtain ⟨rfl, rfl, rfl, HB3⟩ := hF3
  refine n_if_eq_f (tgt := 28) X.1 X.2.1 dX5_holdsForWriter_21 (by decide) (by decide) (by omega) ?_
  refine lv_iconst (v := nI 1) X.1 X.2.1 dX5_holdsForWriter_24 (by decide) ?_
  refine lv_goto (tgt := 29) X.1 X.2.1 dX5_holdsForWriter_25 (by decide) ?_
  exact hE _ _ _ _ _ _ _ _ _ _ _ _ _ _ (rfl) (show _ ≤ 0 by omega) (show _ ≤ 0 by omega) hW (⟨rfl, rfl, rfl, HB3⟩) dX5_holdsForWriter_29
