/-! the trial: rows, joined -/
def oS (pn : Nat → Nat) : Nat → Nat | 0 => 0 | k + 1 => oS pn k + pn k
theorem oS_mono {pn : Nat → Nat} {a : Nat} : ∀ {b : Nat}, a ≤ b → oS pn a ≤ oS pn b
  | 0, h => by rw [Nat.le_zero.mp h]; exact Nat.le_refl _
  | b + 1, h => by
    rcases Nat.lt_or_ge a (b + 1) with g | g
    · exact Nat.le_trans (oS_mono (pn := pn) (Nat.le_of_lt_succ g)) (Nat.le_add_right _ _)
    · rw [show a = b + 1 by omega]; exact Nat.le_refl _
def oI (pc : Nat) (pn : Nat → Nat) (z : Nat × Nat) : Prop := z.1 ≤ pc ∧ (z.1 < pc → z.2 ≤ pn z.1) ∧ (¬ z.1 < pc → z.2 = 0)
theorem fbF_o {pc : Nat} {pn : Nat → Nat} : ∀ (n : Nat) (z : Nat × Nat), oI pc pn z → oI pc pn (fbF pc pn n z) ∧ oS pn (fbF pc pn n z).1 + (fbF pc pn n z).2 = oS pn z.1 + z.2
  | 0, _, h => ⟨h, rfl⟩
  | n + 1, z, h => by
    simp only [fbF]
    by_cases g : z.1 < pc ∧ pn z.1 ≤ z.2
    · rw [if_pos g]
      have h2 := h.2.1 g.1
      have e : z.2 = pn z.1 := by omega
      obtain ⟨q1, q2⟩ := fbF_o (pc := pc) (pn := pn) n (z.1 + 1, 0) ⟨g.1, fun _ => Nat.zero_le _, fun _ => rfl⟩
      exact ⟨q1, q2.trans (by show oS pn z.1 + pn z.1 + 0 = oS pn z.1 + z.2; rw [e]; rfl)⟩
    · rw [if_neg g]; exact ⟨h, rfl⟩
theorem fb_o {pc pt pl : Nat} {pn : Nat → Nat} (h : oI pc pn (pt, pl)) : oI pc pn (fb pc pn pt pl) ∧ oS pn (fb pc pn pt pl).1 + (fb pc pn pt pl).2 = oS pn pt + pl := fbF_o 4 (pt, pl) h
theorem fb_in {pc pt pl : Nat} {pn : Nat → Nat} (h3 : pc ≤ 3) (h : oI pc pn (pt, pl)) : (fb pc pn pt pl).1 < pc ↔ oS pn pt + pl < oS pn pc := by
  obtain ⟨q1, q2⟩ := fb_o h
  constructor
  · intro g
    have h1 := fb_lt (pn := pn) h3 g
    have h2 := oS_mono (pn := pn) (show (fb pc pn pt pl).1 + 1 ≤ pc from g)
    rw [oS] at h2
    omega
  · intro g
    refine Decidable.byContradiction (fun z => ?_)
    have e := q1.2.2 z
    have e1 : (fb pc pn pt pl).1 = pc := by have := q1.1; omega
    rw [e, e1] at q2
    omega
theorem oI_le {pc : Nat} {pn : Nat → Nat} {pt pl : Nat} (h : oI pc pn (pt, pl)) : oS pn pt + pl ≤ oS pn pc := by
  rcases Nat.lt_or_ge pt pc with g | g
  · have h1 := h.2.1 g
    have h2 := oS_mono (pn := pn) (show pt + 1 ≤ pc from g)
    rw [oS] at h2
    simp only at h1
    omega
  · have e := h.2.2 (Nat.not_lt.mpr g)
    have h1 := h.1
    simp only at e h1
    rw [show pt = pc by omega, e]; exact Nat.le_refl _
def p3 {α : Type} (x y z : α) : Nat → α | 0 => x | 1 => y | _ => z
theorem fbI_b {I : pI} {th f y : Nat} {z : Nat × Nat} (h : y ≠ th) : fbI I th z f y = I f y := by rw [fbI, u2_b h, u2_b h]
theorem jI_b {I : pI} {th n t f y : Nat} (h : y ≠ th) : jI I th n t f y = I f y := by rw [jI, u2_b h, u2_b h, u2_b h, u2_b h, u2_b h]
theorem jI_3 {I : pI} {th n t : Nat} : jI I th n t 3 th = nI 0 := by rw [jI, u2_ne (by decide), u2_eq]
theorem js_jI {L : List Nat} {K : Nat → Nat} {R : pR} {I : pI} {N : Nat → Nat} {th pa n t : Nat} (h1 : th ∈ L) (h2 : K th = 1) (h3 : R 1 th = some pa) (h4 : pa ∈ L) (h5 : K pa = 10) (h6 : N pa = 3) (h : n ≤ 3) : isJS L K R (jI I th n t) N th pa n 0 0 :=
  ⟨h1, h2, h3, h4, h5, h6, jI_0, by rw [jI, u2_ne (by decide), u2_ne (by decide), u2_ne (by decide), u2_eq], by rw [jI, u2_ne (by decide), u2_ne (by decide), u2_eq], h, Nat.zero_le _, Nat.zero_le _⟩
theorem pt_ok {L : List Nat} {K : Nat → Nat} {R Q : pR} {N : Nat → Nat} {pa r1 b1 k1 r2 b2 k2 r3 b3 k3 : Nat} (h1 : isBR L K R N r1 b1 k1) (h2 : isBR L K R N r2 b2 k2) (h3 : isBR L K R N r3 b3 k3) : isPt L K R (u2 (u2 (u2 Q pa 0 (some r1)) pa 1 (some r2)) pa 2 (some r3)) N pa 3 (p3 r1 r2 r3) (p3 b1 b2 b3) (p3 k1 k2 k3) := by
  intro k hk
  match k, hk with
  | 0, _ => exact ⟨(u2_nj (by decide)).trans ((u2_nj (by decide)).trans u2_eq), h1⟩
  | 1, _ => exact ⟨(u2_nj (by decide)).trans u2_eq, h2⟩
  | 2, _ => exact ⟨u2_eq, h3⟩
  | k + 3, h => exact absurd h (by omega)
abbrev tgA (A : mD) (x f b n : Nat) : mD := cpF A x f (fun i => A b i) n
theorem tog_ok {A : mD} {x b1 b2 b3 k1 k2 k3 : Nat} (h1 : b1 ≠ x) (h2 : b2 ≠ x) (h3 : b3 ≠ x) : ∀ k j, k < 3 → j < p3 k1 k2 k3 k → tgA (tgA (tgA A x 0 b1 k1) x (0 + k1) b2 k2) x (0 + k1 + k2) b3 k3 x (oS (p3 k1 k2 k3) k + j) = tgA (tgA (tgA A x 0 b1 k1) x (0 + k1) b2 k2) x (0 + k1 + k2) b3 k3 (p3 b1 b2 b3 k) j := by
  intro k j hk hj
  match k, hk, hj with
  | 0, _, hj =>
    replace hj : j < k1 := hj
    show tgA (tgA (tgA A x 0 b1 k1) x (0 + k1) b2 k2) x (0 + k1 + k2) b3 k3 x (0 + j) = tgA (tgA (tgA A x 0 b1 k1) x (0 + k1) b2 k2) x (0 + k1 + k2) b3 k3 b1 j
    rw [tgA, cpF_out (by omega), tgA, cpF_out (by omega), tgA, cpF_in (by omega) (by omega), cpF_ne h1, cpF_ne h1, cpF_ne h1, show 0 + j - 0 = j by omega]
  | 1, _, hj =>
    replace hj : j < k2 := hj
    show tgA (tgA (tgA A x 0 b1 k1) x (0 + k1) b2 k2) x (0 + k1 + k2) b3 k3 x (0 + k1 + j) = tgA (tgA (tgA A x 0 b1 k1) x (0 + k1) b2 k2) x (0 + k1 + k2) b3 k3 b2 j
    rw [tgA, cpF_out (by omega), tgA, cpF_in (by omega) (by omega), cpF_ne h2, cpF_ne h2, show 0 + k1 + j - (0 + k1) = j by omega]
  | k + 3, h, _ => exact absurd h (by omega)
  | 2, _, hj =>
    replace hj : j < k3 := hj
    show tgA (tgA (tgA A x 0 b1 k1) x (0 + k1) b2 k2) x (0 + k1 + k2) b3 k3 x (0 + k1 + k2 + j) = tgA (tgA (tgA A x 0 b1 k1) x (0 + k1) b2 k2) x (0 + k1 + k2) b3 k3 b3 j
    rw [tgA, cpF_in (by omega) (by omega), cpF_ne h3, show 0 + k1 + k2 + j - (0 + k1 + k2) = j by omega]
def Φ1 (L : List Nat) (K N : pN) (R : pR) (A : mD) (Q : pR) (x : Nat) (I : pI) : pΦ := fun L2 K2 R2 I2 A2 Q2 N2 => L = L2 ∧ K = K2 ∧ N = N2 ∧ R = R2 ∧ A = A2 ∧ Q = Q2 ∧ ∀ f y, y ≠ x → I2 f y = I f y
def Φ2 (L : List Nat) (K N : pN) (R : pR) (A : mD) (Q : pR) (x z : Nat) (I : pI) : pΦ := fun L2 K2 R2 I2 A2 Q2 N2 => L = L2 ∧ K = K2 ∧ N = N2 ∧ R = R2 ∧ Q = Q2 ∧ (∀ y, y ≠ z → A2 y = A y) ∧ ∀ f y, y ≠ x → I2 f y = I f y
set_option maxHeartbeats 4000000 in
set_option maxRecDepth 100000 in
theorem ct_putTogether (l : Launch) {G : va_G} {kT : Nat → ClassId} {L : List Nat} {K : Nat → Nat} {R : pR} {I : pI} {A : mD} {Q : pR} {N : Nat → Nat} {T : mT} {D : mD} {ad : pD} (HB : Rep T D ad L K R I A Q N) {br n f : Nat} (hbr : isBA L K N br n) (hne : br ≠ ad 15 0) (hf : f + n ≤ 192) (hx : ∀ i, i < n → vp_nar .byte (A br i) = A br i) : cMi l yX5_putTogether wsX5_putTogether ({ frames := 0, cells := 0, slots := 0, locals := 0 } : Room) G kT [.ref (ad 2 0), .ref (br), .int (nI (f))] L K (R) (I) (A) (Q) N (nI (f + n)) (R) (I) (cpF A (ad 15 0) f (fun i => A br i) n) (Q) := by
  refine csti (cc := cX5_putTogether) (maxL := 4) (ret := (some .int)) (by decide) rfl ⟨_, rfl⟩ (Nat.le_of_ble_eq_true rfl) (fun p e s m args below meth c Z hE X hW ls hl => ?_)
  have X : CallFix p m c cX5_putTogether 4 s args wsX5_putTogether RX5 := X
  have hl : lv_has ls 4 [(0, .ref (ad 2 0)), (1, .ref (br)), (2, .int (nI (f)))] := hl
  have hin5 : ∀ w ∈ wsX50, w ∈ wsX5_putTogether := fun w h => List.mem_cons_of_mem _ (List.mem_append_left _ (List.mem_append_right _ (h)))
  have hn9 := hbr.2.2.2
  refine lv_iconst (v := nI 0) X.1 X.2.1 dX5_putTogether_0 (by decide) ?_
  refine lv_istore_n (lv' := [(3, .int (nI (0))), (0, .ref (ad 2 0)), (1, .ref (br)), (2, .int (nI (f)))]) X.1 X.2.1 dX5_putTogether_1 rfl hl (by decide) rfl (fun ls hl => ?_)
  have loop2 : ∀ (n2 k2 : Nat), k2 + n2 = n → ∀ (H : Heap) (locs : List Loc), cH G kT L L K (R) (I) (cpF A (ad 15 0) f (fun i => A br i) k2) (Q) N s H locs → ∀ ls : Array Slot, lv_has ls 4 [(0, .ref (ad 2 0)), (1, .ref (br)), (2, .int (nI (f))), (3, .int (nI (k2)))] → W p l e ({ frames := 0, cells := 0, slots := 0, locals := 0 } : Room) s m args below meth c H locs 0 0 Z (F0 m 2 ls []) := by
    intro n2
    induction n2 with
    | zero =>
      intro k2 hk2  H locs hW ls hl
      obtain rfl : n = k2 := by omega
      refine lv_iload_n X.1 X.2.1 dX5_putTogether_2 rfl (lv_at hl 3 rfl) ?_
      refine lv_aload_n X.1 X.2.1 dX5_putTogether_3 rfl (lv_at hl 1 rfl) ?_
      refine cln_7 X hW (hbr.1) (hbr.2.1) (hbr.2.2.1) dX5_putTogether_4 ?_
      refine n_icmp_ge_t (tgt := 25) X.1 X.2.1 dX5_putTogether_5 (by decide) (by omega) (by omega) (by omega) ?_
      refine lv_iload_n X.1 X.2.1 dX5_putTogether_25 rfl (lv_at hl 2 rfl) ?_
      refine lv_aload_n X.1 X.2.1 dX5_putTogether_26 rfl (lv_at hl 1 rfl) ?_
      refine cln_7 X hW (hbr.1) (hbr.2.1) (hbr.2.2.1) dX5_putTogether_27 ?_
      refine n_iadd X.1 X.2.1 dX5_putTogether_28 ?_
      exact hE _ _ _ _ _ (rfl) (fun ty hty => by cases hty; exact rfl) hW dX5_putTogether_29
    | succ n2 ih2 =>
      intro k2 hk2  H locs hW ls hl
      refine lv_iload_n X.1 X.2.1 dX5_putTogether_2 rfl (lv_at hl 3 rfl) ?_
      refine lv_aload_n X.1 X.2.1 dX5_putTogether_3 rfl (lv_at hl 1 rfl) ?_
      refine cln_7 X hW (hbr.1) (hbr.2.1) (hbr.2.2.1) dX5_putTogether_4 ?_
      refine n_icmp_ge_f (tgt := 25) X.1 X.2.1 dX5_putTogether_5 (by decide) (by omega) (by omega) (by omega) ?_
      refine lv_aload_n X.1 X.2.1 dX5_putTogether_8 rfl (lv_at hl 0 rfl) ?_
      refine cg_5_together X hin5 hW (HB.mem lv_2) (HB.kn lv_2 rfl) (HB.rt.2.2.2.2.2.1) (X.2.2.2.2 (.fieldLink RX5 41 "Strandbook$Trial" "together" "[B") (List.mem_cons_of_mem _ (List.mem_append_left _ (List.mem_append_left _ (List.mem_of_getElem? (i := 0) rfl))))) dX5_putTogether_9 ?_
      refine lv_iload_n X.1 X.2.1 dX5_putTogether_12 rfl (lv_at hl 2 rfl) ?_
      refine lv_iload_n X.1 X.2.1 dX5_putTogether_13 rfl (lv_at hl 3 rfl) ?_
      refine n_iadd X.1 X.2.1 dX5_putTogether_14 ?_
      refine lv_aload_n X.1 X.2.1 dX5_putTogether_15 rfl (lv_at hl 1 rfl) ?_
      refine lv_iload_n X.1 X.2.1 dX5_putTogether_16 rfl (lv_at hl 3 rfl) ?_
      refine cld_7 X hW (v := A br k2) (hbr.1) (hbr.2.1) (by rw [hbr.2.2.1]; omega) (by omega) (congrFun (cpF_ne hne) _) dX5_putTogether_17 ?_
      refine cst_7 X hW (HB.mem (lv_t (by decide) (by decide))) (HB.kn (lv_t (by decide) (by decide)) rfl) (by rw [HB.rt.2.2.2.2.2.2.2.2.2.2.2.1]; omega) (by omega) (hx _ (by omega)) dX5_putTogether_18 (fun H locs hW => ?_)
      refine lv_iinc (v := nI (k2 + 1)) (lv' := [(3, .int (nI (k2 + 1))), (0, .ref (ad 2 0)), (1, .ref (br)), (2, .int (nI (f)))]) X.1 X.2.1 dX5_putTogether_19 hl (k := 3) rfl (nI_1 _) (by decide) rfl (fun ls hl => ?_)
      refine lv_goto (tgt := 2) X.1 X.2.1 dX5_putTogether_22 (by decide) ?_
      exact ih2 (k2 + 1) (by omega) _ _ (hW.eq (rfl) (rfl) (cpF_S' rfl rfl) (rfl)) ls (lv_sub hl [1, 2, 3, 0] rfl)
  exact loop2 ((n) - (0)) (0) (by omega) _ _ (hW.eq (rfl) (rfl) (cpF_0.symm) (rfl)) ls (lv_sub hl [1, 2, 3, 0] rfl)
set_option maxHeartbeats 4000000 in
set_option maxRecDepth 100000 in
theorem cn_givesOnes (l : Launch) {G : va_G} {kT : Nat → ClassId} {L : List Nat} {K : Nat → Nat} {R : pR} {I : pI} {A : mD} {Q : pR} {N : Nat → Nat} {T : mT} {D : mD} {ad : pD} (HB : Rep T D ad L K R I A Q N) {po pb pn : Nat → Nat} {ps M : Nat} (hp : isPt L K R Q N (ad 11 2) 3 po pb pn) (hj : isJS L K R I N (ad 10 2) (ad 11 2) 3 0 0) (hps : I 3 (ad 10 2) = nI ps) (hM : M = oS pn 3) (hm : M ≤ 192) (hA : ∀ k j, k < 3 → j < pn k → A (ad 15 0) (oS pn k + j) = A (pb k) j) : cNi l yX5_givesOnes wsX5_givesOnes ({ frames := 2, cells := 0, slots := 0, locals := 41 } : Room) G kT [.ref (ad 2 0), .int (nI (M))] L K R I A Q N 0 0 [] (nI 1) (Φ1 L K N R A Q (ad 10 2) I) := by
  refine cstNb (cc := cX5_givesOnes) (maxL := 3) (ret := (some .boolean)) (by decide) rfl rfl (nI_zb (by decide)) (Nat.le_of_ble_eq_true rfl) (fun p e s m args below meth c Z hE X hni hAO hW ls hl => ?_)
  have X : CallFix p m c cX5_givesOnes 3 s args wsX5_givesOnes RX5 := X
  have hl : lv_has ls 3 [(0, .ref (ad 2 0)), (1, .int (nI (M)))] := hl
  have hin0 : ∀ w ∈ wsX00, w ∈ wsX5_givesOnes := fun w h => List.mem_cons_of_mem _ (List.mem_append_left _ (List.mem_append_right _ (h)))
  have hin1 : ∀ w ∈ wsX10, w ∈ wsX5_givesOnes := fun w h => List.mem_cons_of_mem _ (List.mem_append_left _ (List.mem_append_left _ (List.mem_append_right _ (h))))
  have hin5 : ∀ w ∈ wsX50, w ∈ wsX5_givesOnes := fun w h => List.mem_cons_of_mem _ (List.mem_append_left _ (List.mem_append_left _ (List.mem_append_left _ (List.mem_append_right _ (h)))))
  have loop2 : ∀ (n k : Nat) (I9 : pI) (pt pl ps : Nat), k + n = M → oI 3 pn (pt, pl) → oS pn pt + pl = k → (∀ f y, y ≠ ad 10 2 → I9 f y = I f y) → isJS L K R I9 N (ad 10 2) (ad 11 2) 3 pt pl → I9 3 (ad 10 2) = nI ps → ∀ (H : Heap) (locs : List Loc), cH G kT L L K R I9 A Q N s H locs → ∀ ls : Array Slot, lv_has ls 3 [(0, .ref (ad 2 0)), (1, .int (nI (M))), (2, .int (nI (k)))] → W p l e ({ frames := 2, cells := 0, slots := 0, locals := 41 } : Room) s m args below meth c H locs 0 0 Z (F0 m 2 ls []) := by
    intro n
    induction n with
    | zero =>
      intro k I9 pt pl ps hk ho hk2 hI hj hps H locs hW ls hl
      obtain rfl : M = k := by omega
      have h : ¬ (fb 3 pn pt pl).1 < 3 := fun z => absurd ((fb_in (Nat.le_refl 3) ho).mp z) (by omega)
      refine lv_iload_n X.1 X.2.1 dX5_givesOnes_2 rfl (lv_at hl 2 rfl) ?_
      refine lv_iload_n X.1 X.2.1 dX5_givesOnes_3 rfl (lv_at hl 1 rfl) ?_
      refine n_icmp_ge_t (tgt := 35) X.1 X.2.1 dX5_givesOnes_4 (by decide) (by omega) (by omega) (by omega) ?_
      refine lv_aload_n X.1 X.2.1 dX5_givesOnes_35 rfl (lv_at hl 0 rfl) ?_
      refine cg_5_stream X hin5 hW (HB.mem lv_2) (HB.kn lv_2 rfl) (HB.rt.2.2.2.2.2.2.2.1) (X.2.2.2.2 (.fieldLink RX5 51 "Strandbook$Trial" "stream" "LStrandbook$JoinedStream;") (List.mem_cons_of_mem _ (List.mem_append_left _ (List.mem_append_left _ (List.mem_append_left _ (List.mem_append_left _ (List.mem_of_getElem? (i := 0) rfl))))))) dX5_givesOnes_36 ?_
      refine cVi X hW (HB.mem (lv_10 (by decide))) (pC_1 (HB.kn (lv_10 (by decide)) rfl)) rfl (ct_jreadOne_e l hj hp h) (cwV 0 X.2.2.2.2 gX5_givesOnes_X1_readOne rfl rfl rfl (by decide +kernel) ⟨Nat.le_of_ble_eq_true rfl, Nat.le_of_ble_eq_true rfl⟩) rfl rfl hl.1 (Nat.le_of_ble_eq_true rfl) dX5_givesOnes_39 ⟨Nat.zero_le _, Nat.zero_le _⟩ (fun H locs hW => ?_)
      refine lv_iconst (v := -1) X.1 X.2.1 dX5_givesOnes_42 (by decide) ?_
      refine x_icmp_ne_f (tgt := 50) X.1 X.2.1 dX5_givesOnes_43 (by decide) (rfl) ?_
      refine lv_iconst (v := nI 1) X.1 X.2.1 dX5_givesOnes_46 (by decide) ?_
      refine lv_goto (tgt := 51) X.1 X.2.1 dX5_givesOnes_47 (by decide) ?_
      exact hE _ _ _ _ _ _ _ _ _ _ _ _ _ _ (rfl) (show _ ≤ 0 by omega) (show _ ≤ 0 by omega) hW (⟨rfl, rfl, rfl, rfl, rfl, rfl, fun f y hy => (fbI_b hy).trans (hI f y hy)⟩) dX5_givesOnes_51
    | succ n ih =>
      intro k I9 pt pl ps hk ho hk2 hI hj hps H locs hW ls hl
      have h : (fb 3 pn pt pl).1 < 3 := (fb_in (Nat.le_refl 3) ho).mpr (by omega)
      have hlt := fb_lt (Nat.le_refl 3) h
      have ho9 := fb_o ho
      have hq9 := (hp _ h).2.2.2.2.2.2.2
      have e9 : oS pn (fb 3 pn pt pl).1 + (fb 3 pn pt pl).2 = k := ho9.2.trans hk2
      refine lv_iload_n X.1 X.2.1 dX5_givesOnes_2 rfl (lv_at hl 2 rfl) ?_
      refine lv_iload_n X.1 X.2.1 dX5_givesOnes_3 rfl (lv_at hl 1 rfl) ?_
      refine n_icmp_ge_f (tgt := 35) X.1 X.2.1 dX5_givesOnes_4 (by decide) (by omega) (by omega) (by omega) ?_
      refine lv_aload_n X.1 X.2.1 dX5_givesOnes_7 rfl (lv_at hl 0 rfl) ?_
      refine cg_5_stream X hin5 hW (HB.mem lv_2) (HB.kn lv_2 rfl) (HB.rt.2.2.2.2.2.2.2.1) (X.2.2.2.2 (.fieldLink RX5 51 "Strandbook$Trial" "stream" "LStrandbook$JoinedStream;") (List.mem_cons_of_mem _ (List.mem_append_left _ (List.mem_append_left _ (List.mem_append_left _ (List.mem_append_left _ (List.mem_of_getElem? (i := 0) rfl))))))) dX5_givesOnes_8 ?_
      refine cVi X hW (HB.mem (lv_10 (by decide))) (pC_1 (HB.kn (lv_10 (by decide)) rfl)) rfl (ct_jreadOne l hj hp hps h) (cwV 0 X.2.2.2.2 gX5_givesOnes_X1_readOne rfl rfl rfl (by decide +kernel) ⟨Nat.le_of_ble_eq_true rfl, Nat.le_of_ble_eq_true rfl⟩) rfl rfl hl.1 (Nat.le_of_ble_eq_true rfl) dX5_givesOnes_11 ⟨Nat.zero_le _, Nat.zero_le _⟩ (fun H locs hW => ?_)
      refine lv_aload_n X.1 X.2.1 dX5_givesOnes_14 rfl (lv_at hl 0 rfl) ?_
      refine cg_5_together X hin5 hW (HB.mem lv_2) (HB.kn lv_2 rfl) (HB.rt.2.2.2.2.2.1) (X.2.2.2.2 (.fieldLink RX5 41 "Strandbook$Trial" "together" "[B") (List.mem_cons_of_mem _ (List.mem_append_left _ (List.mem_append_left _ (List.mem_append_left _ (List.mem_append_left _ (List.mem_of_getElem? (i := 1) rfl))))))) dX5_givesOnes_15 ?_
      refine lv_iload_n X.1 X.2.1 dX5_givesOnes_18 rfl (lv_at hl 2 rfl) ?_
      refine cld_7 X hW (v := A (ad 15 0) k) (HB.mem (lv_t (by decide) (by decide))) (HB.kn (lv_t (by decide) (by decide)) rfl) (by rw [HB.rt.2.2.2.2.2.2.2.2.2.2.2.1]; omega) (by omega) (rfl) dX5_givesOnes_19 ?_
      refine lv_sipush (v := nI 255) X.1 X.2.1 dX5_givesOnes_20 (by decide) ?_
      refine lv_iand X.1 X.2.1 dX5_givesOnes_23 ?_
      refine x_icmp_eq_t (tgt := 29) X.1 X.2.1 dX5_givesOnes_24 (by decide) (by rw [← hA _ _ h hlt, e9]) ?_
      refine lv_iinc (v := nI (k + 1)) (lv' := [(2, .int (nI (k + 1))), (0, .ref (ad 2 0)), (1, .int (nI (M)))]) X.1 X.2.1 dX5_givesOnes_29 hl (k := 2) rfl (nI_1 _) (by decide) rfl (fun ls hl => ?_)
      refine lv_goto (tgt := 2) X.1 X.2.1 dX5_givesOnes_32 (by decide) ?_
      exact ih (k + 1) _ (fb 3 pn pt pl).1 ((fb 3 pn pt pl).2 + 1) (ps + 1) (by omega) ⟨Nat.le_of_lt h, fun _ => hlt, fun z => absurd h z⟩ (by omega) (fun f y hy => by rw [jU_one, jU_b hy]; exact hI f y hy) (by rw [jU_one]; exact isJS.jU (z := ((fb 3 pn pt pl).1, (fb 3 pn pt pl).2 + 1)) hj (Nat.le_of_lt h) (show (fb 3 pn pt pl).2 + 1 ≤ 64 by omega)) u2_eq _ _ hW ls (lv_sub hl [1, 2, 0] rfl)
  refine lv_iconst (v := nI 0) X.1 X.2.1 dX5_givesOnes_0 (by decide) ?_
  refine lv_istore_n (lv' := [(2, .int (nI (0))), (0, .ref (ad 2 0)), (1, .int (nI (M)))]) X.1 X.2.1 dX5_givesOnes_1 rfl hl (by decide) rfl (fun ls hl => ?_)
  exact loop2 M 0 I 0 0 ps (by omega) ⟨Nat.zero_le _, fun _ => Nat.zero_le _, fun _ => rfl⟩ rfl (fun _ _ _ => rfl) hj hps _ _ hW ls (lv_sub hl [1, 2, 0] rfl)
set_option maxHeartbeats 4000000 in
set_option maxRecDepth 100000 in
theorem cn_givesTwos (l : Launch) {G : va_G} {kT : Nat → ClassId} {L : List Nat} {K : Nat → Nat} {R : pR} {I : pI} {A : mD} {Q : pR} {N : Nat → Nat} {T : mT} {D : mD} {ad : pD} (HB : Rep T D ad L K R I A Q N) {po pb pn : Nat → Nat} {ps M : Nat} (hp : isPt L K R Q N (ad 11 2) 3 po pb pn) (hj : isJS L K R I N (ad 10 2) (ad 11 2) 3 0 0) (hps : I 3 (ad 10 2) = nI ps) (hM : M = oS pn 3) (hm : M ≤ 192) (hA : ∀ k j, k < 3 → j < pn k → A (ad 15 0) (oS pn k + j) = A (pb k) j) (hpb : ∀ k, k < 3 → pb k ≠ ad 16 0) (hx : ∀ k i, k < 3 → i < pn k → vp_nar .byte (A (pb k) i) = A (pb k) i) : cNi l yX5_givesTwos wsX5_givesTwos ({ frames := 2, cells := 0, slots := 0, locals := 47 } : Room) G kT [.ref (ad 2 0), .int (nI (M))] L K R I A Q N 0 0 [] (nI 1) (Φ2 L K N R A Q (ad 10 2) (ad 16 0) I) := by
  refine cstNb (cc := cX5_givesTwos) (maxL := 6) (ret := (some .boolean)) (by decide) rfl rfl (nI_zb (by decide)) (Nat.le_of_ble_eq_true rfl) (fun p e s m args below meth c Z hE X hni hAO hW ls hl => ?_)
  have X : CallFix p m c cX5_givesTwos 6 s args wsX5_givesTwos RX5 := X
  have hl : lv_has ls 6 [(0, .ref (ad 2 0)), (1, .int (nI (M)))] := hl
  have hin0 : ∀ w ∈ wsX00, w ∈ wsX5_givesTwos := fun w h => List.mem_cons_of_mem _ (List.mem_append_left _ (List.mem_append_right _ (h)))
  have hin1 : ∀ w ∈ wsX10, w ∈ wsX5_givesTwos := fun w h => List.mem_cons_of_mem _ (List.mem_append_left _ (List.mem_append_left _ (List.mem_append_right _ (h))))
  have hin5 : ∀ w ∈ wsX50, w ∈ wsX5_givesTwos := fun w h => List.mem_cons_of_mem _ (List.mem_append_left _ (List.mem_append_left _ (List.mem_append_left _ (List.mem_append_right _ (h)))))
  have n1516 : ad 15 0 ≠ ad 16 0 := (HB.ne (lv_t (by decide) (by decide)) (lv_t (by decide) (by decide)) (Or.inl (by decide)))
  have loop4 : ∀ (n k dn : Nat) (I9 : pI) (A9 : mD) (pt pl ps : Nat), M ≤ dn + n → k ≤ dn → oI 3 pn (pt, pl) → oS pn pt + pl = dn → (∀ f y, y ≠ ad 10 2 → I9 f y = I f y) → (∀ y, y ≠ ad 16 0 → A9 y = A y) → isJS L K R I9 N (ad 10 2) (ad 11 2) 3 pt pl → I9 3 (ad 10 2) = nI ps → ∀ (H : Heap) (locs : List Loc), cH G kT L L K R I9 A9 Q N s H locs → ∀ ls : Array Slot, lv_has ls 6 [(0, .ref (ad 2 0)), (1, .int (nI (M))), (2, .int (nI (dn))), (3, .int (nI (k)))] → W p l e ({ frames := 2, cells := 0, slots := 0, locals := 47 } : Room) s m args below meth c H locs 0 0 Z (F0 m 4 ls []) := by
    intro n
    induction n with
    | zero =>
      intro k dn I9 A9 pt pl ps hn hkd ho hk2 hI hA9 hj hps H locs hW ls hl
      have hle : dn ≤ M := by have := oI_le ho; omega
      have h : ¬ (fb 3 pn pt pl).1 < 3 := fun z => absurd ((fb_in (Nat.le_refl 3) ho).mp z) (by omega)
      refine lv_iload_n X.1 X.2.1 dX5_givesTwos_4 rfl (lv_at hl 3 rfl) ?_
      refine lv_iload_n X.1 X.2.1 dX5_givesTwos_5 rfl (lv_at hl 1 rfl) ?_
      refine n_icmp_gt_f (tgt := 96) X.1 X.2.1 dX5_givesTwos_6 (by decide) (by omega) (by omega) (by omega) ?_
      refine lv_aload_n X.1 X.2.1 dX5_givesTwos_9 rfl (lv_at hl 0 rfl) ?_
      refine cg_5_stream X hin5 hW (HB.mem lv_2) (HB.kn lv_2 rfl) (HB.rt.2.2.2.2.2.2.2.1) (X.2.2.2.2 (.fieldLink RX5 51 "Strandbook$Trial" "stream" "LStrandbook$JoinedStream;") (List.mem_cons_of_mem _ (List.mem_append_left _ (List.mem_append_left _ (List.mem_append_left _ (List.mem_append_left _ (List.mem_of_getElem? (i := 0) rfl))))))) dX5_givesTwos_10 ?_
      refine lv_aload_n X.1 X.2.1 dX5_givesTwos_13 rfl (lv_at hl 0 rfl) ?_
      refine cg_5_two X hin5 hW (HB.mem lv_2) (HB.kn lv_2 rfl) (HB.rt.2.2.2.2.2.2.1) (X.2.2.2.2 (.fieldLink RX5 45 "Strandbook$Trial" "two" "[B") (List.mem_cons_of_mem _ (List.mem_append_left _ (List.mem_append_left _ (List.mem_append_left _ (List.mem_append_left _ (List.mem_of_getElem? (i := 1) rfl))))))) dX5_givesTwos_14 ?_
      refine lv_iconst (v := nI 0) X.1 X.2.1 dX5_givesTwos_17 (by decide) ?_
      refine lv_iconst (v := nI 2) X.1 X.2.1 dX5_givesTwos_18 (by decide) ?_
      refine cVi X hW (HB.mem (lv_10 (by decide))) (pC_1 (HB.kn (lv_10 (by decide)) rfl)) rfl (ct_jreadSome_e l (ta := ad 16 0) (f := 0) (n := 2) hj hp h) (cwV 3 X.2.2.2.2 gX5_givesTwos_X1_readSome rfl rfl rfl (by decide +kernel) ⟨Nat.le_of_ble_eq_true rfl, Nat.le_of_ble_eq_true rfl⟩) rfl rfl hl.1 (Nat.le_of_ble_eq_true rfl) dX5_givesTwos_19 ⟨Nat.zero_le _, Nat.zero_le _⟩ (fun H locs hW => ?_)
      refine lv_istore (lv' := [(4, .int (-1)), (0, .ref (ad 2 0)), (1, .int (nI (M))), (2, .int (nI (dn))), (3, .int (nI (k)))]) X.1 X.2.1 dX5_givesTwos_22 hl (by decide) rfl (fun ls hl => ?_)
      refine lv_iload X.1 X.2.1 dX5_givesTwos_24 (lv_at hl 0 rfl) ?_
      refine x_if_ge_f (tgt := 40) X.1 X.2.1 dX5_givesTwos_26 (by decide) (by decide) ?_
      refine lv_iload_n X.1 X.2.1 dX5_givesTwos_29 rfl (lv_at hl 3 rfl) ?_
      refine lv_iload_n X.1 X.2.1 dX5_givesTwos_30 rfl (lv_at hl 2 rfl) ?_
      refine n_icmp_ne_f (tgt := 38) X.1 X.2.1 dX5_givesTwos_31 (by decide) (by omega) (by omega) (by omega) ?_
      refine lv_iconst (v := nI 1) X.1 X.2.1 dX5_givesTwos_34 (by decide) ?_
      refine lv_goto (tgt := 39) X.1 X.2.1 dX5_givesTwos_35 (by decide) ?_
      exact hE _ _ _ _ _ _ _ _ _ _ _ _ _ _ (rfl) (show _ ≤ 0 by omega) (show _ ≤ 0 by omega) hW (⟨rfl, rfl, rfl, rfl, rfl, hA9, fun f y hy => (fbI_b hy).trans (hI f y hy)⟩) dX5_givesTwos_39
    | succ n ih =>
      intro k dn I9 A9 pt pl ps hn hkd ho hk2 hI hA9 hj hps H locs hW ls hl
      have hle : dn ≤ M := by have := oI_le ho; omega
      rcases Decidable.em ((fb 3 pn pt pl).1 < 3) with h | h
      · have hlt := fb_lt (Nat.le_refl 3) h
        have ho9 := fb_o ho
        have hq9 := (hp _ h).2.2.2.2.2.2.2
        have e9 : oS pn (fb 3 pn pt pl).1 + (fb 3 pn pt pl).2 = dn := ho9.2.trans hk2
        have m9 := oS_mono (pn := pn) (show (fb 3 pn pt pl).1 + 1 ≤ 3 from h)
        rw [oS] at m9
        refine lv_iload_n X.1 X.2.1 dX5_givesTwos_4 rfl (lv_at hl 3 rfl) ?_
        refine lv_iload_n X.1 X.2.1 dX5_givesTwos_5 rfl (lv_at hl 1 rfl) ?_
        refine n_icmp_gt_f (tgt := 96) X.1 X.2.1 dX5_givesTwos_6 (by decide) (by omega) (by omega) (by omega) ?_
        refine lv_aload_n X.1 X.2.1 dX5_givesTwos_9 rfl (lv_at hl 0 rfl) ?_
        refine cg_5_stream X hin5 hW (HB.mem lv_2) (HB.kn lv_2 rfl) (HB.rt.2.2.2.2.2.2.2.1) (X.2.2.2.2 (.fieldLink RX5 51 "Strandbook$Trial" "stream" "LStrandbook$JoinedStream;") (List.mem_cons_of_mem _ (List.mem_append_left _ (List.mem_append_left _ (List.mem_append_left _ (List.mem_append_left _ (List.mem_of_getElem? (i := 0) rfl))))))) dX5_givesTwos_10 ?_
        refine lv_aload_n X.1 X.2.1 dX5_givesTwos_13 rfl (lv_at hl 0 rfl) ?_
        refine cg_5_two X hin5 hW (HB.mem lv_2) (HB.kn lv_2 rfl) (HB.rt.2.2.2.2.2.2.1) (X.2.2.2.2 (.fieldLink RX5 45 "Strandbook$Trial" "two" "[B") (List.mem_cons_of_mem _ (List.mem_append_left _ (List.mem_append_left _ (List.mem_append_left _ (List.mem_append_left _ (List.mem_of_getElem? (i := 1) rfl))))))) dX5_givesTwos_14 ?_
        refine lv_iconst (v := nI 0) X.1 X.2.1 dX5_givesTwos_17 (by decide) ?_
        refine lv_iconst (v := nI 2) X.1 X.2.1 dX5_givesTwos_18 (by decide) ?_
        refine cVi X hW (HB.mem (lv_10 (by decide))) (pC_1 (HB.kn (lv_10 (by decide)) rfl)) rfl (ct_jreadSome l hj hp (ta := ad 16 0) (tk := 2) (f := 0) (n := 2) hps ⟨HB.mem (lv_t (by decide) (by decide)), HB.kn (lv_t (by decide) (by decide)) rfl, HB.rt.2.2.2.2.2.2.2.2.2.2.2.2, by decide⟩ (hpb _ h) (by decide) h (fun i hi => by rw [hA9 _ (hpb _ h)]; exact hx _ _ h hi)) (cwV 3 X.2.2.2.2 gX5_givesTwos_X1_readSome rfl rfl rfl (by decide +kernel) ⟨Nat.le_of_ble_eq_true rfl, Nat.le_of_ble_eq_true rfl⟩) rfl rfl hl.1 (Nat.le_of_ble_eq_true rfl) dX5_givesTwos_19 ⟨Nat.zero_le _, Nat.zero_le _⟩ (fun H locs hW => ?_)
        refine lv_istore (lv' := [(4, .int (nI (min 2 (pn (fb 3 pn pt pl).1 - (fb 3 pn pt pl).2)))), (0, .ref (ad 2 0)), (1, .int (nI (M))), (2, .int (nI (dn))), (3, .int (nI (k)))]) X.1 X.2.1 dX5_givesTwos_22 hl (by decide) rfl (fun ls hl => ?_)
        refine lv_iload X.1 X.2.1 dX5_givesTwos_24 (lv_at hl 0 rfl) ?_
        refine n_if_ge_t (tgt := 40) X.1 X.2.1 dX5_givesTwos_26 (by decide) (by omega) ?_
        refine lv_iconst (v := nI 0) X.1 X.2.1 dX5_givesTwos_40 (by decide) ?_
        refine lv_istore (lv' := [(5, .int (nI (0))), (4, .int (nI (min 2 (pn (fb 3 pn pt pl).1 - (fb 3 pn pt pl).2)))), (0, .ref (ad 2 0)), (1, .int (nI (M))), (2, .int (nI (dn))), (3, .int (nI (k)))]) X.1 X.2.1 dX5_givesTwos_41 hl (by decide) rfl (fun ls hl => ?_)
        have loop43 : ∀ (n43 k43 : Nat), k43 + n43 = min 2 (pn (fb 3 pn pt pl).1 - (fb 3 pn pt pl).2) → ∀ (H : Heap) (locs : List Loc), cH G kT L L K (R) ((u2 (u2 (fbI I9 (ad 10 2) (fb 3 pn pt pl)) 2 (ad 10 2) (nI ((fb 3 pn pt pl).2 + min 2 (pn (fb 3 pn pt pl).1 - (fb 3 pn pt pl).2)))) 3 (ad 10 2) (nI (ps + min 2 (pn (fb 3 pn pt pl).1 - (fb 3 pn pt pl).2))))) ((cpF A9 (ad 16 0) 0 (fun i => A9 (pb (fb 3 pn pt pl).1) ((fb 3 pn pt pl).2 + i)) (min 2 (pn (fb 3 pn pt pl).1 - (fb 3 pn pt pl).2)))) (Q) N s H locs → ∀ ls : Array Slot, lv_has ls 6 [(0, .ref (ad 2 0)), (1, .int (nI (M))), (2, .int (nI (dn))), (3, .int (nI (k))), (4, .int (nI (min 2 (pn (fb 3 pn pt pl).1 - (fb 3 pn pt pl).2)))), (5, .int (nI (k43)))] → W p l e ({ frames := 2, cells := 0, slots := 0, locals := 47 } : Room) s m args below meth c H locs 0 0 Z (F0 m 43 ls []) := by
          intro n43
          induction n43 with
          | zero =>
            intro k43 hk43  H locs hW ls hl
            obtain rfl : min 2 (pn (fb 3 pn pt pl).1 - (fb 3 pn pt pl).2) = k43 := by omega
            refine lv_iload X.1 X.2.1 dX5_givesTwos_43 (lv_at hl 5 rfl) ?_
            refine lv_iload X.1 X.2.1 dX5_givesTwos_45 (lv_at hl 4 rfl) ?_
            refine n_icmp_ge_t (tgt := 85) X.1 X.2.1 dX5_givesTwos_47 (by decide) (by omega) (by omega) (by omega) ?_
            refine lv_iload_n X.1 X.2.1 dX5_givesTwos_85 rfl (lv_at hl 2 rfl) ?_
            refine lv_iload X.1 X.2.1 dX5_givesTwos_86 (lv_at hl 4 rfl) ?_
            refine n_iadd X.1 X.2.1 dX5_givesTwos_88 ?_
            refine lv_istore_n (lv' := [(2, .int (nI (dn + (min 2 (pn (fb 3 pn pt pl).1 - (fb 3 pn pt pl).2))))), (0, .ref (ad 2 0)), (1, .int (nI (M))), (3, .int (nI (k))), (4, .int (nI (min 2 (pn (fb 3 pn pt pl).1 - (fb 3 pn pt pl).2)))), (5, .int (nI (min 2 (pn (fb 3 pn pt pl).1 - (fb 3 pn pt pl).2))))]) X.1 X.2.1 dX5_givesTwos_89 rfl hl (by decide) rfl (fun ls hl => ?_)
            refine lv_iinc (v := nI (k + 1)) (lv' := [(3, .int (nI (k + 1))), (2, .int (nI (dn + (min 2 (pn (fb 3 pn pt pl).1 - (fb 3 pn pt pl).2))))), (0, .ref (ad 2 0)), (1, .int (nI (M))), (4, .int (nI (min 2 (pn (fb 3 pn pt pl).1 - (fb 3 pn pt pl).2)))), (5, .int (nI (min 2 (pn (fb 3 pn pt pl).1 - (fb 3 pn pt pl).2))))]) X.1 X.2.1 dX5_givesTwos_90 hl (k := 3) rfl (nI_1 _) (by decide) rfl (fun ls hl => ?_)
            refine lv_goto (tgt := 4) X.1 X.2.1 dX5_givesTwos_93 (by decide) ?_
            exact ih (k + 1) (dn + min 2 (pn (fb 3 pn pt pl).1 - (fb 3 pn pt pl).2)) _ _ (fb 3 pn pt pl).1 ((fb 3 pn pt pl).2 + min 2 (pn (fb 3 pn pt pl).1 - (fb 3 pn pt pl).2)) (ps + min 2 (pn (fb 3 pn pt pl).1 - (fb 3 pn pt pl).2)) (by omega) (by omega) ⟨Nat.le_of_lt h, fun _ => (show (fb 3 pn pt pl).2 + min 2 (pn (fb 3 pn pt pl).1 - (fb 3 pn pt pl).2) ≤ pn (fb 3 pn pt pl).1 by omega), fun z => absurd h z⟩ (by omega) (fun f y hy => by rw [jU_one, jU_b hy]; exact hI f y hy) (fun y hy => (cpF_ne hy).trans (hA9 y hy)) (by rw [jU_one]; exact isJS.jU (z := ((fb 3 pn pt pl).1, (fb 3 pn pt pl).2 + min 2 (pn (fb 3 pn pt pl).1 - (fb 3 pn pt pl).2))) hj (Nat.le_of_lt h) (show (fb 3 pn pt pl).2 + min 2 (pn (fb 3 pn pt pl).1 - (fb 3 pn pt pl).2) ≤ 64 by omega)) u2_eq _ _ hW ls (lv_sub hl [2, 3, 1, 0] rfl)
          | succ n43 ih43 =>
            intro k43 hk43  H locs hW ls hl
            refine lv_iload X.1 X.2.1 dX5_givesTwos_43 (lv_at hl 5 rfl) ?_
            refine lv_iload X.1 X.2.1 dX5_givesTwos_45 (lv_at hl 4 rfl) ?_
            refine n_icmp_ge_f (tgt := 85) X.1 X.2.1 dX5_givesTwos_47 (by decide) (by omega) (by omega) (by omega) ?_
            refine lv_iload_n X.1 X.2.1 dX5_givesTwos_50 rfl (lv_at hl 2 rfl) ?_
            refine lv_iload X.1 X.2.1 dX5_givesTwos_51 (lv_at hl 5 rfl) ?_
            refine n_iadd X.1 X.2.1 dX5_givesTwos_53 ?_
            refine lv_iload_n X.1 X.2.1 dX5_givesTwos_54 rfl (lv_at hl 1 rfl) ?_
            refine n_icmp_ge_f (tgt := 77) X.1 X.2.1 dX5_givesTwos_55 (by decide) (by omega) (by omega) (by omega) ?_
            refine lv_aload_n X.1 X.2.1 dX5_givesTwos_58 rfl (lv_at hl 0 rfl) ?_
            refine cg_5_two X hin5 hW (HB.mem lv_2) (HB.kn lv_2 rfl) (HB.rt.2.2.2.2.2.2.1) (X.2.2.2.2 (.fieldLink RX5 45 "Strandbook$Trial" "two" "[B") (List.mem_cons_of_mem _ (List.mem_append_left _ (List.mem_append_left _ (List.mem_append_left _ (List.mem_append_left _ (List.mem_of_getElem? (i := 1) rfl))))))) dX5_givesTwos_59 ?_
            refine lv_iload X.1 X.2.1 dX5_givesTwos_62 (lv_at hl 5 rfl) ?_
            refine cld_7 X hW (v := (cpF A9 (ad 16 0) 0 (fun i => A9 (pb (fb 3 pn pt pl).1) ((fb 3 pn pt pl).2 + i)) (min 2 (pn (fb 3 pn pt pl).1 - (fb 3 pn pt pl).2))) (ad 16 0) k43) (HB.mem (lv_t (by decide) (by decide))) (HB.kn (lv_t (by decide) (by decide)) rfl) (by rw [HB.rt.2.2.2.2.2.2.2.2.2.2.2.2]; omega) (by omega) (rfl) dX5_givesTwos_64 ?_
            refine lv_aload_n X.1 X.2.1 dX5_givesTwos_65 rfl (lv_at hl 0 rfl) ?_
            refine cg_5_together X hin5 hW (HB.mem lv_2) (HB.kn lv_2 rfl) (HB.rt.2.2.2.2.2.1) (X.2.2.2.2 (.fieldLink RX5 41 "Strandbook$Trial" "together" "[B") (List.mem_cons_of_mem _ (List.mem_append_left _ (List.mem_append_left _ (List.mem_append_left _ (List.mem_append_left _ (List.mem_of_getElem? (i := 2) rfl))))))) dX5_givesTwos_66 ?_
            refine lv_iload_n X.1 X.2.1 dX5_givesTwos_69 rfl (lv_at hl 2 rfl) ?_
            refine lv_iload X.1 X.2.1 dX5_givesTwos_70 (lv_at hl 5 rfl) ?_
            refine n_iadd X.1 X.2.1 dX5_givesTwos_72 ?_
            refine cld_7 X hW (v := (cpF A9 (ad 16 0) 0 (fun i => A9 (pb (fb 3 pn pt pl).1) ((fb 3 pn pt pl).2 + i)) (min 2 (pn (fb 3 pn pt pl).1 - (fb 3 pn pt pl).2))) (ad 15 0) (dn + k43)) (HB.mem (lv_t (by decide) (by decide))) (HB.kn (lv_t (by decide) (by decide)) rfl) (by rw [HB.rt.2.2.2.2.2.2.2.2.2.2.2.1]; omega) (by omega) (rfl) dX5_givesTwos_73 ?_
            refine x_icmp_eq_t (tgt := 79) X.1 X.2.1 dX5_givesTwos_74 (by decide) (by rw [cpF_in (Nat.zero_le _) (by omega), cpF_ne n1516, Nat.sub_zero, hA9 _ n1516, hA9 _ (hpb _ h), ← hA _ _ h (by omega), ← Nat.add_assoc, e9]) ?_
            refine lv_iinc (v := nI (k43 + 1)) (lv' := [(5, .int (nI (k43 + 1))), (0, .ref (ad 2 0)), (1, .int (nI (M))), (2, .int (nI (dn))), (3, .int (nI (k))), (4, .int (nI (min 2 (pn (fb 3 pn pt pl).1 - (fb 3 pn pt pl).2))))]) X.1 X.2.1 dX5_givesTwos_79 hl (k := 5) rfl (nI_1 _) (by decide) rfl (fun ls hl => ?_)
            refine lv_goto (tgt := 43) X.1 X.2.1 dX5_givesTwos_82 (by decide) ?_
            exact ih43 (k43 + 1) (by omega) _ _ (hW.eq (rfl) (rfl) (rfl) (rfl)) ls (lv_sub hl [1, 2, 3, 4, 5, 0] rfl)
        exact loop43 ((min 2 (pn (fb 3 pn pt pl).1 - (fb 3 pn pt pl).2)) - (0)) (0) (by omega) _ _ (hW.eq (rfl) (rfl) (rfl) (rfl)) ls (lv_sub hl [2, 3, 4, 5, 1, 0] rfl)
      · have hge : ¬ dn < M := fun z => h ((fb_in (Nat.le_refl 3) ho).mpr (by omega))
        refine lv_iload_n X.1 X.2.1 dX5_givesTwos_4 rfl (lv_at hl 3 rfl) ?_
        refine lv_iload_n X.1 X.2.1 dX5_givesTwos_5 rfl (lv_at hl 1 rfl) ?_
        refine n_icmp_gt_f (tgt := 96) X.1 X.2.1 dX5_givesTwos_6 (by decide) (by omega) (by omega) (by omega) ?_
        refine lv_aload_n X.1 X.2.1 dX5_givesTwos_9 rfl (lv_at hl 0 rfl) ?_
        refine cg_5_stream X hin5 hW (HB.mem lv_2) (HB.kn lv_2 rfl) (HB.rt.2.2.2.2.2.2.2.1) (X.2.2.2.2 (.fieldLink RX5 51 "Strandbook$Trial" "stream" "LStrandbook$JoinedStream;") (List.mem_cons_of_mem _ (List.mem_append_left _ (List.mem_append_left _ (List.mem_append_left _ (List.mem_append_left _ (List.mem_of_getElem? (i := 0) rfl))))))) dX5_givesTwos_10 ?_
        refine lv_aload_n X.1 X.2.1 dX5_givesTwos_13 rfl (lv_at hl 0 rfl) ?_
        refine cg_5_two X hin5 hW (HB.mem lv_2) (HB.kn lv_2 rfl) (HB.rt.2.2.2.2.2.2.1) (X.2.2.2.2 (.fieldLink RX5 45 "Strandbook$Trial" "two" "[B") (List.mem_cons_of_mem _ (List.mem_append_left _ (List.mem_append_left _ (List.mem_append_left _ (List.mem_append_left _ (List.mem_of_getElem? (i := 1) rfl))))))) dX5_givesTwos_14 ?_
        refine lv_iconst (v := nI 0) X.1 X.2.1 dX5_givesTwos_17 (by decide) ?_
        refine lv_iconst (v := nI 2) X.1 X.2.1 dX5_givesTwos_18 (by decide) ?_
        refine cVi X hW (HB.mem (lv_10 (by decide))) (pC_1 (HB.kn (lv_10 (by decide)) rfl)) rfl (ct_jreadSome_e l (ta := ad 16 0) (f := 0) (n := 2) hj hp h) (cwV 3 X.2.2.2.2 gX5_givesTwos_X1_readSome rfl rfl rfl (by decide +kernel) ⟨Nat.le_of_ble_eq_true rfl, Nat.le_of_ble_eq_true rfl⟩) rfl rfl hl.1 (Nat.le_of_ble_eq_true rfl) dX5_givesTwos_19 ⟨Nat.zero_le _, Nat.zero_le _⟩ (fun H locs hW => ?_)
        refine lv_istore (lv' := [(4, .int (-1)), (0, .ref (ad 2 0)), (1, .int (nI (M))), (2, .int (nI (dn))), (3, .int (nI (k)))]) X.1 X.2.1 dX5_givesTwos_22 hl (by decide) rfl (fun ls hl => ?_)
        refine lv_iload X.1 X.2.1 dX5_givesTwos_24 (lv_at hl 0 rfl) ?_
        refine x_if_ge_f (tgt := 40) X.1 X.2.1 dX5_givesTwos_26 (by decide) (by decide) ?_
        refine lv_iload_n X.1 X.2.1 dX5_givesTwos_29 rfl (lv_at hl 3 rfl) ?_
        refine lv_iload_n X.1 X.2.1 dX5_givesTwos_30 rfl (lv_at hl 2 rfl) ?_
        refine n_icmp_ne_f (tgt := 38) X.1 X.2.1 dX5_givesTwos_31 (by decide) (by omega) (by omega) (by omega) ?_
        refine lv_iconst (v := nI 1) X.1 X.2.1 dX5_givesTwos_34 (by decide) ?_
        refine lv_goto (tgt := 39) X.1 X.2.1 dX5_givesTwos_35 (by decide) ?_
        exact hE _ _ _ _ _ _ _ _ _ _ _ _ _ _ (rfl) (show _ ≤ 0 by omega) (show _ ≤ 0 by omega) hW (⟨rfl, rfl, rfl, rfl, rfl, hA9, fun f y hy => (fbI_b hy).trans (hI f y hy)⟩) dX5_givesTwos_39
  refine lv_iconst (v := nI 0) X.1 X.2.1 dX5_givesTwos_0 (by decide) ?_
  refine lv_istore_n (lv' := [(2, .int (nI (0))), (0, .ref (ad 2 0)), (1, .int (nI (M)))]) X.1 X.2.1 dX5_givesTwos_1 rfl hl (by decide) rfl (fun ls hl => ?_)
  refine lv_iconst (v := nI 0) X.1 X.2.1 dX5_givesTwos_2 (by decide) ?_
  refine lv_istore_n (lv' := [(3, .int (nI (0))), (2, .int (nI (0))), (0, .ref (ad 2 0)), (1, .int (nI (M)))]) X.1 X.2.1 dX5_givesTwos_3 rfl hl (by decide) rfl (fun ls hl => ?_)
  exact loop4 M 0 0 I A 0 0 ps (by omega) (Nat.le_refl 0) ⟨Nat.zero_le _, fun _ => Nat.zero_le _, fun _ => rfl⟩ rfl (fun _ _ _ => rfl) (fun _ _ => rfl) hj hps _ _ hW ls (lv_sub hl [2, 3, 1, 0] rfl)
set_option maxHeartbeats 4000000 in
set_option maxRecDepth 100000 in
theorem cr_holdsForRows (l : Launch) {G : va_G} {kT : Nat → ClassId} {L : List Nat} {K : Nat → Nat} {R : pR} {I : pI} {A : mD} {Q : pR} {N : Nat → Nat} {T : mT} {D : mD} {ad : pD} (HB : Rep T D ad L K R I A Q N) {a b d : Nat} (ha : a < 4) (hb : b < 4) (hd : d < 4) : cNi l yX5_holdsForRows wsX5_holdsForRows ({ frames := 3, cells := 0, slots := 0, locals := 72 } : Room) G kT [.ref (ad 2 0), .ref (ad 5 (T 5 a)), .ref (ad 5 (T 5 b)), .ref (ad 5 (T 5 d))] L K R I A Q N 0 0 [] (nI 1) (ΦR T D ad L K N) := by
  refine cstNb (cc := cX5_holdsForRows) (maxL := 6) (ret := (some .boolean)) (by decide) rfl rfl (nI_zb (by decide)) (Nat.le_of_ble_eq_true rfl) (fun p e s m args below meth c Z hE X hni hAO hW ls hl => ?_)
  have X : CallFix p m c cX5_holdsForRows 6 s args wsX5_holdsForRows RX5 := X
  have hl : lv_has ls 6 [(0, .ref (ad 2 0)), (1, .ref (ad 5 (T 5 a))), (2, .ref (ad 5 (T 5 b))), (3, .ref (ad 5 (T 5 d)))] := hl
  have hin0 : ∀ w ∈ wsX00, w ∈ wsX5_holdsForRows := fun w h => List.mem_cons_of_mem _ (List.mem_append_left _ (List.mem_append_left _ (List.mem_append_left _ (List.mem_append_right _ (h)))))
  have hin1 : ∀ w ∈ wsX10, w ∈ wsX5_holdsForRows := fun w h => List.mem_cons_of_mem _ (List.mem_append_left _ (List.mem_append_right _ (h)))
  have hin5 : ∀ w ∈ wsX50, w ∈ wsX5_holdsForRows := fun w h => List.mem_cons_of_mem _ (List.mem_append_left _ (List.mem_append_left _ (List.mem_append_right _ (h))))
  have hB1 := HB.br (uB_row ha)
  have hB2 := HB.br (uB_row hb)
  have hB3 := HB.br (uB_row hd)
  have q1 := hB1.2.2.2.2.2.2
  have q2 := hB2.2.2.2.2.2.2
  have q3 := hB3.2.2.2.2.2.2
  have h1 := HB.mem (lv_10 (T := T) (show 2 < 3 by decide))
  have h2 : K (ad 10 2) = 1 := HB.kn (lv_10 (by decide)) rfl
  have h3 := (HB.rc.2.2.2.2.2.2.2.2.1 2 (by decide)).1
  have h4 := HB.mem (lv_11 (T := T) (show 2 < 3 by decide))
  have h5 : K (ad 11 2) = 10 := HB.kn (lv_11 (by decide)) rfl
  have h6 := (HB.rc.2.2.2.2.2.2.2.2.1 2 (by decide)).2
  have HBt1 := HB.tA (k := 15) (i := 0) (Or.inr ⟨by decide, by decide, rfl⟩) (A2 := (tgA A (ad 15 0) 0 (ad 6 (T 5 a)) (T 4 (T 5 a)))) (fun y hy => cpF_ne hy)
  have HBt2 := HBt1.tA (k := 15) (i := 0) (Or.inr ⟨by decide, by decide, rfl⟩) (A2 := (tgA (tgA A (ad 15 0) 0 (ad 6 (T 5 a)) (T 4 (T 5 a))) (ad 15 0) (0 + T 4 (T 5 a)) (ad 6 (T 5 b)) (T 4 (T 5 b)))) (fun y hy => cpF_ne hy)
  have HBt3 := HBt2.tA (k := 15) (i := 0) (Or.inr ⟨by decide, by decide, rfl⟩) (A2 := (tgA (tgA (tgA A (ad 15 0) 0 (ad 6 (T 5 a)) (T 4 (T 5 a))) (ad 15 0) (0 + T 4 (T 5 a)) (ad 6 (T 5 b)) (T 4 (T 5 b))) (ad 15 0) (0 + T 4 (T 5 a) + T 4 (T 5 b)) (ad 6 (T 5 d)) (T 4 (T 5 d)))) (fun y hy => cpF_ne hy)
  have hT := tog_ok (A := A) (x := ad 15 0) (b1 := ad 6 (T 5 a)) (b2 := ad 6 (T 5 b)) (b3 := ad 6 (T 5 d)) (k1 := T 4 (T 5 a)) (k2 := T 4 (T 5 b)) (k3 := T 4 (T 5 d)) (HB.ne (lv_6 (uB_row ha)) (lv_t (by decide) (by decide)) (Or.inl (by decide))) (HB.ne (lv_6 (uB_row hb)) (lv_t (by decide) (by decide)) (Or.inl (by decide))) (HB.ne (lv_6 (uB_row hd)) (lv_t (by decide) (by decide)) (Or.inl (by decide)))
  have n16 : ∀ k, k < 3 → p3 (ad 6 (T 5 a)) (ad 6 (T 5 b)) (ad 6 (T 5 d)) k ≠ ad 16 0 := fun k hk => match k, hk with | 0, _ => (HB.ne (lv_6 (uB_row ha)) (lv_t (by decide) (by decide)) (Or.inl (by decide))) | 1, _ => (HB.ne (lv_6 (uB_row hb)) (lv_t (by decide) (by decide)) (Or.inl (by decide))) | 2, _ => (HB.ne (lv_6 (uB_row hd)) (lv_t (by decide) (by decide)) (Or.inl (by decide))) | k + 3, h => absurd h (by omega)
  have hx3 : ∀ k i, k < 3 → i < p3 (T 4 (T 5 a)) (T 4 (T 5 b)) (T 4 (T 5 d)) k → vp_nar .byte ((tgA (tgA (tgA A (ad 15 0) 0 (ad 6 (T 5 a)) (T 4 (T 5 a))) (ad 15 0) (0 + T 4 (T 5 a)) (ad 6 (T 5 b)) (T 4 (T 5 b))) (ad 15 0) (0 + T 4 (T 5 a) + T 4 (T 5 b)) (ad 6 (T 5 d)) (T 4 (T 5 d))) (p3 (ad 6 (T 5 a)) (ad 6 (T 5 b)) (ad 6 (T 5 d)) k) i) = (tgA (tgA (tgA A (ad 15 0) 0 (ad 6 (T 5 a)) (T 4 (T 5 a))) (ad 15 0) (0 + T 4 (T 5 a)) (ad 6 (T 5 b)) (T 4 (T 5 b))) (ad 15 0) (0 + T 4 (T 5 a) + T 4 (T 5 b)) (ad 6 (T 5 d)) (T 4 (T 5 d))) (p3 (ad 6 (T 5 a)) (ad 6 (T 5 b)) (ad 6 (T 5 d)) k) i := fun k i hk hi => match k, hk, hi with | 0, _, hi => HBt3.bN (uB_row ha) hi | 1, _, hi => HBt3.bN (uB_row hb) hi | 2, _, hi => HBt3.bN (uB_row hd) hi | k + 3, h, _ => absurd h (by omega)
  have HBj := (HBt3.tQ (Q2 := (u2 (u2 (u2 Q (ad 11 2) 0 (some (ad 5 (T 5 a)))) (ad 11 2) 1 (some (ad 5 (T 5 b)))) (ad 11 2) 2 (some (ad 5 (T 5 d))))) (fun y hy => by rw [u2_ne hy, u2_ne hy, u2_ne hy])).tI (I2 := jI I (ad 10 2) 3 (0 + T 4 (T 5 a) + T 4 (T 5 b) + T 4 (T 5 d))) (Or.inr rfl) (fun f y hy => jI_b hy)
  refine lv_aload_n X.1 X.2.1 dX5_holdsForRows_0 rfl (lv_at hl 0 rfl) ?_
  refine lv_aload_n X.1 X.2.1 dX5_holdsForRows_1 rfl (lv_at hl 1 rfl) ?_
  refine cg_0_bytes X hin0 hW ((HB.br (uB_row ha)).1) ((HB.br (uB_row ha)).2.1) ((HB.br (uB_row ha)).2.2.1) (X.2.2.2.2 (.fieldLink RX5 65 "Strandbook$ByteRow" "bytes" "[B") (List.mem_cons_of_mem _ (List.mem_append_left _ (List.mem_append_left _ (List.mem_append_left _ (List.mem_append_left _ (List.mem_append_left _ (List.mem_of_getElem? (i := 0) rfl)))))))) dX5_holdsForRows_2 ?_
  refine lv_iconst (v := nI 0) X.1 X.2.1 dX5_holdsForRows_5 (by decide) ?_
  refine cVi X hW (HB.mem lv_2) (pC_5 (HB.kn lv_2 rfl)) rfl (ct_putTogether l HB (br := ad 6 (T 5 a)) (n := T 4 (T 5 a)) (f := 0) (HB.ba (uB_row ha)) (HB.ne (lv_6 (uB_row ha)) (lv_t (by decide) (by decide)) (Or.inl (by decide))) (by omega) (fun i hi => HB.bN (uB_row ha) hi)) (cwV 2 X.2.2.2.2 gX5_holdsForRows_X5_putTogether rfl rfl rfl (by decide +kernel) ⟨Nat.le_of_ble_eq_true rfl, Nat.le_of_ble_eq_true rfl⟩) rfl rfl hl.1 (Nat.le_of_ble_eq_true rfl) dX5_holdsForRows_6 ⟨Nat.zero_le _, Nat.zero_le _⟩ (fun H locs hW => ?_)
  refine lv_istore (lv' := [(4, .int (nI (0 + T 4 (T 5 a)))), (0, .ref (ad 2 0)), (1, .ref (ad 5 (T 5 a))), (2, .ref (ad 5 (T 5 b))), (3, .ref (ad 5 (T 5 d)))]) X.1 X.2.1 dX5_holdsForRows_9 hl (by decide) rfl (fun ls hl => ?_)
  refine lv_aload_n X.1 X.2.1 dX5_holdsForRows_11 rfl (lv_at hl 1 rfl) ?_
  refine lv_aload_n X.1 X.2.1 dX5_holdsForRows_12 rfl (lv_at hl 3 rfl) ?_
  refine cg_0_bytes X hin0 hW ((HB.br (uB_row hb)).1) ((HB.br (uB_row hb)).2.1) ((HB.br (uB_row hb)).2.2.1) (X.2.2.2.2 (.fieldLink RX5 65 "Strandbook$ByteRow" "bytes" "[B") (List.mem_cons_of_mem _ (List.mem_append_left _ (List.mem_append_left _ (List.mem_append_left _ (List.mem_append_left _ (List.mem_append_left _ (List.mem_of_getElem? (i := 0) rfl)))))))) dX5_holdsForRows_13 ?_
  refine lv_iload X.1 X.2.1 dX5_holdsForRows_16 (lv_at hl 0 rfl) ?_
  refine cVi X hW (HB.mem lv_2) (pC_5 (HB.kn lv_2 rfl)) rfl (ct_putTogether l HBt1 (br := ad 6 (T 5 b)) (n := T 4 (T 5 b)) (f := 0 + T 4 (T 5 a)) (HB.ba (uB_row hb)) (HB.ne (lv_6 (uB_row hb)) (lv_t (by decide) (by decide)) (Or.inl (by decide))) (by omega) (fun i hi => HBt1.bN (uB_row hb) hi)) (cwV 2 X.2.2.2.2 gX5_holdsForRows_X5_putTogether rfl rfl rfl (by decide +kernel) ⟨Nat.le_of_ble_eq_true rfl, Nat.le_of_ble_eq_true rfl⟩) rfl rfl hl.1 (Nat.le_of_ble_eq_true rfl) dX5_holdsForRows_18 ⟨Nat.zero_le _, Nat.zero_le _⟩ (fun H locs hW => ?_)
  refine lv_istore (lv' := [(4, .int (nI (0 + T 4 (T 5 a) + T 4 (T 5 b)))), (0, .ref (ad 2 0)), (1, .ref (ad 5 (T 5 a))), (2, .ref (ad 5 (T 5 b))), (3, .ref (ad 5 (T 5 d)))]) X.1 X.2.1 dX5_holdsForRows_21 hl (by decide) rfl (fun ls hl => ?_)
  refine lv_aload_n X.1 X.2.1 dX5_holdsForRows_23 rfl (lv_at hl 1 rfl) ?_
  refine lv_aload_n X.1 X.2.1 dX5_holdsForRows_24 rfl (lv_at hl 4 rfl) ?_
  refine cg_0_bytes X hin0 hW ((HB.br (uB_row hd)).1) ((HB.br (uB_row hd)).2.1) ((HB.br (uB_row hd)).2.2.1) (X.2.2.2.2 (.fieldLink RX5 65 "Strandbook$ByteRow" "bytes" "[B") (List.mem_cons_of_mem _ (List.mem_append_left _ (List.mem_append_left _ (List.mem_append_left _ (List.mem_append_left _ (List.mem_append_left _ (List.mem_of_getElem? (i := 0) rfl)))))))) dX5_holdsForRows_25 ?_
  refine lv_iload X.1 X.2.1 dX5_holdsForRows_28 (lv_at hl 0 rfl) ?_
  refine cVi X hW (HB.mem lv_2) (pC_5 (HB.kn lv_2 rfl)) rfl (ct_putTogether l HBt2 (br := ad 6 (T 5 d)) (n := T 4 (T 5 d)) (f := 0 + T 4 (T 5 a) + T 4 (T 5 b)) (HB.ba (uB_row hd)) (HB.ne (lv_6 (uB_row hd)) (lv_t (by decide) (by decide)) (Or.inl (by decide))) (by omega) (fun i hi => HBt2.bN (uB_row hd) hi)) (cwV 2 X.2.2.2.2 gX5_holdsForRows_X5_putTogether rfl rfl rfl (by decide +kernel) ⟨Nat.le_of_ble_eq_true rfl, Nat.le_of_ble_eq_true rfl⟩) rfl rfl hl.1 (Nat.le_of_ble_eq_true rfl) dX5_holdsForRows_30 ⟨Nat.zero_le _, Nat.zero_le _⟩ (fun H locs hW => ?_)
  refine lv_istore (lv' := [(4, .int (nI (0 + T 4 (T 5 a) + T 4 (T 5 b) + T 4 (T 5 d)))), (0, .ref (ad 2 0)), (1, .ref (ad 5 (T 5 a))), (2, .ref (ad 5 (T 5 b))), (3, .ref (ad 5 (T 5 d)))]) X.1 X.2.1 dX5_holdsForRows_33 hl (by decide) rfl (fun ls hl => ?_)
  refine lv_aload_n X.1 X.2.1 dX5_holdsForRows_35 rfl (lv_at hl 1 rfl) ?_
  refine cg_5_stream X hin5 hW (HB.mem lv_2) (HB.kn lv_2 rfl) (HB.rt.2.2.2.2.2.2.2.1) (X.2.2.2.2 (.fieldLink RX5 51 "Strandbook$Trial" "stream" "LStrandbook$JoinedStream;") (List.mem_cons_of_mem _ (List.mem_append_left _ (List.mem_append_left _ (List.mem_append_left _ (List.mem_append_left _ (List.mem_append_left _ (List.mem_of_getElem? (i := 1) rfl)))))))) dX5_holdsForRows_36 ?_
  refine lv_aload_n X.1 X.2.1 dX5_holdsForRows_39 rfl (lv_at hl 2 rfl) ?_
  refine lv_aload_n X.1 X.2.1 dX5_holdsForRows_40 rfl (lv_at hl 3 rfl) ?_
  refine lv_aload_n X.1 X.2.1 dX5_holdsForRows_41 rfl (lv_at hl 4 rfl) ?_
  refine cVv X hW (HB.mem (lv_10 (by decide))) (pC_1 (HB.kn (lv_10 (by decide)) rfl)) rfl (ct_joinRows l (th := ad 10 2) (pa := ad 11 2) h1 h2 h3 h4 h5 h6 hB1 hB2 hB3) (cwV 3 X.2.2.2.2 gX5_holdsForRows_X1_joinRows rfl rfl rfl (by decide +kernel) ⟨Nat.le_of_ble_eq_true rfl, Nat.le_of_ble_eq_true rfl⟩) rfl rfl hl.1 (Nat.le_of_ble_eq_true rfl) dX5_holdsForRows_42 ⟨Nat.zero_le _, Nat.zero_le _⟩ (fun H locs hW => ?_)
  refine lv_aload_n X.1 X.2.1 dX5_holdsForRows_45 rfl (lv_at hl 1 rfl) ?_
  refine lv_iload X.1 X.2.1 dX5_holdsForRows_46 (lv_at hl 0 rfl) ?_
  refine cVNi (cs := []) (HB.mem lv_2) (pC_5 (HB.kn lv_2 rfl)) rfl X hW (fun C h => absurd h List.not_mem_nil) (cn_givesOnes l (M := 0 + T 4 (T 5 a) + T 4 (T 5 b) + T 4 (T 5 d)) HBj (pt_ok hB1 hB2 hB3) (js_jI h1 h2 h3 h4 h5 h6 (Nat.le_refl 3)) jI_3 rfl (by omega) hT) (cwV 1 X.2.2.2.2 gX5_holdsForRows_X5_givesOnes rfl rfl rfl (by decide +kernel) ⟨Nat.le_of_ble_eq_true rfl, Nat.le_of_ble_eq_true rfl⟩) rfl rfl hl.1 (Nat.le_of_ble_eq_true rfl) dX5_holdsForRows_48 ⟨(show _ ≤ 0 by omega), (show _ ≤ 0 by omega)⟩ (fun L1 K1 R1 I1 A1 Q1 N1 H locs hW hF1 => ?_)
  obtain ⟨rfl, rfl, rfl, rfl, rfl, rfl, hI1⟩ := hF1
  have HBk := (HBj.tI (I2 := I1) (Or.inr rfl) hI1)
  have HBk := (HBk.tQ (Q2 := (u2 (u2 (u2 (u2 (u2 (u2 Q (ad 11 2) 0 (some (ad 5 (T 5 a)))) (ad 11 2) 1 (some (ad 5 (T 5 b)))) (ad 11 2) 2 (some (ad 5 (T 5 d)))) (ad 11 2) 0 (some (ad 5 (T 5 a)))) (ad 11 2) 1 (some (ad 5 (T 5 b)))) (ad 11 2) 2 (some (ad 5 (T 5 d))))) (fun y hy => by rw [u2_ne hy, u2_ne hy, u2_ne hy])).tI (I2 := jI I1 (ad 10 2) 3 (0 + T 4 (T 5 a) + T 4 (T 5 b) + T 4 (T 5 d))) (Or.inr rfl) (fun f y hy => jI_b hy)
  refine lv_istore (lv' := [(5, .int (nI (1))), (4, .int (nI (0 + T 4 (T 5 a) + T 4 (T 5 b) + T 4 (T 5 d)))), (0, .ref (ad 2 0)), (1, .ref (ad 5 (T 5 a))), (2, .ref (ad 5 (T 5 b))), (3, .ref (ad 5 (T 5 d)))]) X.1 X.2.1 dX5_holdsForRows_51 hl (by decide) rfl (fun ls hl => ?_)
  refine lv_aload_n X.1 X.2.1 dX5_holdsForRows_53 rfl (lv_at hl 2 rfl) ?_
  refine cg_5_stream X hin5 hW (HB.mem lv_2) (HB.kn lv_2 rfl) (HB.rt.2.2.2.2.2.2.2.1) (X.2.2.2.2 (.fieldLink RX5 51 "Strandbook$Trial" "stream" "LStrandbook$JoinedStream;") (List.mem_cons_of_mem _ (List.mem_append_left _ (List.mem_append_left _ (List.mem_append_left _ (List.mem_append_left _ (List.mem_append_left _ (List.mem_of_getElem? (i := 1) rfl)))))))) dX5_holdsForRows_54 ?_
  refine lv_aload_n X.1 X.2.1 dX5_holdsForRows_57 rfl (lv_at hl 3 rfl) ?_
  refine lv_aload_n X.1 X.2.1 dX5_holdsForRows_58 rfl (lv_at hl 4 rfl) ?_
  refine lv_aload_n X.1 X.2.1 dX5_holdsForRows_59 rfl (lv_at hl 5 rfl) ?_
  refine cVv X hW (HB.mem (lv_10 (by decide))) (pC_1 (HB.kn (lv_10 (by decide)) rfl)) rfl (ct_joinRows l (th := ad 10 2) (pa := ad 11 2) h1 h2 h3 h4 h5 h6 hB1 hB2 hB3) (cwV 3 X.2.2.2.2 gX5_holdsForRows_X1_joinRows rfl rfl rfl (by decide +kernel) ⟨Nat.le_of_ble_eq_true rfl, Nat.le_of_ble_eq_true rfl⟩) rfl rfl hl.1 (Nat.le_of_ble_eq_true rfl) dX5_holdsForRows_60 ⟨(show _ ≤ 0 by omega), (show _ ≤ 0 by omega)⟩ (fun H locs hW => ?_)
  refine lv_iload X.1 X.2.1 dX5_holdsForRows_63 (lv_at hl 0 rfl) ?_
  refine n_if_eq_f (tgt := 81) X.1 X.2.1 dX5_holdsForRows_65 (by decide) (by decide) (by omega) ?_
  refine lv_aload_n X.1 X.2.1 dX5_holdsForRows_68 rfl (lv_at hl 2 rfl) ?_
  refine lv_iload X.1 X.2.1 dX5_holdsForRows_69 (lv_at hl 1 rfl) ?_
  refine cVNi (cs := []) (HB.mem lv_2) (pC_5 (HB.kn lv_2 rfl)) rfl X hW (fun C h => absurd h List.not_mem_nil) (cn_givesTwos l (M := 0 + T 4 (T 5 a) + T 4 (T 5 b) + T 4 (T 5 d)) HBk (pt_ok hB1 hB2 hB3) (js_jI h1 h2 h3 h4 h5 h6 (Nat.le_refl 3)) jI_3 rfl (by omega) hT n16 hx3) (cwV 1 X.2.2.2.2 gX5_holdsForRows_X5_givesTwos rfl rfl rfl (by decide +kernel) ⟨Nat.le_of_ble_eq_true rfl, Nat.le_of_ble_eq_true rfl⟩) rfl rfl hl.1 (Nat.le_of_ble_eq_true rfl) dX5_holdsForRows_71 ⟨(show _ ≤ 0 by omega), (show _ ≤ 0 by omega)⟩ (fun L2 K2 R2 I2 A2 Q2 N2 H locs hW hF2 => ?_)
  obtain ⟨rfl, rfl, rfl, rfl, rfl, hA2, hI2⟩ := hF2
  have HBz := (HBk.tA (k := 16) (i := 0) (Or.inr ⟨by decide, by decide, rfl⟩) hA2).tI (Or.inr rfl) hI2
  refine n_if_eq_f (tgt := 81) X.1 X.2.1 dX5_holdsForRows_74 (by decide) (by decide) (by omega) ?_
  refine lv_iconst (v := nI 1) X.1 X.2.1 dX5_holdsForRows_77 (by decide) ?_
  refine lv_goto (tgt := 82) X.1 X.2.1 dX5_holdsForRows_78 (by decide) ?_
  exact hE _ _ _ _ _ _ _ _ _ _ _ _ _ _ (rfl) (show _ ≤ 0 by omega) (show _ ≤ 0 by omega) hW (⟨rfl, rfl, rfl, HBz⟩) dX5_holdsForRows_82
