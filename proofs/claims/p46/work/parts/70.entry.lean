/-! the law from its entry: what the tables say -/
theorem vk_Rof {own tx : String} {k : Nat} {A : Array Value} {s : State} (h : (Cond.stringRef own k tx).before A s = true) : ∃ a, vk_R own k tx a s := by
  have h1 := h
  simp only [Cond.before, Cond.holds, Cond.value] at h1
  cases hc : s.vm.findClass own with
  | none => simp [hc] at h1
  | some cur =>
    cases hr : s.resolvedAt? own k with
    | none => simp [hc, hr] at h1
    | some r =>
      cases r with
      | string a =>
        refine ⟨a, vk_R.of h ?_⟩
        have h2 := hr
        simp only [State.resolvedAt?, Option.bind_eq_bind] at h2
        simp only [Term.eval, Option.bind_eq_bind]
        rw [hc] at h2 ⊢
        simp only [Option.bind_some] at h2 ⊢
        cases hk : s.vm.classes[cur]? with
        | none => simp [hk] at h2
        | some kc =>
          simp only [hk, Option.bind_some] at h2 ⊢
          rw [h2]
          rfl
      | _ => simp [hc, hr] at h1
theorem lx_AO {C : String} {s : State} (h : va_AO C s) : ∃ cA : ClassId, ArrOfT s cA (.object C) ∧ va_RA s cA (.object C) := by
  obtain ⟨comp, c, k, h1, h2, h3, h4, h5⟩ := Cond.arrayOver_spec h
  exact ⟨c, fun n z => ⟨(fun k h => by cases h), k, h3, comp, h4⟩, k, comp, h3, h4, h1, h5⟩
theorem lx_AC {ty : FieldType} {args : Array Value} {s : State} (hty : ∀ C : String, ty ≠ .object C) (h : (Cond.arrayClass ty).before args s = true) : ∃ cA : ClassId, ArrOfT s cA ty ∧ va_RA s cA ty := by
  obtain ⟨c, k, comp, h1, h2, h3⟩ := Cond.arrayClass_spec h
  refine ⟨c, fun n z => ⟨(fun k h => by cases h), k, h2, comp, h3⟩, ?_⟩
  cases ty with
  | object C => exact absurd rfl (hty C)
  | _ => exact h1
abbrev lx_T (args : Array Value) (s : State) : Prop := ∀ w ∈ lw_tbl, w.before args s = true

theorem lx_kT {args : Array Value} {s : State} (hts : lx_T args s) : ∃ kT : Nat → ClassId, ∀ (k : Nat) (q : ClassId × FieldType), (ctys kT)[k]? = some q → ArrOfT s q.1 q.2 ∧ va_RA s q.1 q.2 := by
  obtain ⟨k0, h0⟩ := lx_AC (ty := .byte) (s := s) (fun C h => by cases h) (hts (.arrayClass .byte) (by decide +kernel))
  obtain ⟨k1, h1⟩ := lx_AC (ty := .char) (s := s) (fun C h => by cases h) (hts (.arrayClass .char) (by decide +kernel))
  obtain ⟨k2, h2⟩ := lx_AC (ty := .int) (s := s) (fun C h => by cases h) (hts (.arrayClass .int) (by decide +kernel))
  obtain ⟨k4, h4⟩ := lx_AO (s := s) (va_AO.of (C := RX0) (hts (.arrayOver (.object RX0)) (by decide +kernel)))
  obtain ⟨k5, h5⟩ := lx_AO (s := s) (va_AO.of (C := RX1) (hts (.arrayOver (.object RX1)) (by decide +kernel)))
  obtain ⟨k6, h6⟩ := lx_AO (s := s) (va_AO.of (C := RX2) (hts (.arrayOver (.object RX2)) (by decide +kernel)))
  obtain ⟨k7, h7⟩ := lx_AO (s := s) (va_AO.of (C := RX3) (hts (.arrayOver (.object RX3)) (by decide +kernel)))
  obtain ⟨k8, h8⟩ := lx_AO (s := s) (va_AO.of (C := RX4) (hts (.arrayOver (.object RX4)) (by decide +kernel)))
  refine ⟨fun k => match k with | 0 => k0 | 1 => k1 | 4 => k4 | 5 => k5 | 6 => k6 | 7 => k7 | 8 => k8 | _ => k2, fun k q hk => ?_⟩
  match k, hk with
  | 0, hk => cases hk; exact h0
  | 1, hk => cases hk; exact h1
  | 2, hk => cases hk; exact h2
  | 3, hk => cases hk; exact h2
  | 4, hk => cases hk; exact h4
  | 5, hk => cases hk; exact h5
  | 6, hk => cases hk; exact h6
  | 7, hk => cases hk; exact h7
  | 8, hk => cases hk; exact h8
  | 9, hk => cases hk; exact h2
  | 10, hk => cases hk; exact h2
  | k + 11, hk => simp at hk

set_option maxRecDepth 20000 in
theorem lx_G {args : Array Value} {s : State} (hts : lx_T args s) : ∃ G : va_G, ∀ (k : Nat) (q : vw_C), vwCl[k]? = some q → u_Kn s q.1 q.2.1 q.2.2 (G.1 k) (G.2 k) := by
  obtain ⟨c0, i0, h0⟩ := u_known (C := RJ0) (T := TJ0) (N := 2) (n := 4) hts (by decide +kernel) (hts (.instantiable RJ0 4) (by decide +kernel))
  obtain ⟨c1, i1, h1⟩ := u_known (C := RJx00060) (T := TJx00060) (N := 6) (n := 6) hts (by decide +kernel) (hts (.instantiable RJx00060 6) (by decide +kernel))
  obtain ⟨c2, i2, h2⟩ := u_known (C := RX0) (T := TX0) (N := 1) (n := 1) hts wsL_law_w_wsX00 (hts (.instantiable RX0 1) (by decide +kernel))
  obtain ⟨c3, i3, h3⟩ := u_known (C := RX1) (T := TX1) (N := 6) (n := 6) hts wsL_law_w_wsX10 (hts (.instantiable RX1 6) (by decide +kernel))
  obtain ⟨c4, i4, h4⟩ := u_known (C := RX2) (T := TX2) (N := 6) (n := 6) hts wsL_law_w_wsX20 (hts (.instantiable RX2 6) (by decide +kernel))
  obtain ⟨c5, i5, h5⟩ := u_known (C := RX3) (T := TX3) (N := 1) (n := 1) hts wsL_law_w_wsX30 (hts (.instantiable RX3 1) (by decide +kernel))
  obtain ⟨c6, i6, h6⟩ := u_known (C := RX4) (T := TX4) (N := 2) (n := 2) hts wsL_law_w_wsX40 (hts (.instantiable RX4 2) (by decide +kernel))
  obtain ⟨c7, i7, h7⟩ := u_known (C := RX5) (T := TX5) (N := 8) (n := 8) hts wsL_law_w_wsX50 (hts (.instantiable RX5 8) (by decide +kernel))
  obtain ⟨c8, i8, h8⟩ := u_known (C := RX6) (T := TX6) (N := 7) (n := 7) hts wsL_law_w_wsX60 (hts (.instantiable RX6 7) (by decide +kernel))
  refine ⟨(fun k => match k with | 0 => c0 | 1 => c1 | 2 => c2 | 3 => c3 | 4 => c4 | 5 => c5 | 6 => c6 | 7 => c7 | _ => c8, fun k => match k with | 0 => i0 | 1 => i1 | 2 => i2 | 3 => i3 | 4 => i4 | 5 => i5 | 6 => i6 | 7 => i7 | _ => i8), fun k q hk => ?_⟩
  match k, hk with
  | 0, hk => cases hk; exact h0
  | 1, hk => cases hk; exact h1
  | 2, hk => cases hk; exact h2
  | 3, hk => cases hk; exact h3
  | 4, hk => cases hk; exact h4
  | 5, hk => cases hk; exact h5
  | 6, hk => cases hk; exact h6
  | 7, hk => cases hk; exact h7
  | 8, hk => cases hk; exact h8
  | k + 9, hk => simp at hk

theorem lx_E {args : Array Value} {s : State} (hts : lx_T args s) (hgv : (Jvm.Cond.and given_1 narrow_1).before args s = true) : cE (lx_A s) s s.heap := by
  have hs := flat_of_before _ hgv
  have hA : ∀ a : Nat, a < s.heap.size → ¬ lx_A s a := fun a h => Nat.not_le.mpr h
  have m1 : ∀ w ∈ xW, w ∈ lw_tbl := by decide +kernel
  have m2 : ∀ q ∈ xT, Cond.stringRef RX6 q.1 q.2 ∈ lw_tbl := by decide +kernel
  have m3 : ∀ q ∈ xN, Cond.not (.castable q.1 q.2) ∈ flatC (Jvm.Cond.and given_1 narrow_1) := by decide +kernel
  refine ⟨vx_Zqof (hts (.laysStatic Bundle.tN "UNASSIGNED_STACK" Bundle.steD) (by decide +kernel)) (hts (.initialized Bundle.tN) (by decide +kernel)) (hs (.isRef (.static Bundle.tN "UNASSIGNED_STACK" Bundle.steD)) (by decide +kernel)) hA, vx_Zqof (hts (.laysStatic Bundle.tN "SUPPRESSED_SENTINEL" Bundle.listD) (by decide +kernel)) (hts (.initialized Bundle.tN) (by decide +kernel)) (hs (.isRef (.static Bundle.tN "SUPPRESSED_SENTINEL" Bundle.listD)) (by decide +kernel)) hA, fun w hw => va_Nw.of (xW_tab w hw) (hts w (m1 w hw)), fun q hq => vk_Rof (hts _ (m2 q hq)), fun q hq => va_Nc.of (hs _ (m3 q hq))⟩

abbrev lx_CS : List cAx := [.inl RX0, .inl RX1, .inl RX2, .inl RX3, .inl RX4, .inr (RX5, 26, yX2_init), .inr (RX5, 33, yX4_init), .inr (RX5, 50, yX1_init), .inr (RX6, 34, yX4_init), .inr (RX6, 41, yX2_init), .inr (RX6, 48, yX1_init), .inr (RX6, 51, yX5_init)]
theorem lx_O {args : Array Value} {s : State} (hts : lx_T args s) : ∀ C ∈ lx_CS, cAe C s := by
  have a1 : ∀ C ∈ [RX0, RX1, RX2, RX3, RX4], Cond.arrayOver (.object C) ∈ lw_tbl := by decide +kernel
  have a2 : ∀ q ∈ [(RX5, 26, yX2_init), (RX5, 33, yX4_init), (RX5, 50, yX1_init), (RX6, 34, yX4_init), (RX6, 41, yX2_init), (RX6, 48, yX1_init), (RX6, 51, yX5_init)], Cond.methodLinkNest q.1 q.2.1 q.2.2 RX6 ∈ lw_tbl := by decide +kernel
  have b1 : ∀ C ∈ [RX0, RX1, RX2, RX3, RX4], cAe (.inl C) s := fun C hC => va_AO.of (hts _ (a1 C hC))
  have b2 : ∀ q ∈ [(RX5, 26, yX2_init), (RX5, 33, yX4_init), (RX5, 50, yX1_init), (RX6, 34, yX4_init), (RX6, 41, yX2_init), (RX6, 48, yX1_init), (RX6, 51, yX5_init)], cAe (.inr q) s := fun q hq => va_Nw.of rfl (hts _ (a2 q hq))
  intro C hC
  have h9 : C ∈ [RX0, RX1, RX2, RX3, RX4].map (Sum.inl : String → cAx) ++ [(RX5, 26, yX2_init), (RX5, 33, yX4_init), (RX5, 50, yX1_init), (RX6, 34, yX4_init), (RX6, 41, yX2_init), (RX6, 48, yX1_init), (RX6, 51, yX5_init)].map (Sum.inr : (String × Nat × MethodName) → cAx) := hC
  rcases List.mem_append.mp h9 with h | h
  · obtain ⟨c, hc, rfl⟩ := List.mem_map.mp h
    exact b1 c hc
  · obtain ⟨c, hc, rfl⟩ := List.mem_map.mp h
    exact b2 c hc

theorem cW_lt {G : va_G} {kT : Nat → ClassId} {L : List Nat} {K : pN} {R : pR} {I : pI} {A : mD} {Q : pR} {N : pN} {H : Heap} (h : va_P G vwCl (cW kT L K R I A Q N) H) {a : Nat} (ha : a ∈ L) : a < H.size := by
  obtain ⟨k, hk⟩ := cW_get (kT := kT) (K := K) (R := R) (I := I) (A := A) (Q := Q) (N := N) ha rfl
  exact (h k _ hk).lt
set_option maxHeartbeats 4000000 in
set_option maxRecDepth 100000 in
theorem px_run {p : Program} {l : Launch} {e : Env} {s : State} {m : MethodId} {args : Array Value} {below : List Frame} {meth : Method} {c : Code} {Z : State → Prop} {G : va_G} {kT : Nat → ClassId} {b n : Nat} {xs : Nat → Int32} (X : CallFix p m c cL_law 16 s args wsL_law RL) (hts : lx_T args s) (hK : va_K G vwCl (ctys kT) s) (hE : cE (lx_A s) s s.heap) (hAO : ∀ C ∈ lx_CS, cAe C s) (hX : va_X b n xs s s.heap) (hb : b < s.heap.size) (hst : l.stackTraces = false) (hn : n ≤ 260) (hZ : px_Z p l e s m args below meth c Z) (ls : Array Slot) (hl : lv_has ls 16 [(0, .ref b)]) : W p l e room_1 s m args below meth c s.heap [] 0 0 Z (F0 m 0 ls []) := by
  have X0 : CallFix p m c cL_law 16 s args lw_tbl RL := ⟨X.1, X.2.1, X.2.2.1, X.2.2.2.1, hts⟩
  have hW0 : cH G kT [] [] (fun _ => 0) (fun _ _ => none) (fun _ _ => 0) (fun _ _ => 0) (fun _ _ => none) (fun _ => 0) s s.heap [] := ⟨hK, fun k x hx => by simp [cW, va_pl] at hx, List.nodup_nil, fun a h => absurd h List.not_mem_nil, va_S.rf⟩
  refine cnw_6 X0 wsL_law_w_wsX60 hW0 (hts (.classLink RL 12 RX6) (by decide +kernel)) (hts (.instantiable RX6 7) (by decide +kernel)) (hts (.initialized RX6) (by decide +kernel)) (Nat.le_of_ble_eq_true rfl) (Nat.le_of_ble_eq_true rfl) dL_law_0 (fun a0 L1 K1 R1 I1 A1 Q1 N1 H hX1 hn1 hm1 hk1 hr1 hi1 hW => ?_)
  refine lv_dup X.1 X.2.1 dL_law_3 rfl ?_
  refine cINv (cs := lx_CS) X hW hAO (ck_Book l hm1 hk1) (cwI 0 X.2.2.2.2 gL_law_X6_init rfl rfl rfl (hts (.initialized RX6) (by decide +kernel)) (hts (.methodLink RL 105 yX6_init) (by decide +kernel)) (hts (.instanceMethod yX6_init) (by decide +kernel)) rfl (by decide +kernel) ⟨(Nat.le_of_ble_eq_true rfl), (Nat.le_of_ble_eq_true rfl)⟩) rfl rfl hl.1 (Nat.le_of_ble_eq_true rfl) dL_law_4 ⟨(Nat.le_of_ble_eq_true rfl), (Nat.le_of_ble_eq_true rfl)⟩ (fun L K R I A Q N H locs hW hF => ?_)
  obtain ⟨ad, HB, h0⟩ := hF
  refine lv_astore_n (lv' := [(1, .ref a0), (0, .ref b)]) X.1 X.2.1 dL_law_7 rfl hl (by decide) rfl (fun ls hl => ?_)
  obtain ⟨-, hP, hnd, hL0, hS0⟩ := hW
  have hS : va_S (lx_A s) s.heap H locs := ⟨hS0.1, fun q h1 h2 => hS0.2.1 q h1 (fun z => z.elim (fun z => absurd z List.not_mem_nil) (fun z => h2 z)), fun q hq => (hS0.2.2 q hq).elim (fun h => absurd h List.not_mem_nil) id⟩
  have hLs : ∀ a ∈ L, lx_A s a := fun a h => (hL0 a h).elim (fun h => absurd h List.not_mem_nil) id
  have hL1 : ∀ a ∈ L, a < H.size := fun a ha => cW_lt hP ha
  refine lv_bipush (v := nI 40) X.1 X.2.1 dL_law_8 (by decide) ?_
  refine va_newaK (atype := .int) X.1 X.2.1 (hts (.arrayClass .int) (by decide +kernel)) rfl dL_law_10 rfl (by decide) (N := 40) (by decide) (by decide) (Nat.le_of_ble_eq_true rfl) (Nat.le_of_ble_eq_true rfl) rfl (fun H3 c3 x3 z3 k3 hA3 hN3 => ?_)
  obtain rfl : kT 2 = c3 := Option.some.inj ((show s.vm.findClass _ = some (kT 2) from (hK.2 2 _ rfl).2).symm.trans hN3)
  have hS3 := hS.more (by omega) k3
  have hO1 : va_P G vwCl [(H.size, .inl (kT 2, 40, .inl (fun _ => 0)))] H3 := fun k x hx => by
    have hz : k < 1 := (List.getElem?_eq_some_iff.mp hx).1
    obtain rfl : k = 0 := by omega
    cases hx
    exact x3
  have hP3 : va_P G vwCl (cW kT L K R I A Q N) H3 := hP.kept (fun k x hx => k3 x.1 ((hP k x hx).lt))
  suffices hZ3 : W p l e room_1 s m args below meth c H3 locs (0 + 1 + 100 + 1) (0 + 7 + 6000 + 40) Z (F0 m 12 ls (.ref H.size :: [])) from hZ3
  refine lv_astore_n (lv' := [(2, .ref H.size), (1, .ref a0), (0, .ref b)]) X.1 X.2.1 dL_law_12 rfl hl (by decide) rfl (fun ls hl => ?_)
  refine lv_sipush (v := nI 256) X.1 X.2.1 dL_law_13 (by decide) ?_
  refine va_newaK (atype := .int) X.1 X.2.1 (hts (.arrayClass .int) (by decide +kernel)) rfl dL_law_16 rfl (by decide) (N := 256) (by decide) (by decide) (Nat.le_of_ble_eq_true rfl) (Nat.le_of_ble_eq_true rfl) rfl (fun H4 c4 x4 z4 k4 hA4 hN4 => ?_)
  obtain rfl : kT 2 = c4 := Option.some.inj ((show s.vm.findClass _ = some (kT 2) from (hK.2 2 _ rfl).2).symm.trans hN4)
  have hS4 := hS3.more (by omega) k4
  have hO2 : va_P G vwCl [(H3.size, .inl (kT 2, 256, .inl (fun _ => 0)))] H4 := fun k x hx => by
    have hz : k < 1 := (List.getElem?_eq_some_iff.mp hx).1
    obtain rfl : k = 0 := by omega
    cases hx
    exact x4
  have hP4 : va_P G vwCl (cW kT L K R I A Q N) H4 := hP3.kept (fun k x hx => k4 x.1 ((hP3 k x hx).lt))
  have hO14 := hO1.kept (H1 := H4) (fun k x hx => k4 x.1 ((hO1 k x hx).lt))
  suffices hZ4 : W p l e room_1 s m args below meth c H4 locs (0 + 1 + 100 + 1 + 1) (0 + 7 + 6000 + 40 + 256) Z (F0 m 18 ls (.ref H3.size :: [])) from hZ4
  refine lv_astore_n (lv' := [(3, .ref H3.size), (2, .ref H.size), (1, .ref a0), (0, .ref b)]) X.1 X.2.1 dL_law_18 rfl hl (by decide) rfl (fun ls hl => ?_)
  have hz2 : s.heap.size ≤ H.size := hS.1
  have C : px_C l p s m args c G kT H.size H3.size b n xs := ⟨X, hK, hE, hX, hb, hz2, Nat.le_trans hz2 (by omega), by omega, hst, by omega⟩
  exact px_mid (T := T0) (D := D0) (f := fun _ => 0) C ⟨ad, L, K, R, I, A, Q, N, hP4, hnd, fun a ha => ⟨hLs a ha, by have := hL1 a ha; omega, by have := hL1 a ha; omega⟩, HB, h0, hO14, hO2, hS4⟩ (Nat.le_of_ble_eq_true rfl) (Nat.le_of_ble_eq_true rfl) hl hZ
