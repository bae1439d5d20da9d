/-! the law from its entry: what the tables say -/
theorem vk_Rof {own tx : String} {k : Nat} {A : Array Value} {s : State} (h : (Cond.stringRef own k tx).before A s = true) : ∃ a, vk_R own k tx a s := by
  have h1 := h
  simp only [Cond.before, Cond.holds, Cond.value] at h1
  cases hc : s.vm.findClass own with
  | none => simp [hc] at h1
  | some cur =>
    cases hr : s.resolvedAt? own k with
    | none => simp [hc, hr] at h1
    | some r =>
      cases r with
      | string a =>
        refine ⟨a, vk_R.of h ?_⟩
        have h2 := hr
        simp only [State.resolvedAt?, Option.bind_eq_bind] at h2
        simp only [Term.eval, Option.bind_eq_bind]
        rw [hc] at h2 ⊢
        simp only [Option.bind_some] at h2 ⊢
        cases hk : s.vm.classes[cur]? with
        | none => simp [hk] at h2
        | some kc =>
          simp only [hk, Option.bind_some] at h2 ⊢
          rw [h2]
          rfl
      | _ => simp [hc, hr] at h1
theorem lx_AO {C : String} {s : State} (h : va_AO C s) : ∃ cA : ClassId, ArrOfT s cA (.object C) ∧ va_RA s cA (.object C) := by
  obtain ⟨comp, c, k, h1, h2, h3, h4, h5⟩ := Cond.arrayOver_spec h
  exact ⟨c, fun n z => ⟨(fun k h => by cases h), k, h3, comp, h4⟩, k, comp, h3, h4, h1, h5⟩
theorem lx_AC {ty : FieldType} {args : Array Value} {s : State} (hty : ∀ C : String, ty ≠ .object C) (h : (Cond.arrayClass ty).before args s = true) : ∃ cA : ClassId, ArrOfT s cA ty ∧ va_RA s cA ty := by
  obtain ⟨c, k, comp, h1, h2, h3⟩ := Cond.arrayClass_spec h
  refine ⟨c, fun n z => ⟨(fun k h => by cases h), k, h2, comp, h3⟩, ?_⟩
  cases ty with
  | object C => exact absurd rfl (hty C)
  | _ => exact h1
abbrev lx_T (args : Array Value) (s : State) : Prop := ∀ w ∈ lw_tbl, w.before args s = true

theorem lx_kT {args : Array Value} {s : State} (hts : lx_T args s) : ∃ kT : Nat → ClassId, ∀ (k : Nat) (q : ClassId × FieldType), (ctys kT)[k]? = some q → ArrOfT s q.1 q.2 ∧ va_RA s q.1 q.2 := by
  obtain ⟨k0, h0⟩ := lx_AC (ty := .byte) (s := s) (fun C h => by cases h) (hts (.arrayClass .byte) (by decide +kernel))
  obtain ⟨k1, h1⟩ := lx_AC (ty := .char) (s := s) (fun C h => by cases h) (hts (.arrayClass .char) (by decide +kernel))
  obtain ⟨k2, h2⟩ := lx_AC (ty := .int) (s := s) (fun C h => by cases h) (hts (.arrayClass .int) (by decide +kernel))
  obtain ⟨k3, h3⟩ := lx_AC (ty := .boolean) (s := s) (fun C h => by cases h) (hts (.arrayClass .boolean) (by decide +kernel))
  obtain ⟨k4, h4⟩ := lx_AO (s := s) (va_AO.of (C := RX0) (hts (.arrayOver (.object RX0)) (by decide +kernel)))
  obtain ⟨k5, h5⟩ := lx_AO (s := s) (va_AO.of (C := RX1) (hts (.arrayOver (.object RX1)) (by decide +kernel)))
  obtain ⟨k6, h6⟩ := lx_AO (s := s) (va_AO.of (C := RX2) (hts (.arrayOver (.object RX2)) (by decide +kernel)))
  obtain ⟨k7, h7⟩ := lx_AO (s := s) (va_AO.of (C := RX3) (hts (.arrayOver (.object RX3)) (by decide +kernel)))
  obtain ⟨k8, h8⟩ := lx_AO (s := s) (va_AO.of (C := RX4) (hts (.arrayOver (.object RX4)) (by decide +kernel)))
  obtain ⟨k9, h9⟩ := lx_AC (ty := .long) (s := s) (fun C h => by cases h) (hts (.arrayClass .long) (by decide +kernel))
  obtain ⟨k10, h10⟩ := lx_AC (ty := .double) (s := s) (fun C h => by cases h) (hts (.arrayClass .double) (by decide +kernel))
  refine ⟨fun k => match k with | 0 => k0 | 1 => k1 | 2 => k2 | 3 => k3 | 4 => k4 | 5 => k5 | 6 => k6 | 7 => k7 | 8 => k8 | 9 => k9 | _ => k10, fun k q hk => ?_⟩
  match k, hk with
  | 0, hk => cases hk; exact h0
  | 1, hk => cases hk; exact h1
  | 2, hk => cases hk; exact h2
  | 3, hk => cases hk; exact h3
  | 4, hk => cases hk; exact h4
  | 5, hk => cases hk; exact h5
  | 6, hk => cases hk; exact h6
  | 7, hk => cases hk; exact h7
  | 8, hk => cases hk; exact h8
  | 9, hk => cases hk; exact h9
  | 10, hk => cases hk; exact h10
  | k + 11, hk => simp at hk

set_option maxRecDepth 20000 in
theorem lx_G {args : Array Value} {s : State} (hts : lx_T args s) : ∃ G : va_G, ∀ (k : Nat) (q : vw_C), vwCl[k]? = some q → u_Kn s q.1 q.2.1 q.2.2 (G.1 k) (G.2 k) := by
  obtain ⟨c0, i0, h0⟩ := u_known (C := RJ0) (T := TJ0) (N := 2) (n := 4) hts (by decide +kernel) (hts (.instantiable RJ0 4) (by decide +kernel))
  obtain ⟨c1, i1, h1⟩ := u_known (C := RJx00060) (T := TJx00060) (N := 6) (n := 6) hts (by decide +kernel) (hts (.instantiable RJx00060 6) (by decide +kernel))
  obtain ⟨c2, i2, h2⟩ := u_known (C := RX0) (T := TX0) (N := 1) (n := 1) hts wsL_law_w_wsX00 (hts (.instantiable RX0 1) (by decide +kernel))
  obtain ⟨c3, i3, h3⟩ := u_known (C := RX1) (T := TX1) (N := 6) (n := 6) hts wsL_law_w_wsX10 (hts (.instantiable RX1 6) (by decide +kernel))
  obtain ⟨c4, i4, h4⟩ := u_known (C := RX2) (T := TX2) (N := 6) (n := 6) hts wsL_law_w_wsX20 (hts (.instantiable RX2 6) (by decide +kernel))
  obtain ⟨c5, i5, h5⟩ := u_known (C := RX3) (T := TX3) (N := 1) (n := 1) hts wsL_law_w_wsX30 (hts (.instantiable RX3 1) (by decide +kernel))
  obtain ⟨c6, i6, h6⟩ := u_known (C := RX4) (T := TX4) (N := 2) (n := 2) hts wsL_law_w_wsX40 (hts (.instantiable RX4 2) (by decide +kernel))
  obtain ⟨c7, i7, h7⟩ := u_known (C := RX5) (T := TX5) (N := 8) (n := 8) hts wsL_law_w_wsX50 (hts (.instantiable RX5 8) (by decide +kernel))
  obtain ⟨c8, i8, h8⟩ := u_known (C := RX6) (T := TX6) (N := 7) (n := 7) hts wsL_law_w_wsX60 (hts (.instantiable RX6 7) (by decide +kernel))
  obtain ⟨c9, i9, h9⟩ := u_known (C := RX7) (T := TX7) (N := 21) (n := 21) hts wsL_law_w_wsX70 (hts (.instantiable RX7 21) (by decide +kernel))
  refine ⟨(fun k => match k with | 0 => c0 | 1 => c1 | 2 => c2 | 3 => c3 | 4 => c4 | 5 => c5 | 6 => c6 | 7 => c7 | 8 => c8 | _ => c9, fun k => match k with | 0 => i0 | 1 => i1 | 2 => i2 | 3 => i3 | 4 => i4 | 5 => i5 | 6 => i6 | 7 => i7 | 8 => i8 | _ => i9), fun k q hk => ?_⟩
  match k, hk with
  | 0, hk => cases hk; exact h0
  | 1, hk => cases hk; exact h1
  | 2, hk => cases hk; exact h2
  | 3, hk => cases hk; exact h3
  | 4, hk => cases hk; exact h4
  | 5, hk => cases hk; exact h5
  | 6, hk => cases hk; exact h6
  | 7, hk => cases hk; exact h7
  | 8, hk => cases hk; exact h8
  | 9, hk => cases hk; exact h9
  | k + 10, hk => simp at hk

theorem lx_E {args : Array Value} {s : State} (hts : lx_T args s) (hgv : (Jvm.Cond.and given_1 narrow_1).before args s = true) : cE (lx_A s) s s.heap := by
  have hs := flat_of_before _ hgv
  have hA : ∀ a : Nat, a < s.heap.size → ¬ lx_A s a := fun a h => Nat.not_le.mpr h
  have m1 : ∀ w ∈ xW, w ∈ lw_tbl := by decide +kernel
  have m2 : ∀ q ∈ xT, Cond.stringRef RX6 q.1 q.2 ∈ lw_tbl := by decide +kernel
  have m3 : ∀ q ∈ xN, Cond.not (.castable q.1 q.2) ∈ flatC (Jvm.Cond.and given_1 narrow_1) := by decide +kernel
  refine ⟨vx_Zqof (hts (.laysStatic Bundle.tN "UNASSIGNED_STACK" Bundle.steD) (by decide +kernel)) (hts (.initialized Bundle.tN) (by decide +kernel)) (hs (.isRef (.static Bundle.tN "UNASSIGNED_STACK" Bundle.steD)) (by decide +kernel)) hA, vx_Zqof (hts (.laysStatic Bundle.tN "SUPPRESSED_SENTINEL" Bundle.listD) (by decide +kernel)) (hts (.initialized Bundle.tN) (by decide +kernel)) (hs (.isRef (.static Bundle.tN "SUPPRESSED_SENTINEL" Bundle.listD)) (by decide +kernel)) hA, fun w hw => va_Nw.of (xW_tab w hw) (hts w (m1 w hw)), fun q hq => vk_Rof (hts _ (m2 q hq)), fun q hq => va_Nc.of (hs _ (m3 q hq))⟩

abbrev lx_CS : List cAx := [.inl RX0, .inl RX1, .inl RX2, .inl RX3, .inl RX4, .inr (RX5, 26, yX2_init), .inr (RX5, 33, yX4_init), .inr (RX5, 50, yX1_init), .inr (RX6, 34, yX4_init), .inr (RX6, 41, yX2_init), .inr (RX6, 48, yX1_init), .inr (RX6, 51, yX5_init)]
theorem lx_O {args : Array Value} {s : State} (hts : lx_T args s) : ∀ C ∈ lx_CS, cAe C s := by
  have a1 : ∀ C ∈ [RX0, RX1, RX2, RX3, RX4], Cond.arrayOver (.object C) ∈ lw_tbl := by decide +kernel
  have a2 : ∀ q ∈ [(RX5, 26, yX2_init), (RX5, 33, yX4_init), (RX5, 50, yX1_init), (RX6, 34, yX4_init), (RX6, 41, yX2_init), (RX6, 48, yX1_init), (RX6, 51, yX5_init)], Cond.methodLinkNest q.1 q.2.1 q.2.2 RX6 ∈ lw_tbl := by decide +kernel
  have b1 : ∀ C ∈ [RX0, RX1, RX2, RX3, RX4], cAe (.inl C) s := fun C hC => va_AO.of (hts _ (a1 C hC))
  have b2 : ∀ q ∈ [(RX5, 26, yX2_init), (RX5, 33, yX4_init), (RX5, 50, yX1_init), (RX6, 34, yX4_init), (RX6, 41, yX2_init), (RX6, 48, yX1_init), (RX6, 51, yX5_init)], cAe (.inr q) s := fun q hq => va_Nw.of rfl (hts _ (a2 q hq))
  intro C hC
  have h9 : C ∈ [RX0, RX1, RX2, RX3, RX4].map (Sum.inl : String → cAx) ++ [(RX5, 26, yX2_init), (RX5, 33, yX4_init), (RX5, 50, yX1_init), (RX6, 34, yX4_init), (RX6, 41, yX2_init), (RX6, 48, yX1_init), (RX6, 51, yX5_init)].map (Sum.inr : (String × Nat × MethodName) → cAx) := hC
  rcases List.mem_append.mp h9 with h | h
  · obtain ⟨c, hc, rfl⟩ := List.mem_map.mp h
    exact b1 c hc
  · obtain ⟨c, hc, rfl⟩ := List.mem_map.mp h
    exact b2 c hc

set_option maxHeartbeats 4000000 in
set_option maxRecDepth 100000 in
theorem lx_sw {p : Program} {l : Launch} {e : Env} {s : State} {m : MethodId} {args : Array Value} {below : List Frame} {meth : Method} {c : Code} {H : Heap} {locs : List Loc} {cells slots : Nat} {Z : State → Prop} {ls : Array Slot} {G : va_G} {kT : Nat → ClassId} {q : Nat → Nat} {a0 o1 o2 b n : Nat} {xs : Nat → Int32} {T : mT} {D : mD} {th : Int32} {e1 e2 : va_E} (C : lx_C l p s m args c G kT q o1 o2 b n xs) (hW : lx_W G kT q a0 o1 o2 T D T D th e1 e2 s H locs) (hP1 : oL kT False 0 e1) (hP2 : oD kT False 0 e2) {i : Nat} (hi : i + 6 ≤ n) (hn : n ≤ 3072) (hcs : cells + 2 ≤ room_1.cells ∧ slots + 260 ≤ room_1.slots) (hl : lv_has ls 10 (lx_l b a0 (q 0) o1 o2 i)) (hk : lx_K p l e s m args below meth c Z G kT q a0 o1 o2 b cells slots i) : ∀ j : Nat, j < 43 → W p l e room_1 s m args below meth c H locs cells slots Z (F0 m 45 ls [.int (nI j)])
  | 0, _ => lv_tableIn (x := nI 0) (off := 187) (tgt := 232) C.1.1 C.1.2.1 dL_law_45 (by decide) (by decide) (by decide +kernel) (by decide) (lx_c0 C hW hP1 hP2 hi hn hcs hl hk)
  | 1, _ => lv_tableIn (x := nI 1) (off := 255) (tgt := 300) C.1.1 C.1.2.1 dL_law_45 (by decide) (by decide) (by decide +kernel) (by decide) (lx_c1 C hW hP1 hP2 hi hn hcs hl hk)
  | 2, _ => lv_tableIn (x := nI 2) (off := 337) (tgt := 382) C.1.1 C.1.2.1 dL_law_45 (by decide) (by decide) (by decide +kernel) (by decide) (lx_c2 C hW hP1 hP2 hi hn hcs hl hk)
  | 3, _ => lv_tableIn (x := nI 3) (off := 443) (tgt := 488) C.1.1 C.1.2.1 dL_law_45 (by decide) (by decide) (by decide +kernel) (by decide) (lx_c3 C hW hP1 hP2 hi hn hcs hl hk)
  | 4, _ => lv_tableIn (x := nI 4) (off := 511) (tgt := 556) C.1.1 C.1.2.1 dL_law_45 (by decide) (by decide) (by decide +kernel) (by decide) (lx_c4 C hW hP1 hP2 hi hn hcs hl hk)
  | 5, _ => lv_tableIn (x := nI 5) (off := 567) (tgt := 612) C.1.1 C.1.2.1 dL_law_45 (by decide) (by decide) (by decide +kernel) (by decide) (lx_c5 C hW hP1 hP2 hi hn hcs hl hk)
  | 6, _ => lv_tableIn (x := nI 6) (off := 659) (tgt := 704) C.1.1 C.1.2.1 dL_law_45 (by decide) (by decide) (by decide +kernel) (by decide) (lx_c6 C hW hP1 hP2 hi hn hcs hl hk)
  | 7, _ => lv_tableIn (x := nI 7) (off := 739) (tgt := 784) C.1.1 C.1.2.1 dL_law_45 (by decide) (by decide) (by decide +kernel) (by decide) (lx_c7 C hW hP1 hP2 hi hn hcs hl hk)
  | 8, _ => lv_tableIn (x := nI 8) (off := 807) (tgt := 852) C.1.1 C.1.2.1 dL_law_45 (by decide) (by decide) (by decide +kernel) (by decide) (lx_c8 C hW hP1 hP2 hi hn hcs hl hk)
  | 9, _ => lv_tableIn (x := nI 9) (off := 863) (tgt := 908) C.1.1 C.1.2.1 dL_law_45 (by decide) (by decide) (by decide +kernel) (by decide) (lx_c9 C hW hP1 hP2 hi hn hcs hl hk)
  | 10, _ => lv_tableIn (x := nI 10) (off := 931) (tgt := 976) C.1.1 C.1.2.1 dL_law_45 (by decide) (by decide) (by decide +kernel) (by decide) (lx_c10 C hW hP1 hP2 hi hn hcs hl hk)
  | 11, _ => lv_tableIn (x := nI 11) (off := 1023) (tgt := 1068) C.1.1 C.1.2.1 dL_law_45 (by decide) (by decide) (by decide +kernel) (by decide) (lx_c11 C hW hP1 hP2 hi hn hcs hl hk)
  | 12, _ => lv_tableIn (x := nI 12) (off := 1115) (tgt := 1160) C.1.1 C.1.2.1 dL_law_45 (by decide) (by decide) (by decide +kernel) (by decide) (lx_c12 C hW hP1 hP2 hi hn hcs hl hk)
  | 13, _ => lv_tableIn (x := nI 13) (off := 1185) (tgt := 1230) C.1.1 C.1.2.1 dL_law_45 (by decide) (by decide) (by decide +kernel) (by decide) (lx_c13 C hW hP1 hP2 hi hn hcs hl hk)
  | 14, _ => lv_tableIn (x := nI 14) (off := 1241) (tgt := 1286) C.1.1 C.1.2.1 dL_law_45 (by decide) (by decide) (by decide +kernel) (by decide) (lx_c14 C hW hP1 hP2 hi hn hcs hl hk)
  | 15, _ => lv_tableIn (x := nI 15) (off := 1309) (tgt := 1354) C.1.1 C.1.2.1 dL_law_45 (by decide) (by decide) (by decide +kernel) (by decide) (lx_c15 C hW hP1 hP2 hi hn hcs hl hk)
  | 16, _ => lv_tableIn (x := nI 16) (off := 1365) (tgt := 1410) C.1.1 C.1.2.1 dL_law_45 (by decide) (by decide) (by decide +kernel) (by decide) (lx_c16 C hW hP1 hP2 hi hn hcs hl hk)
  | 17, _ => lv_tableIn (x := nI 17) (off := 1433) (tgt := 1478) C.1.1 C.1.2.1 dL_law_45 (by decide) (by decide) (by decide +kernel) (by decide) (lx_c17 C hW hP1 hP2 hi hn hcs hl hk)
  | 18, _ => lv_tableIn (x := nI 18) (off := 1525) (tgt := 1570) C.1.1 C.1.2.1 dL_law_45 (by decide) (by decide) (by decide +kernel) (by decide) (lx_c18 C hW hP1 hP2 hi hn hcs hl hk)
  | 19, _ => lv_tableIn (x := nI 19) (off := 1617) (tgt := 1662) C.1.1 C.1.2.1 dL_law_45 (by decide) (by decide) (by decide +kernel) (by decide) (lx_c19 C hW hP1 hP2 hi hn hcs hl hk)
  | 20, _ => lv_tableIn (x := nI 20) (off := 1687) (tgt := 1732) C.1.1 C.1.2.1 dL_law_45 (by decide) (by decide) (by decide +kernel) (by decide) (lx_c20 C hW hP1 hP2 hi hn hcs hl hk)
  | 21, _ => lv_tableIn (x := nI 21) (off := 1743) (tgt := 1788) C.1.1 C.1.2.1 dL_law_45 (by decide) (by decide) (by decide +kernel) (by decide) (lx_c21 C hW hP1 hP2 hi hn hcs hl hk)
  | 22, _ => lv_tableIn (x := nI 22) (off := 1811) (tgt := 1856) C.1.1 C.1.2.1 dL_law_45 (by decide) (by decide) (by decide +kernel) (by decide) (lx_c22 C hW hP1 hP2 hi hn hcs hl hk)
  | 23, _ => lv_tableIn (x := nI 23) (off := 1879) (tgt := 1924) C.1.1 C.1.2.1 dL_law_45 (by decide) (by decide) (by decide +kernel) (by decide) (lx_c23 C hW hP1 hP2 hi hn hcs hl hk)
  | 24, _ => lv_tableIn (x := nI 24) (off := 1947) (tgt := 1992) C.1.1 C.1.2.1 dL_law_45 (by decide) (by decide) (by decide +kernel) (by decide) (lx_c24 C hW hP1 hP2 hi hn hcs hl hk)
  | 25, _ => lv_tableIn (x := nI 25) (off := 2022) (tgt := 2067) C.1.1 C.1.2.1 dL_law_45 (by decide) (by decide) (by decide +kernel) (by decide) (lx_c25 C hW hP1 hP2 hi hn hcs hl hk)
  | 26, _ => lv_tableIn (x := nI 26) (off := 2114) (tgt := 2159) C.1.1 C.1.2.1 dL_law_45 (by decide) (by decide) (by decide +kernel) (by decide) (lx_c26 C hW hP1 hP2 hi hn hcs hl hk)
  | 27, _ => lv_tableIn (x := nI 27) (off := 2182) (tgt := 2227) C.1.1 C.1.2.1 dL_law_45 (by decide) (by decide) (by decide +kernel) (by decide) (lx_c27 C hW hP1 hP2 hi hn hcs hl hk)
  | 28, _ => lv_tableIn (x := nI 28) (off := 2238) (tgt := 2283) C.1.1 C.1.2.1 dL_law_45 (by decide) (by decide) (by decide +kernel) (by decide) (lx_c28 C hW hP1 hP2 hi hn hcs hl hk)
  | 29, _ => lv_tableIn (x := nI 29) (off := 2294) (tgt := 2339) C.1.1 C.1.2.1 dL_law_45 (by decide) (by decide) (by decide +kernel) (by decide) (lx_c29 C hW hP1 hP2 hi hn hcs hl hk)
  | 30, _ => lv_tableIn (x := nI 30) (off := 2386) (tgt := 2431) C.1.1 C.1.2.1 dL_law_45 (by decide) (by decide) (by decide +kernel) (by decide) (lx_c30 C hW hP1 hP2 hi hn hcs hl hk)
  | 31, _ => lv_tableIn (x := nI 31) (off := 2485) (tgt := 2530) C.1.1 C.1.2.1 dL_law_45 (by decide) (by decide) (by decide +kernel) (by decide) (lx_c31 C hW hP1 hP2 hi hn hcs hl hk)
  | 32, _ => lv_tableIn (x := nI 32) (off := 2553) (tgt := 2598) C.1.1 C.1.2.1 dL_law_45 (by decide) (by decide) (by decide +kernel) (by decide) (lx_c32 C hW hP1 hP2 hi hn hcs hl hk)
  | 33, _ => lv_tableIn (x := nI 33) (off := 2609) (tgt := 2654) C.1.1 C.1.2.1 dL_law_45 (by decide) (by decide) (by decide +kernel) (by decide) (lx_c33 C hW hP1 hP2 hi hn hcs hl hk)
  | 34, _ => lv_tableIn (x := nI 34) (off := 2689) (tgt := 2734) C.1.1 C.1.2.1 dL_law_45 (by decide) (by decide) (by decide +kernel) (by decide) (lx_c34 C hW hP1 hP2 hi hn hcs hl hk)
  | 35, _ => lv_tableIn (x := nI 35) (off := 2809) (tgt := 2854) C.1.1 C.1.2.1 dL_law_45 (by decide) (by decide) (by decide +kernel) (by decide) (lx_c35 C hW hP1 hP2 hi hn hcs hl hk)
  | 36, _ => lv_tableIn (x := nI 36) (off := 2865) (tgt := 2910) C.1.1 C.1.2.1 dL_law_45 (by decide) (by decide) (by decide +kernel) (by decide) (lx_c36 C hW hP1 hP2 hi hn hcs hl hk)
  | 37, _ => lv_tableIn (x := nI 37) (off := 2957) (tgt := 3002) C.1.1 C.1.2.1 dL_law_45 (by decide) (by decide) (by decide +kernel) (by decide) (lx_c37 C hW hP1 hP2 hi hn hcs hl hk)
  | 38, _ => lv_tableIn (x := nI 38) (off := 3056) (tgt := 3101) C.1.1 C.1.2.1 dL_law_45 (by decide) (by decide) (by decide +kernel) (by decide) (lx_c38 C hW hP1 hP2 hi hn hcs hl hk)
  | 39, _ => lv_tableIn (x := nI 39) (off := 3112) (tgt := 3157) C.1.1 C.1.2.1 dL_law_45 (by decide) (by decide) (by decide +kernel) (by decide) (lx_c39 C hW hP1 hP2 hi hn hcs hl hk)
  | 40, _ => lv_tableIn (x := nI 40) (off := 3190) (tgt := 3235) C.1.1 C.1.2.1 dL_law_45 (by decide) (by decide) (by decide +kernel) (by decide) (lx_c40 C hW hP1 hP2 hi hn hcs hl hk)
  | 41, _ => lv_tableIn (x := nI 41) (off := 3231) (tgt := 3276) C.1.1 C.1.2.1 dL_law_45 (by decide) (by decide) (by decide +kernel) (by decide) (lx_c41 C hW hP1 hP2 hi hn hcs hl hk)
  | 42, _ => lv_tableIn (x := nI 42) (off := 3245) (tgt := 3290) C.1.1 C.1.2.1 dL_law_45 (by decide) (by decide) (by decide +kernel) (by decide) (lx_c42 C hW hP1 hP2 hi hn hcs hl hk)
  | j + 43, h => absurd h (by omega)
set_option maxHeartbeats 4000000 in
set_option maxRecDepth 100000 in
theorem lx_loop {p : Program} {l : Launch} {e : Env} {s : State} {m : MethodId} {args : Array Value} {below : List Frame} {meth : Method} {c : Code} {Z : State → Prop} {G : va_G} {kT : Nat → ClassId} {q : Nat → Nat} {a0 o1 o2 b n : Nat} {xs : Nat → Int32} (C : lx_C l p s m args c G kT q o1 o2 b n xs) (hn : n ≤ 3072) (hZ : ∀ (H : Heap) (locs : List Loc) (ls : Array Slot) (cells slots : Nat), va_S (lx_A s) s.heap H locs → cells ≤ 603072 → slots ≤ 7194730 → W p l e room_1 s m args below meth c H locs cells slots Z (F0 m 3310 ls [.int (nI 1)])) :
    ∀ (k i : Nat), n ≤ i + 6 * k + 5 → i ≤ n → ∀ (H : Heap) (locs : List Loc) (cells slots : Nat) (T : mT) (D : mD) (th : Int32) (e1 e2 : va_E), lx_W G kT q a0 o1 o2 T D T D th e1 e2 s H locs → oL kT False 0 e1 → oD kT False 0 e2 → cells ≤ 1000 + i → slots ≤ 20000 + 44 * i → ∀ ls : Array Slot, lv_has ls 10 (lx_l b a0 (q 0) o1 o2 i) → W p l e room_1 s m args below meth c H locs cells slots Z (F0 m 28 ls []) := by
  have hexit : ∀ (i : Nat), n < i + 6 → i ≤ n → ∀ (H : Heap) (locs : List Loc) (cells slots : Nat) (T : mT) (D : mD) (th : Int32) (e1 e2 : va_E), lx_W G kT q a0 o1 o2 T D T D th e1 e2 s H locs → cells ≤ 1000 + i → slots ≤ 20000 + 44 * i → ∀ ls : Array Slot, lv_has ls 10 (lx_l b a0 (q 0) o1 o2 i) → W p l e room_1 s m args below meth c H locs cells slots Z (F0 m 28 ls []) := by
    intro i h6 hi H locs cells slots T D th e1 e2 hW hc hsl ls hl
    refine lv_iload C.1.1 C.1.2.1 dL_law_28 (lv_at hl 5 rfl) ?_
    refine lv_aload_n C.1.1 C.1.2.1 dL_law_30 rfl (lv_at hl 0 rfl) ?_
    refine va_slen C.1.1 C.1.2.1 C.2.2.2.1 C.2.2.2.2.1 (Nat.not_le.mpr C.2.2.2.2.1) hW.S dL_law_31 ?_
    refine lv_bipush (v := nI 6) C.1.1 C.1.2.1 dL_law_32 (by decide) ?_
    refine lv_isub C.1.1 C.1.2.1 dL_law_34 ?_
    refine x_icmp_gt_t (tgt := 3309) C.1.1 C.1.2.1 dL_law_35 (by decide) (nI_sub_lt (by omega) (by decide) (by omega) (by omega)) ?_
    refine lv_iconst (v := nI 1) C.1.1 C.1.2.1 dL_law_3309 (by decide) ?_
    exact hZ H locs ls cells slots hW.S (by omega) (by omega)
  intro k
  induction k with
  | zero =>
    intro i h6 hi H locs cells slots T D th e1 e2 hW hP1 hP2 hc hsl ls hl
    exact hexit i (by omega) hi H locs cells slots T D th e1 e2 hW hc hsl ls hl
  | succ k ih =>
    intro i h6 hi H locs cells slots T D th e1 e2 hW hP1 hP2 hc hsl ls hl
    rcases Nat.lt_or_ge n (i + 6) with h | h
    · exact hexit i h hi H locs cells slots T D th e1 e2 hW hc hsl ls hl
    · have hk : lx_K p l e s m args below meth c Z G kT q a0 o1 o2 b cells slots i := by
        intro H locs cells1 slots1 T D th e1 e2 hW hP1 hP2 hc1 hs1 ls hl
        refine lv_iinc (v := nI (i + 6)) (lv' := [(5, .int (nI (i + 6))), (0, .ref b), (1, .ref a0), (2, .ref (q 0)), (3, .ref o1), (4, .ref o2)]) C.1.1 C.1.2.1 dL_law_3303 hl (k := 5) rfl (nI_add _ 6) (by decide) rfl (fun ls hl => ?_)
        refine lv_goto (tgt := 28) C.1.1 C.1.2.1 dL_law_3306 (by decide) ?_
        exact ih (i + 6) (by omega) (by omega) H locs cells1 slots1 T D th e1 e2 hW hP1 hP2 (by omega) (by omega) ls (lv_sub hl [1, 2, 3, 4, 5, 0] rfl)
      have hcs : cells + 2 ≤ room_1.cells ∧ slots + 260 ≤ room_1.slots := ⟨show cells + 2 ≤ 603072 by omega, show slots + 260 ≤ 7194730 by omega⟩
      refine lv_iload C.1.1 C.1.2.1 dL_law_28 (lv_at hl 5 rfl) ?_
      refine lv_aload_n C.1.1 C.1.2.1 dL_law_30 rfl (lv_at hl 0 rfl) ?_
      refine va_slen C.1.1 C.1.2.1 C.2.2.2.1 C.2.2.2.2.1 (Nat.not_le.mpr C.2.2.2.2.1) hW.S dL_law_31 ?_
      refine lv_bipush (v := nI 6) C.1.1 C.1.2.1 dL_law_32 (by decide) ?_
      refine n_isub (a := n) (b := 6) C.1.1 C.1.2.1 (by omega) dL_law_34 ?_
      refine n_icmp_gt_f (tgt := 3309) C.1.1 C.1.2.1 dL_law_35 (by decide) (by omega) (by omega) (by omega) ?_
      refine lv_aload_n C.1.1 C.1.2.1 dL_law_38 rfl (lv_at hl 0 rfl) ?_
      refine lv_iload C.1.1 C.1.2.1 dL_law_39 (lv_at hl 5 rfl) ?_
      refine lx_sld C hW.S (j := i) (by omega) (by omega) dL_law_41 ?_
      refine lv_bipush (v := nI 63) C.1.1 C.1.2.1 dL_law_42 (by decide) ?_
      refine lv_iand C.1.1 C.1.2.1 dL_law_44 ?_
      obtain ⟨j, hj, hv⟩ := pk_andE (xs i) (m := nI 63) 6 rfl
      rw [hv]
      rcases Nat.lt_or_ge j 43 with h43 | h43
      · exact lx_sw C hW hP1 hP2 h hn hcs hl hk j h43
      · have h9 : (nI j).toInt = (j : Int) := nI_toInt (by omega)
        refine lv_tableOut (x := nI j) (tgt := 3303) C.1.1 C.1.2.1 dL_law_45 (Or.inr (by rw [h9]; omega)) (by decide) ?_
        exact hk H locs cells slots T D th e1 e2 hW hP1 hP2 (by omega) (by omega) ls hl

theorem va_Pl {D : va_G} {cl : List vw_C} {w1 w2 : va_W} {H : Heap} (h : va_P D cl (w1 ++ w2) H) : va_P D cl w1 H := fun k x hx => h k x (by rw [List.getElem?_append_left (List.getElem?_eq_some_iff.mp hx).1]; exact hx)
theorem va_Pr {D : va_G} {cl : List vw_C} {w1 w2 : va_W} {H : Heap} (h : va_P D cl (w1 ++ w2) H) : va_P D cl w2 H := fun k x hx => h (w1.length + k) x (by rw [List.getElem?_append_right (Nat.le_add_right _ _), Nat.add_sub_cancel_left]; exact hx)
theorem cW_lt {G : va_G} {kT : Nat → ClassId} {L : List Nat} {K : pN} {R : pR} {I : pI} {A : mD} {Q : pR} {N : pN} {H : Heap} (h : va_P G vwCl (cW kT L K R I A Q N) H) {a : Nat} (ha : a ∈ L) : a < H.size := by
  obtain ⟨k, hk⟩ := cW_get (kT := kT) (K := K) (R := R) (I := I) (A := A) (Q := Q) (N := N) ha rfl
  exact (h k _ hk).lt
theorem X7_fs : ∀ j, j < 21 → defaultValue (tyX7 j) = vp_V [.null, .null, .null, .null, .null, .null, .null, .null, .null, .null, .null, .null, .null, .null, .null, .null, .null, .null, .null, .null, .int 0] j := fun j hj => by
  rcases (show j = 0 ∨ j = 1 ∨ j = 2 ∨ j = 3 ∨ j = 4 ∨ j = 5 ∨ j = 6 ∨ j = 7 ∨ j = 8 ∨ j = 9 ∨ j = 10 ∨ j = 11 ∨ j = 12 ∨ j = 13 ∨ j = 14 ∨ j = 15 ∨ j = 16 ∨ j = 17 ∨ j = 18 ∨ j = 19 ∨ j = 20 by omega) with rfl | rfl | rfl | rfl | rfl | rfl | rfl | rfl | rfl | rfl | rfl | rfl | rfl | rfl | rfl | rfl | rfl | rfl | rfl | rfl | rfl <;> rfl
set_option maxHeartbeats 4000000 in
set_option maxRecDepth 100000 in
theorem lx_run {p : Program} {l : Launch} {e : Env} {s : State} {m : MethodId} {args : Array Value} {below : List Frame} {meth : Method} {c : Code} {Z : State → Prop} {G : va_G} {kT : Nat → ClassId} {b n : Nat} {xs : Nat → Int32} (X : CallFix p m c cL_law 10 s args wsL_law RL) (hts : lx_T args s) (hK : va_K G vwCl (ctys kT) s) (hE : cE (lx_A s) s s.heap) (hAO : ∀ C ∈ lx_CS, cAe C s) (hX : va_X b n xs s s.heap) (hb : b < s.heap.size) (hst : l.stackTraces = false) (hn : n ≤ 3072) (hZ : ∀ (H : Heap) (locs : List Loc) (ls : Array Slot) (cells slots : Nat), va_S (lx_A s) s.heap H locs → cells ≤ 603072 → slots ≤ 7194730 → W p l e room_1 s m args below meth c H locs cells slots Z (F0 m 3310 ls [.int (nI 1)])) (ls : Array Slot) (hl : lv_has ls 10 [(0, .ref b)]) : W p l e room_1 s m args below meth c s.heap [] 0 0 Z (F0 m 0 ls []) := by
  have X0 : CallFix p m c cL_law 10 s args lw_tbl RL := ⟨X.1, X.2.1, X.2.2.1, X.2.2.2.1, hts⟩
  have hW0 : cH G kT [] [] (fun _ => 0) (fun _ _ => none) (fun _ _ => 0) (fun _ _ => 0) (fun _ _ => none) (fun _ => 0) s s.heap [] := ⟨hK, fun k x hx => by simp [cW, va_pl] at hx, List.nodup_nil, fun a h => absurd h List.not_mem_nil, va_S.rf⟩
  refine cnw_6 X0 wsL_law_w_wsX60 hW0 (hts (.classLink RL 8 RX6) (by decide +kernel)) (hts (.instantiable RX6 7) (by decide +kernel)) (hts (.initialized RX6) (by decide +kernel)) (Nat.le_of_ble_eq_true rfl) (Nat.le_of_ble_eq_true rfl) dL_law_0 (fun a0 L1 K1 R1 I1 A1 Q1 N1 H hX1 hn1 hm1 hk1 hr1 hi1 hW => ?_)
  refine lv_dup X.1 X.2.1 dL_law_3 rfl ?_
  refine cINv (cs := lx_CS) X hW hAO (ck_Book l hm1 hk1) (cwI 0 X.2.2.2.2 gL_law_X6_init rfl rfl rfl (hts (.initialized RX6) (by decide +kernel)) (hts (.methodLink RL 151 yX6_init) (by decide +kernel)) (hts (.instanceMethod yX6_init) (by decide +kernel)) rfl (by decide +kernel) ⟨(Nat.le_of_ble_eq_true rfl), (Nat.le_of_ble_eq_true rfl)⟩) rfl rfl hl.1 (Nat.le_of_ble_eq_true rfl) dL_law_4 ⟨(Nat.le_of_ble_eq_true rfl), (Nat.le_of_ble_eq_true rfl)⟩ (fun L K R I A Q N H locs hW hF => ?_)
  obtain ⟨ad, HB, h0⟩ := hF
  refine lv_astore_n (lv' := [(1, .ref a0), (0, .ref b)]) X.1 X.2.1 dL_law_7 rfl hl (by decide) rfl (fun ls hl => ?_)
  obtain ⟨-, hP, hnd, hL0, hS0⟩ := hW
  have hS : va_S (lx_A s) s.heap H locs := ⟨hS0.1, fun q h1 h2 => hS0.2.1 q h1 (fun z => z.elim (fun z => absurd z List.not_mem_nil) (fun z => h2 z)), fun q hq => (hS0.2.2 q hq).elim (fun h => absurd h List.not_mem_nil) id⟩
  have hLs : ∀ a ∈ L, lx_A s a := fun a h => (hL0 a h).elim (fun h => absurd h List.not_mem_nil) id
  have hD : va_D (lx_A s) (cW kT L K R I A Q N) := cW_D (kT := kT) hnd hLs
  refine va_new (ci := 9) (fs := [.null, .null, .null, .null, .null, .null, .null, .null, .null, .null, .null, .null, .null, .null, .null, .null, .null, .null, .null, .null, .int 0]) (C := RX7) (T := TX7) (N := 21) X.1 X.2.1 hts wsL_law_w_wsX70 tyX7 tyX7_ok X.2.2.2.1 (hts (.classLink RL 152 RX7) (by decide +kernel)) (hts (.instantiable RX7 21) (by decide +kernel)) (hts (.initialized RX7) (by decide +kernel)) hK hP hD hS (fun _ h => h) rfl X7_fs (Nat.le_of_ble_eq_true rfl) (Nat.le_of_ble_eq_true rfl) dL_law_8 (fun q0 H1 hP1 hD1 hS1 => ?_)
  refine lv_dup X.1 X.2.1 dL_law_11 rfl ?_
  have hPp := va_Pl hP1
  have hq0 := va_Pr hP1
  have hlt : q0 < H1.size := (hq0 0 _ rfl).lt
  have hL1 : ∀ a ∈ L, a < H1.size := fun a ha => cW_lt hPp ha
  have hq0s : lx_A s q0 := hD1.2 ((cW kT L K R I A Q N).length + 0) (q0, .inr (9, [.null, .null, .null, .null, .null, .null, .null, .null, .null, .null, .null, .null, .null, .null, .null, .null, .null, .null, .null, .null, .int 0])) (by rw [List.getElem?_append_right (Nat.le_add_right _ _), Nat.add_sub_cancel_left]; rfl)
  have hq0L : ∀ a ∈ L, a ≠ q0 := fun a ha z => by
    obtain ⟨k, hk⟩ := cW_get (kT := kT) (K := K) (R := R) (I := I) (A := A) (Q := Q) (N := N) ha rfl
    have hk9 : k < (cW kT L K R I A Q N).length := (List.getElem?_eq_some_iff.mp hk).1
    have h2 : (cW kT L K R I A Q N ++ [(q0, .inr (9, [.null, .null, .null, .null, .null, .null, .null, .null, .null, .null, .null, .null, .null, .null, .null, .null, .null, .null, .null, .null, .int 0]))])[k]? = some (a, pC kT K R I A Q N a) := by rw [List.getElem?_append_left hk9]; exact hk
    have h3 : (cW kT L K R I A Q N ++ [(q0, .inr (9, [.null, .null, .null, .null, .null, .null, .null, .null, .null, .null, .null, .null, .null, .null, .null, .null, .null, .null, .null, .null, .int 0]))])[(cW kT L K R I A Q N).length + 0]? = some (q0, .inr (9, [.null, .null, .null, .null, .null, .null, .null, .null, .null, .null, .null, .null, .null, .null, .null, .null, .null, .null, .null, .null, .int 0])) := by rw [List.getElem?_append_right (Nat.le_add_right _ _), Nat.add_sub_cancel_left]; rfl
    have h1 := hD1.1 k _ _ _ h2 h3 z
    omega
  have hfr : ∀ a : Nat, (a = q0 ∨ H1.size ≤ a) → lx_A s a := fun a h => h.elim (fun h => h ▸ hq0s) (fun h => Nat.le_trans hS1.1 h)
  refine va_callv (va_runI (As := []) (rest := [.ref q0]) X (mt_init l (cI := kT 2) (cZ := kT 3) H1.size hlt) (cwI 0 X.2.2.2.2 gL_law_X7_init rfl rfl rfl (hts (.initialized RX7) (by decide +kernel)) (hts (.methodLink RL 154 yX7_init) (by decide +kernel)) (hts (.instanceMethod yX7_init) (by decide +kernel)) rfl (by decide +kernel) ⟨(Nat.le_of_ble_eq_true rfl), (Nat.le_of_ble_eq_true rfl)⟩) ⟨fun a U g mk z => by obtain ⟨z0, z1, z2, z3⟩ := z; exact ⟨z0, z1, va_K.moved (u := U) (U := U.calling g mk a) (Vm.Alike.refl U.vm) z2, z3⟩, fun U hU hWm => ⟨rfl, by rw [hU], va_K.moved hWm.alike (mtys_of hK), by rw [hU]; exact hq0⟩⟩ rfl rfl hl.1 rfl (lv_room (Nat.le_of_ble_eq_true rfl)) dL_law_12 ⟨(Nat.le_of_ble_eq_true rfl), (Nat.le_of_ble_eq_true rfl)⟩) hS1 (fun a _ h => hfr a h) hfr (fun q t H2 locs2 ht hvm hw hB hz hk hS2 => ?_)
  obtain ⟨hq9, hJ, hqs, -, hR⟩ := hB
  subst hq9
  rw [ht] at hR
  have hP2 : va_P G vwCl (cW kT L K R I A Q N) H2 := hPp.kept (fun k x hx => hk x.1 ((hPp k x hx).lt) (fun z => z.elim (fun z => hq0L _ (cW_mem hx) z) (fun z => absurd ((hPp k x hx).lt) (Nat.not_lt.mpr z))))
  refine lv_astore_n (lv' := [(2, .ref (q 0)), (1, .ref a0), (0, .ref b)]) X.1 X.2.1 dL_law_15 rfl hl (by decide) rfl (fun ls hl => ?_)
  refine lv_iconst (v := nI 1) X.1 X.2.1 dL_law_16 (by decide) ?_
  refine va_newaK (atype := .long) X.1 X.2.1 (hts (.arrayClass .long) (by decide +kernel)) rfl dL_law_17 rfl (by decide) (N := 1) (by decide) (by decide) (Nat.le_of_ble_eq_true rfl) (Nat.le_of_ble_eq_true rfl) rfl (fun H3 c3 x3 z3 k3 hA3 hN3 => ?_)
  obtain rfl : kT 9 = c3 := Option.some.inj ((show s.vm.findClass _ = some (kT 9) from (hK.2 9 _ rfl).2).symm.trans hN3)
  have hS3 := hS2.more (by omega) k3
  have hO1 : va_P G vwCl [(H2.size, .inl (kT 9, 1, .inr (.inl (fun _ => 0))))] H3 := fun k x hx => by
    have hz : k < 1 := (List.getElem?_eq_some_iff.mp hx).1
    obtain rfl : k = 0 := by omega
    cases hx
    exact x3
  have hP3 : va_P G vwCl (cW kT L K R I A Q N) H3 := hP2.kept (fun k x hx => k3 x.1 ((hP2 k x hx).lt))
  have hR3 := hR.kept (H1 := H3) (fun k x hx => k3 x.1 ((hR k x hx).lt))
  suffices hZ3 : W p l e room_1 s m args below meth c H3 locs2 (0 + 1 + 100 + 1 + 20 + 1) (0 + 7 + 6000 + 21 + 4612 + 1) Z (F0 m 19 ls (.ref H2.size :: [])) from hZ3
  refine lv_astore_n (lv' := [(3, .ref H2.size), (2, .ref (q 0)), (1, .ref a0), (0, .ref b)]) X.1 X.2.1 dL_law_19 rfl hl (by decide) rfl (fun ls hl => ?_)
  refine lv_iconst (v := nI 1) X.1 X.2.1 dL_law_20 (by decide) ?_
  refine va_newaK (atype := .double) X.1 X.2.1 (hts (.arrayClass .double) (by decide +kernel)) rfl dL_law_21 rfl (by decide) (N := 1) (by decide) (by decide) (Nat.le_of_ble_eq_true rfl) (Nat.le_of_ble_eq_true rfl) rfl (fun H4 c4 x4 z4 k4 hA4 hN4 => ?_)
  obtain rfl : kT 10 = c4 := Option.some.inj ((show s.vm.findClass _ = some (kT 10) from (hK.2 10 _ rfl).2).symm.trans hN4)
  have hS4 := hS3.more (by omega) k4
  have hO2 : va_P G vwCl [(H3.size, .inl (kT 10, 1, .inr (.inr (.inr (.inl (fun _ => 0))))))] H4 := fun k x hx => by
    have hz : k < 1 := (List.getElem?_eq_some_iff.mp hx).1
    obtain rfl : k = 0 := by omega
    cases hx
    exact x4
  have hP4 : va_P G vwCl (cW kT L K R I A Q N) H4 := hP3.kept (fun k x hx => k4 x.1 ((hP3 k x hx).lt))
  have hR4 := hR3.kept (H1 := H4) (fun k x hx => k4 x.1 ((hR3 k x hx).lt))
  have hO14 := hO1.kept (H1 := H4) (fun k x hx => k4 x.1 ((hO1 k x hx).lt))
  suffices hZ4 : W p l e room_1 s m args below meth c H4 locs2 (0 + 1 + 100 + 1 + 20 + 1 + 1) (0 + 7 + 6000 + 21 + 4612 + 1 + 1) Z (F0 m 23 ls (.ref H3.size :: [])) from hZ4
  refine lv_astore (lv' := [(4, .ref H3.size), (3, .ref H2.size), (2, .ref (q 0)), (1, .ref a0), (0, .ref b)]) X.1 X.2.1 dL_law_23 hl (by decide) rfl (fun ls hl => ?_)
  refine lv_iconst (v := nI 0) X.1 X.2.1 dL_law_25 (by decide) ?_
  refine lv_istore (lv' := [(5, .int (nI 0)), (4, .ref H3.size), (3, .ref H2.size), (2, .ref (q 0)), (1, .ref a0), (0, .ref b)]) X.1 X.2.1 dL_law_26 hl (by decide) rfl (fun ls hl => ?_)
  have hz2 : s.heap.size ≤ H2.size := hS2.1
  have hqn : ∀ k, k < 21 → lx_A s (q k) ∧ q k < H2.size := fun k hk => ⟨match k, hk with
    | 0, _ => hq0s
    | k + 1, hk => Nat.le_trans hS1.1 (hqs (k + 1) (by omega) hk), mW_lt hR hk⟩
  have hLq : ∀ a ∈ L, ∀ k, k < 21 → a ≠ q k := fun a ha k hk => match k, hk with
    | 0, _ => hq0L a ha
    | k + 1, hk => fun z => absurd (hL1 a ha) (Nat.not_lt.mpr (by rw [z]; exact hqs (k + 1) (by omega) hk))
  have C : lx_C l p s m args c G kT q H2.size H3.size b n xs := ⟨X, hK, hE, hX, hb, hJ, fun k hk => ⟨(hqn k hk).1, by have := (hqn k hk).2; omega, by have := (hqn k hk).2; omega⟩, hz2, Nat.le_trans hz2 (by omega), by omega, hst⟩
  exact lx_loop C hn hZ n 0 (by omega) (Nat.zero_le _) H4 locs2 _ _ T0 D0 0 _ _ ⟨ad, L, K, R, I, A, Q, N, hP4, hnd, fun a ha => ⟨hLs a ha, by have := hL1 a ha; omega, by have := hL1 a ha; omega, hLq a ha⟩, HB, h0, hR4, hO14, hO2, hS4⟩ ⟨_, rfl, fun z => z.elim⟩ ⟨_, rfl, fun z => z.elim⟩ (Nat.le_of_ble_eq_true rfl) (Nat.le_of_ble_eq_true rfl) ls (lv_sub hl [5, 4, 3, 2, 1, 0] rfl)
