/-! answers and states side by side -/
section RP4
variable {T : mT} {D : mD} {ad : pD} {L : List Nat} {K : pN} {R : pR} {I : pI} {A : mD} {Q : pR} {N : pN}
theorem Rep.keepA (HB : Rep T D ad L K R I A Q N) {A2 : mD} (h : ∀ k i, lv T k i → A2 (ad k i) = A (ad k i)) : Rep T D ad L K R I A2 Q N :=
  ⟨HB.1, HB.2.1, HB.2.2.1, fun z hz => ⟨(HB.rs z hz).1, (HB.rs z hz).2.1, fun j hj => by rw [h 4 z (lv_4 hz)]; exact (HB.rs z hz).2.2 j hj⟩, fun z hz => ⟨(HB.rb z hz).1, (HB.rb z hz).2.1, fun j hj => by rw [h 6 z (lv_6 hz)]; exact (HB.rb z hz).2.2 j hj⟩, ⟨fun w hw => ⟨(HB.rw.1 w hw).1, fun j hj => by rw [h 8 w (lv_8 (by omega))]; exact (HB.rw.1 w hw).2 j hj⟩, HB.rw.2⟩, HB.rr, HB.rj, HB.mi, HB.md⟩
theorem nar_b (x : Int32) : (x.toInt8.toInt32).toInt8.toInt32 = x.toInt8.toInt32 := by
  have h := pk_vb x
  rw [vp_nar_byte] at h
  exact h
theorem it_no {j r : Nat} : ∀ n, itN T j r n ≠ 1 → ∀ k, k < n → T 14 (3 * j + k) ≠ T 5 r + 1
  | 0, _, k, hk => absurd hk (Nat.not_lt_zero k)
  | n + 1, h, k, hk => by
    rw [itN] at h
    by_cases e : T 14 (3 * j + n) = T 5 r + 1
    · rw [if_pos e] at h; exact absurd rfl h
    · rw [if_neg e] at h
      by_cases q : k = n
      · rw [q]; exact e
      · exact it_no n h k (by omega)
theorem it_ex {j r : Nat} : ∀ n, itN T j r n = 1 → ∃ k0, k0 < n ∧ T 14 (3 * j + k0) = T 5 r + 1 ∧ ∀ k, k < k0 → T 14 (3 * j + k) ≠ T 5 r + 1
  | 0, h => absurd (show 0 = 1 from h) (by decide)
  | n + 1, h => by
    by_cases g : itN T j r n = 1
    · obtain ⟨k0, g1, g2⟩ := it_ex n g
      exact ⟨k0, by omega, g2⟩
    · rw [itN] at h
      by_cases e : T 14 (3 * j + n) = T 5 r + 1
      · exact ⟨n, by omega, e, it_no n g⟩
      · rw [if_neg e] at h; exact absurd h g
theorem Rep.here (HB : Rep T D ad L K R I A Q N) {j pl : Nat} (hj : j < 2) (hjs : isJS L K R I N (ad 10 j) (ad 11 j) (T 13 j) (T 16 j) pl) (hx : (fb (T 13 j) (fun k => T 4 (T 14 (3 * j + k) - 1)) (T 16 j) pl).1 < T 13 j) : (fb (T 13 j) (fun k => T 4 (T 14 (3 * j + k) - 1)) (T 16 j) pl).2 < T 4 (T 14 (3 * j + (fb (T 13 j) (fun k => T 4 (T 14 (3 * j + k) - 1)) (T 16 j) pl).1) - 1) := fb_lt hjs.2.2.2.2.2.2.2.2.2.1 hx
theorem Rep.gt (HB : Rep T D ad L K R I A Q N) {j pl i : Nat} (hj : j < 2) (hpl : T 16 j < T 13 j → pl = T 15 (3 * j + T 16 j)) (hx : (fb (T 13 j) (fun k => T 4 (T 14 (3 * j + k) - 1)) (T 16 j) pl).1 < T 13 j) (hi : (fb (T 13 j) (fun k => T 4 (T 14 (3 * j + k) - 1)) (T 16 j) pl).2 + i < T 4 (T 14 (3 * j + (fb (T 13 j) (fun k => T 4 (T 14 (3 * j + k) - 1)) (T 16 j) pl).1) - 1)) : A (ad 6 (T 14 (3 * j + (fb (T 13 j) (fun k => T 4 (T 14 (3 * j + k) - 1)) (T 16 j) pl).1) - 1)) ((fb (T 13 j) (fun k => T 4 (T 14 (3 * j + k) - 1)) (T 16 j) pl).2 + i) = npF (wnT T j) D j i := by
  obtain ⟨f1, f2, f3, f4⟩ := HB.fbw hj hpl
  have e14 : wnT T j 14 = T 14 := wnT_k (by decide)
  have e15 : wnT T j 15 = T 15 := wnT_k (by decide)
  rw [HB.bA (HB.up hj hx) hi, npF, e14, e15, f1, f2 (by omega)]
theorem Rep.lf (HB : Rep T D ad L K R I A Q N) {j pl : Nat} (hj : j < 2) (hpl : T 16 j < T 13 j → pl = T 15 (3 * j + T 16 j)) (hx : (fb (T 13 j) (fun k => T 4 (T 14 (3 * j + k) - 1)) (T 16 j) pl).1 < T 13 j) : T 4 (T 14 (3 * j + (fb (T 13 j) (fun k => T 4 (T 14 (3 * j + k) - 1)) (T 16 j) pl).1) - 1) - (fb (T 13 j) (fun k => T 4 (T 14 (3 * j + k) - 1)) (T 16 j) pl).2 = lfN (wnT T j) j := by
  obtain ⟨f1, f2, f3, f4⟩ := HB.fbw hj hpl
  have e14 : wnT T j 14 = T 14 := wnT_k (by decide)
  have e15 : wnT T j 15 = T 15 := wnT_k (by decide)
  have e13 : wnT T j 13 = T 13 := wnT_k (by decide)
  have e4 : wnT T j 4 = T 4 := wnT_k (by decide)
  rw [lfN_at (by rw [e13]; omega), e14, e15, e4, f1, f2 (by omega)]
theorem gn_k {j n f : Nat} (h : f ≠ 15) (h2 : f ≠ 16) (h3 : f ≠ 18) : gnT (wnT T j) j n f = T f := ((u2_ne h3).trans (u2_ne h)).trans (wnT_k h2)
theorem Rep.passed {j : Nat} (hj : j < 2) : ∀ (M : Nat) (T : mT) (I : pI) (pl : Nat), Rep T D ad L K R I A Q N → (T 16 j < T 13 j → pl = T 15 (3 * j + T 16 j)) → pl ≤ 64 → I 2 (ad 10 j) = nI pl →
    (gqF (T 13 j) (fun k => T 4 (T 14 (3 * j + k) - 1)) M (T 16 j, pl)).1 = psN j M T ∧ Rep (psT j M T) D ad L K R (jU I (ad 10 j) (gqF (T 13 j) (fun k => T 4 (T 14 (3 * j + k) - 1)) M (T 16 j, pl)).2 (T 18 j + (gqF (T 13 j) (fun k => T 4 (T 14 (3 * j + k) - 1)) M (T 16 j, pl)).1)) A Q N
  | 0, T, I, pl, HB, hpl, hp, h2 => by
    refine ⟨rfl, ?_⟩
    show Rep T D ad L K R (jU I (ad 10 j) (T 16 j, pl) (T 18 j + 0)) A Q N
    have hr := HB.rj j hj
    rw [Nat.add_zero, jU_self hr.2.1 h2 hr.2.2.2.1]
    exact HB
  | M + 1, T, I, pl, HB, hpl, hp, h2 => by
    obtain ⟨f1, f2, f3, f4⟩ := HB.fbw hj hpl
    have e13 : wnT T j 13 = T 13 := wnT_k (by decide)
    have f5 := fb_le (pn := fun k => T 4 (T 14 (3 * j + k) - 1)) (HB.mi.stI hj).2.1 hp
    rw [gqF, psN, psT]
    by_cases hx : (fb (T 13 j) (fun k => T 4 (T 14 (3 * j + k) - 1)) (T 16 j) pl).1 < T 13 j
    · have hw : wnT T j 16 j < wnT T j 13 j := by rw [e13, ← f1]; exact hx
      have hlt := fb_lt (pn := fun k => T 4 (T 14 (3 * j + k) - 1)) (HB.mi.stI hj).le hx
      have g9 := (HB.mi.stI hj).le
      have b9 : T 4 (T 14 (3 * j + (fb (T 13 j) (fun k => T 4 (T 14 (3 * j + k) - 1)) (T 16 j) pl).1) - 1) ≤ 64 := by
        have q1 := (HB.mi.stI hj).2.2 (fb (T 13 j) (fun k => T 4 (T 14 (3 * j + k) - 1)) (T 16 j) pl).1 (by omega)
        have q2 := q1.2.1 hx
        exact HB.mi.bl (by omega)
      have HN := HB.next_n (n := 1) hj hpl hp hx hlt
      have g16 : gnT (wnT T j) j 1 16 j = (fb (T 13 j) (fun k => T 4 (T 14 (3 * j + k) - 1)) (T 16 j) pl).1 := by
        rw [f1]
        exact (congrFun (u2_ne (by decide)) _).trans (congrFun (u2_ne (by decide)) _)
      have g15 : gnT (wnT T j) j 1 15 (3 * j + (fb (T 13 j) (fun k => T 4 (T 14 (3 * j + k) - 1)) (T 16 j) pl).1) = (fb (T 13 j) (fun k => T 4 (T 14 (3 * j + k) - 1)) (T 16 j) pl).2 + 1 := by
        rw [f1, gnT, u2_ne (by decide), u2_eq, f2 (by omega), wnT_k (by decide)]
      have g18 : gnT (wnT T j) j 1 18 j = T 18 j + 1 := by rw [gnT, u2_eq, wnT_k (by decide)]
      have ih := Rep.passed hj M (gnT (wnT T j) j 1) (jU I (ad 10 j) ((fb (T 13 j) (fun k => T 4 (T 14 (3 * j + k) - 1)) (T 16 j) pl).1, (fb (T 13 j) (fun k => T 4 (T 14 (3 * j + k) - 1)) (T 16 j) pl).2 + 1) (T 18 j + 1)) ((fb (T 13 j) (fun k => T 4 (T 14 (3 * j + k) - 1)) (T 16 j) pl).2 + 1) HN (fun _ => by rw [g16, g15]) (by omega) jU_2
      rw [g16, g18, gn_k (by decide) (by decide) (by decide), gn_k (by decide) (by decide) (by decide), gn_k (by decide) (by decide) (by decide)] at ih
      rw [if_pos hx, if_pos hw, if_pos hw]
      obtain ⟨i1, i2⟩ := ih
      rw [jU_jU] at i2
      refine ⟨congrArg (· + 1) i1, ?_⟩
      rw [show ∀ x : Nat, T 18 j + (x + 1) = T 18 j + 1 + x from fun x => by omega]
      exact i2
    · have hw : ¬ wnT T j 16 j < wnT T j 13 j := by rw [e13, ← f1]; exact hx
      rw [if_neg hx, if_neg hw, if_neg hw]
      refine ⟨rfl, ?_⟩
      have h3 := (HB.rj j hj).2.2.2.1
      show Rep (wnT T j) D ad L K R (jU I (ad 10 j) (fb (T 13 j) (fun k => T 4 (T 14 (3 * j + k) - 1)) (T 16 j) pl) (T 18 j + 0)) A Q N
      rw [Nat.add_zero, ← fbI_jU h3]
      exact HB.next_e hj h3 hpl hp
end RP4
