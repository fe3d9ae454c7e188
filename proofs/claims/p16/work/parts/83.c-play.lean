/-! pure: a call of play, a call of begin -/
theorem play_Z {n fr T N : Nat} {u : zS} {one two : Int32} (h : rdZ n fr T u) (h0 : ¬ u.1 0 = 0) (hN1 : 1 ≤ N) (hN : N ≤ 60) (x1 : X7_needInput_x (nI n) one = 0) (x2 : X7_needInput_x (nI n) two = 0) (i1 : inB n one) (i2 : inB n two) :
    X7_play_x (u.1 1) (nI N) (u.1 0) one two = 0 ∧ ∀ r v1 v2 v3 v4 v5 v6 v7 v8, r = X7_play_r (u.2.1 0) (u.2.1 1) u.2.2.2 (u.1 3) (nI N) (u.1 0) (u.1 8) (u.2.1 6) one (u.1 9) (u.2.1 7) two → X7_play_0_7 (u.2.1 0) (u.2.1 1) u.2.2.2 (u.1 3) (nI N) (u.1 0) (u.1 8) (u.2.1 6) one (u.1 9) (u.2.1 7) two = v1 → X7_play_7_0 (u.2.1 0) (u.2.1 1) u.2.2.2 (u.1 3) (nI N) (u.1 0) (u.1 8) (u.2.1 6) one (u.1 9) (u.2.1 7) two = v2 → X7_play_10_1 (u.2.1 0) (u.2.1 1) u.2.2.2 (u.1 3) (nI N) (u.1 0) (u.1 8) (u.2.1 6) one (u.1 9) (u.2.1 7) two = v3 → X7_play_10_2 (u.2.1 0) (u.2.1 1) u.2.2.2 (u.1 3) (nI N) (u.1 0) (u.1 8) (u.2.1 6) one (u.1 9) (u.2.1 7) two = v4 → X7_play_w3 (u.2.1 0) (u.2.1 1) u.2.2.2 (u.1 3) (nI N) (u.1 0) (u.1 8) (u.2.1 6) one (u.1 9) (u.2.1 7) two = v5 → X7_play_w4 (u.2.1 0) (u.2.1 1) u.2.2.2 (u.1 3) (nI N) (u.1 0) (u.1 8) (u.2.1 6) one (u.1 9) (u.2.1 7) two = v6 → X7_play_w8 (u.2.1 0) (u.2.1 1) u.2.2.2 (u.1 3) (nI N) (u.1 0) (u.1 8) (u.2.1 6) one (u.1 9) (u.2.1 7) two = v7 → X7_play_w9 (u.2.1 0) (u.2.1 1) u.2.2.2 (u.1 3) (nI N) (u.1 0) (u.1 8) (u.2.1 6) one (u.1 9) (u.2.1 7) two = v8 →
    ∃ fr1 : Nat, r = nI fr1 ∧ fr < fr1 ∧ fr1 ≤ fr + N ∧ rdZ n fr1 T ((upd (upd (upd (upd u.1 0 v1) 3 v2) 8 v3) 9 v4), (hfS (hfS (hfS (hfS u.2.1 0 v5) 1 v6) 6 v7) 7 v8), u.2.2.1, u.2.2.2) ∧ (fr1 = fr + N ∨ v1 = 0) ∧ v6 1 ≤ u.2.1 1 1 ∧ ∀ k, k ≤ fr → repZ ((upd (upd (upd (upd u.1 0 v1) 3 v2) 8 v3) 9 v4), (hfS (hfS (hfS (hfS u.2.1 0 v5) 1 v6) 6 v7) 7 v8), u.2.2.1, u.2.2.2) k = repZ u k := by
  obtain ⟨⟨hn, e1, hM, hbit⟩, hfl, hb, hMR, htp, LG, hP⟩ := id h
  constructor
  · unfold X7_play_x
    rw [nW_0 (g := 60) (l := 1) (b := 60) (a := 1) (x := N) rfl rfl rfl hN1 hN (by decide), e1, x1, x2, if_pos rfl, if_pos rfl, if_pos rfl, if_neg h0]
  · intro r v1 v2 v3 v4 v5 v6 v7 v8 er q1 q2 q3 q4 q5 q6 q7 q8
    unfold X7_play_r at er
    unfold X7_play_0_7 at q1
    unfold X7_play_7_0 at q2
    unfold X7_play_10_1 at q3
    unfold X7_play_10_2 at q4
    unfold X7_play_w3 at q5
    unfold X7_play_w4 at q6
    unfold X7_play_w8 at q7
    unfold X7_play_w9 at q8
    obtain ⟨fr1, L1, hL1, hP1, hle, -, hend, hlt, hkeep⟩ := ply_Z hMR i1 i2 hN 60 0 fr LG (u.1 0) (u.1 3) (u.1 8) (u.1 9) (u.2.1 0) (u.2.1 1) (u.2.1 6) (u.2.1 7) (by omega) (by omega) hP
    generalize X7_ply_run u.2.2.2 one two (nI N) 60 0 (u.1 0, u.2.1 0, u.2.1 1, u.1 3, u.2.1 6, u.2.1 7, u.1 8, u.1 9) = Y at hP1 hend hkeep er q1 q2 q3 q4 q5 q6 q7 q8
    obtain ⟨y1, y2, y3, y4, y5, y6, y7, y8⟩ := Y
    have q1 : y1 = v1 := q1
    have q2 : y4 = v2 := q2
    have q3 : y7 = v3 := q3
    have q4 : y8 = v4 := q4
    have q5 : y2 = v5 := q5
    have q6 : y3 = v6 := q6
    have q7 : y5 = v7 := q7
    have q8 : y6 = v8 := q8
    have er : r = y4 := er
    subst q1 q2 q3 q4 q5 q6 q7 q8
    have hP1 : PZ u.2.2.2 n (u.1 4) (u.1 5) (u.1 6) fr1 L1 y1 y4 y7 y8 y2 y3 y5 y6 := hP1
    have hend : fr1 = fr + (N - 0) ∨ y1 = 0 := hend
    have hkeep : ∀ m, m < fr → y5 m = u.2.1 6 m ∧ y6 m = u.2.1 7 m := hkeep
    have hB1 := hP1.2.2.2.2.2
    have hB0 := hP.2.2.2.2.2
    have hfr1 := hP1.2.1
    obtain ⟨LF1, hd1⟩ := hB1
    obtain ⟨LF0, hd0⟩ := hB0
    refine ⟨fr1, er.trans hfr1.1, hlt h0 (by omega), by omega, ⟨⟨hn, e1, hM, hbit⟩, ⟨⟨hd1.2.2.2.2.2.1, hd1.2.2.2.2.2.2.1⟩, hfl.2⟩, hb, hMR, htp, L1, hP1⟩, ?_, ?_, ?_⟩
    · rcases hend with q | q
      · exact Or.inl (by omega)
      · exact Or.inr q
    · obtain ⟨-, a1, a2⟩ := hd1.2.2.2.2.1
      obtain ⟨-, b1, b2⟩ := hd0.2.2.2.2.1
      have hfr0 := hP.2.1.2.1
      have hfr2 := hfr1.2.1
      rw [a2, b2, zi_le, show ((1000 : Int32) - nI L1).toInt = (1000 : Nat) - (L1 : Int) from pk_sub_toInt (a := 1000) (by decide) (by omega), show ((1000 : Int32) - nI LG).toInt = (1000 : Nat) - (LG : Int) from pk_sub_toInt (a := 1000) (by decide) (by omega)]
      omega
    · intro k hk
      exact rep_congr (MV := u.2.2.2) (on := u.2.1 6) (tw := u.2.1 7) (on1 := y5) (tw1 := y6) k (fun m hm => hkeep m (by omega))
/-- what begin takes as given -/
def bgZ (n T : Nat) (u : zS) : Prop := (1 ≤ n ∧ u.1 1 = nI n ∧ mvB n u.2.2.1 ∧ ∀ i k, u.2.2.1 i (11 + k) = 0 ∨ u.2.2.1 i (11 + k) = 1) ∧ flagZ u.2.1 ∧ u.1 0 = 0 ∧ (u.1 7 = 0 ∨ (∃ b, 1 ≤ b ∧ b ≤ T ∧ u.1 7 = nI b) ∧ winZ (u.1 8) (u.1 9) 0 ∧ mtB (u.2.1 0) ∧ mtB (u.2.1 1))
theorem mkZ.bg {n : Nat} {u : zS} (h : mkZ n u) (hn : 1 ≤ n) : bgZ n 0 u := ⟨⟨hn, h.2.1, h.2.2.1, h.2.2.2.1⟩, h.2.2.2.2.1, h.1, Or.inl h.2.2.2.2.2⟩
theorem rdZ.bg {n fr T : Nat} {u : zS} (h : rdZ n fr T u) (h0 : u.1 0 = 0) : bgZ n T u := by
  obtain ⟨a, b, c, -, -, LG, -, -, hw, -, -, LF, hd⟩ := h
  rw [h0] at hw
  exact ⟨a, b, h0, Or.inr ⟨c, hw, hd.1.2.2, hd.2.1.2.2⟩⟩
theorem begin_Z {n T a : Nat} {u : zS} (h : bgZ n T u) (hT : T ≤ 1000) (ha : 20 ≤ a) (hb : a ≤ 300) (he : a % 2 = 0) :
    X7_begin_x (nI a) (u.1 0) = 0 ∧ (u.1 7 = 0 → X7_begin_r (u.1 7) (u.1 8) (u.1 9) = 1) ∧ (∃ b, 1 ≤ b ∧ b ≤ T + 1 ∧ X7_begin_r (u.1 7) (u.1 8) (u.1 9) = nI b) ∧ ∀ v1 v2 v3 v4 v5 v6 v7, X7_begin_j101 (u.2.1 0) (u.1 7) (u.1 8) (u.1 9) = v1 → X7_begin_j119 (u.2.1 1) (u.1 7) (u.1 8) (u.1 9) = v2 → (X7_begin_j67 (u.1 7) (u.1 8) (u.1 9)) + 1 = v3 → X7_begin_j67_1 (u.1 7) (u.1 8) (u.1 9) = v4 → X7_begin_j67_2 (u.1 7) (u.1 8) (u.1 9) = v5 → X7_begin_w2 (u.2.1 0) (nI a) (u.1 7) (u.1 8) (u.1 9) = v6 → X7_begin_w3 (u.2.1 1) (nI a) (u.1 7) (u.1 8) (u.1 9) = v7 →
    rdZ n 0 (T + 1) ((upd (upd (upd (upd (upd (upd (upd (upd (upd u.1 0 1) 2 (u.1 1)) 3 0) 4 (nI a)) 5 v1) 6 v2) 7 v3) 8 v4) 9 v5), (hfS (hfS u.2.1 0 v6) 1 v7), u.2.2.1, (mvN u.2.2.1 u.2.2.2)) ∧ v6 1 = 1000 ∧ v7 1 = 1000 := by
  obtain ⟨⟨hn, e1, hM, hbit⟩, hfl, h0, hst⟩ := h
  -- what the set ahead leaves
  have hj : (∃ b, b ≤ T ∧ X7_begin_j67 (u.1 7) (u.1 8) (u.1 9) = nI b) ∧ winZ (X7_begin_j67_1 (u.1 7) (u.1 8) (u.1 9)) (X7_begin_j67_2 (u.1 7) (u.1 8) (u.1 9)) 1 ∧ (∃ m, m ≤ 100 ∧ X7_begin_j101 (u.2.1 0) (u.1 7) (u.1 8) (u.1 9) = nI m) ∧ (∃ m, m ≤ 100 ∧ X7_begin_j119 (u.2.1 1) (u.1 7) (u.1 8) (u.1 9) = nI m) ∧ (u.1 7 = 0 → X7_begin_j67 (u.1 7) (u.1 8) (u.1 9) = 0) := by
    unfold X7_begin_j67 X7_begin_j67_1 X7_begin_j67_2 X7_begin_j101 X7_begin_j119
    by_cases c : X7_begin_j55 (u.1 7) (u.1 8) (u.1 9) = 0
    · rw [if_pos c, if_pos c, if_pos c, if_pos c, if_pos c]
      have c7 : ¬ u.1 7 = 0 := by
        intro q
        unfold X7_begin_j55 at c
        rw [if_pos q] at c
        exact absurd c (by decide)
      obtain ⟨⟨b, hb1, hb2, eb⟩, hw, m1, m2⟩ := hst.resolve_left c7
      have cw : X0_wonBy_r (u.1 8) (u.1 9) = -1 := by
        unfold X7_begin_j55 at c
        rw [if_neg c7] at c
        by_cases q : X0_wonBy_r (u.1 8) (u.1 9) = -1
        · exact q
        · rw [if_neg q] at c
          exact absurd c (by decide)
      obtain ⟨k1, k2⟩ := (win_facts hw).2.2.1 cw
      refine ⟨⟨b, hb2, eb⟩, Or.inl ?_, m1, m2, fun q => absurd q c7⟩
      rcases hw with ⟨a, b⟩ | ⟨a, -⟩ | ⟨-, a, -⟩
      · exact ⟨a, b⟩
      · rw [a] at k1; exact absurd k1 (by decide)
      · rw [a] at k2; exact absurd k2 (by decide)
    · rw [if_neg c, if_neg c, if_neg c, if_neg c, if_neg c]
      exact ⟨⟨0, by omega, rfl⟩, Or.inl ⟨Or.inl rfl, Or.inl rfl⟩, ⟨0, by omega, rfl⟩, ⟨0, by omega, rfl⟩, fun _ => rfl⟩
  obtain ⟨⟨b, hb2, eb⟩, hw, m1, m2, hz⟩ := hj
  have ed : nI a - nI a / 2 * 2 = nI (a % 2) := by rw [show (2 : Int32) = nI 2 from rfl]; exact pk_rem (by omega) (by omega) (by omega)
  refine ⟨?_, ?_, ⟨b + 1, by omega, by omega, ?_⟩, ?_⟩
  · unfold X7_begin_x X7_needNoRound_x
    rw [nW_0 (g := 300) (l := 20) (b := 300) (a := 20) (x := a) rfl rfl rfl ha hb (by decide), if_pos rfl, ed, he, h0]
    rfl
  · intro q
    unfold X7_begin_r
    rw [hz q]
    rfl
  · unfold X7_begin_r
    rw [eb, nI_1]
  · intro v1 v2 v3 v4 v5 v6 v7 q1 q2 q3 q4 q5 q6 q7
    obtain ⟨x, hx, ex⟩ := m1
    obtain ⟨y, hy, ey⟩ := m2
    rw [q1] at ex
    rw [q2] at ey
    rw [eb, nI_1] at q3
    rw [q4, q5] at hw
    unfold X7_begin_w2 X6_prepare_w2 at q6
    unfold X7_begin_w3 X6_prepare_w3 at q7
    rw [q1] at q6
    rw [q2] at q7
    have hMR : mvB n (mvN u.2.2.1 u.2.2.2) := by
      have h6 := hM.1
      refine ⟨h6, fun i hi => ?_, fun i hi k hk => ?_⟩
      · unfold mvN
        rw [if_neg (by omega)]
        exact hM.2.1 i hi
      · unfold mvN
        rw [if_neg (by omega)]
        exact hM.2.2 i hi k hk
    have hd := prep_B (n := n) (P := u.2.1 0) (Q := u.2.1 1) (ap := nI a) rfl ha hb he ex hx ey hy hfl.1.1 hfl.1.2
    rw [q6, q7] at hd
    have hdz : duelZ (mvN u.2.2.1 u.2.2.2) (u.2.1 6) (u.2.1 7) (nI a) v1 v2 0 v6 v7 := ⟨u.2.1 0, u.2.1 1, hfl.1.1, hfl.1.2, by rw [rep]; exact q6.symm, by rw [rep]; exact q7.symm⟩
    refine ⟨⟨⟨hn, e1, hM, hbit⟩, ⟨⟨hd.2.2.2.2.2.1, hd.2.2.2.2.2.2.1⟩, hfl.2⟩, ⟨b + 1, by omega, by omega, q3.symm⟩, hMR, ⟨a, x, y, rfl, ha, hb, he, ex, hx, ey, hy⟩, 0, Or.inr rfl, ⟨rfl, by omega, fun _ => by omega⟩, hw, hdz, fun m hm => by omega, 0, hd⟩, ?_, ?_⟩
    · rw [← q6]; rfl
    · rw [← q7]; rfl
