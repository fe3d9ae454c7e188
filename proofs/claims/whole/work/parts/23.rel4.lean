/-! a hit, both halves -/

theorem landL {MV : Nat → Nat → Int32} {tb F G sA : Nat → Int32} {cnt i : Nat} {x did count input : Int32} (hT : relT MV tb cnt) (hi : i < cnt) (hx : x = nI i) (hF : rel0L F sA) (hG : rel0R G sA) (f15 : ¬ F 15 = 0) (g15 : G 15 = 0) (hd : G 13 = did) (hc : G 14 = count) (hin : G 11 = input) (h5 : did = 0 ∨ did = 3 → G 5 = -1) :
    rel0L (X1_land_w0 F G MV i) (X8_touch0_w2 tb sA count did input x) ∧ rel0R (X1_land_w1 G MV i) (X8_touch0_w2 tb sA count did input x) ∧ X1_land_w0 F G MV i 7 = 0 ∧ (X1_land_w1 G MV i 3 = 2 ∨ X1_land_w1 G MV i 3 = 3) ∧ (∀ k, k ∉ [0, 2, 7] → X1_land_w0 F G MV i k = F k) ∧ (∀ k, k ∉ [0, 1, 3, 4, 5, 6, 7, 8] → X1_land_w1 G MV i k = G k) := by
  have hm : ∀ k, k < 11 → X8_ofMove_r tb x (nI k) = MV i k := fun k hk => by rw [hx]; exact hT.2.1 i hi k hk
  have m4 : X8_ofMove_r tb x 4 = MV i 4 := hm 4 (by decide)
  have m5 : X8_ofMove_r tb x 5 = MV i 5 := hm 5 (by decide)
  have m6 : X8_ofMove_r tb x 6 = MV i 6 := hm 6 (by decide)
  have m7 : X8_ofMove_r tb x 7 = MV i 7 := hm 7 (by decide)
  have m8 : X8_ofMove_r tb x 8 = MV i 8 := hm 8 (by decide)
  have m10 : X8_ofMove_r tb x 10 = MV i 10 := hm 10 (by decide)
  have ek := blkL_eq (mv := MV i) (input := input) m4
  obtain ⟨e33, e1001, e132⟩ := sufL_eq (MV := MV) (G := G) (i := i) hd hc m5 m6
  obtain ⟨G0, G1, G2, G3, G5, G4, G9, G10, G6, G8⟩ := hG
  obtain ⟨F0, F1, F2, F3, F5, F4, F9, F10, F6, F8⟩ := hF
  -- what the other one is behind the hit, ahead of its going back
  have key : rel0R (X1_land_j30 G MV i) (upd (X8_touch0_j301 tb sA count did input x) 15 (-1)) ∧ (X1_land_j30 G MV i 3 = 2 ∨ X1_land_j30 G MV i 3 = 3) ∧ (∀ k, k ∉ [1, 3, 4, 5, 6, 7, 8] → X1_land_j30 G MV i k = G k) ∧ (∀ k, k ∉ [2, 12, 14, 15, 16, 17] → upd (X8_touch0_j301 tb sA count did input x) 15 (-1) k = sA k) ∧ upd (X8_touch0_j301 tb sA count did input x) 15 (-1) 2 = X8_touch0_j53 tb sA x := by
    have hit : X2_blocks_r G (MV i) = 0 → X8_touch0_j301 tb sA count did input x = (upd (upd (upd (upd (upd sA 2 (X8_touch0_j53 tb sA x)) 12 ((sA 12) - (X8_touch0_j257 tb count did x))) 14 2) 16 (X8_touch0_j288 tb count did x)) 17 (X8_touch0_j173 count did)) → rel0R (X1_land_j30 G MV i) (upd (X8_touch0_j301 tb sA count did input x) 15 (-1)) ∧ (X1_land_j30 G MV i 3 = 2 ∨ X1_land_j30 G MV i 3 = 3) ∧ (∀ k, k ∉ [1, 3, 4, 5, 6, 7, 8] → X1_land_j30 G MV i k = G k) ∧ (∀ k, k ∉ [2, 12, 14, 15, 16, 17] → upd (X8_touch0_j301 tb sA count did input x) 15 (-1) k = sA k) ∧ upd (X8_touch0_j301 tb sA count did input x) 15 (-1) 2 = X8_touch0_j53 tb sA x := by
      intro hb hj
      have ej : X1_land_j30 G MV i = X2_suffer_w0 G MV i := by unfold X1_land_j30; rw [if_pos hb]
      rw [ej, hj]
      refine ⟨⟨G0, ?_, G2, rfl, rfl, e33, G9, G10, fun q => absurd (show (2 : Int32) = 1 from q) (by decide), fun _ => e132⟩, Or.inl rfl, ?_, ?_, rfl⟩
      · show G 1 - X2_suffer_j100_1 G MV i = sA 12 - X8_touch0_j257 tb count did x
        rw [G1, e1001]
      · intro k hk
        simp only [List.mem_cons, List.not_mem_nil, or_false, not_or] at hk
        obtain ⟨k1, k3, k4, k5, k6, k7, k8⟩ := hk
        simp [X2_suffer_w0, X2_leaveMove_w0, upd, k1, k3, k4, k5, k6, k7, k8]
      · intro k hk
        simp only [List.mem_cons, List.not_mem_nil, or_false, not_or] at hk
        obtain ⟨k1, k3, k4, k5, k6, k7⟩ := hk
        simp [upd, k1, k3, k4, k5, k6, k7]
    have blo : ¬ X2_blocks_r G (MV i) = 0 → G 5 = -1 → X8_touch0_j301 tb sA count did input x = (upd (upd (upd (upd sA 2 (X8_touch0_j53 tb sA x)) 12 ((sA 12) - ((X8_ofMove_r tb x 5) / 10))) 14 3) 16 (X8_ofMove_r tb x 7)) → rel0R (X1_land_j30 G MV i) (upd (X8_touch0_j301 tb sA count did input x) 15 (-1)) ∧ (X1_land_j30 G MV i 3 = 2 ∨ X1_land_j30 G MV i 3 = 3) ∧ (∀ k, k ∉ [1, 3, 4, 5, 6, 7, 8] → X1_land_j30 G MV i k = G k) ∧ (∀ k, k ∉ [2, 12, 14, 15, 16, 17] → upd (X8_touch0_j301 tb sA count did input x) 15 (-1) k = sA k) ∧ upd (X8_touch0_j301 tb sA count did input x) 15 (-1) 2 = X8_touch0_j53 tb sA x := by
      intro hb g5 hj
      have ej : X1_land_j30 G MV i = X2_block_w0 G MV i := by unfold X1_land_j30; rw [if_neg hb]
      rw [ej, hj]
      refine ⟨⟨G0, ?_, G2, rfl, g5, G4, G9, G10, fun q => absurd (show (3 : Int32) = 1 from q) (by decide), fun _ => ?_⟩, Or.inr rfl, ?_, ?_, rfl⟩
      · show G 1 - (MV i 5) / 10 = sA 12 - (X8_ofMove_r tb x 5) / 10
        rw [G1, m5]
      · show MV i 7 = X8_ofMove_r tb x 7
        rw [m7]
      · intro k hk
        simp only [List.mem_cons, List.not_mem_nil, or_false, not_or] at hk
        obtain ⟨k1, k3, k4, k5, k6, k7, k8⟩ := hk
        simp [X2_block_w0, upd, k1, k3, k8]
      · intro k hk
        simp only [List.mem_cons, List.not_mem_nil, or_false, not_or] at hk
        obtain ⟨k1, k3, k4, k5, k6, k7⟩ := hk
        simp [upd, k1, k3, k4, k5, k6, k7]
    by_cases cb : X8_touch0_j94 tb input x = 0
    · refine hit ?_ ?_
      · unfold X2_blocks_r; rw [hin, ek, if_pos cb]; simp
      · unfold X8_touch0_j301; rw [if_pos cb]
    · by_cases d0 : did = 0
      · refine blo ?_ (h5 (Or.inl d0)) ?_
        · unfold X2_blocks_r; rw [hin, ek, if_neg cb, hd, if_pos d0]; decide
        · unfold X8_touch0_j301; rw [if_neg cb, if_pos d0]
      · by_cases d3 : did = 3
        · refine blo ?_ (h5 (Or.inr d3)) ?_
          · unfold X2_blocks_r; rw [hin, ek, if_neg cb, hd, if_neg d0, if_pos d3]; decide
          · unfold X8_touch0_j301; rw [if_neg cb, if_neg d0, if_pos d3]
        · refine hit ?_ ?_
          · unfold X2_blocks_r; rw [hd, if_neg d0, if_neg d3]
          · unfold X8_touch0_j301; rw [if_neg cb, if_neg d0, if_neg d3]
  obtain ⟨⟨J0, J1, J2, J3, J5, J4, J9, J10, J6, J8⟩, jk, jat, sat, s2⟩ := key
  have j15 : X1_land_j30 G MV i 15 = 0 := by rw [jat 15 (by decide)]; exact g15
  obtain ⟨b1, b2⟩ := gbR_eq (x := MV i 8) J0 j15
  have em : X2_touch_j28 F (MV i 10) = X8_touch0_j53 tb sA x := by unfold X2_touch_j28 X8_touch0_j53; rw [F2, m10]
  have t15 : ¬ X2_touch_w0 F (MV i 10) 15 = 0 := f15
  have t0 : X2_touch_w0 F (MV i 10) 0 = X8_goBack11_w2 (upd (X8_touch0_j301 tb sA count did input x) 15 (-1)) (MV i 8) 0 := by
    rw [gb11_at (by decide), sat 0 (by decide)]; exact F0
  obtain ⟨c1, c2⟩ := gbL_eq (x := X8_goBack11_r (upd (X8_touch0_j301 tb sA count did input x) 15 (-1)) (MV i 8)) t0 t15
  have eW0 : X1_land_w0 F G MV i = X2_goBack_w0 (X2_touch_w0 F (MV i 10)) (X2_goBack_r (X1_land_j30 G MV i) (MV i 8)) := rfl
  have eW1 : X1_land_w1 G MV i = X2_goBack_w0 (X1_land_j30 G MV i) (MV i 8) := rfl
  have eS : X8_touch0_w2 tb sA count did input x = X8_goBack0_w2 (X8_goBack11_w2 (upd (X8_touch0_j301 tb sA count did input x) 15 (-1)) (MV i 8)) (X8_goBack11_r (upd (X8_touch0_j301 tb sA count did input x) 15 (-1)) (MV i 8)) := by unfold X8_touch0_w2; rw [m8]
  have sS : ∀ k, k ≠ 0 → k ≠ 11 → X8_touch0_w2 tb sA count did input x k = upd (X8_touch0_j301 tb sA count did input x) 15 (-1) k := by
    intro k h1 h2
    rw [eS, gb0_at h1, gb11_at h2]
  have w0 : ∀ k, k ∉ [0, 2, 7] → X1_land_w0 F G MV i k = F k := by
    intro k hk
    simp only [List.mem_cons, List.not_mem_nil, or_false, not_or] at hk
    obtain ⟨k0, k2, k7⟩ := hk
    rw [eW0, gb_at k0]
    simp [X2_touch_w0, upd, k2, k7]
  have w1 : ∀ k, k ≠ 0 → X1_land_w1 G MV i k = X1_land_j30 G MV i k := by
    intro k hk
    rw [eW1, gb_at hk]
  refine ⟨⟨?_, ?_, ?_, ?_, ?_, ?_, ?_, ?_, ?_, ?_⟩, ⟨?_, ?_, ?_, ?_, ?_, ?_, ?_, ?_, ?_, ?_⟩, ?_, ?_, w0, ?_⟩
  · rw [eW0, b2, c1, eS]
  · rw [w0 1 (by decide), sS 1 (by decide) (by decide), sat 1 (by decide)]; exact F1
  · rw [sS 2 (by decide) (by decide), s2, eW0, gb_at (by decide)]; exact em
  · rw [w0 3 (by decide), sS 3 (by decide) (by decide), sat 3 (by decide)]; exact F3
  · rw [w0 5 (by decide), sS 4 (by decide) (by decide), sat 4 (by decide)]; exact F5
  · rw [w0 4 (by decide), sS 6 (by decide) (by decide), sat 6 (by decide)]; exact F4
  · rw [w0 9 (by decide), sS 7 (by decide) (by decide), sat 7 (by decide)]; exact F9
  · rw [w0 10 (by decide), sS 8 (by decide) (by decide), sat 8 (by decide)]; exact F10
  · rw [w0 3 (by decide), w0 6 (by decide), sS 5 (by decide) (by decide), sat 5 (by decide)]; exact F6
  · rw [w0 3 (by decide), w0 8 (by decide), sS 5 (by decide) (by decide), sat 5 (by decide)]; exact F8
  · rw [eW1, b1, eS, gb0_at (by decide)]
  · rw [w1 1 (by decide), sS 12 (by decide) (by decide)]; exact J1
  · rw [w1 2 (by decide), sS 13 (by decide) (by decide)]; exact J2
  · rw [w1 3 (by decide), sS 14 (by decide) (by decide)]; exact J3
  · rw [w1 5 (by decide), sS 15 (by decide) (by decide)]; exact J5
  · rw [w1 4 (by decide), sS 17 (by decide) (by decide)]; exact J4
  · rw [w1 9 (by decide), sS 18 (by decide) (by decide)]; exact J9
  · rw [w1 10 (by decide), sS 19 (by decide) (by decide)]; exact J10
  · rw [w1 3 (by decide), w1 6 (by decide), sS 16 (by decide) (by decide)]; exact J6
  · rw [w1 3 (by decide), w1 8 (by decide), sS 16 (by decide) (by decide)]; exact J8
  · rw [eW0, gb_at (by decide)]; rfl
  · rw [w1 3 (by decide)]; exact jk
  · intro k hk
    have hk2 := hk
    simp only [List.mem_cons, List.not_mem_nil, or_false, not_or] at hk2
    rw [w1 k hk2.1]
    exact jat k (by simp only [List.mem_cons, List.not_mem_nil, or_false, not_or]; exact ⟨hk2.2.1, hk2.2.2.1, hk2.2.2.2.1, hk2.2.2.2.2.1, hk2.2.2.2.2.2.1, hk2.2.2.2.2.2.2.1, hk2.2.2.2.2.2.2.2⟩)

theorem landR {MV : Nat → Nat → Int32} {tb F G sA : Nat → Int32} {cnt i : Nat} {x did count input : Int32} (hT : relT MV tb cnt) (hi : i < cnt) (hx : x = nI i) (hF : rel0R F sA) (hG : rel0L G sA) (f15 : F 15 = 0) (g15 : ¬ G 15 = 0) (hd : G 13 = did) (hc : G 14 = count) (hin : G 11 = input) (h5 : did = 0 ∨ did = 3 → G 5 = -1) :
    rel0R (X1_land_w0 F G MV i) (X8_touch11_w2 tb sA count did input x) ∧ rel0L (X1_land_w1 G MV i) (X8_touch11_w2 tb sA count did input x) ∧ X1_land_w0 F G MV i 7 = 0 ∧ (X1_land_w1 G MV i 3 = 2 ∨ X1_land_w1 G MV i 3 = 3) ∧ (∀ k, k ∉ [0, 2, 7] → X1_land_w0 F G MV i k = F k) ∧ (∀ k, k ∉ [0, 1, 3, 4, 5, 6, 7, 8] → X1_land_w1 G MV i k = G k) := by
  have hm : ∀ k, k < 11 → X8_ofMove_r tb x (nI k) = MV i k := fun k hk => by rw [hx]; exact hT.2.1 i hi k hk
  have m4 : X8_ofMove_r tb x 4 = MV i 4 := hm 4 (by decide)
  have m5 : X8_ofMove_r tb x 5 = MV i 5 := hm 5 (by decide)
  have m6 : X8_ofMove_r tb x 6 = MV i 6 := hm 6 (by decide)
  have m7 : X8_ofMove_r tb x 7 = MV i 7 := hm 7 (by decide)
  have m8 : X8_ofMove_r tb x 8 = MV i 8 := hm 8 (by decide)
  have m10 : X8_ofMove_r tb x 10 = MV i 10 := hm 10 (by decide)
  have ek := blkR_eq (mv := MV i) (input := input) m4
  obtain ⟨e33, e1001, e132⟩ := sufR_eq (MV := MV) (G := G) (i := i) hd hc m5 m6
  obtain ⟨G0, G1, G2, G3, G5, G4, G9, G10, G6, G8⟩ := hG
  obtain ⟨F0, F1, F2, F3, F5, F4, F9, F10, F6, F8⟩ := hF
  -- what the other one is behind the hit, ahead of its going back
  have key : rel0L (X1_land_j30 G MV i) (upd (X8_touch11_j301 tb sA count did input x) 4 (-1)) ∧ (X1_land_j30 G MV i 3 = 2 ∨ X1_land_j30 G MV i 3 = 3) ∧ (∀ k, k ∉ [1, 3, 4, 5, 6, 7, 8] → X1_land_j30 G MV i k = G k) ∧ (∀ k, k ∉ [13, 1, 3, 4, 5, 6] → upd (X8_touch11_j301 tb sA count did input x) 4 (-1) k = sA k) ∧ upd (X8_touch11_j301 tb sA count did input x) 4 (-1) 13 = X8_touch11_j53 tb sA x := by
    have hit : X2_blocks_r G (MV i) = 0 → X8_touch11_j301 tb sA count did input x = (upd (upd (upd (upd (upd sA 13 (X8_touch11_j53 tb sA x)) 1 ((sA 1) - (X8_touch11_j257 tb count did x))) 3 2) 5 (X8_touch11_j288 tb count did x)) 6 (X8_touch11_j173 count did)) → rel0L (X1_land_j30 G MV i) (upd (X8_touch11_j301 tb sA count did input x) 4 (-1)) ∧ (X1_land_j30 G MV i 3 = 2 ∨ X1_land_j30 G MV i 3 = 3) ∧ (∀ k, k ∉ [1, 3, 4, 5, 6, 7, 8] → X1_land_j30 G MV i k = G k) ∧ (∀ k, k ∉ [13, 1, 3, 4, 5, 6] → upd (X8_touch11_j301 tb sA count did input x) 4 (-1) k = sA k) ∧ upd (X8_touch11_j301 tb sA count did input x) 4 (-1) 13 = X8_touch11_j53 tb sA x := by
      intro hb hj
      have ej : X1_land_j30 G MV i = X2_suffer_w0 G MV i := by unfold X1_land_j30; rw [if_pos hb]
      rw [ej, hj]
      refine ⟨⟨G0, ?_, G2, rfl, rfl, e33, G9, G10, fun q => absurd (show (2 : Int32) = 1 from q) (by decide), fun _ => e132⟩, Or.inl rfl, ?_, ?_, rfl⟩
      · show G 1 - X2_suffer_j100_1 G MV i = sA 1 - X8_touch11_j257 tb count did x
        rw [G1, e1001]
      · intro k hk
        simp only [List.mem_cons, List.not_mem_nil, or_false, not_or] at hk
        obtain ⟨k1, k3, k4, k5, k6, k7, k8⟩ := hk
        simp [X2_suffer_w0, X2_leaveMove_w0, upd, k1, k3, k4, k5, k6, k7, k8]
      · intro k hk
        simp only [List.mem_cons, List.not_mem_nil, or_false, not_or] at hk
        obtain ⟨k1, k3, k4, k5, k6, k7⟩ := hk
        simp [upd, k1, k3, k4, k5, k6, k7]
    have blo : ¬ X2_blocks_r G (MV i) = 0 → G 5 = -1 → X8_touch11_j301 tb sA count did input x = (upd (upd (upd (upd sA 13 (X8_touch11_j53 tb sA x)) 1 ((sA 1) - ((X8_ofMove_r tb x 5) / 10))) 3 3) 5 (X8_ofMove_r tb x 7)) → rel0L (X1_land_j30 G MV i) (upd (X8_touch11_j301 tb sA count did input x) 4 (-1)) ∧ (X1_land_j30 G MV i 3 = 2 ∨ X1_land_j30 G MV i 3 = 3) ∧ (∀ k, k ∉ [1, 3, 4, 5, 6, 7, 8] → X1_land_j30 G MV i k = G k) ∧ (∀ k, k ∉ [13, 1, 3, 4, 5, 6] → upd (X8_touch11_j301 tb sA count did input x) 4 (-1) k = sA k) ∧ upd (X8_touch11_j301 tb sA count did input x) 4 (-1) 13 = X8_touch11_j53 tb sA x := by
      intro hb g5 hj
      have ej : X1_land_j30 G MV i = X2_block_w0 G MV i := by unfold X1_land_j30; rw [if_neg hb]
      rw [ej, hj]
      refine ⟨⟨G0, ?_, G2, rfl, g5, G4, G9, G10, fun q => absurd (show (3 : Int32) = 1 from q) (by decide), fun _ => ?_⟩, Or.inr rfl, ?_, ?_, rfl⟩
      · show G 1 - (MV i 5) / 10 = sA 1 - (X8_ofMove_r tb x 5) / 10
        rw [G1, m5]
      · show MV i 7 = X8_ofMove_r tb x 7
        rw [m7]
      · intro k hk
        simp only [List.mem_cons, List.not_mem_nil, or_false, not_or] at hk
        obtain ⟨k1, k3, k4, k5, k6, k7, k8⟩ := hk
        simp [X2_block_w0, upd, k1, k3, k8]
      · intro k hk
        simp only [List.mem_cons, List.not_mem_nil, or_false, not_or] at hk
        obtain ⟨k1, k3, k4, k5, k6, k7⟩ := hk
        simp [upd, k1, k3, k4, k5, k6, k7]
    by_cases cb : X8_touch11_j94 tb input x = 0
    · refine hit ?_ ?_
      · unfold X2_blocks_r; rw [hin, ek, if_pos cb]; simp
      · unfold X8_touch11_j301; rw [if_pos cb]
    · by_cases d0 : did = 0
      · refine blo ?_ (h5 (Or.inl d0)) ?_
        · unfold X2_blocks_r; rw [hin, ek, if_neg cb, hd, if_pos d0]; decide
        · unfold X8_touch11_j301; rw [if_neg cb, if_pos d0]
      · by_cases d3 : did = 3
        · refine blo ?_ (h5 (Or.inr d3)) ?_
          · unfold X2_blocks_r; rw [hin, ek, if_neg cb, hd, if_neg d0, if_pos d3]; decide
          · unfold X8_touch11_j301; rw [if_neg cb, if_neg d0, if_pos d3]
        · refine hit ?_ ?_
          · unfold X2_blocks_r; rw [hd, if_neg d0, if_neg d3]
          · unfold X8_touch11_j301; rw [if_neg cb, if_neg d0, if_neg d3]
  obtain ⟨⟨J0, J1, J2, J3, J5, J4, J9, J10, J6, J8⟩, jk, jat, sat, s2⟩ := key
  have j15 : ¬ X1_land_j30 G MV i 15 = 0 := by rw [jat 15 (by decide)]; exact g15
  obtain ⟨b1, b2⟩ := gbL_eq (x := MV i 8) J0 j15
  have em : X2_touch_j28 F (MV i 10) = X8_touch11_j53 tb sA x := by unfold X2_touch_j28 X8_touch11_j53; rw [F2, m10]
  have t15 : X2_touch_w0 F (MV i 10) 15 = 0 := f15
  have t0 : X2_touch_w0 F (MV i 10) 0 = X8_goBack0_w2 (upd (X8_touch11_j301 tb sA count did input x) 4 (-1)) (MV i 8) 11 := by
    rw [gb0_at (by decide), sat 11 (by decide)]; exact F0
  obtain ⟨c1, c2⟩ := gbR_eq (x := X8_goBack0_r (upd (X8_touch11_j301 tb sA count did input x) 4 (-1)) (MV i 8)) t0 t15
  have eW0 : X1_land_w0 F G MV i = X2_goBack_w0 (X2_touch_w0 F (MV i 10)) (X2_goBack_r (X1_land_j30 G MV i) (MV i 8)) := rfl
  have eW1 : X1_land_w1 G MV i = X2_goBack_w0 (X1_land_j30 G MV i) (MV i 8) := rfl
  have eS : X8_touch11_w2 tb sA count did input x = X8_goBack11_w2 (X8_goBack0_w2 (upd (X8_touch11_j301 tb sA count did input x) 4 (-1)) (MV i 8)) (X8_goBack0_r (upd (X8_touch11_j301 tb sA count did input x) 4 (-1)) (MV i 8)) := by unfold X8_touch11_w2; rw [m8]
  have sS : ∀ k, k ≠ 11 → k ≠ 0 → X8_touch11_w2 tb sA count did input x k = upd (X8_touch11_j301 tb sA count did input x) 4 (-1) k := by
    intro k h1 h2
    rw [eS, gb11_at h1, gb0_at h2]
  have w0 : ∀ k, k ∉ [0, 2, 7] → X1_land_w0 F G MV i k = F k := by
    intro k hk
    simp only [List.mem_cons, List.not_mem_nil, or_false, not_or] at hk
    obtain ⟨k0, k2, k7⟩ := hk
    rw [eW0, gb_at k0]
    simp [X2_touch_w0, upd, k2, k7]
  have w1 : ∀ k, k ≠ 0 → X1_land_w1 G MV i k = X1_land_j30 G MV i k := by
    intro k hk
    rw [eW1, gb_at hk]
  refine ⟨⟨?_, ?_, ?_, ?_, ?_, ?_, ?_, ?_, ?_, ?_⟩, ⟨?_, ?_, ?_, ?_, ?_, ?_, ?_, ?_, ?_, ?_⟩, ?_, ?_, w0, ?_⟩
  · rw [eW0, b2, c1, eS]
  · rw [w0 1 (by decide), sS 12 (by decide) (by decide), sat 12 (by decide)]; exact F1
  · rw [sS 13 (by decide) (by decide), s2, eW0, gb_at (by decide)]; exact em
  · rw [w0 3 (by decide), sS 14 (by decide) (by decide), sat 14 (by decide)]; exact F3
  · rw [w0 5 (by decide), sS 15 (by decide) (by decide), sat 15 (by decide)]; exact F5
  · rw [w0 4 (by decide), sS 17 (by decide) (by decide), sat 17 (by decide)]; exact F4
  · rw [w0 9 (by decide), sS 18 (by decide) (by decide), sat 18 (by decide)]; exact F9
  · rw [w0 10 (by decide), sS 19 (by decide) (by decide), sat 19 (by decide)]; exact F10
  · rw [w0 3 (by decide), w0 6 (by decide), sS 16 (by decide) (by decide), sat 16 (by decide)]; exact F6
  · rw [w0 3 (by decide), w0 8 (by decide), sS 16 (by decide) (by decide), sat 16 (by decide)]; exact F8
  · rw [eW1, b1, eS, gb11_at (by decide)]
  · rw [w1 1 (by decide), sS 1 (by decide) (by decide)]; exact J1
  · rw [w1 2 (by decide), sS 2 (by decide) (by decide)]; exact J2
  · rw [w1 3 (by decide), sS 3 (by decide) (by decide)]; exact J3
  · rw [w1 5 (by decide), sS 4 (by decide) (by decide)]; exact J5
  · rw [w1 4 (by decide), sS 6 (by decide) (by decide)]; exact J4
  · rw [w1 9 (by decide), sS 7 (by decide) (by decide)]; exact J9
  · rw [w1 10 (by decide), sS 8 (by decide) (by decide)]; exact J10
  · rw [w1 3 (by decide), w1 6 (by decide), sS 5 (by decide) (by decide)]; exact J6
  · rw [w1 3 (by decide), w1 8 (by decide), sS 5 (by decide) (by decide)]; exact J8
  · rw [eW0, gb_at (by decide)]; rfl
  · rw [w1 3 (by decide)]; exact jk
  · intro k hk
    have hk2 := hk
    simp only [List.mem_cons, List.not_mem_nil, or_false, not_or] at hk2
    rw [w1 k hk2.1]
    exact jat k (by simp only [List.mem_cons, List.not_mem_nil, or_false, not_or]; exact ⟨hk2.2.1, hk2.2.2.1, hk2.2.2.2.1, hk2.2.2.2.2.1, hk2.2.2.2.2.2.1, hk2.2.2.2.2.2.2.1, hk2.2.2.2.2.2.2.2⟩)
