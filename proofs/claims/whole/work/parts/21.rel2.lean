theorem free_eqR {MV : Nat → Nat → Int32} {tb F sA : Nat → Int32} {cnt : Nat} (hT : relT MV tb cnt) (h : relR F sA) (hk : isMv cnt (sA 18)) (hm : sA 14 = 1 → isMv cnt (sA 15)) (h30 : ¬ sA 14 = 0) : X2_isFreeForKept_r F MV = X8_beginKept11_j101 tb sA := by
  obtain ⟨h0, h1, h2, h3, h4, h5, h6, h7, h8, h9, h10⟩ := h
  unfold X2_isFreeForKept_r X8_beginKept11_j101 X2_isFreeForKept_j31
  rw [h3, if_neg h30]
  by_cases c : sA 14 = 1
  · rw [if_pos c, if_pos c, h10 (h3.trans c), h4, h6]
    by_cases c1 : sA 20 = -1
    · simp [c1]
    · by_cases c2 : 10 < sA 20
      · simp [c1, c2]
      · obtain ⟨i, hi, ei⟩ := hm c
        obtain ⟨j, hj, ej⟩ := hk
        have hb := hT.2.2 i hi j hj
        have hc := hT.1
        have e1 : X4_goesInto_r (MV (mi (sA 15))) (sA 18) = if MV i (11 + j) = 0 then 0 else 1 := by
          rw [ei, ej, mi_nI (by omega)]
          unfold X4_goesInto_r
          rw [if_neg (nI_pos (by omega)), if_neg (show ¬ (6 : Int32) ≤ nI j from nI_ge (b := 6) (by omega) (by decide)), nI_clamp (by omega)]
        rw [e1, ei, ej]
        by_cases c3 : MV i (11 + j) = 0
        · have hb' : ¬ ((((X8_ofMove_r tb (nI i) 11) >>> ((nI j) &&& 31)) &&& 1) = 1) := fun q => (hb.mp q) c3
          simp [c1, c2, c3, hb']
        · have hb' := hb.mpr c3
          simp [c1, c2, c3, hb']
  · rw [if_neg c, if_neg c]
theorem rel_beginR {MV : Nat → Nat → Int32} {tb F sA : Nat → Int32} {cnt : Nat} (hT : relT MV tb cnt) (h : relR F sA) (hk : sA 18 = -1 ∨ isMv cnt (sA 18)) (hm : sA 14 = 1 → isMv cnt (sA 15)) : relR (X2_beginKept_w0 F MV) (X8_beginKept11_w2 tb sA) := by
  obtain ⟨h0, h1, h2, h3, h4, h5, h6, h7, h8, h9, h10⟩ := id h
  unfold X2_beginKept_w0 X8_beginKept11_w2
  by_cases c7 : sA 18 = -1
  · rw [h6, if_pos c7, if_pos c7]
    exact h
  · have hk1 := hk.resolve_left c7
    obtain ⟨i, hi, ei⟩ := id hk1
    have et := trait_eq hT hi (h6.trans ei)
    rw [h6] at et
    rw [h6, if_neg c7, if_neg c7, h2, et]
    by_cases cm : sA 13 < X8_ofMove_r tb (sA 18) 9
    · rw [if_pos cm, if_neg (Int32.not_le.mpr cm)]
      exact h
    · rw [if_neg cm, if_pos (Int32.not_lt.mp cm)]
      by_cases c3 : sA 14 = 0
      · have ef : X2_isFreeForKept_r F MV = 1 := by unfold X2_isFreeForKept_r; rw [h3, if_pos c3]
        rw [ef, if_neg (by decide), if_pos c3]
        exact ⟨h0, h1, rfl, rfl, rfl, h5, rfl, rfl, fun _ => rfl, fun q => absurd rfl q, fun _ => rfl⟩
      · have ef := free_eqR hT h hk1 hm c3
        rw [ef, if_neg c3]
        by_cases cj : X8_beginKept11_j101 tb sA = 0
        · rw [if_pos cj, if_pos cj]
          exact h
        · rw [if_neg cj, if_neg cj]
          exact ⟨h0, h1, rfl, rfl, rfl, h5, rfl, rfl, fun _ => rfl, fun q => absurd rfl q, fun _ => rfl⟩
/-- a step of one half leaves the other half -/
theorem b0_R {tb F sA : Nat → Int32} (h : relR F sA) : relR F (X8_beginKept0_w2 tb sA) := by
  unfold X8_beginKept0_w2
  repeat' split
  all_goals exact h
theorem b11_L {tb F sA : Nat → Int32} (h : relL F sA) : relL F (X8_beginKept11_w2 tb sA) := by
  unfold X8_beginKept11_w2
  repeat' split
  all_goals exact h
theorem x2walk_at {F : Nat → Int32} {k : Nat} (h : k ≠ 0) : X2_walk_w0 F k = F k := by
  unfold X2_walk_w0
  repeat' split
  all_goals simp [upd, h]
theorem walk1_at {F G : Nat → Int32} {k : Nat} (h : k ≠ 0) : X1_walk_w1 F G k = F k := by
  have e58 : X1_walk_j58 F G k = F k := by unfold X1_walk_j58; split <;> simp [upd, h, x2walk_at h]
  have e95 : X1_walk_j95 F G k = F k := by unfold X1_walk_j95; split <;> simp [upd, h, e58]
  unfold X1_walk_w1
  split <;> simp [upd, h, e95]
theorem walk2_at {F G : Nat → Int32} {k : Nat} (h : k ≠ 0) : X1_walk_w2 F G k = G k := by
  have e58 : X1_walk_j58_1 F G k = G k := by unfold X1_walk_j58_1; split <;> simp [upd, h, x2walk_at h]
  have e95 : X1_walk_j95_1 F G k = G k := by unfold X1_walk_j95_1; split <;> simp [upd, h, e58]
  unfold X1_walk_w2
  split <;> simp [upd, h, e95]
theorem go_places {F G sA : Nat → Int32} {one two : Int32} (hL : relL F sA) (hR : relR G sA) (f1 : F 11 = one) (g1 : G 11 = two) (f15 : ¬ F 15 = 0) (g15 : G 15 = 0) : X1_walk_w1 F G 0 = X8_go_w2 sA one two 0 ∧ X1_walk_w2 F G 0 = X8_go_w2 sA one two 11 := by
  have hF0 := hL.1
  have hF3 := hL.2.2.2.1
  have hG0 := hR.1
  have hG3 := hR.2.2.2.1
  have a38 : X8_go_j38 sA one 0 = X2_walk_w0 F 0 := by
    unfold X8_go_j38 X2_walk_w0 X8_go_j36 X2_walk_j33 X2_walk_j73
    rw [hF3, f1]
    by_cases c : sA 3 = 0
    · rw [if_pos c, if_pos c, if_neg f15, if_neg f15]
      by_cases c1 : one = 1
      · rw [if_pos c1, if_pos c1]; simp [upd, hF0]
      · by_cases c2 : one = 2
        · rw [if_neg c1, if_pos c2, if_neg c1, if_pos c2]; simp [upd, hF0]
        · rw [if_neg c1, if_neg c2, if_neg c1, if_neg c2]; simp [upd, hF0]
    · rw [if_neg c, if_neg c, hF0]
  have b38 : ∀ k, k ≠ 0 → X8_go_j38 sA one k = sA k := by
    intro k hk
    unfold X8_go_j38
    split <;> simp [upd, hk]
  have a78 : X8_go_j78 sA one two 0 = X2_walk_w0 F 0 := by
    unfold X8_go_j78
    split
    · rw [upd_n _ _ (by decide)]; exact a38
    · exact a38
  have b78 : X8_go_j78 sA one two 11 = X2_walk_w0 G 0 := by
    unfold X8_go_j78 X2_walk_w0 X8_go_j76 X2_walk_j33 X2_walk_j73
    rw [b38 14 (by decide), b38 11 (by decide), hG3, g1]
    by_cases c : sA 14 = 0
    · rw [if_pos c, if_pos c, if_pos g15, if_pos g15]
      by_cases c1 : two = 1
      · rw [if_pos c1, if_pos c1]; simp [upd, hG0]
      · by_cases c2 : two = 2
        · rw [if_neg c1, if_pos c2, if_neg c1, if_pos c2]; simp [upd, hG0]
        · rw [if_neg c1, if_neg c2, if_neg c1, if_neg c2]; simp [upd, hG0]
    · rw [if_neg c, if_neg c, b38 11 (by decide), hG0]
  have a127 : X8_go_j127 sA one two 0 = X1_walk_j58 F G 0 := by
    unfold X8_go_j127 X1_walk_j58 X1_apart_r
    rw [a78, b78]
    by_cases c : 20 - (X2_walk_w0 G 0 - X2_walk_w0 F 0) ≤ 0
    · rw [if_pos c, if_pos c]; exact a78
    · rw [if_neg c, if_neg c]; simp [upd]
  have b127 : X8_go_j127 sA one two 11 = X1_walk_j58_1 F G 0 := by
    unfold X8_go_j127 X1_walk_j58_1 X1_apart_r
    rw [a78, b78]
    by_cases c : 20 - (X2_walk_w0 G 0 - X2_walk_w0 F 0) ≤ 0
    · rw [if_pos c, if_pos c]; exact b78
    · rw [if_neg c, if_neg c]; simp [upd]
  have a174 : X8_go_j174 sA one two 0 = X1_walk_j95 F G 0 := by
    unfold X8_go_j174 X1_walk_j95
    rw [a127]
    by_cases c : 0 ≤ X1_walk_j58 F G 0
    · rw [if_pos c, if_pos c]; exact a127
    · rw [if_neg c, if_neg c]; simp [upd]
  have b174 : X8_go_j174 sA one two 11 = X1_walk_j95_1 F G 0 := by
    unfold X8_go_j174 X1_walk_j95_1 X8_go_j173
    rw [a127]
    by_cases c : 0 ≤ X1_walk_j58 F G 0
    · rw [if_pos c, if_pos c]; exact b127
    · rw [if_neg c, if_neg c, b127]
      by_cases d : X1_walk_j58_1 F G 0 < 20
      · rw [if_pos d, if_neg (Int32.not_le.mpr d)]; simp [upd]
      · rw [if_neg d, if_pos (Int32.not_lt.mp d)]; simp [upd]
  unfold X1_walk_w1 X1_walk_w2 X8_go_w2 X8_go_j226
  rw [b174, a174]
  by_cases c : X1_walk_j95_1 F G 0 ≤ 600
  · rw [if_pos c, if_pos c, if_pos c]
    exact ⟨a174.symm, b174.symm⟩
  · rw [if_neg c, if_neg c, if_neg c]
    by_cases d : 580 < X1_walk_j95 F G 0
    · rw [if_pos d, if_neg (Int32.not_le.mpr d)]; simp [upd]
    · rw [if_neg d, if_pos (Int32.not_lt.mp d)]; simp [upd]
theorem rel_walk {F G sA : Nat → Int32} {one two : Int32} (hL : relL F sA) (hR : relR G sA) (f1 : F 11 = one) (g1 : G 11 = two) (f15 : ¬ F 15 = 0) (g15 : G 15 = 0) : relL (X1_walk_w1 F G) (X8_go_w2 sA one two) ∧ relR (X1_walk_w2 F G) (X8_go_w2 sA one two) := by
  obtain ⟨p1, p2⟩ := go_places hL hR f1 g1 f15 g15
  have w : ∀ k, k ≠ 0 → X1_walk_w1 F G k = F k := fun k hk => walk1_at hk
  have v : ∀ k, k ≠ 0 → X1_walk_w2 F G k = G k := fun k hk => walk2_at hk
  have q : ∀ k, k ≠ 0 → k ≠ 11 → X8_go_w2 sA one two k = sA k := fun k h0 h11 => go_at h0 h11
  refine ⟨⟨p1, ?_⟩, ⟨p2, ?_⟩⟩
  · rw [w 1 (by decide), w 2 (by decide), w 3 (by decide), w 5 (by decide), w 4 (by decide), w 9 (by decide), w 10 (by decide), w 7 (by decide), w 6 (by decide), w 8 (by decide), q 1 (by decide) (by decide), q 2 (by decide) (by decide), q 3 (by decide) (by decide), q 4 (by decide) (by decide), q 6 (by decide) (by decide), q 7 (by decide) (by decide), q 8 (by decide) (by decide), q 9 (by decide) (by decide), q 5 (by decide) (by decide)]
    exact hL.2
  · rw [v 1 (by decide), v 2 (by decide), v 3 (by decide), v 5 (by decide), v 4 (by decide), v 9 (by decide), v 10 (by decide), v 7 (by decide), v 6 (by decide), v 8 (by decide), q 12 (by decide) (by decide), q 13 (by decide) (by decide), q 14 (by decide) (by decide), q 15 (by decide) (by decide), q 17 (by decide) (by decide), q 18 (by decide) (by decide), q 19 (by decide) (by decide), q 20 (by decide) (by decide), q 16 (by decide) (by decide)]
    exact hR.2
