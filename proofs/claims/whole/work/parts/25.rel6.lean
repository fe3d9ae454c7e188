/-! step 4 of a frame: both sides agree -/
theorem touch0_15 {tb sA : Nat → Int32} {c d i m : Int32} : X8_touch0_w2 tb sA c d i m 15 = -1 := by
  unfold X8_touch0_w2
  rw [gb0_at (by decide), gb11_at (by decide), upd_s]
theorem touch11_4 {tb sA : Nat → Int32} {c d i m : Int32} : X8_touch11_w2 tb sA c d i m 4 = -1 := by
  unfold X8_touch11_w2
  rw [gb11_at (by decide), gb0_at (by decide), upd_s]
/-- what a strike leaves of a figure: taken out of what it did, or as it was but for place, life, meter, touch -/
def stOK (F F1 : Nat → Int32) : Prop := (∀ k, k ∈ [9, 10, 11, 12, 15] → F1 k = F k) ∧ (((F1 3 = 2 ∨ F1 3 = 3) ∧ F1 5 = -1) ∨ (F1 3 = F 3 ∧ F1 5 = F 5 ∧ F1 6 = F 6 ∧ F1 8 = F 8 ∧ F1 4 = F 4)) ∧ (F 2 ≤ 100 → F1 2 ≤ 100)
theorem rem_at {F : Nat → Int32} {k : Nat} (h1 : k ≠ 13) (h2 : k ≠ 14) : X2_rememberAheadOfHits_w0 F k = F k := by
  unfold X2_rememberAheadOfHits_w0
  rw [upd_n _ _ h2, upd_n _ _ h1]
theorem m100 {F : Nat → Int32} {g : Int32} : X2_touch_j28 F g ≤ 100 := by
  unfold X2_touch_j28
  split
  · assumption
  · exact Int32.le_refl _
theorem rel_rem0L {F sA J : Nat → Int32} (h : relL F sA) (hJ : ∀ k, k ≠ 9 → k ≠ 20 → J k = sA k) : rel0L (X2_rememberAheadOfHits_w0 F) J := by
  obtain ⟨F0, F1, F2, F3, F5, F4, F9, F10, F6, F8, F7⟩ := h
  unfold rel0L
  rw [hJ 0 (by decide) (by decide), hJ 1 (by decide) (by decide), hJ 2 (by decide) (by decide), hJ 3 (by decide) (by decide), hJ 4 (by decide) (by decide), hJ 6 (by decide) (by decide), hJ 7 (by decide) (by decide), hJ 8 (by decide) (by decide), hJ 5 (by decide) (by decide)]
  exact ⟨F0, F1, F2, F3, F5, F4, F9, F10, F6, F8⟩
theorem rel_rem0R {F sA J : Nat → Int32} (h : relR F sA) (hJ : ∀ k, k ≠ 9 → k ≠ 20 → J k = sA k) : rel0R (X2_rememberAheadOfHits_w0 F) J := by
  obtain ⟨F0, F1, F2, F3, F5, F4, F9, F10, F6, F8, F7⟩ := h
  unfold rel0R
  rw [hJ 11 (by decide) (by decide), hJ 12 (by decide) (by decide), hJ 13 (by decide) (by decide), hJ 14 (by decide) (by decide), hJ 15 (by decide) (by decide), hJ 17 (by decide) (by decide), hJ 18 (by decide) (by decide), hJ 19 (by decide) (by decide), hJ 16 (by decide) (by decide)]
  exact ⟨F0, F1, F2, F3, F5, F4, F9, F10, F6, F8⟩
theorem rel0L.up {F sA : Nat → Int32} (h : rel0L F sA) (h7 : F 3 = 1 → F 7 = sA 9) : relL F sA := by
  obtain ⟨F0, F1, F2, F3, F5, F4, F9, F10, F6, F8⟩ := h
  exact ⟨F0, F1, F2, F3, F5, F4, F9, F10, F6, F8, h7⟩
theorem rel0R.up {F sA : Nat → Int32} (h : rel0R F sA) (h7 : F 3 = 1 → F 7 = sA 20) : relR F sA := by
  obtain ⟨F0, F1, F2, F3, F5, F4, F9, F10, F6, F8⟩ := h
  exact ⟨F0, F1, F2, F3, F5, F4, F9, F10, F6, F8, h7⟩
/-- the one that hits -/
theorem st_by {F G : Nat → Int32} {MV : Nat → Nat → Int32} {i : Nat} {F0 : Nat → Int32} (h : ∀ k, k ∉ [0, 2, 7] → X1_land_w0 F G MV i k = F k) (hF : stOK F0 F) : stOK F0 (X1_land_w0 F G MV i) := by
  obtain ⟨h1, h2, h3⟩ := hF
  refine ⟨?_, ?_, ?_⟩
  · intro k hk
    rw [h k (by revert hk; simp only [List.mem_cons, List.not_mem_nil, or_false]; omega)]
    exact h1 k hk
  · rw [h 3 (by decide), h 5 (by decide), h 6 (by decide), h 8 (by decide), h 4 (by decide)]
    exact h2
  · intro _
    show X2_goBack_w0 (X2_touch_w0 F (X4_trait_r (MV i) 4)) _ 2 ≤ 100
    rw [gb_at (by decide)]
    exact m100
/-- the one that is hit -/
theorem st_other {G : Nat → Int32} {MV : Nat → Nat → Int32} {i : Nat} {G0 : Nat → Int32} (h : ∀ k, k ∉ [0, 1, 3, 4, 5, 6, 7, 8] → X1_land_w1 G MV i k = G k) (h3 : X1_land_w1 G MV i 3 = 2 ∨ X1_land_w1 G MV i 3 = 3) (h5 : X1_land_w1 G MV i 5 = -1) (hG : stOK G0 G) : stOK G0 (X1_land_w1 G MV i) := by
  obtain ⟨g1, g2, g3⟩ := hG
  refine ⟨?_, Or.inl ⟨h3, h5⟩, ?_⟩
  · intro k hk
    rw [h k (by revert hk; simp only [List.mem_cons, List.not_mem_nil, or_false]; omega)]
    exact g1 k hk
  · rw [h 2 (by decide)]
    exact g3
theorem st_rem {F : Nat → Int32} : stOK F (X2_rememberAheadOfHits_w0 F) := by
  refine ⟨?_, Or.inr ⟨rfl, rfl, rfl, rfl, rfl⟩, fun h => h⟩
  intro k hk
  refine rem_at ?_ ?_ <;> (revert hk; simp only [List.mem_cons, List.not_mem_nil, or_false]; omega)
theorem st_part {F : Nat → Int32} : stOK F (X2_goBack_w0 (X2_touch_w0 F 0) 20) := by
  have h : ∀ k, k ≠ 0 → k ≠ 2 → k ≠ 7 → X2_goBack_w0 (X2_touch_w0 F 0) 20 k = F k := by
    intro k h0 h2 h7
    rw [gb_at h0]
    simp [X2_touch_w0, upd, h2, h7]
  refine ⟨?_, Or.inr ⟨h 3 (by decide) (by decide) (by decide), h 5 (by decide) (by decide) (by decide), h 6 (by decide) (by decide) (by decide), h 8 (by decide) (by decide) (by decide), h 4 (by decide) (by decide) (by decide)⟩, ?_⟩
  · intro k hk
    refine h k ?_ ?_ ?_ <;> (revert hk; simp only [List.mem_cons, List.not_mem_nil, or_false]; omega)
  · intro _
    rw [gb_at (by decide)]
    exact m100
theorem rel_strike {MV : Nat → Nat → Int32} {tb F G sA : Nat → Int32} {cnt : Nat} {one two : Int32} (hT : relT MV tb cnt) (hV : relV MV cnt) (hL : relL F sA) (hR : relR G sA) (f15 : ¬ F 15 = 0) (g15 : G 15 = 0) (f11 : F 11 = one) (g11 : G 11 = two)
    (mL : F 3 = 1 → isMv cnt (F 5) ∧ ∃ n, n < 100 ∧ F 6 = nI n) (mR : G 3 = 1 → isMv cnt (G 5) ∧ ∃ n, n < 100 ∧ G 6 = nI n) (bL : ¬ F 3 = 1 → F 5 = -1) (bR : ¬ G 3 = 1 → G 5 = -1) (tL : F 2 ≤ 100) (tR : G 2 ≤ 100) :
    relL (X1_strike_w1 F G MV) (X8_hitBoth_w2 tb sA one two) ∧ relR (X1_strike_w2 F G MV) (X8_hitBoth_w2 tb sA one two) ∧ stOK F (X1_strike_w1 F G MV) ∧ stOK G (X1_strike_w2 F G MV) := by
  have eL := reachL_eq hT hV hL hR mL
  have eR := reachR_eq hT hV hR hL mR
  have hc := hT.1
  -- the model's row, those that touch being noted
  have hJ : ∀ k, k ≠ 9 → k ≠ 20 → X8_hitBoth_j91 tb sA k = sA k := by
    intro k h9 h20
    have e78 : X8_hitBoth_j78 tb sA k = sA k := by unfold X8_hitBoth_j78; split <;> simp [upd, h9]
    unfold X8_hitBoth_j91
    split <;> simp [upd, h20, e78]
  have hJ9 : X8_hitBoth_j91 tb sA 9 = if X8_reaches0_r tb sA = 0 then sA 9 else 0 := by
    have e78 : X8_hitBoth_j78 tb sA 9 = if X8_reaches0_r tb sA = 0 then sA 9 else 0 := by unfold X8_hitBoth_j78; split <;> simp [upd]
    unfold X8_hitBoth_j91
    split
    · exact e78
    · rw [upd_n _ _ (by decide)]; exact e78
  have hJ20 : X8_hitBoth_j91 tb sA 20 = if X8_reaches11_r tb sA = 0 then sA 20 else 0 := by
    have e78 : X8_hitBoth_j78 tb sA 20 = sA 20 := by unfold X8_hitBoth_j78; split <;> simp [upd]
    unfold X8_hitBoth_j91
    split
    · exact e78
    · simp [upd]
  have rL := rel_rem0L hL hJ
  have rR := rel_rem0R hR hJ
  have F3 := hL.2.2.2.1
  have G3 := hR.2.2.2.1
  have F4 := hL.2.2.2.2.2.1
  have G4 := hR.2.2.2.2.2.1
  have F5 := hL.2.2.2.2.1
  have G5 := hR.2.2.2.2.1
  have F7 := hL.2.2.2.2.2.2.2.2.2.2
  have G7 := hR.2.2.2.2.2.2.2.2.2.2
  have dF : X2_rememberAheadOfHits_w0 F 13 = sA 3 := F3
  have dG : X2_rememberAheadOfHits_w0 G 13 = sA 14 := G3
  have cF : X2_rememberAheadOfHits_w0 F 14 = sA 6 := F4
  have cG : X2_rememberAheadOfHits_w0 G 14 = sA 17 := G4
  have iF : X2_rememberAheadOfHits_w0 F 11 = one := f11
  have iG : X2_rememberAheadOfHits_w0 G 11 = two := g11
  have b5F : sA 3 = 0 ∨ sA 3 = 3 → X2_rememberAheadOfHits_w0 F 5 = -1 := fun q => bL (fun w => by rw [← F3, w] at q; rcases q with q | q <;> exact absurd q (by decide))
  have b5G : sA 14 = 0 ∨ sA 14 = 3 → X2_rememberAheadOfHits_w0 G 5 = -1 := fun q => bR (fun w => by rw [← G3, w] at q; rcases q with q | q <;> exact absurd q (by decide))
  unfold X1_strike_w1 X1_strike_w2 X8_hitBoth_w2
  rw [eL, eR]
  by_cases qL : X8_reaches0_r tb sA = 0
  · rw [if_pos qL, if_pos qL, if_pos qL]
    rw [if_pos qL] at hJ9
    by_cases qR : X8_reaches11_r tb sA = 0
    · rw [if_pos qR, if_pos qR, if_pos qR]
      rw [if_pos qR] at hJ20
      exact ⟨rL.up (fun q => by rw [hJ9]; exact F7 q), rR.up (fun q => by rw [hJ20]; exact G7 q), st_rem, st_rem⟩
    · rw [if_neg qR, if_neg qR, if_neg qR]
      rw [if_neg qR] at hJ20
      have g3 : G 3 = 1 := G3.trans (reaches11_mv qR)
      obtain ⟨i, hi, ei⟩ := (mR g3).1
      have emi : mi (G 5) = i := by rw [ei]; exact mi_nI (by omega)
      obtain ⟨a1, a2, a3, a4, a5, a6⟩ := landR hT hi (G5.symm.trans ei) rR rL g15 f15 dF cF iF b5F
      rw [emi]
      refine ⟨a2.up (fun q => (ne1 a4 q).elim), a1.up (fun _ => ?_), st_other a6 a4 ?_ st_rem, st_by a5 st_rem⟩
      · rw [a3, touch11_at (by decide), hJ20]
      · exact a2.2.2.2.2.1.trans touch11_4
  · rw [if_neg qL, if_neg qL, if_neg qL]
    rw [if_neg qL] at hJ9
    have f3 : F 3 = 1 := F3.trans (reaches0_mv qL)
    obtain ⟨i, hi, ei⟩ := (mL f3).1
    have emi : mi (F 5) = i := by rw [ei]; exact mi_nI (by omega)
    obtain ⟨a1, a2, a3, a4, a5, a6⟩ := landL hT hi (F5.symm.trans ei) rL rR f15 g15 dG cG iG b5G
    have h15 := a2.2.2.2.2.1.trans touch0_15
    by_cases qR : X8_reaches11_r tb sA = 0
    · rw [if_pos qR, if_pos qR, if_pos qR, emi]
      exact ⟨a1.up (fun _ => by rw [a3, touch0_at (by decide), hJ9]), a2.up (fun q => (ne1 a4 q).elim), st_by a5 st_rem, st_other a6 a4 h15 st_rem⟩
    · rw [if_neg qR, if_neg qR, if_neg qR]
      rw [if_neg qR] at hJ20
      have g3 : G 3 = 1 := G3.trans (reaches11_mv qR)
      obtain ⟨i2, hi2, ei2⟩ := (mR g3).1
      have emi2 : mi (G 5) = i2 := by rw [ei2]; exact mi_nI (by omega)
      have kF : X8_ofMove_r tb (sA 4) 4 = MV i 4 := by rw [← F5, ei]; exact hT.2.1 i hi 4 (by decide)
      have kG : X8_ofMove_r tb (sA 15) 4 = MV i2 4 := by rw [← G5, ei2]; exact hT.2.1 i2 hi2 4 (by decide)
      rw [emi, emi2, kF, kG]
      have both : relL (X1_land_w1 (X1_land_w0 (X2_rememberAheadOfHits_w0 F) (X2_rememberAheadOfHits_w0 G) MV i) MV i2) (X8_touch11_w2 tb (X8_touch0_w2 tb (X8_hitBoth_j91 tb sA) (sA 17) (sA 14) two (sA 4)) (sA 6) (sA 3) one (sA 15)) ∧ relR (X1_land_w0 (X1_land_w1 (X2_rememberAheadOfHits_w0 G) MV i) (X1_land_w0 (X2_rememberAheadOfHits_w0 F) (X2_rememberAheadOfHits_w0 G) MV i) MV i2) (X8_touch11_w2 tb (X8_touch0_w2 tb (X8_hitBoth_j91 tb sA) (sA 17) (sA 14) two (sA 4)) (sA 6) (sA 3) one (sA 15)) ∧ stOK F (X1_land_w1 (X1_land_w0 (X2_rememberAheadOfHits_w0 F) (X2_rememberAheadOfHits_w0 G) MV i) MV i2) ∧ stOK G (X1_land_w0 (X1_land_w1 (X2_rememberAheadOfHits_w0 G) MV i) (X1_land_w0 (X2_rememberAheadOfHits_w0 F) (X2_rememberAheadOfHits_w0 G) MV i) MV i2) := by
        obtain ⟨c1, c2, c3, c4, c5, c6⟩ := landR (F := X1_land_w1 (X2_rememberAheadOfHits_w0 G) MV i) (G := X1_land_w0 (X2_rememberAheadOfHits_w0 F) (X2_rememberAheadOfHits_w0 G) MV i) (x := sA 15) (did := sA 3) (count := sA 6) (input := one) hT hi2 (G5.symm.trans ei2) a2 a1
          (by rw [a6 15 (by decide)]; exact g15) (by rw [a5 15 (by decide)]; exact f15) (by rw [a5 13 (by decide)]; exact dF) (by rw [a5 14 (by decide)]; exact cF) (by rw [a5 11 (by decide)]; exact iF)
          (fun q => by rw [reaches0_mv qL] at q; rcases q with q | q <;> exact absurd q (by decide))
        refine ⟨c2.up (fun q => (ne1 c4 q).elim), c1.up (fun q => ?_), st_other c6 c4 (c2.2.2.2.2.1.trans touch11_4) (st_by a5 st_rem), st_by c5 (st_other a6 a4 h15 st_rem)⟩
        rw [c5 3 (by decide)] at q
        exact (ne1 a4 q).elim
      by_cases k1 : MV i 4 = 3
      · rw [if_pos k1, if_pos k1, if_pos k1]
        by_cases k2 : MV i2 4 = 3
        · rw [if_pos k2, if_pos k2, if_pos k2]
          -- they part
          have tF : X2_touch_w0 F 0 2 = F 2 := by
            show X2_touch_j28 F 0 = F 2
            unfold X2_touch_j28
            rw [Int32.add_zero, if_pos tL]
          have tG : X2_touch_w0 G 0 2 = G 2 := by
            show X2_touch_j28 G 0 = G 2
            unfold X2_touch_j28
            rw [Int32.add_zero, if_pos tR]
          obtain ⟨p1, -⟩ := gbL_eq (F := X2_touch_w0 F 0) (sA := X8_hitBoth_j91 tb sA) (x := 20) (by rw [hJ 0 (by decide) (by decide)]; exact hL.1) f15
          obtain ⟨p2, -⟩ := gbR_eq (F := X2_touch_w0 G 0) (sA := X8_goBack0_w2 (X8_hitBoth_j91 tb sA) 20) (x := 20) (by rw [gb0_at (by decide), hJ 11 (by decide) (by decide)]; exact hR.1) g15
          have sS : ∀ k, k ≠ 0 → k ≠ 11 → X8_goBack11_w2 (X8_goBack0_w2 (X8_hitBoth_j91 tb sA) 20) 20 k = X8_hitBoth_j91 tb sA k := fun k h0 h11 => by rw [gb11_at h11, gb0_at h0]
          have wF : ∀ k, k ≠ 0 → k ≠ 2 → k ≠ 7 → X2_goBack_w0 (X2_touch_w0 F 0) 20 k = F k := by
            intro k h0 h2 h7
            rw [gb_at h0]
            simp [X2_touch_w0, upd, h2, h7]
          have wG : ∀ k, k ≠ 0 → k ≠ 2 → k ≠ 7 → X2_goBack_w0 (X2_touch_w0 G 0) 20 k = G k := by
            intro k h0 h2 h7
            rw [gb_at h0]
            simp [X2_touch_w0, upd, h2, h7]
          obtain ⟨F0, F1, F2, F3, F5, F4, F9, F10, F6, F8, F7⟩ := hL
          obtain ⟨G0, G1, G2, G3, G5, G4, G9, G10, G6, G8, G7⟩ := hR
          refine ⟨⟨?_, ?_, ?_, ?_, ?_, ?_, ?_, ?_, ?_, ?_, ?_⟩, ⟨?_, ?_, ?_, ?_, ?_, ?_, ?_, ?_, ?_, ?_, ?_⟩, st_part, st_part⟩
          · rw [gb11_at (by decide)]; exact p1
          · rw [sS 1 (by decide) (by decide), hJ 1 (by decide) (by decide)]; exact (wF 1 (by decide) (by decide) (by decide)).trans F1
          · rw [sS 2 (by decide) (by decide), hJ 2 (by decide) (by decide)]; exact ((gb_at (by decide)).trans tF).trans F2
          · rw [sS 3 (by decide) (by decide), hJ 3 (by decide) (by decide)]; exact (wF 3 (by decide) (by decide) (by decide)).trans F3
          · rw [sS 4 (by decide) (by decide), hJ 4 (by decide) (by decide)]; exact (wF 5 (by decide) (by decide) (by decide)).trans F5
          · rw [sS 6 (by decide) (by decide), hJ 6 (by decide) (by decide)]; exact (wF 4 (by decide) (by decide) (by decide)).trans F4
          · rw [sS 7 (by decide) (by decide), hJ 7 (by decide) (by decide)]; exact (wF 9 (by decide) (by decide) (by decide)).trans F9
          · rw [sS 8 (by decide) (by decide), hJ 8 (by decide) (by decide)]; exact (wF 10 (by decide) (by decide) (by decide)).trans F10
          · intro _; rw [sS 5 (by decide) (by decide), hJ 5 (by decide) (by decide)]; exact (wF 6 (by decide) (by decide) (by decide)).trans (F6 f3)
          · intro q; exact absurd ((wF 3 (by decide) (by decide) (by decide)).trans f3) q
          · intro _; rw [sS 9 (by decide) (by decide), hJ9]; exact (gb_at (by decide)).trans rfl
          · exact p2
          · rw [sS 12 (by decide) (by decide), hJ 12 (by decide) (by decide)]; exact (wG 1 (by decide) (by decide) (by decide)).trans G1
          · rw [sS 13 (by decide) (by decide), hJ 13 (by decide) (by decide)]; exact ((gb_at (by decide)).trans tG).trans G2
          · rw [sS 14 (by decide) (by decide), hJ 14 (by decide) (by decide)]; exact (wG 3 (by decide) (by decide) (by decide)).trans G3
          · rw [sS 15 (by decide) (by decide), hJ 15 (by decide) (by decide)]; exact (wG 5 (by decide) (by decide) (by decide)).trans G5
          · rw [sS 17 (by decide) (by decide), hJ 17 (by decide) (by decide)]; exact (wG 4 (by decide) (by decide) (by decide)).trans G4
          · rw [sS 18 (by decide) (by decide), hJ 18 (by decide) (by decide)]; exact (wG 9 (by decide) (by decide) (by decide)).trans G9
          · rw [sS 19 (by decide) (by decide), hJ 19 (by decide) (by decide)]; exact (wG 10 (by decide) (by decide) (by decide)).trans G10
          · intro _; rw [sS 16 (by decide) (by decide), hJ 16 (by decide) (by decide)]; exact (wG 6 (by decide) (by decide) (by decide)).trans (G6 g3)
          · intro q; exact absurd ((wG 3 (by decide) (by decide) (by decide)).trans g3) q
          · intro _; rw [sS 20 (by decide) (by decide), hJ20]; exact (gb_at (by decide)).trans rfl
        · rw [if_neg k2, if_neg k2, if_neg k2]
          exact both
      · rw [if_neg k1, if_neg k1, if_neg k1]
        exact both
