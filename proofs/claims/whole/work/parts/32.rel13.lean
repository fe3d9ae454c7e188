theorem stand_at {F : Nat → Int32} {k : Nat} (h : k ≠ 3 ∧ k ≠ 5 ∧ k ≠ 6 ∧ k ≠ 7 ∧ k ≠ 8) : X2_stand_w0 F k = F k := by
  obtain ⟨h3, h5, h6, h7, h8⟩ := h
  simp [X2_stand_w0, X2_leaveMove_w0, upd, h3, h5, h6, h7, h8]
theorem j28_at {F : Nat → Int32} {k : Nat} (h : k ≠ 6 ∧ k ≠ 7) : X2_endFrameOfMove_j28 F k = F k := by
  unfold X2_endFrameOfMove_j28
  split <;> simp [upd, h.1, h.2]
theorem eom_at {F : Nat → Int32} {x : Int32} {k : Nat} (h : k ≠ 3 ∧ k ≠ 5 ∧ k ≠ 6 ∧ k ≠ 7 ∧ k ≠ 8) : X2_endFrameOfMove_w0 F x k = F k := by
  unfold X2_endFrameOfMove_w0
  split
  · exact j28_at ⟨h.2.2.1, h.2.2.2.1⟩
  · rw [stand_at h]; exact j28_at ⟨h.2.2.1, h.2.2.2.1⟩
theorem e54_at {F : Nat → Int32} {MV : Nat → Nat → Int32} {k : Nat} (h : k ≠ 3 ∧ k ≠ 5 ∧ k ≠ 6 ∧ k ≠ 7 ∧ k ≠ 8) : X2_endFrame_j54 F MV k = F k := by
  unfold X2_endFrame_j54
  split
  · exact eom_at h
  · split
    · rfl
    · split
      · exact upd_n _ _ h.2.2.2.2
      · rw [stand_at h]; exact upd_n _ _ h.2.2.2.2
theorem end_at1 {F : Nat → Int32} {MV : Nat → Nat → Int32} : X2_endFrame_w0 F MV 1 = F 1 := by
  have e67 : X2_endFrame_j67 F MV 1 = F 1 := by
    unfold X2_endFrame_j67
    split
    · exact e54_at (by decide)
    · rw [upd_n _ _ (by decide)]; exact e54_at (by decide)
  unfold X2_endFrame_w0
  split
  · rw [upd_n _ _ (by decide)]; exact e67
  · unfold X2_drop_w0
    rw [upd_n _ _ (by decide), upd_n _ _ (by decide), upd_n _ _ (by decide)]; exact e67
theorem end_at4 {F : Nat → Int32} {MV : Nat → Nat → Int32} : X2_endFrame_w0 F MV 4 = F 4 ∨ X2_endFrame_w0 F MV 4 = 0 := by
  have e67 : X2_endFrame_j67 F MV 4 = F 4 ∨ X2_endFrame_j67 F MV 4 = 0 := by
    unfold X2_endFrame_j67
    split
    · exact Or.inl (e54_at (by decide))
    · exact Or.inr rfl
  unfold X2_endFrame_w0
  split
  · rw [upd_n _ _ (by decide)]; exact e67
  · unfold X2_drop_w0
    rw [upd_n _ _ (by decide), upd_n _ _ (by decide), upd_n _ _ (by decide)]; exact e67
theorem end_q {F : Nat → Int32} {MV : Nat → Nat → Int32} (h : ¬ F 3 = 1) (h9 : F 9 = -1) : ¬ X2_endFrame_w0 F MV 3 = 1 ∧ X2_endFrame_w0 F MV 9 = -1 := by
  have e54 : ¬ X2_endFrame_j54 F MV 3 = 1 ∧ X2_endFrame_j54 F MV 9 = -1 := by
    refine ⟨?_, (e54_at (by decide)).trans h9⟩
    unfold X2_endFrame_j54
    rw [if_neg h]
    split
    · exact h
    · split
      · exact h
      · exact show ¬ (0 : Int32) = 1 by decide
  have e67 : ¬ X2_endFrame_j67 F MV 3 = 1 ∧ X2_endFrame_j67 F MV 9 = -1 := by
    unfold X2_endFrame_j67
    split
    · exact e54
    · rw [upd_n _ _ (by decide), upd_n _ _ (by decide)]; exact e54
  unfold X2_endFrame_w0
  split
  · rw [upd_n _ _ (by decide), upd_n _ _ (by decide)]; exact e67
  · unfold X2_drop_w0
    rw [upd_n _ _ (by decide), upd_n _ _ (by decide), upd_n _ _ (by decide)]
    exact ⟨e67.1, rfl⟩
theorem land1_3 {G : Nat → Int32} {MV : Nat → Nat → Int32} {i : Nat} : (¬ X1_land_w1 G MV i 3 = 1) ∧ X1_land_w1 G MV i 9 = G 9 := by
  unfold X1_land_w1 X1_land_j30
  rw [gb_at (by decide), gb_at (by decide)]
  split
  · exact ⟨show ¬ (2 : Int32) = 1 by decide, rfl⟩
  · exact ⟨show ¬ (3 : Int32) = 1 by decide, rfl⟩
theorem land0_39 {F G : Nat → Int32} {MV : Nat → Nat → Int32} {i : Nat} : X1_land_w0 F G MV i 3 = F 3 ∧ X1_land_w0 F G MV i 9 = F 9 := by
  unfold X1_land_w0
  rw [gb_at (by decide), gb_at (by decide)]
  exact ⟨rfl, rfl⟩
/-- a figure that makes no move and keeps none -/
def quiet (G : Nat → Int32) : Prop := ¬ G 3 = 1 ∧ G 9 = -1
theorem quiet_strike {F G : Nat → Int32} {MV : Nat → Nat → Int32} (h : quiet G) : quiet (X1_strike_w2 F G MV) := by
  have hr : quiet (X2_rememberAheadOfHits_w0 G) := ⟨h.1, h.2⟩
  have h1 : ∀ {H : Nat → Int32} {i}, quiet H → quiet (X1_land_w1 H MV i) := fun q => ⟨land1_3.1, land1_3.2.trans q.2⟩
  have h0 : ∀ {H K : Nat → Int32} {i}, quiet H → quiet (X1_land_w0 H K MV i) := fun q => ⟨fun z => q.1 (land0_39.1.symm.trans z), land0_39.2.trans q.2⟩
  unfold X1_strike_w2
  split
  · split
    · exact hr
    · exact h0 hr
  · split
    · exact h1 hr
    · split
      · split
        · unfold X1_part_w2 quiet
          rw [gb_at (by decide), gb_at (by decide)]
          exact ⟨h.1, h.2⟩
        · exact h0 (h1 hr)
      · exact h0 (h1 hr)
theorem walk2_k {F G : Nat → Int32} {k : Nat} (h : k ≠ 0) : X1_walk_w2 F G k = G k := walk2_at h
theorem life_frame {MV : Nat → Nat → Int32} {tb F G sA : Nat → Int32} {cnt n : Nat} {one two : Int32} (hT : relT MV tb cnt) (hV : relV MV cnt) (hC : relC MV cnt) (hD : relD MV cnt) (h : relS MV cnt F G sA) (h1 : okIn cnt one) (h2 : okIn cnt two) (hF : lifeI n F) (hG : lifeI n G) (hn : n ≤ 2000) :
    lifeI (n + 1) (X1_playFrame_w1 F G MV one two) ∧ lifeI (n + 1) (X1_playFrame_w2 F G MV one two) ∧ (two < 10 → quiet G → quiet (X1_playFrame_w2 F G MV one two) ∧ X1_playFrame_w1 F G MV one two 1 = F 1) := by
  obtain ⟨hL, hR, iL, iR, f15, g15⟩ := h
  have I2 := figI_begin hT hV hC (figI_take iL h1)
  have J2 := figI_begin hT hV hC (figI_take iR h2)
  have take_k : ∀ {H : Nat → Int32} {x : Int32} {k : Nat}, k = 1 ∨ k = 4 ∨ k = 3 → X2_take_w0 H x k = H k := by
    intro H x k hk
    unfold X2_take_w0
    split <;> (rcases hk with rfl | rfl | rfl <;> rfl)
  have tb1 : ∀ {H : Nat → Int32} {x : Int32}, X2_beginKept_w0 (X2_take_w0 H x) MV 1 = H 1 := (begin_at (by decide)).trans (take_k (Or.inl rfl))
  have tb4 : ∀ {H : Nat → Int32} {x : Int32}, X2_beginKept_w0 (X2_take_w0 H x) MV 4 = H 4 := (begin_at (by decide)).trans (take_k (Or.inr (Or.inl rfl)))
  have hF3 : lifeI n (X1_walk_w1 (X2_beginKept_w0 (X2_take_w0 F one) MV) (X2_beginKept_w0 (X2_take_w0 G two) MV)) := lifeI_up hF (Nat.le_refl _) ((walk1_at (by decide)).trans tb1) (Or.inl ((walk1_at (by decide)).trans tb4))
  have hG3 : lifeI n (X1_walk_w2 (X2_beginKept_w0 (X2_take_w0 F one) MV) (X2_beginKept_w0 (X2_take_w0 G two) MV)) := lifeI_up hG (Nat.le_refl _) ((walk2_at (by decide)).trans tb1) (Or.inl ((walk2_at (by decide)).trans tb4))
  have mL : X1_walk_w1 (X2_beginKept_w0 (X2_take_w0 F one) MV) (X2_beginKept_w0 (X2_take_w0 G two) MV) 3 = 1 → isMv cnt (X1_walk_w1 (X2_beginKept_w0 (X2_take_w0 F one) MV) (X2_beginKept_w0 (X2_take_w0 G two) MV) 5) := by
    rw [walk1_at (by decide), walk1_at (by decide)]
    exact fun q => (figI_mL I2 q).1
  have mR : X1_walk_w2 (X2_beginKept_w0 (X2_take_w0 F one) MV) (X2_beginKept_w0 (X2_take_w0 G two) MV) 3 = 1 → isMv cnt (X1_walk_w2 (X2_beginKept_w0 (X2_take_w0 F one) MV) (X2_beginKept_w0 (X2_take_w0 G two) MV) 5) := by
    rw [walk2_at (by decide), walk2_at (by decide)]
    exact fun q => (figI_mL J2 q).1
  obtain ⟨sL, sR, sq⟩ := life_strike hT.1 hD mL mR hF3 hG3 hn
  refine ⟨lifeI_up sL (Nat.le_refl _) end_at1 end_at4, lifeI_up sR (Nat.le_refl _) end_at1 end_at4, fun ht hq => ?_⟩
  have hq1 : quiet (X2_take_w0 G two) := by
    refine ⟨fun z => hq.1 ((take_k (Or.inr (Or.inr rfl))).symm.trans z), ?_⟩
    unfold X2_take_w0
    rw [if_pos ht]
    exact hq.2
  have hq2 : quiet (X2_beginKept_w0 (X2_take_w0 G two) MV) := by
    unfold X2_beginKept_w0
    rw [if_pos hq1.2]
    exact hq1
  have hq3 : quiet (X1_walk_w2 (X2_beginKept_w0 (X2_take_w0 F one) MV) (X2_beginKept_w0 (X2_take_w0 G two) MV)) := by
    unfold quiet
    rw [walk2_at (by decide), walk2_at (by decide)]
    exact hq2
  refine ⟨end_q (quiet_strike hq3).1 (quiet_strike hq3).2, ?_⟩
  exact end_at1.trans ((sq hq3.1).trans ((walk1_at (by decide)).trans tb1))
