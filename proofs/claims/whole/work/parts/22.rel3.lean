/-! a hit: what agrees behind it -/

def rel0L (F sA : Nat → Int32) : Prop := F 0 = sA 0 ∧ F 1 = sA 1 ∧ F 2 = sA 2 ∧ F 3 = sA 3 ∧ F 5 = sA 4 ∧ F 4 = sA 6 ∧ F 9 = sA 7 ∧ F 10 = sA 8 ∧ (F 3 = 1 → F 6 = sA 5) ∧ (¬ F 3 = 1 → F 8 = sA 5)
def rel0R (F sA : Nat → Int32) : Prop := F 0 = sA 11 ∧ F 1 = sA 12 ∧ F 2 = sA 13 ∧ F 3 = sA 14 ∧ F 5 = sA 15 ∧ F 4 = sA 17 ∧ F 9 = sA 18 ∧ F 10 = sA 19 ∧ (F 3 = 1 → F 6 = sA 16) ∧ (¬ F 3 = 1 → F 8 = sA 16)
theorem gb_at {F : Nat → Int32} {x : Int32} {k : Nat} (h : k ≠ 0) : X2_goBack_w0 F x k = F k := by unfold X2_goBack_w0; exact upd_n _ _ h
theorem tens_eq (x : Int32) : (if 10 ≤ x then (1 : Int32) else 11 - x) = if x ≤ 10 then 11 - x else 1 := by
  by_cases c : 10 ≤ x
  · rw [if_pos c]
    by_cases d : x ≤ 10
    · rw [if_pos d, Int32.le_antisymm d c]; rfl
    · rw [if_neg d]
  · rw [if_neg c, if_pos (Int32.le_of_lt (Int32.not_le.mp c))]

theorem gbL_eq {F sA : Nat → Int32} {x : Int32} (h0 : F 0 = sA 0) (h15 : ¬ F 15 = 0) : X2_goBack_w0 F x 0 = X8_goBack0_w2 sA x 0 ∧ X2_goBack_r F x = X8_goBack0_r sA x := by
  have e : X2_goBack_j33 F x = X8_goBack0_j35 sA x := by
    unfold X2_goBack_j33 X8_goBack0_j35 X2_goBack_j22
    rw [if_neg h15, h0]
  refine ⟨?_, ?_⟩
  · unfold X2_goBack_w0 X8_goBack0_w2 X2_goBack_j52
    rw [upd_s, upd_s, if_neg h15, e, h0]
  · unfold X2_goBack_r X8_goBack0_r
    rw [e]

theorem gbR_eq {F sA : Nat → Int32} {x : Int32} (h0 : F 0 = sA 11) (h15 : F 15 = 0) : X2_goBack_w0 F x 0 = X8_goBack11_w2 sA x 11 ∧ X2_goBack_r F x = X8_goBack11_r sA x := by
  have e : X2_goBack_j33 F x = X8_goBack11_j35 sA x := by
    unfold X2_goBack_j33 X8_goBack11_j35 X2_goBack_j22
    rw [if_pos h15, h0]
  refine ⟨?_, ?_⟩
  · unfold X2_goBack_w0 X8_goBack11_w2 X2_goBack_j52
    rw [upd_s, upd_s, if_pos h15, e, h0]
  · unfold X2_goBack_r X8_goBack11_r
    rw [e]

theorem blkL_eq {mv tb : Nat → Int32} {x input : Int32} (h4 : X8_ofMove_r tb x 4 = mv 4) : X4_isBlockedWith_r mv input = X8_touch0_j94 tb input x := by
  unfold X4_isBlockedWith_r X8_touch0_j94 X4_isBlockedWith_j25 X4_isBlockedWith_j52
  rw [h4]
  by_cases c : input = 2
  · subst c
    by_cases k0 : mv 4 = 0
    · simp [k0]
    · by_cases k2 : mv 4 = 2
      · simp [k2]
      · simp [k0, k2]
  · by_cases d : input = 4
    · subst d
      by_cases k1 : mv 4 = 1
      · simp [k1]
      · by_cases k2 : mv 4 = 2
        · simp [k2]
        · simp [k1, k2]
    · simp [c, d]
theorem sufL_eq {MV : Nat → Nat → Int32} {tb G : Nat → Int32} {i : Nat} {x did count : Int32} (hd : G 13 = did) (hc : G 14 = count) (h5 : X8_ofMove_r tb x 5 = MV i 5) (h6 : X8_ofMove_r tb x 6 = MV i 6) : X2_suffer_j33 G = X8_touch0_j173 count did ∧ X2_suffer_j100_1 G MV i = X8_touch0_j257 tb count did x ∧ X2_suffer_j132 G MV i = X8_touch0_j288 tb count did x := by
  have e33 : X2_suffer_j33 G = X8_touch0_j173 count did := by unfold X2_suffer_j33 X8_touch0_j173; rw [hd, hc]
  have e56 : X2_suffer_j56 G = X8_touch0_j197 count did := by unfold X2_suffer_j56 X8_touch0_j197; rw [e33]; exact tens_eq _
  have et : X4_trait_r (MV i) 0 = MV i 6 := rfl
  refine ⟨e33, ?_, ?_⟩
  · unfold X2_suffer_j100_1 X8_touch0_j257 X2_suffer_j13
    rw [hd, e56, h5]
    by_cases c : did = 1
    · rw [if_pos c, if_pos c, if_neg (by decide)]
    · rw [if_neg c, if_neg c, if_pos rfl]
  · have e100 : X2_suffer_j100 G MV i = ((X8_ofMove_r tb x 6) - (2 * ((X8_touch0_j173 count did) - 1))) + (X8_touch0_j227 did) := by
      unfold X2_suffer_j100 X8_touch0_j227 X2_suffer_j13
      rw [hd, e33, h6, et]
      by_cases c : did = 1
      · rw [if_pos c, if_pos c, if_neg (by decide)]
      · rw [if_neg c, if_neg c, if_pos rfl, Int32.add_zero]
    unfold X2_suffer_j132 X8_touch0_j288
    rw [e100]

theorem blkR_eq {mv tb : Nat → Int32} {x input : Int32} (h4 : X8_ofMove_r tb x 4 = mv 4) : X4_isBlockedWith_r mv input = X8_touch11_j94 tb input x := by
  unfold X4_isBlockedWith_r X8_touch11_j94 X4_isBlockedWith_j25 X4_isBlockedWith_j52
  rw [h4]
  by_cases c : input = 2
  · subst c
    by_cases k0 : mv 4 = 0
    · simp [k0]
    · by_cases k2 : mv 4 = 2
      · simp [k2]
      · simp [k0, k2]
  · by_cases d : input = 4
    · subst d
      by_cases k1 : mv 4 = 1
      · simp [k1]
      · by_cases k2 : mv 4 = 2
        · simp [k2]
        · simp [k1, k2]
    · simp [c, d]
theorem sufR_eq {MV : Nat → Nat → Int32} {tb G : Nat → Int32} {i : Nat} {x did count : Int32} (hd : G 13 = did) (hc : G 14 = count) (h5 : X8_ofMove_r tb x 5 = MV i 5) (h6 : X8_ofMove_r tb x 6 = MV i 6) : X2_suffer_j33 G = X8_touch11_j173 count did ∧ X2_suffer_j100_1 G MV i = X8_touch11_j257 tb count did x ∧ X2_suffer_j132 G MV i = X8_touch11_j288 tb count did x := by
  have e33 : X2_suffer_j33 G = X8_touch11_j173 count did := by unfold X2_suffer_j33 X8_touch11_j173; rw [hd, hc]
  have e56 : X2_suffer_j56 G = X8_touch11_j197 count did := by unfold X2_suffer_j56 X8_touch11_j197; rw [e33]; exact tens_eq _
  have et : X4_trait_r (MV i) 0 = MV i 6 := rfl
  refine ⟨e33, ?_, ?_⟩
  · unfold X2_suffer_j100_1 X8_touch11_j257 X2_suffer_j13
    rw [hd, e56, h5]
    by_cases c : did = 1
    · rw [if_pos c, if_pos c, if_neg (by decide)]
    · rw [if_neg c, if_neg c, if_pos rfl]
  · have e100 : X2_suffer_j100 G MV i = ((X8_ofMove_r tb x 6) - (2 * ((X8_touch11_j173 count did) - 1))) + (X8_touch11_j227 did) := by
      unfold X2_suffer_j100 X8_touch11_j227 X2_suffer_j13
      rw [hd, e33, h6, et]
      by_cases c : did = 1
      · rw [if_pos c, if_pos c, if_neg (by decide)]
      · rw [if_neg c, if_neg c, if_pos rfl, Int32.add_zero]
    unfold X2_suffer_j132 X8_touch11_j288
    rw [e100]
