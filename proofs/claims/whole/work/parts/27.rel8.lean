/-! the end of a frame, whole -/

theorem endL {MV : Nat → Nat → Int32} {tb F sA : Nat → Int32} {cnt : Nat} (hT : relT MV tb cnt) (hF : relL F sA) (hI : figI cnt MV F) :
    relL (X2_endFrame_w0 F MV) (X8_comeOn0_w2 tb sA) ∧ figI cnt MV (X2_endFrame_w0 F MV) ∧ (∀ k, k ∈ [0, 1, 2, 11, 12, 15] → X2_endFrame_w0 F MV k = F k) ∧ (∀ k, k ∉ [3, 4, 5, 6, 7, 8, 9] → X8_comeOn0_w2 tb sA k = sA k) ∧ (¬ X2_endFrame_w0 F MV 3 = 2 → X2_endFrame_w0 F MV 4 = 0) ∧ (X2_endFrame_w0 F MV 3 = 2 → X2_endFrame_w0 F MV 4 = F 4) := by
  obtain ⟨⟨E0, E1, E2, E3, E5, E4, E9, E10, E6, E8, E7⟩, ⟨iA, iB, iE, iD, iK, iT, iM⟩, low, hi9⟩ := end54L hT hF hI
  -- the class's last two steps
  have j67 : ∀ k, k ≠ 4 → X2_endFrame_j67 F MV k = X2_endFrame_j54 F MV k := by
    intro k hk
    unfold X2_endFrame_j67
    split <;> simp [upd, hk]
  have j67_4 : X2_endFrame_j67 F MV 4 = X8_comeOn0_j256 tb sA := by
    unfold X2_endFrame_j67 X8_comeOn0_j256
    rw [E3]
    by_cases c : X8_comeOn0_j189 tb sA 3 = 2
    · rw [if_pos c, if_pos c]; exact E4
    · rw [if_neg c, if_neg c]; simp [upd]
  have wo : ∀ k, k ≠ 9 → k ≠ 10 → X2_endFrame_w0 F MV k = X2_endFrame_j67 F MV k := by
    intro k h9 h10
    unfold X2_endFrame_w0
    split
    · simp [upd, h10]
    · simp [X2_drop_w0, upd, h9, h10]
  have wE : ∀ k, k ≠ 4 → k ≠ 9 → k ≠ 10 → X2_endFrame_w0 F MV k = X2_endFrame_j54 F MV k := fun k h4 h9 h10 => (wo k h9 h10).trans (j67 k h4)
  have sS : ∀ k, k ≠ 6 → k ≠ 7 → k ≠ 8 → k ≠ 9 → X8_comeOn0_w2 tb sA k = X8_comeOn0_j189 tb sA k := by
    intro k h6 h7 h8 h9
    unfold X8_comeOn0_w2
    simp [upd, h6, h7, h8, h9]
  have s6 : X8_comeOn0_w2 tb sA 6 = X8_comeOn0_j256 tb sA := rfl
  have s7 : X8_comeOn0_w2 tb sA 7 = X8_comeOn0_j319 tb sA := rfl
  have s8 : X8_comeOn0_w2 tb sA 8 = X8_comeOn0_j189 tb sA 8 - X8_comeOn0_j284 tb sA := rfl
  have s9 : X8_comeOn0_w2 tb sA 9 = X8_comeOn0_j222 tb sA := rfl
  obtain ⟨m, hm, em⟩ := iT
  have e10 : X8_comeOn0_j189 tb sA 8 = nI m := E10.symm.trans em
  have kt : X2_endFrame_w0 F MV 9 = X8_comeOn0_j319 tb sA ∧ X2_endFrame_w0 F MV 10 = X8_comeOn0_j189 tb sA 8 - X8_comeOn0_j284 tb sA ∧ (X2_endFrame_w0 F MV 9 = -1 ∨ isMv cnt (X2_endFrame_w0 F MV 9)) ∧ ∃ q, q ≤ 5 ∧ X2_endFrame_w0 F MV 10 = nI q := by
    have e67 : X2_endFrame_j67 F MV 10 = nI m := (j67 10 (by decide)).trans em
    have e284 : X8_comeOn0_j284 tb sA = if m = 0 then 0 else 1 := by
      unfold X8_comeOn0_j284
      rw [e10]
      by_cases c : m = 0
      · subst c; rw [if_pos rfl]; decide
      · rw [if_neg c, if_neg (nI_nle (by omega) (by omega))]
    by_cases c : 2 ≤ m
    · have g : 0 < X2_endFrame_j67 F MV 10 - 1 := by rw [e67]; exact (nI_0lt (by omega)).mpr c
      have w : X2_endFrame_w0 F MV = upd (X2_endFrame_j67 F MV) 10 (X2_endFrame_j67 F MV 10 - 1) := by unfold X2_endFrame_w0; rw [if_pos g]
      have m1 : nI m - 1 = nI (m - 1) := by
        obtain ⟨k, rfl⟩ : ∃ k, m = k + 1 := ⟨m - 1, by omega⟩
        exact nI_pred k
      have g2 : ¬ X8_comeOn0_j189 tb sA 8 - X8_comeOn0_j284 tb sA ≤ 0 := by
        rw [e10, e284, if_neg (by omega), m1]
        exact nI_nle (by omega) (by omega)
      refine ⟨?_, ?_, ?_, m - 1, by omega, ?_⟩
      · rw [w]; unfold X8_comeOn0_j319; rw [if_neg g2]
        show X2_endFrame_j67 F MV 9 = _
        rw [j67 9 (by decide)]; exact E9
      · rw [w, e10, e284, if_neg (by omega)]
        show X2_endFrame_j67 F MV 10 - 1 = _
        rw [e67]
      · rw [w]
        show X2_endFrame_j67 F MV 9 = -1 ∨ isMv cnt (X2_endFrame_j67 F MV 9)
        rw [j67 9 (by decide)]; exact iK
      · rw [w]
        show X2_endFrame_j67 F MV 10 - 1 = _
        rw [e67, m1]
    · have g : ¬ 0 < X2_endFrame_j67 F MV 10 - 1 := by rw [e67]; exact fun q => c ((nI_0lt (by omega)).mp q)
      have w : X2_endFrame_w0 F MV = X2_drop_w0 (upd (X2_endFrame_j67 F MV) 10 (X2_endFrame_j67 F MV 10 - 1)) := by unfold X2_endFrame_w0; rw [if_neg g]
      have z : X8_comeOn0_j189 tb sA 8 - X8_comeOn0_j284 tb sA = 0 := by
        rw [e10, e284]
        rcases (show m = 0 ∨ m = 1 by omega) with rfl | rfl <;> decide
      refine ⟨?_, ?_, Or.inl (by rw [w]; rfl), 0, by omega, by rw [w]; rfl⟩
      · rw [w]; unfold X8_comeOn0_j319; rw [z, if_pos (by decide)]; rfl
      · rw [w, z]; rfl
  obtain ⟨k1, k2, k3, k4⟩ := kt
  refine ⟨⟨?_, ?_, ?_, ?_, ?_, ?_, ?_, ?_, ?_, ?_, ?_⟩, ⟨?_, ?_, ?_, ?_, k3, k4, ?_⟩, ?_, ?_, ?_, ?_⟩
  · rw [wE 0 (by decide) (by decide) (by decide), sS 0 (by decide) (by decide) (by decide) (by decide)]; exact E0
  · rw [wE 1 (by decide) (by decide) (by decide), sS 1 (by decide) (by decide) (by decide) (by decide)]; exact E1
  · rw [wE 2 (by decide) (by decide) (by decide), sS 2 (by decide) (by decide) (by decide) (by decide)]; exact E2
  · rw [wE 3 (by decide) (by decide) (by decide), sS 3 (by decide) (by decide) (by decide) (by decide)]; exact E3
  · rw [wE 5 (by decide) (by decide) (by decide), sS 4 (by decide) (by decide) (by decide) (by decide)]; exact E5
  · rw [wo 4 (by decide) (by decide), s6]; exact j67_4
  · rw [s7]; exact k1
  · rw [s8]; exact k2
  · rw [wE 3 (by decide) (by decide) (by decide), wE 6 (by decide) (by decide) (by decide), sS 5 (by decide) (by decide) (by decide) (by decide)]; exact E6
  · rw [wE 3 (by decide) (by decide) (by decide), wE 8 (by decide) (by decide) (by decide), sS 5 (by decide) (by decide) (by decide) (by decide)]; exact E8
  · rw [wE 3 (by decide) (by decide) (by decide), wE 7 (by decide) (by decide) (by decide), s9]
    intro q
    unfold X8_comeOn0_j222
    rw [← E3, if_pos q]
    exact E7 q
  · rw [wE 3 (by decide) (by decide) (by decide), wE 5 (by decide) (by decide) (by decide), wE 6 (by decide) (by decide) (by decide)]; exact iA
  · rw [wE 3 (by decide) (by decide) (by decide), wE 5 (by decide) (by decide) (by decide)]; exact iB
  · rw [wE 3 (by decide) (by decide) (by decide), wE 8 (by decide) (by decide) (by decide)]; exact iE
  · rw [wE 3 (by decide) (by decide) (by decide)]; exact iD
  · rw [wE 2 (by decide) (by decide) (by decide)]; exact iM
  · intro k hk
    have h : k ≠ 4 ∧ k ≠ 9 ∧ k ≠ 10 := by revert hk; simp only [List.mem_cons, List.not_mem_nil, or_false]; omega
    rw [wE k h.1 h.2.1 h.2.2]
    exact low k (by revert hk; simp only [List.mem_cons, List.not_mem_nil, or_false]; omega)
  · intro k hk
    simp only [List.mem_cons, List.not_mem_nil, or_false, not_or] at hk
    obtain ⟨h3, h4, h5, h6, h7, h8, h9⟩ := hk
    rw [sS k h6 h7 h8 h9]
    exact hi9 k (by simp only [List.mem_cons, List.not_mem_nil, or_false, not_or]; exact ⟨h3, h4, h5, h9⟩)
  · rw [wE 3 (by decide) (by decide) (by decide), wo 4 (by decide) (by decide)]
    intro q
    unfold X2_endFrame_j67
    rw [if_neg q]
    simp [upd]
  · rw [wE 3 (by decide) (by decide) (by decide), wo 4 (by decide) (by decide)]
    intro q
    unfold X2_endFrame_j67
    rw [if_pos q]
    exact low 4 (by decide)

theorem endR {MV : Nat → Nat → Int32} {tb F sA : Nat → Int32} {cnt : Nat} (hT : relT MV tb cnt) (hF : relR F sA) (hI : figI cnt MV F) :
    relR (X2_endFrame_w0 F MV) (X8_comeOn11_w2 tb sA) ∧ figI cnt MV (X2_endFrame_w0 F MV) ∧ (∀ k, k ∈ [0, 1, 2, 11, 12, 15] → X2_endFrame_w0 F MV k = F k) ∧ (∀ k, k ∉ [14, 15, 16, 17, 18, 19, 20] → X8_comeOn11_w2 tb sA k = sA k) ∧ (¬ X2_endFrame_w0 F MV 3 = 2 → X2_endFrame_w0 F MV 4 = 0) ∧ (X2_endFrame_w0 F MV 3 = 2 → X2_endFrame_w0 F MV 4 = F 4) := by
  obtain ⟨⟨E0, E1, E2, E3, E5, E4, E9, E10, E6, E8, E7⟩, ⟨iA, iB, iE, iD, iK, iT, iM⟩, low, hi9⟩ := end54R hT hF hI
  -- the class's last two steps
  have j67 : ∀ k, k ≠ 4 → X2_endFrame_j67 F MV k = X2_endFrame_j54 F MV k := by
    intro k hk
    unfold X2_endFrame_j67
    split <;> simp [upd, hk]
  have j67_4 : X2_endFrame_j67 F MV 4 = X8_comeOn11_j256 tb sA := by
    unfold X2_endFrame_j67 X8_comeOn11_j256
    rw [E3]
    by_cases c : X8_comeOn11_j189 tb sA 14 = 2
    · rw [if_pos c, if_pos c]; exact E4
    · rw [if_neg c, if_neg c]; simp [upd]
  have wo : ∀ k, k ≠ 9 → k ≠ 10 → X2_endFrame_w0 F MV k = X2_endFrame_j67 F MV k := by
    intro k h9 h10
    unfold X2_endFrame_w0
    split
    · simp [upd, h10]
    · simp [X2_drop_w0, upd, h9, h10]
  have wE : ∀ k, k ≠ 4 → k ≠ 9 → k ≠ 10 → X2_endFrame_w0 F MV k = X2_endFrame_j54 F MV k := fun k h4 h9 h10 => (wo k h9 h10).trans (j67 k h4)
  have sS : ∀ k, k ≠ 17 → k ≠ 18 → k ≠ 19 → k ≠ 20 → X8_comeOn11_w2 tb sA k = X8_comeOn11_j189 tb sA k := by
    intro k h6 h7 h8 h9
    unfold X8_comeOn11_w2
    simp [upd, h6, h7, h8, h9]
  have s6 : X8_comeOn11_w2 tb sA 17 = X8_comeOn11_j256 tb sA := rfl
  have s7 : X8_comeOn11_w2 tb sA 18 = X8_comeOn11_j319 tb sA := rfl
  have s8 : X8_comeOn11_w2 tb sA 19 = X8_comeOn11_j189 tb sA 19 - X8_comeOn11_j284 tb sA := rfl
  have s9 : X8_comeOn11_w2 tb sA 20 = X8_comeOn11_j222 tb sA := rfl
  obtain ⟨m, hm, em⟩ := iT
  have e10 : X8_comeOn11_j189 tb sA 19 = nI m := E10.symm.trans em
  have kt : X2_endFrame_w0 F MV 9 = X8_comeOn11_j319 tb sA ∧ X2_endFrame_w0 F MV 10 = X8_comeOn11_j189 tb sA 19 - X8_comeOn11_j284 tb sA ∧ (X2_endFrame_w0 F MV 9 = -1 ∨ isMv cnt (X2_endFrame_w0 F MV 9)) ∧ ∃ q, q ≤ 5 ∧ X2_endFrame_w0 F MV 10 = nI q := by
    have e67 : X2_endFrame_j67 F MV 10 = nI m := (j67 10 (by decide)).trans em
    have e284 : X8_comeOn11_j284 tb sA = if m = 0 then 0 else 1 := by
      unfold X8_comeOn11_j284
      rw [e10]
      by_cases c : m = 0
      · subst c; rw [if_pos rfl]; decide
      · rw [if_neg c, if_neg (nI_nle (by omega) (by omega))]
    by_cases c : 2 ≤ m
    · have g : 0 < X2_endFrame_j67 F MV 10 - 1 := by rw [e67]; exact (nI_0lt (by omega)).mpr c
      have w : X2_endFrame_w0 F MV = upd (X2_endFrame_j67 F MV) 10 (X2_endFrame_j67 F MV 10 - 1) := by unfold X2_endFrame_w0; rw [if_pos g]
      have m1 : nI m - 1 = nI (m - 1) := by
        obtain ⟨k, rfl⟩ : ∃ k, m = k + 1 := ⟨m - 1, by omega⟩
        exact nI_pred k
      have g2 : ¬ X8_comeOn11_j189 tb sA 19 - X8_comeOn11_j284 tb sA ≤ 0 := by
        rw [e10, e284, if_neg (by omega), m1]
        exact nI_nle (by omega) (by omega)
      refine ⟨?_, ?_, ?_, m - 1, by omega, ?_⟩
      · rw [w]; unfold X8_comeOn11_j319; rw [if_neg g2]
        show X2_endFrame_j67 F MV 9 = _
        rw [j67 9 (by decide)]; exact E9
      · rw [w, e10, e284, if_neg (by omega)]
        show X2_endFrame_j67 F MV 10 - 1 = _
        rw [e67]
      · rw [w]
        show X2_endFrame_j67 F MV 9 = -1 ∨ isMv cnt (X2_endFrame_j67 F MV 9)
        rw [j67 9 (by decide)]; exact iK
      · rw [w]
        show X2_endFrame_j67 F MV 10 - 1 = _
        rw [e67, m1]
    · have g : ¬ 0 < X2_endFrame_j67 F MV 10 - 1 := by rw [e67]; exact fun q => c ((nI_0lt (by omega)).mp q)
      have w : X2_endFrame_w0 F MV = X2_drop_w0 (upd (X2_endFrame_j67 F MV) 10 (X2_endFrame_j67 F MV 10 - 1)) := by unfold X2_endFrame_w0; rw [if_neg g]
      have z : X8_comeOn11_j189 tb sA 19 - X8_comeOn11_j284 tb sA = 0 := by
        rw [e10, e284]
        rcases (show m = 0 ∨ m = 1 by omega) with rfl | rfl <;> decide
      refine ⟨?_, ?_, Or.inl (by rw [w]; rfl), 0, by omega, by rw [w]; rfl⟩
      · rw [w]; unfold X8_comeOn11_j319; rw [z, if_pos (by decide)]; rfl
      · rw [w, z]; rfl
  obtain ⟨k1, k2, k3, k4⟩ := kt
  refine ⟨⟨?_, ?_, ?_, ?_, ?_, ?_, ?_, ?_, ?_, ?_, ?_⟩, ⟨?_, ?_, ?_, ?_, k3, k4, ?_⟩, ?_, ?_, ?_, ?_⟩
  · rw [wE 0 (by decide) (by decide) (by decide), sS 11 (by decide) (by decide) (by decide) (by decide)]; exact E0
  · rw [wE 1 (by decide) (by decide) (by decide), sS 12 (by decide) (by decide) (by decide) (by decide)]; exact E1
  · rw [wE 2 (by decide) (by decide) (by decide), sS 13 (by decide) (by decide) (by decide) (by decide)]; exact E2
  · rw [wE 3 (by decide) (by decide) (by decide), sS 14 (by decide) (by decide) (by decide) (by decide)]; exact E3
  · rw [wE 5 (by decide) (by decide) (by decide), sS 15 (by decide) (by decide) (by decide) (by decide)]; exact E5
  · rw [wo 4 (by decide) (by decide), s6]; exact j67_4
  · rw [s7]; exact k1
  · rw [s8]; exact k2
  · rw [wE 3 (by decide) (by decide) (by decide), wE 6 (by decide) (by decide) (by decide), sS 16 (by decide) (by decide) (by decide) (by decide)]; exact E6
  · rw [wE 3 (by decide) (by decide) (by decide), wE 8 (by decide) (by decide) (by decide), sS 16 (by decide) (by decide) (by decide) (by decide)]; exact E8
  · rw [wE 3 (by decide) (by decide) (by decide), wE 7 (by decide) (by decide) (by decide), s9]
    intro q
    unfold X8_comeOn11_j222
    rw [← E3, if_pos q]
    exact E7 q
  · rw [wE 3 (by decide) (by decide) (by decide), wE 5 (by decide) (by decide) (by decide), wE 6 (by decide) (by decide) (by decide)]; exact iA
  · rw [wE 3 (by decide) (by decide) (by decide), wE 5 (by decide) (by decide) (by decide)]; exact iB
  · rw [wE 3 (by decide) (by decide) (by decide), wE 8 (by decide) (by decide) (by decide)]; exact iE
  · rw [wE 3 (by decide) (by decide) (by decide)]; exact iD
  · rw [wE 2 (by decide) (by decide) (by decide)]; exact iM
  · intro k hk
    have h : k ≠ 4 ∧ k ≠ 9 ∧ k ≠ 10 := by revert hk; simp only [List.mem_cons, List.not_mem_nil, or_false]; omega
    rw [wE k h.1 h.2.1 h.2.2]
    exact low k (by revert hk; simp only [List.mem_cons, List.not_mem_nil, or_false]; omega)
  · intro k hk
    simp only [List.mem_cons, List.not_mem_nil, or_false, not_or] at hk
    obtain ⟨h3, h4, h5, h6, h7, h8, h9⟩ := hk
    rw [sS k h6 h7 h8 h9]
    exact hi9 k (by simp only [List.mem_cons, List.not_mem_nil, or_false, not_or]; exact ⟨h3, h4, h5, h9⟩)
  · rw [wE 3 (by decide) (by decide) (by decide), wo 4 (by decide) (by decide)]
    intro q
    unfold X2_endFrame_j67
    rw [if_neg q]
    simp [upd]
  · rw [wE 3 (by decide) (by decide) (by decide), wo 4 (by decide) (by decide)]
    intro q
    unfold X2_endFrame_j67
    rw [if_pos q]
    exact low 4 (by decide)
