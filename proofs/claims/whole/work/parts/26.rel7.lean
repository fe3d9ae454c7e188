/-! the end of a frame -/
/-- what holds of a figure between two frames -/
def figI (cnt : Nat) (MV : Nat → Nat → Int32) (F : Nat → Int32) : Prop :=
  (F 3 = 1 → ∃ i, i < cnt ∧ F 5 = nI i ∧ ∃ n a b c, F 6 = nI n ∧ MV i 0 = nI a ∧ MV i 1 = nI b ∧ MV i 2 = nI c ∧ n < a + b + c ∧ a + b + c ≤ 80) ∧ (¬ F 3 = 1 → F 5 = -1) ∧ (F 3 = 0 → F 8 = 0) ∧ (F 3 = 0 ∨ F 3 = 1 ∨ F 3 = 2 ∨ F 3 = 3) ∧ (F 9 = -1 ∨ isMv cnt (F 9)) ∧ (∃ m, m ≤ 5 ∧ F 10 = nI m) ∧ F 2 ≤ 100
theorem nI_0lt {m : Nat} (h : m < 1000) : 0 < nI m - 1 ↔ 2 ≤ m := by
  cases m with
  | zero =>
    constructor
    · intro q; exact absurd q (by decide)
    · intro q; omega
  | succ k =>
    rw [nI_pred, show (0 : Int32) = nI 0 from rfl, nI_ltI (by omega) (by omega)]
    omega

theorem end54L {MV : Nat → Nat → Int32} {tb F sA : Nat → Int32} {cnt : Nat} (hT : relT MV tb cnt) (hF : relL F sA) (hI : figI cnt MV F) :
    relL (X2_endFrame_j54 F MV) (X8_comeOn0_j189 tb sA) ∧ figI cnt MV (X2_endFrame_j54 F MV) ∧ (∀ k, k ∈ [0, 1, 2, 4, 9, 10, 11, 12, 15] → X2_endFrame_j54 F MV k = F k) ∧ (∀ k, k ∉ [3, 4, 5, 9] → X8_comeOn0_j189 tb sA k = sA k) := by
  obtain ⟨iA, iB, iE, iD, iK, iT, iM⟩ := hI
  obtain ⟨F0, F1, F2, F3, F5, F4, F9, F10, F6, F8, F7⟩ := hF
  have a160 : ∀ k, k ∉ [3, 4, 5, 9] → X8_comeOn0_j160 tb sA k = sA k := by
    intro k hk
    simp only [List.mem_cons, List.not_mem_nil, or_false, not_or] at hk
    obtain ⟨h3, h4, h5, h9⟩ := hk
    unfold X8_comeOn0_j160 X8_comeOn0_j103
    split
    · split <;> simp [upd, h3, h5, h9]
    · split
      · rfl
      · simp [upd, h3, h5]
  have a189 : ∀ k, k ∉ [3, 4, 5, 9] → X8_comeOn0_j189 tb sA k = sA k := by
    intro k hk
    have hk2 := hk
    simp only [List.mem_cons, List.not_mem_nil, or_false, not_or] at hk2
    unfold X8_comeOn0_j189
    split
    · rw [upd_n _ _ hk2.2.1, upd_n _ _ hk2.2.2.1, a160 k hk]
    · exact a160 k hk
  have low : ∀ k, k ∈ [0, 1, 2, 4, 9, 10, 11, 12, 15] → X2_endFrame_j54 F MV k = F k := by
    intro k hk
    have h : k ≠ 3 ∧ k ≠ 5 ∧ k ≠ 6 ∧ k ≠ 7 ∧ k ≠ 8 := by
      revert hk; simp only [List.mem_cons, List.not_mem_nil, or_false]; omega
    obtain ⟨k3, k5, k6, k7, k8⟩ := h
    have e28 : X2_endFrameOfMove_j28 F k = F k := by unfold X2_endFrameOfMove_j28; split <;> simp [upd, k6, k7]
    unfold X2_endFrame_j54 X2_endFrameOfMove_w0
    split
    · split
      · exact e28
      · simp [X2_stand_w0, X2_leaveMove_w0, upd, k3, k5, k6, k7, k8, e28]
    · split
      · rfl
      · split
        · simp [upd, k8]
        · simp [X2_stand_w0, X2_leaveMove_w0, upd, k3, k5, k6, k7, k8]
  -- the numbers that this step leaves
  have fin : X2_endFrame_j54 F MV 3 = X8_comeOn0_j189 tb sA 3 → X2_endFrame_j54 F MV 5 = X8_comeOn0_j189 tb sA 4 → (X2_endFrame_j54 F MV 3 = 1 → X2_endFrame_j54 F MV 6 = X8_comeOn0_j189 tb sA 5) → (¬ X2_endFrame_j54 F MV 3 = 1 → X2_endFrame_j54 F MV 8 = X8_comeOn0_j189 tb sA 5) → (X2_endFrame_j54 F MV 3 = 1 → X2_endFrame_j54 F MV 7 = X8_comeOn0_j189 tb sA 9) →
      ((X2_endFrame_j54 F MV 3 = 1 → ∃ i, i < cnt ∧ X2_endFrame_j54 F MV 5 = nI i ∧ ∃ n a b c, X2_endFrame_j54 F MV 6 = nI n ∧ MV i 0 = nI a ∧ MV i 1 = nI b ∧ MV i 2 = nI c ∧ n < a + b + c ∧ a + b + c ≤ 80) ∧ (¬ X2_endFrame_j54 F MV 3 = 1 → X2_endFrame_j54 F MV 5 = -1) ∧ (X2_endFrame_j54 F MV 3 = 0 → X2_endFrame_j54 F MV 8 = 0) ∧ (X2_endFrame_j54 F MV 3 = 0 ∨ X2_endFrame_j54 F MV 3 = 1 ∨ X2_endFrame_j54 F MV 3 = 2 ∨ X2_endFrame_j54 F MV 3 = 3)) →
      relL (X2_endFrame_j54 F MV) (X8_comeOn0_j189 tb sA) ∧ figI cnt MV (X2_endFrame_j54 F MV) ∧ (∀ k, k ∈ [0, 1, 2, 4, 9, 10, 11, 12, 15] → X2_endFrame_j54 F MV k = F k) ∧ (∀ k, k ∉ [3, 4, 5, 9] → X8_comeOn0_j189 tb sA k = sA k) := by
    intro e3 e5 e6 e8 e7 q
    refine ⟨⟨?_, ?_, ?_, e3, e5, ?_, ?_, ?_, e6, e8, e7⟩, ⟨q.1, q.2.1, q.2.2.1, q.2.2.2, ?_, ?_, ?_⟩, low, a189⟩
    · rw [low 0 (by decide), a189 0 (by decide)]; exact F0
    · rw [low 1 (by decide), a189 1 (by decide)]; exact F1
    · rw [low 2 (by decide), a189 2 (by decide)]; exact F2
    · rw [low 4 (by decide), a189 6 (by decide)]; exact F4
    · rw [low 9 (by decide), a189 7 (by decide)]; exact F9
    · rw [low 10 (by decide), a189 8 (by decide)]; exact F10
    · rw [low 9 (by decide)]; exact iK
    · rw [low 10 (by decide)]; exact iT
    · rw [low 2 (by decide)]; exact iM
  by_cases c1 : F 3 = 1
  · obtain ⟨i, hi, ei, n, a, b, c, en, ea, eb, ec, hn, h80⟩ := iA c1
    have hc := hT.1
    have s3 : sA 3 = 1 := F3.symm.trans c1
    have emi : mi (F 5) = i := by rw [ei]; exact mi_nI (by omega)
    have es : sA 4 = nI i := F5.symm.trans ei
    have m0 : X8_ofMove_r tb (sA 4) 0 = MV i 0 := by rw [es]; exact hT.2.1 i hi 0 (by decide)
    have m1 : X8_ofMove_r tb (sA 4) 1 = MV i 1 := by rw [es]; exact hT.2.1 i hi 1 (by decide)
    have m2 : X8_ofMove_r tb (sA 4) 2 = MV i 2 := by rw [es]; exact hT.2.1 i hi 2 (by decide)
    have e6 : sA 5 = nI n := (F6 c1).symm.trans en
    have e7 := F7 c1
    have efr : X4_frames_r (MV i) = nI (a + b + c) := by unfold X4_frames_r; rw [ea, eb, ec, nI_add, nI_add]
    have j28_6 : X2_endFrameOfMove_j28 F 6 = nI (n + 1) := by
      have : X2_endFrameOfMove_j28 F 6 = F 6 + 1 := by unfold X2_endFrameOfMove_j28; split <;> simp [upd]
      rw [this, en, nI_1]
    have j28_7 : X2_endFrameOfMove_j28 F 7 = sA 9 + X8_comeOn0_j61 sA := by
      unfold X2_endFrameOfMove_j28 X8_comeOn0_j61
      rw [e7]
      by_cases c9 : sA 9 = -1
      · rw [if_pos c9, if_pos c9, Int32.add_zero]
        simp [upd, e7]
      · rw [if_neg c9, if_neg c9]
        simp [upd]
    have j28_o : ∀ k, k ≠ 6 → k ≠ 7 → X2_endFrameOfMove_j28 F k = F k := by
      intro k k6 k7
      unfold X2_endFrameOfMove_j28
      split <;> simp [upd, k6, k7]
    have ej54 : X2_endFrame_j54 F MV = X2_endFrameOfMove_w0 F (nI (a + b + c)) := by unfold X2_endFrame_j54; rw [if_pos c1, emi, efr]
    have ej160 : X8_comeOn0_j160 tb sA = X8_comeOn0_j103 tb sA := by unfold X8_comeOn0_j160; rw [if_pos s3]
    have htot : (X8_ofMove_r tb (sA 4) 0 + X8_ofMove_r tb (sA 4) 1) + X8_ofMove_r tb (sA 4) 2 = nI (a + b + c) := by rw [m0, m1, m2, ea, eb, ec, nI_add, nI_add]
    by_cases cl : n + 1 = a + b + c
    · -- it is over
      have g1 : ¬ X2_endFrameOfMove_j28 F 6 < nI (a + b + c) := by rw [j28_6, cl]; exact fun q => Int32.lt_irrefl q
      have w : X2_endFrame_j54 F MV = X2_stand_w0 (X2_endFrameOfMove_j28 F) := by rw [ej54]; unfold X2_endFrameOfMove_w0; rw [if_neg g1]
      have g2 : sA 5 + 1 = (X8_ofMove_r tb (sA 4) 0 + X8_ofMove_r tb (sA 4) 1) + X8_ofMove_r tb (sA 4) 2 := by rw [htot, e6, nI_1, cl]
      have v : X8_comeOn0_j160 tb sA 3 = 0 := by rw [ej160]; unfold X8_comeOn0_j103; rw [if_pos g2]; rfl
      have v2 : X8_comeOn0_j189 tb sA = upd (upd (X8_comeOn0_j160 tb sA) 5 0) 4 (-1) := by unfold X8_comeOn0_j189; rw [if_pos v]
      have u3 : X2_endFrame_j54 F MV 3 = 0 := by rw [w]; rfl
      have u5 : X2_endFrame_j54 F MV 5 = -1 := by rw [w]; rfl
      have u8 : X2_endFrame_j54 F MV 8 = 0 := by rw [w]; rfl
      refine fin ?_ ?_ (fun q => absurd (u3.symm.trans q) (by decide)) (fun _ => ?_) (fun q => absurd (u3.symm.trans q) (by decide)) ⟨fun q => absurd (u3.symm.trans q) (by decide), fun _ => u5, fun _ => u8, Or.inl u3⟩
      · rw [u3, v2]; exact v.symm
      · rw [u5, v2]; rfl
      · rw [u8, v2]; rfl
    · have g1 : X2_endFrameOfMove_j28 F 6 < nI (a + b + c) := by rw [j28_6]; exact nI_lt (by omega) (by omega)
      have w : X2_endFrame_j54 F MV = X2_endFrameOfMove_j28 F := by rw [ej54]; unfold X2_endFrameOfMove_w0; rw [if_pos g1]
      have g2 : ¬ sA 5 + 1 = (X8_ofMove_r tb (sA 4) 0 + X8_ofMove_r tb (sA 4) 1) + X8_ofMove_r tb (sA 4) 2 := by
        rw [htot, e6, nI_1]
        intro q
        exact cl ((nI_eq (by omega) (by omega)).mp q)
      have ej103 : X8_comeOn0_j103 tb sA = upd (upd sA 5 (sA 5 + 1)) 9 (sA 9 + X8_comeOn0_j61 sA) := by unfold X8_comeOn0_j103; rw [if_neg g2]
      have v : ¬ X8_comeOn0_j160 tb sA 3 = 0 := by
        rw [ej160, ej103]
        intro q
        have q : sA 3 = 0 := q
        rw [s3] at q
        exact absurd q (by decide)
      have v2 : X8_comeOn0_j189 tb sA = upd (upd sA 5 (sA 5 + 1)) 9 (sA 9 + X8_comeOn0_j61 sA) := by unfold X8_comeOn0_j189; rw [if_neg v, ej160, ej103]
      have u3 : X2_endFrame_j54 F MV 3 = 1 := by rw [w, j28_o 3 (by decide) (by decide)]; exact c1
      have u5 : X2_endFrame_j54 F MV 5 = nI i := by rw [w, j28_o 5 (by decide) (by decide)]; exact ei
      have u6 : X2_endFrame_j54 F MV 6 = nI (n + 1) := by rw [w]; exact j28_6
      refine fin ?_ ?_ (fun _ => ?_) (fun q => absurd u3 q) (fun _ => ?_) ⟨fun _ => ⟨i, hi, u5, n + 1, a, b, c, u6, ea, eb, ec, by omega, h80⟩, fun q => absurd u3 q, fun q => absurd (u3.symm.trans q) (by decide), Or.inr (Or.inl u3)⟩
      · rw [u3, v2]; exact s3.symm
      · rw [u5, v2]; exact es.symm
      · rw [u6, v2]
        show nI (n + 1) = sA 5 + 1
        rw [e6, nI_1]
      · rw [w, v2]; exact j28_7
  · have s1 : ¬ sA 3 = 1 := fun q => c1 (F3.trans q)
    have u5 := iB c1
    have s4 : sA 4 = -1 := F5.symm.trans u5
    have s5 : F 8 = sA 5 := F8 c1
    by_cases c0 : F 3 = 0
    · have s0 : sA 3 = 0 := F3.symm.trans c0
      have w : X2_endFrame_j54 F MV = F := by unfold X2_endFrame_j54; rw [if_neg c1, if_pos c0]
      have ej160 : X8_comeOn0_j160 tb sA = sA := by unfold X8_comeOn0_j160; rw [if_neg s1, if_pos s0]
      have v2 : X8_comeOn0_j189 tb sA = upd (upd sA 5 0) 4 (-1) := by unfold X8_comeOn0_j189; rw [ej160, if_pos s0]
      rw [w] at fin ⊢
      refine fin ?_ ?_ (fun q => absurd q c1) (fun _ => ?_) (fun q => absurd q c1) ⟨iA, iB, iE, iD⟩
      · rw [v2]; exact F3
      · rw [v2]; exact u5
      · rw [v2]; exact iE c0
    · have s0 : ¬ sA 3 = 0 := fun q => c0 (F3.trans q)
      have ej160 : X8_comeOn0_j160 tb sA = upd (upd sA 5 (sA 5 - 1)) 3 (X8_comeOn0_j159 sA) := by unfold X8_comeOn0_j160; rw [if_neg s1, if_neg s0]
      by_cases ct : 0 < F 8 - 1
      · have w : X2_endFrame_j54 F MV = upd F 8 (F 8 - 1) := by unfold X2_endFrame_j54; rw [if_neg c1, if_neg c0, if_pos ct]
        have e159 : X8_comeOn0_j159 sA = sA 3 := by unfold X8_comeOn0_j159; rw [← s5, if_pos ct]
        have v2 : X8_comeOn0_j189 tb sA = upd (upd sA 5 (sA 5 - 1)) 3 (sA 3) := by
          unfold X8_comeOn0_j189
          rw [ej160, e159]
          exact if_neg s0
        have u3 : X2_endFrame_j54 F MV 3 = F 3 := by rw [w]; rfl
        refine fin ?_ ?_ (fun q => absurd (u3.symm.trans q) c1) (fun _ => ?_) (fun q => absurd (u3.symm.trans q) c1) ⟨fun q => absurd (u3.symm.trans q) c1, fun _ => ?_, fun q => absurd (u3.symm.trans q) c0, ?_⟩
        · rw [u3, v2]; exact F3
        · rw [w, v2]; exact u5.trans s4.symm
        · rw [w, v2]
          show F 8 - 1 = sA 5 - 1
          rw [s5]
        · rw [w]; exact u5
        · rw [u3]; exact iD
      · have w : X2_endFrame_j54 F MV = X2_stand_w0 (upd F 8 (F 8 - 1)) := by unfold X2_endFrame_j54; rw [if_neg c1, if_neg c0, if_neg ct]
        have e159 : X8_comeOn0_j159 sA = 0 := by unfold X8_comeOn0_j159; rw [← s5, if_neg ct]
        have v2 : X8_comeOn0_j189 tb sA = upd (upd (upd (upd sA 5 (sA 5 - 1)) 3 0) 5 0) 4 (-1) := by
          unfold X8_comeOn0_j189
          rw [ej160, e159]
          exact if_pos rfl
        have u3 : X2_endFrame_j54 F MV 3 = 0 := by rw [w]; rfl
        have u5' : X2_endFrame_j54 F MV 5 = -1 := by rw [w]; rfl
        have u8 : X2_endFrame_j54 F MV 8 = 0 := by rw [w]; rfl
        refine fin ?_ ?_ (fun q => absurd (u3.symm.trans q) (by decide)) (fun _ => ?_) (fun q => absurd (u3.symm.trans q) (by decide)) ⟨fun q => absurd (u3.symm.trans q) (by decide), fun _ => u5', fun _ => u8, Or.inl u3⟩
        · rw [u3, v2]; rfl
        · rw [u5', v2]; rfl
        · rw [u8, v2]; rfl

theorem end54R {MV : Nat → Nat → Int32} {tb F sA : Nat → Int32} {cnt : Nat} (hT : relT MV tb cnt) (hF : relR F sA) (hI : figI cnt MV F) :
    relR (X2_endFrame_j54 F MV) (X8_comeOn11_j189 tb sA) ∧ figI cnt MV (X2_endFrame_j54 F MV) ∧ (∀ k, k ∈ [0, 1, 2, 4, 9, 10, 11, 12, 15] → X2_endFrame_j54 F MV k = F k) ∧ (∀ k, k ∉ [14, 15, 16, 20] → X8_comeOn11_j189 tb sA k = sA k) := by
  obtain ⟨iA, iB, iE, iD, iK, iT, iM⟩ := hI
  obtain ⟨F0, F1, F2, F3, F5, F4, F9, F10, F6, F8, F7⟩ := hF
  have a160 : ∀ k, k ∉ [14, 15, 16, 20] → X8_comeOn11_j160 tb sA k = sA k := by
    intro k hk
    simp only [List.mem_cons, List.not_mem_nil, or_false, not_or] at hk
    obtain ⟨h3, h4, h5, h9⟩ := hk
    unfold X8_comeOn11_j160 X8_comeOn11_j103
    split
    · split <;> simp [upd, h3, h5, h9]
    · split
      · rfl
      · simp [upd, h3, h5]
  have a189 : ∀ k, k ∉ [14, 15, 16, 20] → X8_comeOn11_j189 tb sA k = sA k := by
    intro k hk
    have hk2 := hk
    simp only [List.mem_cons, List.not_mem_nil, or_false, not_or] at hk2
    unfold X8_comeOn11_j189
    split
    · rw [upd_n _ _ hk2.2.1, upd_n _ _ hk2.2.2.1, a160 k hk]
    · exact a160 k hk
  have low : ∀ k, k ∈ [0, 1, 2, 4, 9, 10, 11, 12, 15] → X2_endFrame_j54 F MV k = F k := by
    intro k hk
    have h : k ≠ 3 ∧ k ≠ 5 ∧ k ≠ 6 ∧ k ≠ 7 ∧ k ≠ 8 := by
      revert hk; simp only [List.mem_cons, List.not_mem_nil, or_false]; omega
    obtain ⟨k3, k5, k6, k7, k8⟩ := h
    have e28 : X2_endFrameOfMove_j28 F k = F k := by unfold X2_endFrameOfMove_j28; split <;> simp [upd, k6, k7]
    unfold X2_endFrame_j54 X2_endFrameOfMove_w0
    split
    · split
      · exact e28
      · simp [X2_stand_w0, X2_leaveMove_w0, upd, k3, k5, k6, k7, k8, e28]
    · split
      · rfl
      · split
        · simp [upd, k8]
        · simp [X2_stand_w0, X2_leaveMove_w0, upd, k3, k5, k6, k7, k8]
  -- the numbers that this step leaves
  have fin : X2_endFrame_j54 F MV 3 = X8_comeOn11_j189 tb sA 14 → X2_endFrame_j54 F MV 5 = X8_comeOn11_j189 tb sA 15 → (X2_endFrame_j54 F MV 3 = 1 → X2_endFrame_j54 F MV 6 = X8_comeOn11_j189 tb sA 16) → (¬ X2_endFrame_j54 F MV 3 = 1 → X2_endFrame_j54 F MV 8 = X8_comeOn11_j189 tb sA 16) → (X2_endFrame_j54 F MV 3 = 1 → X2_endFrame_j54 F MV 7 = X8_comeOn11_j189 tb sA 20) →
      ((X2_endFrame_j54 F MV 3 = 1 → ∃ i, i < cnt ∧ X2_endFrame_j54 F MV 5 = nI i ∧ ∃ n a b c, X2_endFrame_j54 F MV 6 = nI n ∧ MV i 0 = nI a ∧ MV i 1 = nI b ∧ MV i 2 = nI c ∧ n < a + b + c ∧ a + b + c ≤ 80) ∧ (¬ X2_endFrame_j54 F MV 3 = 1 → X2_endFrame_j54 F MV 5 = -1) ∧ (X2_endFrame_j54 F MV 3 = 0 → X2_endFrame_j54 F MV 8 = 0) ∧ (X2_endFrame_j54 F MV 3 = 0 ∨ X2_endFrame_j54 F MV 3 = 1 ∨ X2_endFrame_j54 F MV 3 = 2 ∨ X2_endFrame_j54 F MV 3 = 3)) →
      relR (X2_endFrame_j54 F MV) (X8_comeOn11_j189 tb sA) ∧ figI cnt MV (X2_endFrame_j54 F MV) ∧ (∀ k, k ∈ [0, 1, 2, 4, 9, 10, 11, 12, 15] → X2_endFrame_j54 F MV k = F k) ∧ (∀ k, k ∉ [14, 15, 16, 20] → X8_comeOn11_j189 tb sA k = sA k) := by
    intro e3 e5 e6 e8 e7 q
    refine ⟨⟨?_, ?_, ?_, e3, e5, ?_, ?_, ?_, e6, e8, e7⟩, ⟨q.1, q.2.1, q.2.2.1, q.2.2.2, ?_, ?_, ?_⟩, low, a189⟩
    · rw [low 0 (by decide), a189 11 (by decide)]; exact F0
    · rw [low 1 (by decide), a189 12 (by decide)]; exact F1
    · rw [low 2 (by decide), a189 13 (by decide)]; exact F2
    · rw [low 4 (by decide), a189 17 (by decide)]; exact F4
    · rw [low 9 (by decide), a189 18 (by decide)]; exact F9
    · rw [low 10 (by decide), a189 19 (by decide)]; exact F10
    · rw [low 9 (by decide)]; exact iK
    · rw [low 10 (by decide)]; exact iT
    · rw [low 2 (by decide)]; exact iM
  by_cases c1 : F 3 = 1
  · obtain ⟨i, hi, ei, n, a, b, c, en, ea, eb, ec, hn, h80⟩ := iA c1
    have hc := hT.1
    have s3 : sA 14 = 1 := F3.symm.trans c1
    have emi : mi (F 5) = i := by rw [ei]; exact mi_nI (by omega)
    have es : sA 15 = nI i := F5.symm.trans ei
    have m0 : X8_ofMove_r tb (sA 15) 0 = MV i 0 := by rw [es]; exact hT.2.1 i hi 0 (by decide)
    have m1 : X8_ofMove_r tb (sA 15) 1 = MV i 1 := by rw [es]; exact hT.2.1 i hi 1 (by decide)
    have m2 : X8_ofMove_r tb (sA 15) 2 = MV i 2 := by rw [es]; exact hT.2.1 i hi 2 (by decide)
    have e6 : sA 16 = nI n := (F6 c1).symm.trans en
    have e7 := F7 c1
    have efr : X4_frames_r (MV i) = nI (a + b + c) := by unfold X4_frames_r; rw [ea, eb, ec, nI_add, nI_add]
    have j28_6 : X2_endFrameOfMove_j28 F 6 = nI (n + 1) := by
      have : X2_endFrameOfMove_j28 F 6 = F 6 + 1 := by unfold X2_endFrameOfMove_j28; split <;> simp [upd]
      rw [this, en, nI_1]
    have j28_7 : X2_endFrameOfMove_j28 F 7 = sA 20 + X8_comeOn11_j61 sA := by
      unfold X2_endFrameOfMove_j28 X8_comeOn11_j61
      rw [e7]
      by_cases c9 : sA 20 = -1
      · rw [if_pos c9, if_pos c9, Int32.add_zero]
        simp [upd, e7]
      · rw [if_neg c9, if_neg c9]
        simp [upd]
    have j28_o : ∀ k, k ≠ 6 → k ≠ 7 → X2_endFrameOfMove_j28 F k = F k := by
      intro k k6 k7
      unfold X2_endFrameOfMove_j28
      split <;> simp [upd, k6, k7]
    have ej54 : X2_endFrame_j54 F MV = X2_endFrameOfMove_w0 F (nI (a + b + c)) := by unfold X2_endFrame_j54; rw [if_pos c1, emi, efr]
    have ej160 : X8_comeOn11_j160 tb sA = X8_comeOn11_j103 tb sA := by unfold X8_comeOn11_j160; rw [if_pos s3]
    have htot : (X8_ofMove_r tb (sA 15) 0 + X8_ofMove_r tb (sA 15) 1) + X8_ofMove_r tb (sA 15) 2 = nI (a + b + c) := by rw [m0, m1, m2, ea, eb, ec, nI_add, nI_add]
    by_cases cl : n + 1 = a + b + c
    · -- it is over
      have g1 : ¬ X2_endFrameOfMove_j28 F 6 < nI (a + b + c) := by rw [j28_6, cl]; exact fun q => Int32.lt_irrefl q
      have w : X2_endFrame_j54 F MV = X2_stand_w0 (X2_endFrameOfMove_j28 F) := by rw [ej54]; unfold X2_endFrameOfMove_w0; rw [if_neg g1]
      have g2 : sA 16 + 1 = (X8_ofMove_r tb (sA 15) 0 + X8_ofMove_r tb (sA 15) 1) + X8_ofMove_r tb (sA 15) 2 := by rw [htot, e6, nI_1, cl]
      have v : X8_comeOn11_j160 tb sA 14 = 0 := by rw [ej160]; unfold X8_comeOn11_j103; rw [if_pos g2]; rfl
      have v2 : X8_comeOn11_j189 tb sA = upd (upd (X8_comeOn11_j160 tb sA) 16 0) 15 (-1) := by unfold X8_comeOn11_j189; rw [if_pos v]
      have u3 : X2_endFrame_j54 F MV 3 = 0 := by rw [w]; rfl
      have u5 : X2_endFrame_j54 F MV 5 = -1 := by rw [w]; rfl
      have u8 : X2_endFrame_j54 F MV 8 = 0 := by rw [w]; rfl
      refine fin ?_ ?_ (fun q => absurd (u3.symm.trans q) (by decide)) (fun _ => ?_) (fun q => absurd (u3.symm.trans q) (by decide)) ⟨fun q => absurd (u3.symm.trans q) (by decide), fun _ => u5, fun _ => u8, Or.inl u3⟩
      · rw [u3, v2]; exact v.symm
      · rw [u5, v2]; rfl
      · rw [u8, v2]; rfl
    · have g1 : X2_endFrameOfMove_j28 F 6 < nI (a + b + c) := by rw [j28_6]; exact nI_lt (by omega) (by omega)
      have w : X2_endFrame_j54 F MV = X2_endFrameOfMove_j28 F := by rw [ej54]; unfold X2_endFrameOfMove_w0; rw [if_pos g1]
      have g2 : ¬ sA 16 + 1 = (X8_ofMove_r tb (sA 15) 0 + X8_ofMove_r tb (sA 15) 1) + X8_ofMove_r tb (sA 15) 2 := by
        rw [htot, e6, nI_1]
        intro q
        exact cl ((nI_eq (by omega) (by omega)).mp q)
      have ej103 : X8_comeOn11_j103 tb sA = upd (upd sA 16 (sA 16 + 1)) 20 (sA 20 + X8_comeOn11_j61 sA) := by unfold X8_comeOn11_j103; rw [if_neg g2]
      have v : ¬ X8_comeOn11_j160 tb sA 14 = 0 := by
        rw [ej160, ej103]
        intro q
        have q : sA 14 = 0 := q
        rw [s3] at q
        exact absurd q (by decide)
      have v2 : X8_comeOn11_j189 tb sA = upd (upd sA 16 (sA 16 + 1)) 20 (sA 20 + X8_comeOn11_j61 sA) := by unfold X8_comeOn11_j189; rw [if_neg v, ej160, ej103]
      have u3 : X2_endFrame_j54 F MV 3 = 1 := by rw [w, j28_o 3 (by decide) (by decide)]; exact c1
      have u5 : X2_endFrame_j54 F MV 5 = nI i := by rw [w, j28_o 5 (by decide) (by decide)]; exact ei
      have u6 : X2_endFrame_j54 F MV 6 = nI (n + 1) := by rw [w]; exact j28_6
      refine fin ?_ ?_ (fun _ => ?_) (fun q => absurd u3 q) (fun _ => ?_) ⟨fun _ => ⟨i, hi, u5, n + 1, a, b, c, u6, ea, eb, ec, by omega, h80⟩, fun q => absurd u3 q, fun q => absurd (u3.symm.trans q) (by decide), Or.inr (Or.inl u3)⟩
      · rw [u3, v2]; exact s3.symm
      · rw [u5, v2]; exact es.symm
      · rw [u6, v2]
        show nI (n + 1) = sA 16 + 1
        rw [e6, nI_1]
      · rw [w, v2]; exact j28_7
  · have s1 : ¬ sA 14 = 1 := fun q => c1 (F3.trans q)
    have u5 := iB c1
    have s4 : sA 15 = -1 := F5.symm.trans u5
    have s5 : F 8 = sA 16 := F8 c1
    by_cases c0 : F 3 = 0
    · have s0 : sA 14 = 0 := F3.symm.trans c0
      have w : X2_endFrame_j54 F MV = F := by unfold X2_endFrame_j54; rw [if_neg c1, if_pos c0]
      have ej160 : X8_comeOn11_j160 tb sA = sA := by unfold X8_comeOn11_j160; rw [if_neg s1, if_pos s0]
      have v2 : X8_comeOn11_j189 tb sA = upd (upd sA 16 0) 15 (-1) := by unfold X8_comeOn11_j189; rw [ej160, if_pos s0]
      rw [w] at fin ⊢
      refine fin ?_ ?_ (fun q => absurd q c1) (fun _ => ?_) (fun q => absurd q c1) ⟨iA, iB, iE, iD⟩
      · rw [v2]; exact F3
      · rw [v2]; exact u5
      · rw [v2]; exact iE c0
    · have s0 : ¬ sA 14 = 0 := fun q => c0 (F3.trans q)
      have ej160 : X8_comeOn11_j160 tb sA = upd (upd sA 16 (sA 16 - 1)) 14 (X8_comeOn11_j159 sA) := by unfold X8_comeOn11_j160; rw [if_neg s1, if_neg s0]
      by_cases ct : 0 < F 8 - 1
      · have w : X2_endFrame_j54 F MV = upd F 8 (F 8 - 1) := by unfold X2_endFrame_j54; rw [if_neg c1, if_neg c0, if_pos ct]
        have e159 : X8_comeOn11_j159 sA = sA 14 := by unfold X8_comeOn11_j159; rw [← s5, if_pos ct]
        have v2 : X8_comeOn11_j189 tb sA = upd (upd sA 16 (sA 16 - 1)) 14 (sA 14) := by
          unfold X8_comeOn11_j189
          rw [ej160, e159]
          exact if_neg s0
        have u3 : X2_endFrame_j54 F MV 3 = F 3 := by rw [w]; rfl
        refine fin ?_ ?_ (fun q => absurd (u3.symm.trans q) c1) (fun _ => ?_) (fun q => absurd (u3.symm.trans q) c1) ⟨fun q => absurd (u3.symm.trans q) c1, fun _ => ?_, fun q => absurd (u3.symm.trans q) c0, ?_⟩
        · rw [u3, v2]; exact F3
        · rw [w, v2]; exact u5.trans s4.symm
        · rw [w, v2]
          show F 8 - 1 = sA 16 - 1
          rw [s5]
        · rw [w]; exact u5
        · rw [u3]; exact iD
      · have w : X2_endFrame_j54 F MV = X2_stand_w0 (upd F 8 (F 8 - 1)) := by unfold X2_endFrame_j54; rw [if_neg c1, if_neg c0, if_neg ct]
        have e159 : X8_comeOn11_j159 sA = 0 := by unfold X8_comeOn11_j159; rw [← s5, if_neg ct]
        have v2 : X8_comeOn11_j189 tb sA = upd (upd (upd (upd sA 16 (sA 16 - 1)) 14 0) 16 0) 15 (-1) := by
          unfold X8_comeOn11_j189
          rw [ej160, e159]
          exact if_pos rfl
        have u3 : X2_endFrame_j54 F MV 3 = 0 := by rw [w]; rfl
        have u5' : X2_endFrame_j54 F MV 5 = -1 := by rw [w]; rfl
        have u8 : X2_endFrame_j54 F MV 8 = 0 := by rw [w]; rfl
        refine fin ?_ ?_ (fun q => absurd (u3.symm.trans q) (by decide)) (fun _ => ?_) (fun q => absurd (u3.symm.trans q) (by decide)) ⟨fun q => absurd (u3.symm.trans q) (by decide), fun _ => u5', fun _ => u8, Or.inl u3⟩
        · rw [u3, v2]; rfl
        · rw [u5', v2]; rfl
        · rw [u8, v2]; rfl
