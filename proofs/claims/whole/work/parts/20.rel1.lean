/-! a figure of the class and its half of the model's row: what agrees, step by step of a frame -/
def relL (F sA : Nat → Int32) : Prop := F 0 = sA 0 ∧ F 1 = sA 1 ∧ F 2 = sA 2 ∧ F 3 = sA 3 ∧ F 5 = sA 4 ∧ F 4 = sA 6 ∧ F 9 = sA 7 ∧ F 10 = sA 8 ∧ (F 3 = 1 → F 6 = sA 5) ∧ (¬ F 3 = 1 → F 8 = sA 5) ∧ (F 3 = 1 → F 7 = sA 9)
def relR (F sA : Nat → Int32) : Prop := F 0 = sA 11 ∧ F 1 = sA 12 ∧ F 2 = sA 13 ∧ F 3 = sA 14 ∧ F 5 = sA 15 ∧ F 4 = sA 17 ∧ F 9 = sA 18 ∧ F 10 = sA 19 ∧ (F 3 = 1 → F 6 = sA 16) ∧ (¬ F 3 = 1 → F 8 = sA 16) ∧ (F 3 = 1 → F 7 = sA 20)
/-- the class's moves and the model's table tell the same of the moves below cnt -/
def relT (MV : Nat → Nat → Int32) (tb : Nat → Int32) (cnt : Nat) : Prop := cnt ≤ 6 ∧ (∀ i, i < cnt → ∀ k, k < 11 → X8_ofMove_r tb (nI i) (nI k) = MV i k) ∧ (∀ i, i < cnt → ∀ j, j < cnt → ((((X8_ofMove_r tb (nI i) 11) >>> ((nI j) &&& 31)) &&& 1) = 1 ↔ ¬ MV i (11 + j) = 0))
/-- a number of one of the moves -/
def isMv (cnt : Nat) (x : Int32) : Prop := ∃ i, i < cnt ∧ x = nI i
theorem mi_nI {i : Nat} (h : i < 6) : mi (nI i) = i := by
  unfold mi
  rw [if_neg (nI_pos (by omega)), if_neg (show ¬ (6 : Int32) ≤ nI i from nI_ge (b := 6) h (by decide)), nI_clamp (by omega)]
theorem rel_takeL {F sA : Nat → Int32} {x : Int32} (h : relL F sA) : relL (X2_take_w0 F x) (X8_keepInput0_w2 sA x) := by
  obtain ⟨h0, h1, h2, h3, h4, h5, h6, h7, h8, h9, h10⟩ := h
  unfold X2_take_w0 X8_keepInput0_w2
  split
  · exact ⟨h0, h1, h2, h3, h4, h5, h6, h7, h8, h9, h10⟩
  · exact ⟨h0, h1, h2, h3, h4, h5, rfl, rfl, h8, h9, h10⟩
theorem rel_takeR {F sA : Nat → Int32} {x : Int32} (h : relR F sA) : relR (X2_take_w0 F x) (X8_keepInput11_w2 sA x) := by
  obtain ⟨h0, h1, h2, h3, h4, h5, h6, h7, h8, h9, h10⟩ := h
  unfold X2_take_w0 X8_keepInput11_w2
  split
  · exact ⟨h0, h1, h2, h3, h4, h5, h6, h7, h8, h9, h10⟩
  · exact ⟨h0, h1, h2, h3, h4, h5, rfl, rfl, h8, h9, h10⟩
theorem k11_L {F sA : Nat → Int32} {x : Int32} (h : relL F sA) : relL F (X8_keepInput11_w2 sA x) := by
  unfold X8_keepInput11_w2
  split
  · exact h
  · exact h
theorem k0_R {F sA : Nat → Int32} {x : Int32} (h : relR F sA) : relR F (X8_keepInput0_w2 sA x) := by
  unfold X8_keepInput0_w2
  split
  · exact h
  · exact h
/-- whether a kept move may begin: both ask the same -/
theorem free_eqL {MV : Nat → Nat → Int32} {tb F sA : Nat → Int32} {cnt : Nat} (hT : relT MV tb cnt) (h : relL F sA) (hk : isMv cnt (sA 7)) (hm : sA 3 = 1 → isMv cnt (sA 4)) (h30 : ¬ sA 3 = 0) : X2_isFreeForKept_r F MV = X8_beginKept0_j101 tb sA := by
  obtain ⟨h0, h1, h2, h3, h4, h5, h6, h7, h8, h9, h10⟩ := h
  unfold X2_isFreeForKept_r X8_beginKept0_j101 X2_isFreeForKept_j31
  rw [h3, if_neg h30]
  by_cases c : sA 3 = 1
  · rw [if_pos c, if_pos c, h10 (h3.trans c), h4, h6]
    by_cases c1 : sA 9 = -1
    · simp [c1]
    · by_cases c2 : 10 < sA 9
      · simp [c1, c2]
      · obtain ⟨i, hi, ei⟩ := hm c
        obtain ⟨j, hj, ej⟩ := hk
        have hb := hT.2.2 i hi j hj
        have hc := hT.1
        have e1 : X4_goesInto_r (MV (mi (sA 4))) (sA 7) = if MV i (11 + j) = 0 then 0 else 1 := by
          rw [ei, ej, mi_nI (by omega)]
          unfold X4_goesInto_r
          rw [if_neg (nI_pos (by omega)), if_neg (show ¬ (6 : Int32) ≤ nI j from nI_ge (b := 6) (by omega) (by decide)), nI_clamp (by omega)]
        rw [e1, ei, ej]
        by_cases c3 : MV i (11 + j) = 0
        · have hb' : ¬ ((((X8_ofMove_r tb (nI i) 11) >>> ((nI j) &&& 31)) &&& 1) = 1) := fun q => (hb.mp q) c3
          simp [c1, c2, c3, hb']
        · have hb' := hb.mpr c3
          simp [c1, c2, c3, hb']
  · rw [if_neg c, if_neg c]
theorem trait_eq {MV : Nat → Nat → Int32} {tb : Nat → Int32} {cnt i : Nat} (hT : relT MV tb cnt) (hi : i < cnt) {x : Int32} (hx : x = nI i) : X4_trait_r (MV (mi x)) 3 = X8_ofMove_r tb x 9 := by
  have hc := hT.1
  subst hx
  rw [mi_nI (by omega), show X8_ofMove_r tb (nI i) 9 = MV i 9 from hT.2.1 i hi 9 (by decide)]
  rfl
theorem rel_beginL {MV : Nat → Nat → Int32} {tb F sA : Nat → Int32} {cnt : Nat} (hT : relT MV tb cnt) (h : relL F sA) (hk : sA 7 = -1 ∨ isMv cnt (sA 7)) (hm : sA 3 = 1 → isMv cnt (sA 4)) (h12 : F 12 = 0) : relL (X2_beginKept_w0 F MV) (X8_beginKept0_w2 tb sA) ∧ X2_beginKept_w0 F MV 12 = X8_beginKept0_r tb sA := by
  obtain ⟨h0, h1, h2, h3, h4, h5, h6, h7, h8, h9, h10⟩ := id h
  unfold X2_beginKept_w0 X8_beginKept0_w2 X8_beginKept0_r
  by_cases c7 : sA 7 = -1
  · rw [h6, if_pos c7, if_pos c7, if_pos c7]
    exact ⟨h, h12⟩
  · have hk1 := hk.resolve_left c7
    obtain ⟨i, hi, ei⟩ := id hk1
    have et := trait_eq hT hi (h6.trans ei)
    rw [h6] at et
    rw [h6, if_neg c7, if_neg c7, if_neg c7, h2, et]
    by_cases cm : sA 2 < X8_ofMove_r tb (sA 7) 9
    · rw [if_pos cm, if_neg (Int32.not_le.mpr cm), if_neg (Int32.not_le.mpr cm)]
      exact ⟨h, h12⟩
    · rw [if_neg cm, if_pos (Int32.not_lt.mp cm), if_pos (Int32.not_lt.mp cm)]
      by_cases c3 : sA 3 = 0
      · have ef : X2_isFreeForKept_r F MV = 1 := by unfold X2_isFreeForKept_r; rw [h3, if_pos c3]
        rw [ef, if_neg (by decide), if_pos c3, if_pos c3]
        exact ⟨⟨h0, h1, rfl, rfl, rfl, h5, rfl, rfl, fun _ => rfl, fun q => absurd rfl q, fun _ => rfl⟩, rfl⟩
      · have ef := free_eqL hT h hk1 hm c3
        rw [ef, if_neg c3, if_neg c3]
        by_cases cj : X8_beginKept0_j101 tb sA = 0
        · rw [if_pos cj, if_pos cj, if_pos cj]
          exact ⟨h, h12⟩
        · rw [if_neg cj, if_neg cj, if_neg cj]
          exact ⟨⟨h0, h1, rfl, rfl, rfl, h5, rfl, rfl, fun _ => rfl, fun q => absurd rfl q, fun _ => rfl⟩, rfl⟩
