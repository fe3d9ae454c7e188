/-! who reaches: both ask the same -/
/-- the moves' own numbers, in their ranges -/
def relV (MV : Nat → Nat → Int32) (cnt : Nat) : Prop := ∀ i, i < cnt → (∃ n, 1 ≤ n ∧ n ≤ 30 ∧ MV i 0 = nI n) ∧ (∃ n, 1 ≤ n ∧ n ≤ 10 ∧ MV i 1 = nI n) ∧ (∃ n, 1 ≤ n ∧ n ≤ 40 ∧ MV i 2 = nI n)
theorem act_lt {f a : Nat} (hf : f < 1000) (ha : a < 1000) : nI f < nI a ↔ nI f - nI a < 0 := by
  rw [nI_ltI (by omega) (by omega), Int32.lt_iff_toInt_lt, pk_sub_toInt (by omega) (by omega), show (0 : Int32).toInt = 0 from rfl]
  omega
theorem act_le {f a b : Nat} (hf : f < 1000) (ha : a < 1000) (hb : b < 1000) : nI a + nI b ≤ nI f ↔ nI b ≤ nI f - nI a := by
  rw [nI_add, nI_leI (by omega) (by omega), Int32.le_iff_toInt_le, pk_sub_toInt (by omega) (by omega), nI_toInt (by omega)]
  omega

theorem reachL_eq {MV : Nat → Nat → Int32} {tb F G sA : Nat → Int32} {cnt : Nat} (hT : relT MV tb cnt) (hV : relV MV cnt) (hF : relL F sA) (hG : relR G sA) (hm : F 3 = 1 → isMv cnt (F 5) ∧ ∃ n, n < 100 ∧ F 6 = nI n) : X1_reachesL_r F G (MV (mi (F 5))) = X8_reaches0_r tb sA := by
  obtain ⟨F0, F1, F2, F3, F5, F4, F9, F10, F6, F8, F7⟩ := hF
  obtain ⟨G0, G1, G2, G3, G5, G4, G9, G10, G6, G8, G7⟩ := hG
  unfold X1_reachesL_r X8_reaches0_r X1_reachesL_j32
  by_cases c3 : sA 3 = 1
  · have f3 : F 3 = 1 := F3.trans c3
    obtain ⟨⟨i, hi, ei⟩, n, hn, en⟩ := hm f3
    have hc := hT.1
    have emi : mi (F 5) = i := by rw [ei]; exact mi_nI (by omega)
    have es : sA 4 = nI i := F5.symm.trans ei
    have hmm : ∀ k, k < 11 → X8_ofMove_r tb (sA 4) (nI k) = MV i k := fun k hk => by rw [es]; exact hT.2.1 i hi k hk
    have m0 : X8_ofMove_r tb (sA 4) 0 = MV i 0 := hmm 0 (by decide)
    have m1 : X8_ofMove_r tb (sA 4) 1 = MV i 1 := hmm 1 (by decide)
    have m3 : X8_ofMove_r tb (sA 4) 3 = MV i 3 := hmm 3 (by decide)
    have m4 : X8_ofMove_r tb (sA 4) 4 = MV i 4 := hmm 4 (by decide)
    obtain ⟨⟨a, ha1, ha2, ea⟩, ⟨b, hb1, hb2, eb⟩, -⟩ := hV i hi
    have e6 : sA 5 = nI n := (F6 f3).symm.trans en
    have e62 : X1_reachesL_j62 G (MV i) = X8_reaches0_j91 tb sA := by
      unfold X1_reachesL_j62 X8_reaches0_j91
      rw [m4, G3]
    have eap : X1_apart_r F G = sA 11 - sA 0 := by unfold X1_apart_r; rw [F0, G0]
    rw [emi, e62, eap, if_pos f3, if_pos c3, F7 f3, m0, m1, m3, e6, en]
    unfold X4_isActiveIn_r
    rw [ea, eb]
    by_cases c9 : sA 9 = -1
    · rw [if_pos c9, if_pos c9]
      by_cases d1 : nI n < nI a
      · simp [d1, (act_lt (by omega) (by omega)).mp d1]
      · have d1' : ¬ nI n - nI a < 0 := fun q => d1 ((act_lt (by omega) (by omega)).mpr q)
        by_cases d2 : nI a + nI b ≤ nI n
        · simp [d1, d1', d2, (act_le (by omega) (by omega) (by omega)).mp d2]
        · have d2' : ¬ nI b ≤ nI n - nI a := fun q => d2 ((act_le (by omega) (by omega) (by omega)).mpr q)
          by_cases d3 : MV i 3 < sA 11 - sA 0
          · simp [d1, d1', d2, d2', d3]
          · by_cases d4 : X8_reaches0_j91 tb sA = 0
            · simp [d1, d1', d2, d2', d3, d4]
            · simp [d1, d1', d2, d2', d3, d4]
    · rw [if_neg c9, if_neg c9, if_pos rfl]
  · have f3 : ¬ F 3 = 1 := fun q => c3 (F3.symm.trans q)
    rw [if_neg f3, if_neg c3, if_pos rfl]

theorem reachR_eq {MV : Nat → Nat → Int32} {tb F G sA : Nat → Int32} {cnt : Nat} (hT : relT MV tb cnt) (hV : relV MV cnt) (hF : relR F sA) (hG : relL G sA) (hm : F 3 = 1 → isMv cnt (F 5) ∧ ∃ n, n < 100 ∧ F 6 = nI n) : X1_reachesR_r G F (MV (mi (F 5))) = X8_reaches11_r tb sA := by
  obtain ⟨F0, F1, F2, F3, F5, F4, F9, F10, F6, F8, F7⟩ := hF
  obtain ⟨G0, G1, G2, G3, G5, G4, G9, G10, G6, G8, G7⟩ := hG
  unfold X1_reachesR_r X8_reaches11_r X1_reachesR_j32
  by_cases c3 : sA 14 = 1
  · have f3 : F 3 = 1 := F3.trans c3
    obtain ⟨⟨i, hi, ei⟩, n, hn, en⟩ := hm f3
    have hc := hT.1
    have emi : mi (F 5) = i := by rw [ei]; exact mi_nI (by omega)
    have es : sA 15 = nI i := F5.symm.trans ei
    have hmm : ∀ k, k < 11 → X8_ofMove_r tb (sA 15) (nI k) = MV i k := fun k hk => by rw [es]; exact hT.2.1 i hi k hk
    have m0 : X8_ofMove_r tb (sA 15) 0 = MV i 0 := hmm 0 (by decide)
    have m1 : X8_ofMove_r tb (sA 15) 1 = MV i 1 := hmm 1 (by decide)
    have m3 : X8_ofMove_r tb (sA 15) 3 = MV i 3 := hmm 3 (by decide)
    have m4 : X8_ofMove_r tb (sA 15) 4 = MV i 4 := hmm 4 (by decide)
    obtain ⟨⟨a, ha1, ha2, ea⟩, ⟨b, hb1, hb2, eb⟩, -⟩ := hV i hi
    have e6 : sA 16 = nI n := (F6 f3).symm.trans en
    have e62 : X1_reachesR_j62 G (MV i) = X8_reaches11_j91 tb sA := by
      unfold X1_reachesR_j62 X8_reaches11_j91
      rw [m4, G3]
    have eap : X1_apart_r G F = sA 11 - sA 0 := by unfold X1_apart_r; rw [F0, G0]
    rw [emi, e62, eap, if_pos f3, if_pos c3, F7 f3, m0, m1, m3, e6, en]
    unfold X4_isActiveIn_r
    rw [ea, eb]
    by_cases c9 : sA 20 = -1
    · rw [if_pos c9, if_pos c9]
      by_cases d1 : nI n < nI a
      · simp [d1, (act_lt (by omega) (by omega)).mp d1]
      · have d1' : ¬ nI n - nI a < 0 := fun q => d1 ((act_lt (by omega) (by omega)).mpr q)
        by_cases d2 : nI a + nI b ≤ nI n
        · simp [d1, d1', d2, (act_le (by omega) (by omega) (by omega)).mp d2]
        · have d2' : ¬ nI b ≤ nI n - nI a := fun q => d2 ((act_le (by omega) (by omega) (by omega)).mpr q)
          by_cases d3 : MV i 3 < sA 11 - sA 0
          · simp [d1, d1', d2, d2', d3]
          · by_cases d4 : X8_reaches11_j91 tb sA = 0
            · simp [d1, d1', d2, d2', d3, d4]
            · simp [d1, d1', d2, d2', d3, d4]
    · rw [if_neg c9, if_neg c9, if_pos rfl]
  · have f3 : ¬ F 3 = 1 := fun q => c3 (F3.symm.trans q)
    rw [if_neg f3, if_neg c3, if_pos rfl]
