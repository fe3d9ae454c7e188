/-- every move's damage is small -/
def relD (MV : Nat → Nat → Int32) (cnt : Nat) : Prop := ∀ i, i < cnt → ∃ d, 1 ≤ d ∧ d ≤ 200 ∧ MV i 5 = nI d
/-- what n frames can have cost a figure -/
def lifeI (n : Nat) (F : Nat → Int32) : Prop := (∃ c, c ≤ n ∧ F 4 = nI c) ∧ ∃ L, L ≤ 240 * n ∧ F 1 = 1000 - nI L
theorem lifeI_up {n m : Nat} {F F1 : Nat → Int32} (h : lifeI n F) (hm : n ≤ m) (h1 : F1 1 = F 1) (h4 : F1 4 = F 4 ∨ F1 4 = 0) : lifeI m F1 := by
  obtain ⟨⟨c, hc, ec⟩, L, hL, eL⟩ := h
  refine ⟨?_, L, by omega, h1.trans eL⟩
  rcases h4 with h4 | h4
  · exact ⟨c, by omega, h4.trans ec⟩
  · exact ⟨0, by omega, h4⟩
theorem sub_two (L D : Nat) : (1000 : Int32) - nI L - nI D = 1000 - nI (L + D) := by
  rw [← nI_add, Int32.sub_eq_add_neg, Int32.sub_eq_add_neg, Int32.sub_eq_add_neg, Int32.neg_add, Int32.sub_eq_add_neg, Int32.add_assoc]
theorem life_land {G : Nat → Int32} {MV : Nat → Nat → Int32} {i n : Nat} (hD : ∃ d, 1 ≤ d ∧ d ≤ 200 ∧ MV i 5 = nI d) (hn : n ≤ 2000) (hG : lifeI n G) (h14 : G 14 = G 4) : lifeI (n + 1) (X1_land_w1 G MV i) := by
  obtain ⟨d, -, hd, ed⟩ := hD
  obtain ⟨⟨c, hc, ec⟩, L, hL, eL⟩ := hG
  unfold X1_land_w1 lifeI
  rw [gb_at (by decide), gb_at (by decide)]
  unfold X1_land_j30
  split
  · have e33 : ∃ c1, 1 ≤ c1 ∧ c1 ≤ n + 1 ∧ X2_suffer_j33 G = nI c1 := by
      unfold X2_suffer_j33
      split
      · exact ⟨c + 1, by omega, by omega, by rw [h14, ec, nI_1]⟩
      · exact ⟨1, by omega, by omega, rfl⟩
    obtain ⟨c1, h1, h2, e1⟩ := e33
    have e56 : ∃ t, t ≤ 10 ∧ X2_suffer_j56 G = nI t := by
      unfold X2_suffer_j56
      rw [e1]
      split
      · exact ⟨1, by omega, rfl⟩
      · rename_i q
        have q1 : ¬ 10 ≤ c1 := fun z => q ((nI_leI (by decide) (by omega)).mpr z)
        exact ⟨11 - c1, by omega, by rw [show (11 : Int32) = nI 11 from rfl, pk_sub (by omega)]⟩
    obtain ⟨t, ht, et⟩ := e56
    have hm : d * t ≤ 200 * 10 := Nat.mul_le_mul hd ht
    have e100 : ∃ D, D ≤ 240 ∧ X2_suffer_j100_1 G MV i = nI D := by
      unfold X2_suffer_j100_1
      rw [ed, et, pk_mul, show (10 : Int32) = nI 10 from rfl, pk_div (by omega) (by omega) (by omega)]
      split
      · exact ⟨d * t / 10, by omega, rfl⟩
      · rw [show (6 : Int32) = nI 6 from rfl, show (5 : Int32) = nI 5 from rfl, pk_mul, pk_div (by omega) (by omega) (by omega)]
        exact ⟨_, by omega, rfl⟩
    obtain ⟨D, hD, eD⟩ := e100
    refine ⟨⟨c1, h2, (show X2_suffer_w0 G MV i 4 = X2_suffer_j33 G from rfl).trans e1⟩, L + D, by omega, ?_⟩
    rw [show X2_suffer_w0 G MV i 1 = G 1 - X2_suffer_j100_1 G MV i from rfl, eD, eL, sub_two]
  · refine ⟨⟨c, by omega, ec⟩, L + d / 10, by omega, ?_⟩
    rw [show X2_block_w0 G MV i 1 = G 1 - MV i 5 / 10 from rfl, ed, eL, show (10 : Int32) = nI 10 from rfl, pk_div (by omega) (by omega) (by omega), sub_two]
theorem land0_at {F G : Nat → Int32} {MV : Nat → Nat → Int32} {i k : Nat} (h : k = 1 ∨ k = 4 ∨ k = 14) : X1_land_w0 F G MV i k = F k := by
  unfold X1_land_w0
  rw [gb_at (by omega)]
  rcases h with rfl | rfl | rfl <;> rfl
theorem land1_14 {G : Nat → Int32} {MV : Nat → Nat → Int32} {i : Nat} : X1_land_w1 G MV i 14 = G 14 := by
  unfold X1_land_w1 X1_land_j30
  rw [gb_at (by decide)]
  split <;> rfl
theorem part_at {F : Nat → Int32} {k : Nat} (h : k = 1 ∨ k = 4) : X2_goBack_w0 (X2_touch_w0 F 0) 20 k = F k := by
  rw [gb_at (by omega)]
  rcases h with rfl | rfl <;> rfl
theorem life_rem {F : Nat → Int32} {n : Nat} (h : lifeI n F) : lifeI n (X2_rememberAheadOfHits_w0 F) ∧ X2_rememberAheadOfHits_w0 F 14 = X2_rememberAheadOfHits_w0 F 4 := ⟨lifeI_up h (Nat.le_refl _) rfl (Or.inl rfl), rfl⟩
theorem reachL_3 {F G : Nat → Int32} {mv : Nat → Int32} (h : ¬ X1_reachesL_r F G mv = 0) : F 3 = 1 := by
  by_cases c : F 3 = 1
  · exact c
  · refine absurd ?_ h
    unfold X1_reachesL_r X1_reachesL_j32
    rw [if_neg c, if_pos rfl]
theorem reachR_3 {F G : Nat → Int32} {mv : Nat → Int32} (h : ¬ X1_reachesR_r F G mv = 0) : G 3 = 1 := by
  by_cases c : G 3 = 1
  · exact c
  · refine absurd ?_ h
    unfold X1_reachesR_r X1_reachesR_j32
    rw [if_neg c, if_pos rfl]
theorem dmg_of {MV : Nat → Nat → Int32} {cnt : Nat} {x : Int32} (hT : cnt ≤ 6) (hD : relD MV cnt) (h : isMv cnt x) : ∃ d, 1 ≤ d ∧ d ≤ 200 ∧ MV (mi x) 5 = nI d := by
  obtain ⟨i, hi, rfl⟩ := h
  rw [mi_nI (by omega)]
  exact hD i hi
theorem life_strike {MV : Nat → Nat → Int32} {F G : Nat → Int32} {cnt n : Nat} (h6 : cnt ≤ 6) (hD : relD MV cnt) (mL : F 3 = 1 → isMv cnt (F 5)) (mR : G 3 = 1 → isMv cnt (G 5)) (hF : lifeI n F) (hG : lifeI n G) (hn : n ≤ 2000) : lifeI (n + 1) (X1_strike_w1 F G MV) ∧ lifeI (n + 1) (X1_strike_w2 F G MV) ∧ (¬ G 3 = 1 → X1_strike_w1 F G MV 1 = F 1) := by
  obtain ⟨rF, r14F⟩ := life_rem hF
  obtain ⟨rG, r14G⟩ := life_rem hG
  have up : ∀ {H K : Nat → Int32}, lifeI n H → K 1 = H 1 → K 4 = H 4 → lifeI (n + 1) K := fun h a b => lifeI_up h (by omega) a (Or.inl b)
  unfold X1_strike_w1 X1_strike_w2
  by_cases cL : X1_reachesL_r F G (MV (mi (F 5))) = 0
  · by_cases cR : X1_reachesR_r F G (MV (mi (G 5))) = 0
    · rw [if_pos cL, if_pos cR, if_pos cL, if_pos cR]
      exact ⟨up rF rfl rfl, up rG rfl rfl, fun _ => rfl⟩
    · rw [if_pos cL, if_neg cR, if_pos cL, if_neg cR]
      have g3 := reachR_3 cR
      exact ⟨life_land (dmg_of h6 hD (mR g3)) hn rF r14F, up rG (land0_at (Or.inl rfl)) (land0_at (Or.inr (Or.inl rfl))), fun z => (z g3).elim⟩
  · have f3 := reachL_3 cL
    by_cases cR : X1_reachesR_r F G (MV (mi (G 5))) = 0
    · rw [if_neg cL, if_pos cR, if_neg cL, if_pos cR]
      exact ⟨up rF (land0_at (Or.inl rfl)) (land0_at (Or.inr (Or.inl rfl))), life_land (dmg_of h6 hD (mL f3)) hn rG r14G, fun _ => (land0_at (Or.inl rfl)).trans rfl⟩
    · have g3 := reachR_3 cR
      rw [if_neg cL, if_neg cR, if_neg cL, if_neg cR]
      have both : lifeI (n + 1) (X1_land_w1 (X1_land_w0 (X2_rememberAheadOfHits_w0 F) (X2_rememberAheadOfHits_w0 G) MV (mi (F 5))) MV (mi (G 5))) ∧ lifeI (n + 1) (X1_land_w0 (X1_land_w1 (X2_rememberAheadOfHits_w0 G) MV (mi (F 5))) (X1_land_w0 (X2_rememberAheadOfHits_w0 F) (X2_rememberAheadOfHits_w0 G) MV (mi (F 5))) MV (mi (G 5))) := by
        refine ⟨life_land (dmg_of h6 hD (mR g3)) hn (lifeI_up rF (Nat.le_refl _) (land0_at (Or.inl rfl)) (Or.inl (land0_at (Or.inr (Or.inl rfl))))) ?_, ?_⟩
        · rw [land0_at (Or.inr (Or.inr rfl)), land0_at (Or.inr (Or.inl rfl))]
          exact r14F
        · exact lifeI_up (life_land (dmg_of h6 hD (mL f3)) hn rG r14G) (Nat.le_refl _) (land0_at (Or.inl rfl)) (Or.inl (land0_at (Or.inr (Or.inl rfl))))
      split
      · split
        · exact ⟨up hF (part_at (Or.inl rfl)) (part_at (Or.inr rfl)), up hG (part_at (Or.inl rfl)) (part_at (Or.inr rfl)), fun z => (z g3).elim⟩
        · exact ⟨both.1, both.2, fun z => (z g3).elim⟩
      · exact ⟨both.1, both.2, fun z => (z g3).elim⟩
