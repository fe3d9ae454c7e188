/-! facts of the model's rows that a method lays, loads and keeps -/
theorem okS_lay {sA : Nat → Int32} {meter other otherMeter place : Int32} : okS (X8_lay_w2 sA meter other otherMeter place) := ⟨Or.inl rfl, Or.inl rfl, fun q => absurd (show (0 : Int32) = 1 from q) (by decide), fun q => absurd (show (0 : Int32) = 1 from q) (by decide)⟩
theorem okS_load {sA rd : Nat → Int32} (h : okS rd) : okS (X8_load_w2 sA rd) := okS_congr h rfl rfl rfl rfl rfl rfl
theorem er9 {g sA wn : Nat → Int32} : X8_endRound_w0 g sA wn 9 = 0 := by
  unfold X8_endRound_w0
  repeat' split
  all_goals rfl
theorem fr_s {x : Int32} (h : vp_in x 600) : vp_in (x + 1) 601 := by
  obtain ⟨j, hj, rfl⟩ := vp_in_of h (by decide)
  rw [nI_1]
  exact vp_in_nI (by omega) (by decide)
theorem fr_next {x : Int32} (h : vp_in x 600) (c : ¬ x + 1 = 600) : vp_in (x + 1) 600 := by
  obtain ⟨j, hj, rfl⟩ := vp_in_of h (by decide)
  rw [nI_1] at c ⊢
  refine vp_in_nI ?_ (by decide)
  rcases Nat.lt_or_ge (j + 1) 600 with q | q
  · exact q
  · exact absurd (by rw [show j + 1 = 600 by omega]; rfl) c
theorem fr_in {x : Int32} (h : vp_in x 601) (c : ¬ (600 : Int32) ≤ x) : vp_in x 600 := by
  obtain ⟨j, hj, rfl⟩ := vp_in_of h (by decide)
  refine vp_in_nI ?_ (by decide)
  rcases Nat.lt_or_ge j 600 with q | q
  · exact q
  · exact absurd (show (600 : Int32) ≤ nI j by rw [show j = 600 by omega]; decide) c
theorem mv_ok {x : Int32} (h : vp_in x 7) (c : ¬ x = 6) : okM x := by
  obtain ⟨j, hj, rfl⟩ := vp_in_of h (by decide)
  refine vp_in_nI ?_ (by decide)
  rcases Nat.lt_or_ge j 6 with q | q
  · exact q
  · exact absurd (by rw [show j = 6 by omega]; rfl) c
theorem tb_in0 {x : Int32} (h : okM x) : vp_in (12 * x) 72 := by
  obtain ⟨j, hj, rfl⟩ := vp_in_of h (by decide)
  rw [show (12 : Int32) = nI 12 from rfl, pk_mul]
  exact vp_in_nI (by omega) (by decide)
theorem tb_in3 {x k : Int32} (h : okM x) (hk : vp_in k 5) : vp_in (((12 * x) + 6) + k) 72 := by
  obtain ⟨j, hj, rfl⟩ := vp_in_of h (by decide)
  obtain ⟨i, hi, rfl⟩ := vp_in_of hk (by decide)
  rw [show (12 : Int32) = nI 12 from rfl, show (6 : Int32) = nI 6 from rfl, pk_mul, nI_add, nI_add]
  exact vp_in_nI (by omega) (by decide)
theorem rd_in {f w : Int32} (h : vp_in f 2) (hw : vp_in w 8) (c : ¬ w = 7) : vp_in ((11 * f) + w) 22 := by
  obtain ⟨j, hj, rfl⟩ := vp_in_of h (by decide)
  obtain ⟨i, hi, rfl⟩ := vp_in_of hw (by decide)
  rw [show (11 : Int32) = nI 11 from rfl, pk_mul, nI_add]
  exact vp_in_nI (by omega) (by decide)
theorem ag_in {x f w : Int32} (h : vp_in x 601) (hf : vp_in f 2) (hw : vp_in w 7) : vp_in (((14 * x) + (7 * f)) + w) 8414 := by
  obtain ⟨j, hj, rfl⟩ := vp_in_of h (by decide)
  obtain ⟨k, hk, rfl⟩ := vp_in_of hf (by decide)
  obtain ⟨i, hi, rfl⟩ := vp_in_of hw (by decide)
  rw [show (14 : Int32) = nI 14 from rfl, show (7 : Int32) = nI 7 from rfl, pk_mul, pk_mul, nI_add, nI_add]
  exact vp_in_nI (by omega) (by decide)
theorem fr_ok {x fr : Int32} (h : fr = -1 ∨ vp_in fr 601) (c : ¬ X8_in_r fr 0 x = 0) : vp_in x 601 := by
  have h1 := in_lo c
  have h2 := in_hi c
  rcases h with rfl | h
  · have h3 : ¬ x.toInt < 0 := fun q => h1 (by rw [Int32.lt_iff_toInt_lt]; exact q)
    exact absurd (show (-1 : Int32) < x by rw [Int32.lt_iff_toInt_lt]; have e : (-1 : Int32).toInt = -1 := rfl; omega) h2
  · obtain ⟨j, hj, rfl⟩ := vp_in_of h (by decide)
    obtain ⟨k, hk, rfl⟩ := nI_of h1
    refine vp_in_nI ?_ (by decide)
    have h3 : ¬ (nI j).toInt < (nI k).toInt := fun q => h2 (by rw [Int32.lt_iff_toInt_lt]; exact q)
    rw [nI_toInt (by omega), nI_toInt hk] at h3
    omega
theorem vp_le4 {x : Int32} (h : vp_in x 5) : x ≤ 4 := by
  obtain ⟨j, hj, rfl⟩ := vp_in_of h (by decide)
  exact nI_le (show j ≤ 4 by omega) (by decide)
theorem isInput_ok {g : Nat → Int32} {x : Int32} (h : vp_in (g 1) 7) (c : ¬ X8_isInput_r g x = 0) : okI x := by
  unfold X8_isInput_r at c
  split at c
  · split at c
    · exact absurd rfl c
    · rename_i c1 c2
      have h1 := in_lo c2
      have h2 := in_hi c2
      obtain ⟨j, hj, hg⟩ := vp_in_of h (by decide)
      rw [hg] at h2
      have h0 : ¬ x < 0 := by
        intro q
        have q2 := (Int32.lt_iff_toInt_lt).mp q
        have q3 : ¬ x.toInt < (10 : Int32).toInt := fun z => h1 (by rw [Int32.lt_iff_toInt_lt]; exact z)
        have e0 : (0 : Int32).toInt = 0 := rfl
        have e1 : (10 : Int32).toInt = 10 := rfl
        omega
      obtain ⟨k, hk, rfl⟩ := nI_of h0
      have h3 : ¬ (nI k).toInt < (10 : Int32).toInt := fun q => h1 (by rw [Int32.lt_iff_toInt_lt]; exact q)
      have h4 : ¬ ((9 : Int32) + nI j).toInt < (nI k).toInt := fun q => h2 (by rw [Int32.lt_iff_toInt_lt]; exact q)
      rw [show (9 : Int32) = nI 9 from rfl, nI_add, nI_toInt (by omega), nI_toInt hk] at h4
      rw [nI_toInt hk, show (10 : Int32).toInt = 10 from rfl] at h3
      refine Or.inr ?_
      rw [show (10 : Int32) = nI 10 from rfl, pk_sub (by omega)]
      exact vp_in_nI (by omega) (by decide)
  · rename_i c1
    have h2 := in_hi c1
    refine Or.inl ?_
    have h3 : ¬ (4 : Int32).toInt < x.toInt := fun q => h2 (by rw [Int32.lt_iff_toInt_lt]; exact q)
    rw [Int32.lt_iff_toInt_lt]
    have e0 : (4 : Int32).toInt = 4 := rfl
    have e1 : (10 : Int32).toInt = 10 := rfl
    omega
