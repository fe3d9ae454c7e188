/-! places in the model's rows; inputs that are fine -/
theorem td_in {x k : Int32} (h : vp_in x 601) (hk : vp_in k 7) : vp_in ((14 * x) + k) 8414 := by
  obtain ⟨j, hj, rfl⟩ := vp_in_of h (by decide)
  obtain ⟨i, hi, rfl⟩ := vp_in_of hk (by decide)
  rw [show (14 : Int32) = nI 14 from rfl, pk_mul, nI_add]
  exact vp_in_nI (by omega) (by decide)
theorem td_in2 {x k : Int32} (h : vp_in x 601) (hk : vp_in k 7) : vp_in (((14 * x) + 7) + k) 8414 := by
  obtain ⟨j, hj, rfl⟩ := vp_in_of h (by decide)
  obtain ⟨i, hi, rfl⟩ := vp_in_of hk (by decide)
  rw [show (14 : Int32) = nI 14 from rfl, show (7 : Int32) = nI 7 from rfl, pk_mul, nI_add, nI_add]
  exact vp_in_nI (by omega) (by decide)
theorem kp_in {x k : Int32} (h : vp_in x 5) (hk : vp_in k 22) : vp_in ((22 * x) + k) 110 := by
  obtain ⟨j, hj, rfl⟩ := vp_in_of h (by decide)
  obtain ⟨i, hi, rfl⟩ := vp_in_of hk (by decide)
  rw [show (22 : Int32) = nI 22 from rfl, pk_mul, nI_add]
  exact vp_in_nI (by omega) (by decide)
theorem in_lo {high low v : Int32} (h : ¬ X8_in_r high low v = 0) : ¬ v < low := by
  unfold X8_in_r at h
  intro q
  rw [if_pos q] at h
  exact h rfl
theorem in_hi {high low v : Int32} (h : ¬ X8_in_r high low v = 0) : ¬ high < v := by
  unfold X8_in_r at h
  rw [if_neg (in_lo h)] at h
  intro q
  rw [if_pos q] at h
  exact h rfl
theorem isMove_ok {g1 move : Int32} (h : vp_in g1 7) (hc : ¬ X8_in_r (g1 - 1) 0 move = 0) : okM move := by
  have h1 := in_lo hc
  have h2 := in_hi hc
  obtain ⟨j, hj, rfl⟩ := vp_in_of h (by decide)
  obtain ⟨k, hk, rfl⟩ := nI_of h1
  have h3 : ¬ (nI j - 1).toInt < (nI k).toInt := fun q => h2 (by rw [Int32.lt_iff_toInt_lt]; exact q)
  cases j with
  | zero =>
    have e : (nI 0 - 1).toInt = -1 := by decide
    rw [e, nI_toInt hk] at h3
    omega
  | succ i =>
    rw [nI_pred, nI_toInt (by omega), nI_toInt hk] at h3
    exact vp_in_nI (by omega) (by decide)
theorem in_ok {n : Nat} {high v : Int32} (hh : high.toInt = (n : Int)) (hc : ¬ X8_in_r high 0 v = 0) : vp_in v (n + 1) := by
  have h1 := in_lo hc
  have h2 := in_hi hc
  have h3 : ¬ (v.toInt < 0) := fun q => h1 (by rw [Int32.lt_iff_toInt_lt]; exact q)
  have h4 : ¬ high.toInt < v.toInt := fun q => h2 (by rw [Int32.lt_iff_toInt_lt]; exact q)
  exact vp_in_iff.mpr ⟨by omega, by omega⟩
theorem okI_if {c : Prop} [Decidable c] {a b : Int32} (ha : okI a) (hb : okI b) : okI (if c then a else b) := by
  split
  · exact ha
  · exact hb
theorem okI_mv {move : Int32} (h : okM move) : okI (10 + move) := by
  refine Or.inr ?_
  obtain ⟨j, hj, rfl⟩ := vp_in_of h (by decide)
  rw [show (10 : Int32) = nI 10 from rfl, nI_add, pk_sub (by omega)]
  exact vp_in_nI (by omega) (by decide)
theorem okS_c11 {tb sA : Nat → Int32} (h : okS sA) : okS (X8_comeOn11_w2 tb sA) := by
  have a160 : ∀ k, k ≠ 14 → k ≠ 16 → k ≠ 20 → X8_comeOn11_j160 tb sA k = sA k := by
    intro k h3 h5 h9
    unfold X8_comeOn11_j160 X8_comeOn11_j103
    split
    · split <;> simp [upd, h3, h5, h9]
    · split
      · rfl
      · simp [upd, h3, h5]
  have b160 : X8_comeOn11_j160 tb sA 14 = 1 → sA 14 = 1 := by
    unfold X8_comeOn11_j160 X8_comeOn11_j103 X8_comeOn11_j159
    split
    · rename_i c; intro _; exact c
    · split
      · rename_i c; intro q; exact q
      · rename_i c1 c2
        intro q
        have q : (if 0 < sA 16 - 1 then sA 14 else 0) = (1 : Int32) := q
        split at q
        · exact q
        · exact absurd q (by decide)
  have a189 : ∀ k, k ≠ 14 → k ≠ 15 → k ≠ 16 → k ≠ 20 → X8_comeOn11_j189 tb sA k = sA k := by
    intro k h3 h4 h5 h9
    unfold X8_comeOn11_j189
    split
    · rw [upd_n _ _ h4, upd_n _ _ h5, a160 k h3 h5 h9]
    · exact a160 k h3 h5 h9
  have b189 : X8_comeOn11_j189 tb sA 14 = 1 → sA 14 = 1 ∧ X8_comeOn11_j189 tb sA 15 = sA 15 := by
    unfold X8_comeOn11_j189
    split
    · rename_i c
      intro q
      have q : X8_comeOn11_j160 tb sA 14 = 1 := q
      rw [c] at q
      exact absurd q (by decide)
    · intro q
      exact ⟨b160 q, a160 15 (by decide) (by decide) (by decide)⟩
  refine ⟨?_, ?_, ?_, ?_⟩
  · show X8_comeOn11_j189 tb sA 7 = -1 ∨ okM (X8_comeOn11_j189 tb sA 7)
    rw [a189 7 (by decide) (by decide) (by decide) (by decide)]; exact h.1
  · show X8_comeOn11_j319 tb sA = -1 ∨ okM (X8_comeOn11_j319 tb sA)
    unfold X8_comeOn11_j319
    split
    · exact Or.inl rfl
    · rw [a189 18 (by decide) (by decide) (by decide) (by decide)]; exact h.2.1
  · show X8_comeOn11_j189 tb sA 3 = 1 → okM (X8_comeOn11_j189 tb sA 4)
    rw [a189 3 (by decide) (by decide) (by decide) (by decide), a189 4 (by decide) (by decide) (by decide) (by decide)]
    exact h.2.2.1
  · show X8_comeOn11_j189 tb sA 14 = 1 → okM (X8_comeOn11_j189 tb sA 15)
    intro q
    obtain ⟨q1, q2⟩ := b189 q
    rw [q2]
    exact h.2.2.2 q1
theorem okS_fr {tb sA : Nat → Int32} {one two : Int32} (hs : okS sA) (h1 : okI one) (h2 : okI two) : okS (X8_frame_w2 tb sA one two) :=
  okS_c11 (okS_c0 (okS_hb (okS_go (okS_b11 (okS_b0 (okS_k11 (okS_k0 hs h1) h2))))))
