/-! pure facts that the contracts use -/
theorem upd_s (f : Nat → Int32) (k : Nat) (v : Int32) : upd f k v k = v := by simp [upd]
theorem upd_n (f : Nat → Int32) {k j : Nat} (v : Int32) (h : j ≠ k) : upd f k v j = f j := by simp [upd, h]
theorem fr_s {x : Int32} (h : vp_in x 600) : vp_in (x + 1) 601 := by
  obtain ⟨j, hj, rfl⟩ := vp_in_of h (by decide)
  rw [nI_1]
  exact vp_in_nI (by omega) (by decide)
theorem fr_next {x : Int32} (h : vp_in x 600) (c : ¬ x + 1 = 600) : vp_in (x + 1) 600 := by
  obtain ⟨j, hj, rfl⟩ := vp_in_of h (by decide)
  rw [nI_1] at c ⊢
  refine vp_in_nI ?_ (by decide)
  rcases Nat.lt_or_ge (j + 1) 600 with q | q
  · exact q
  · exact absurd (by rw [show j + 1 = 600 by omega]; rfl) c
theorem fr_in {x : Int32} (h : vp_in x 601) (c : ¬ (600 : Int32) ≤ x) : vp_in x 600 := by
  obtain ⟨j, hj, rfl⟩ := vp_in_of h (by decide)
  refine vp_in_nI ?_ (by decide)
  rcases Nat.lt_or_ge j 600 with q | q
  · exact q
  · exact absurd (show (600 : Int32) ≤ nI j by rw [show j = 600 by omega]; decide) c
