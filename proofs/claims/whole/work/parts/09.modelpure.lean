/-! the model's row of both figures: what each step keeps -/
def okI (x : Int32) : Prop := x < 10 ∨ okM (x - 10)
theorem upd_s (f : Nat → Int32) (k : Nat) (v : Int32) : upd f k v k = v := by simp [upd]
theorem upd_n (f : Nat → Int32) {k j : Nat} (v : Int32) (h : j ≠ k) : upd f k v j = f j := by simp [upd, h]
theorem okS_congr {s t : Nat → Int32} (h : okS s) (h3 : t 3 = s 3) (h4 : t 4 = s 4) (h7 : t 7 = s 7) (h14 : t 14 = s 14) (h15 : t 15 = s 15) (h18 : t 18 = s 18) : okS t := by
  unfold okS at *
  rw [h3, h4, h7, h14, h15, h18]
  exact h
theorem okS_k0 {sA : Nat → Int32} {input : Int32} (h : okS sA) (hi : okI input) : okS (X8_keepInput0_w2 sA input) := by
  unfold X8_keepInput0_w2
  split
  · exact h
  · rename_i c
    exact ⟨Or.inr (hi.resolve_left c), h.2.1, h.2.2.1, h.2.2.2⟩
theorem okS_k11 {sA : Nat → Int32} {input : Int32} (h : okS sA) (hi : okI input) : okS (X8_keepInput11_w2 sA input) := by
  unfold X8_keepInput11_w2
  split
  · exact h
  · rename_i c
    exact ⟨h.1, Or.inr (hi.resolve_left c), h.2.2.1, h.2.2.2⟩
theorem okS_b0 {tb sA : Nat → Int32} (h : okS sA) : okS (X8_beginKept0_w2 tb sA) := by
  unfold X8_beginKept0_w2
  split
  · exact h
  · rename_i c7
    have h7 := h.1.resolve_left c7
    split
    · split
      · exact ⟨Or.inl rfl, h.2.1, fun _ => h7, h.2.2.2⟩
      · split
        · exact h
        · exact ⟨Or.inl rfl, h.2.1, fun _ => h7, h.2.2.2⟩
    · exact h
theorem okS_b11 {tb sA : Nat → Int32} (h : okS sA) : okS (X8_beginKept11_w2 tb sA) := by
  unfold X8_beginKept11_w2
  split
  · exact h
  · rename_i c7
    have h7 := h.2.1.resolve_left c7
    split
    · split
      · exact ⟨h.1, Or.inl rfl, h.2.2.1, fun _ => h7⟩
      · split
        · exact h
        · exact ⟨h.1, Or.inl rfl, h.2.2.1, fun _ => h7⟩
    · exact h
theorem go_at {sA : Nat → Int32} {one two : Int32} {k : Nat} (h0 : k ≠ 0) (h11 : k ≠ 11) : X8_go_w2 sA one two k = sA k := by
  have e38 : X8_go_j38 sA one k = sA k := by unfold X8_go_j38; split <;> simp [upd, h0]
  have e78 : X8_go_j78 sA one two k = sA k := by unfold X8_go_j78; split <;> simp [upd, h11, e38]
  have e127 : X8_go_j127 sA one two k = sA k := by unfold X8_go_j127; split <;> simp [upd, h0, h11, e78]
  have e174 : X8_go_j174 sA one two k = sA k := by unfold X8_go_j174; split <;> simp [upd, h0, h11, e127]
  unfold X8_go_w2
  split <;> simp [upd, h0, h11, e174]
theorem okS_go {sA : Nat → Int32} {one two : Int32} (h : okS sA) : okS (X8_go_w2 sA one two) :=
  okS_congr h (go_at (by decide) (by decide)) (go_at (by decide) (by decide)) (go_at (by decide) (by decide)) (go_at (by decide) (by decide)) (go_at (by decide) (by decide)) (go_at (by decide) (by decide))
theorem reaches0_mv {tb sA : Nat → Int32} (h : ¬ X8_reaches0_r tb sA = 0) : sA 3 = 1 := by
  unfold X8_reaches0_r at h
  by_cases c : sA 3 = 1
  · exact c
  · rw [if_neg c] at h
    exact absurd rfl h
theorem reaches11_mv {tb sA : Nat → Int32} (h : ¬ X8_reaches11_r tb sA = 0) : sA 14 = 1 := by
  unfold X8_reaches11_r at h
  by_cases c : sA 14 = 1
  · exact c
  · rw [if_neg c] at h
    exact absurd rfl h
theorem gb0_at {sA : Nat → Int32} {x : Int32} {k : Nat} (h : k ≠ 0) : X8_goBack0_w2 sA x k = sA k := by unfold X8_goBack0_w2; exact upd_n _ _ h
theorem gb11_at {sA : Nat → Int32} {x : Int32} {k : Nat} (h : k ≠ 11) : X8_goBack11_w2 sA x k = sA k := by unfold X8_goBack11_w2; exact upd_n _ _ h
theorem touch0_at {tb sA : Nat → Int32} {c d i m : Int32} {k : Nat} (h : k ∉ [0, 2, 11, 12, 14, 15, 16, 17]) : X8_touch0_w2 tb sA c d i m k = sA k := by
  simp only [List.mem_cons, List.not_mem_nil, or_false, not_or] at h
  obtain ⟨h0, h2, h11, h12, h14, h15, h16, h17⟩ := h
  unfold X8_touch0_w2
  rw [gb0_at h0, gb11_at h11, upd_n _ _ h15]
  unfold X8_touch0_j301
  repeat' split
  all_goals simp [upd, h2, h12, h14, h16, h17]
theorem touch11_at {tb sA : Nat → Int32} {c d i m : Int32} {k : Nat} (h : k ∉ [0, 1, 3, 4, 5, 6, 11, 13]) : X8_touch11_w2 tb sA c d i m k = sA k := by
  simp only [List.mem_cons, List.not_mem_nil, or_false, not_or] at h
  obtain ⟨h0, h1, h3, h4, h5, h6, h11, h13⟩ := h
  unfold X8_touch11_w2
  rw [gb11_at h11, gb0_at h0, upd_n _ _ h4]
  unfold X8_touch11_j301
  repeat' split
  all_goals simp [upd, h1, h3, h5, h6, h13]
theorem touch0_14 {tb sA : Nat → Int32} {c d i m : Int32} : X8_touch0_w2 tb sA c d i m 14 = 2 ∨ X8_touch0_w2 tb sA c d i m 14 = 3 := by
  unfold X8_touch0_w2
  rw [gb0_at (by decide), gb11_at (by decide), upd_n _ _ (by decide)]
  unfold X8_touch0_j301
  split
  · exact Or.inl rfl
  · split
    · exact Or.inr rfl
    · split
      · exact Or.inr rfl
      · exact Or.inl rfl
theorem touch11_3 {tb sA : Nat → Int32} {c d i m : Int32} : X8_touch11_w2 tb sA c d i m 3 = 2 ∨ X8_touch11_w2 tb sA c d i m 3 = 3 := by
  unfold X8_touch11_w2
  rw [gb11_at (by decide), gb0_at (by decide), upd_n _ _ (by decide)]
  unfold X8_touch11_j301
  split
  · exact Or.inl rfl
  · split
    · exact Or.inr rfl
    · split
      · exact Or.inr rfl
      · exact Or.inl rfl
theorem ne1 {x : Int32} (h : x = 2 ∨ x = 3) (q : x = 1) : False := by rcases h with rfl | rfl <;> exact absurd q (by decide)
theorem okS_t0 {tb sA : Nat → Int32} {c d i m : Int32} (h : okS sA) : okS (X8_touch0_w2 tb sA c d i m) := by
  refine ⟨?_, ?_, ?_, fun q => (ne1 touch0_14 q).elim⟩
  · rw [touch0_at (by decide)]; exact h.1
  · rw [touch0_at (by decide)]; exact h.2.1
  · rw [touch0_at (by decide), touch0_at (by decide)]; exact h.2.2.1
theorem okS_t11 {tb sA : Nat → Int32} {c d i m : Int32} (h : okS sA) : okS (X8_touch11_w2 tb sA c d i m) := by
  refine ⟨?_, ?_, fun q => (ne1 touch11_3 q).elim, ?_⟩
  · rw [touch11_at (by decide)]; exact h.1
  · rw [touch11_at (by decide)]; exact h.2.1
  · rw [touch11_at (by decide), touch11_at (by decide)]; exact h.2.2.2
theorem okS_c0 {tb sA : Nat → Int32} (h : okS sA) : okS (X8_comeOn0_w2 tb sA) := by
  have a160 : ∀ k, k ≠ 3 → k ≠ 5 → k ≠ 9 → X8_comeOn0_j160 tb sA k = sA k := by
    intro k h3 h5 h9
    unfold X8_comeOn0_j160 X8_comeOn0_j103
    split
    · split <;> simp [upd, h3, h5, h9]
    · split
      · rfl
      · simp [upd, h3, h5]
  have b160 : X8_comeOn0_j160 tb sA 3 = 1 → sA 3 = 1 := by
    unfold X8_comeOn0_j160 X8_comeOn0_j103 X8_comeOn0_j159
    split
    · rename_i c; intro _; exact c
    · split
      · rename_i c; intro q; exact q
      · rename_i c1 c2
        intro q
        have q : (if 0 < sA 5 - 1 then sA 3 else 0) = (1 : Int32) := q
        split at q
        · exact q
        · exact absurd q (by decide)
  have a189 : ∀ k, k ≠ 3 → k ≠ 4 → k ≠ 5 → k ≠ 9 → X8_comeOn0_j189 tb sA k = sA k := by
    intro k h3 h4 h5 h9
    unfold X8_comeOn0_j189
    split
    · rw [upd_n _ _ h4, upd_n _ _ h5, a160 k h3 h5 h9]
    · exact a160 k h3 h5 h9
  have b189 : X8_comeOn0_j189 tb sA 3 = 1 → sA 3 = 1 ∧ X8_comeOn0_j189 tb sA 4 = sA 4 := by
    unfold X8_comeOn0_j189
    split
    · rename_i c
      intro q
      have q : X8_comeOn0_j160 tb sA 3 = 1 := q
      rw [c] at q
      exact absurd q (by decide)
    · intro q
      exact ⟨b160 q, a160 4 (by decide) (by decide) (by decide)⟩
  refine ⟨?_, ?_, ?_, ?_⟩
  · show X8_comeOn0_j319 tb sA = -1 ∨ okM (X8_comeOn0_j319 tb sA)
    unfold X8_comeOn0_j319
    split
    · exact Or.inl rfl
    · rw [a189 7 (by decide) (by decide) (by decide) (by decide)]; exact h.1
  · show X8_comeOn0_j189 tb sA 18 = -1 ∨ okM (X8_comeOn0_j189 tb sA 18)
    rw [a189 18 (by decide) (by decide) (by decide) (by decide)]; exact h.2.1
  · show X8_comeOn0_j189 tb sA 3 = 1 → okM (X8_comeOn0_j189 tb sA 4)
    intro q
    obtain ⟨q1, q2⟩ := b189 q
    rw [q2]
    exact h.2.2.1 q1
  · show X8_comeOn0_j189 tb sA 14 = 1 → okM (X8_comeOn0_j189 tb sA 15)
    rw [a189 14 (by decide) (by decide) (by decide) (by decide), a189 15 (by decide) (by decide) (by decide) (by decide)]
    exact h.2.2.2
