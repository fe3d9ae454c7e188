/-! what the contracts want of the invariant -/
theorem INV.into {t : Nat} {ci g : Nat → Int32} {cf MV MVR mf : Nat → Nat → Int32} (h : INV t ci cf MV MVR g mf) : ∀ i k, MV i (11 + k) = 0 ∨ MV i (11 + k) = 1 := by
  obtain ⟨n, nR, fr, tbR, ⟨-, -, hM⟩, -⟩ := h
  exact hM.2.2.2.2
theorem INV.fr601 {t : Nat} {ci g : Nat → Int32} {cf MV MVR mf : Nat → Nat → Int32} (h : INV t ci cf MV MVR g mf) : vp_in (ci 3) 601 := by
  obtain ⟨n, nR, fr, tbR, -, -, -, ⟨e, hf, -⟩, -⟩ := h
  rw [e]
  exact vp_in_nI (by omega) (by decide)
theorem INV.cnt6 {t : Nat} {ci g : Nat → Int32} {cf MV MVR mf : Nat → Nat → Int32} (h : INV t ci cf MV MVR g mf) : ci 1 ≤ 6 := by
  obtain ⟨n, nR, fr, tbR, ⟨e, -, hM⟩, -⟩ := h
  have h6 : n ≤ 6 := hM.1.1
  rw [e]
  exact (nI_leI (a := n) (b := 6) (by omega) (by decide)).mpr h6
theorem INV.g1 {t : Nat} {ci g : Nat → Int32} {cf MV MVR mf : Nat → Nat → Int32} (h : INV t ci cf MV MVR g mf) : vp_in (g 1) 7 := by
  obtain ⟨n, nR, fr, tbR, ⟨-, e, hM⟩, -⟩ := h
  have h6 : n ≤ 6 := hM.1.1
  rw [e]
  exact vp_in_nI (by omega) (by decide)
theorem INV.g7 {t : Nat} {ci g : Nat → Int32} {cf MV MVR mf : Nat → Nat → Int32} (h : INV t ci cf MV MVR g mf) : ¬ g 9 = 0 → vp_in (g 7) 600 := by
  obtain ⟨n, nR, fr, tbR, -, -, -, ⟨-, -, e⟩, -, -, -, -, hg⟩ := h
  intro h9
  rcases e with ⟨-, e⟩ | ⟨-, -, e⟩
  · rw [e]
    exact vp_in_nI (hg h9).2.2.1 (by decide)
  · exact absurd e h9
theorem INV.g7a {t : Nat} {ci g : Nat → Int32} {cf MV MVR mf : Nat → Nat → Int32} (h : INV t ci cf MV MVR g mf) : g 7 = -1 ∨ vp_in (g 7) 601 := by
  obtain ⟨n, nR, fr, tbR, -, -, -, ⟨-, hf, e⟩, -⟩ := h
  rcases e with ⟨-, e⟩ | ⟨-, e, -⟩
  · right
    rw [e]
    exact vp_in_nI (by omega) (by decide)
  · exact Or.inl e
theorem INV.g9 {t : Nat} {ci g : Nat → Int32} {cf MV MVR mf : Nat → Nat → Int32} (h : INV t ci cf MV MVR g mf) : g 9 = 0 ∨ g 9 = 1 := by
  obtain ⟨n, nR, fr, tbR, -, ⟨-, e⟩, -⟩ := h
  exact e
theorem okS_store {sA rd : Nat → Int32} (h : okS sA) : okS (X8_store_w3 sA rd) := okS_congr h rfl rfl rfl rfl rfl rfl
theorem okS_begin {g sA rd : Nat → Int32} {ap : Int32} (h : okS rd) : okS (X8_begin_w3 g sA rd ap) := by
  unfold X8_begin_w3
  split
  · exact h
  · exact okS_store okS_lay
theorem okS_ply {tb : Nat → Int32} {one two many : Int32} (h1 : okI one) (h2 : okI two) (n : Nat) : ∀ (j : Nat) (g s rd td wn : Nat → Int32), okS s → okS rd → okS (X8_ply_run tb one two many n j (g, s, rd, td, wn)).2.2.1 := by
  induction n with
  | zero =>
    intro j g s rd td wn _ hr
    rw [X8_ply_run]
    exact hr
  | succ n ih =>
    intro j g s rd td wn hs hr
    rw [X8_ply_run_s]
    split
    · exact hr
    · split
      · exact hr
      · exact ih _ _ _ _ _ _ (okS_fr hs h1 h2) (okS_store (okS_fr hs h1 h2))
theorem okS_play {g tb sA rd td wn : Nat → Int32} {many one two : Int32} (hg : vp_in (g 1) 7) (h : okS rd) : okS (X8_play_w3 g tb sA rd td wn many one two) := by
  unfold X8_play_w3
  by_cases c1 : X8_in_r 60 1 many = 0
  · rw [if_pos c1]; exact h
  · rw [if_neg c1]
    by_cases c2 : X8_isInput_r g one = 0
    · rw [if_pos c2]; exact h
    · rw [if_neg c2]
      by_cases c3 : X8_isInput_r g two = 0
      · rw [if_pos c3]; exact h
      · rw [if_neg c3]
        split
        · exact h
        · exact okS_ply (isInput_ok hg c2) (isInput_ok hg c3) 60 0 _ _ _ _ _ (okS_load h) h
theorem INV.go01 {t : Nat} {ci g : Nat → Int32} {cf MV MVR mf : Nat → Nat → Int32} (h : INV t ci cf MV MVR g mf) : ci 0 = 0 ∨ ci 0 = 1 := (op_goesOn h).2.1
