theorem j44_ok {cnt i j : Nat} {hb isF : Int32} (h : i < cnt) : okIn cnt (X8_hits_j44 hb isF j (nI i)) := by
  unfold X8_hits_j44
  split
  · split
    · exact okIn_mv h
    · split
      · exact okIn_mv h
      · exact okIn_0
  · exact okIn_0
theorem fr_11 {g tb sA : Nat → Int32} {one two : Int32} : X8_frame_w0 g tb sA one two 11 = X8_beginKept0_r tb (X8_keepInput11_w2 (X8_keepInput0_w2 sA one) two) := by
  unfold X8_frame_w0
  rw [upd_s]
/-- a hit's frames agree, where both sides give the same inputs -/
theorem rel_hits {MV : Nat → Nat → Int32} {tb : Nat → Int32} {isF c : Int32} {cnt i : Nat} (hT : relT MV tb cnt) (hV : relV MV cnt) (hC : relC MV cnt) (hi : i < cnt) (n : Nat) : ∀ (j : Nat) (F G sA g : Nat → Int32) (hb : Int32), relS MV cnt F G sA → isF = 0 ∨ hb = 1 →
    (X3_hw_run MV (nI i) c n j (F, G, hb)).1 = (X8_hit_run tb isF (nI i) c n j (g, sA, hb)).1 ∧ relS MV cnt (X3_hw_run MV (nI i) c n j (F, G, hb)).2.1 (X3_hw_run MV (nI i) c n j (F, G, hb)).2.2 (X8_hit_run tb isF (nI i) c n j (g, sA, hb)).2.2 := by
  induction n with
  | zero =>
    intro j F G sA g hb h _
    rw [X3_hw_run, X8_hit_run]
    exact ⟨rfl, h⟩
  | succ n ih =>
    intro j F G sA g hb h hh
    have e44 : X3_hitsWith_j33 hb (nI i) = X8_hits_j44 hb isF j (nI i) := by
      unfold X3_hitsWith_j33 X8_hits_j44 X7_inputOf_r
      rcases hh with hh | hh
      · rw [if_pos hh]
      · rw [if_neg (by rw [hh]; decide), if_neg (by rw [hh]; decide)]
    have hS := relS_frame hT hV hC h (j44_ok (isF := isF) (hb := hb) (j := j) hi) okIn_0
    have e12 := relS_12 hT hV hC h (j44_ok (isF := isF) (hb := hb) (j := j) hi) okIn_0
    have e56 : X3_hitsWith_j56 MV F G hb (nI i) = X8_hits_j65 tb g hb isF j (nI i) sA := by
      unfold X3_hitsWith_j56 X8_hits_j65
      rw [e44, e12, fr_11]
    have hh1 : isF = 0 ∨ X8_hits_j65 tb g hb isF j (nI i) sA = 1 := by
      rcases hh with hh | hh
      · exact Or.inl hh
      · right
        unfold X8_hits_j65
        rw [if_neg (by rw [hh]; decide)]
    rw [X3_hw_run_s, X8_hit_run_s, e44, e56]
    generalize X8_hits_j65 tb g hb isF j (nI i) sA = hb1 at hh1 ⊢
    clear e12 e56
    generalize X1_playFrame_w1 F G MV (X8_hits_j44 hb isF j (nI i)) 0 = P1 at hS ⊢
    generalize X1_playFrame_w2 F G MV (X8_hits_j44 hb isF j (nI i)) 0 = P2 at hS ⊢
    generalize X8_frame_w2 tb sA (X8_hits_j44 hb isF j (nI i)) 0 = s1 at hS ⊢
    generalize X8_frame_w0 g tb sA (X8_hits_j44 hb isF j (nI i)) 0 = g1
    have e4 : P2 4 = s1 17 := hS.2.1.2.2.2.2.2.1
    rw [e4]
    by_cases k : s1 17 = c
    · rw [if_pos k, if_pos k]
      exact ih (j + 1) P1 P2 s1 g1 hb1 hS hh1
    · rw [if_neg k, if_neg k]
      exact ⟨rfl, hS⟩
