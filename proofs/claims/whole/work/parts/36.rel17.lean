theorem idle_run3 {MV : Nat → Nat → Int32} {i : Nat} (hi : i < 6) (n : Nat) : ∀ (j : Nat) (F G : Nat → Int32), idleF MV i F → stillF G → (X3_hw_run MV (nI i) 0 n j (F, G, 0)).1 = 0 := by
  induction n with
  | zero =>
    intro j F G _ _
    rw [X3_hw_run]
  | succ n ih =>
    intro j F G hF hG
    have e33 : X3_hitsWith_j33 0 (nI i) = 10 + nI i := by
      unfold X3_hitsWith_j33 X7_inputOf_r
      rw [if_pos rfl]
    obtain ⟨a, b, c, d⟩ := idle_frame hi hF hG (one := 10 + nI i) (Or.inl rfl)
    have e56 : X3_hitsWith_j56 MV F G 0 (nI i) = 0 := by
      unfold X3_hitsWith_j56
      rw [e33, if_pos rfl, if_pos c]
    rw [X3_hw_run_s, e33, e56, if_pos d]
    exact ih (j + 1) _ _ a b
theorem j44_or {isF : Int32} {i j : Nat} : X8_hits_j44 0 isF j (nI i) = 10 + nI i ∨ X8_hits_j44 0 isF j (nI i) = 0 := by
  unfold X8_hits_j44
  rw [if_pos rfl]
  split
  · exact Or.inl rfl
  · split
    · exact Or.inl rfl
    · exact Or.inr rfl
theorem idle_run8 {MV : Nat → Nat → Int32} {tb : Nat → Int32} {isF : Int32} {cnt i : Nat} (hT : relT MV tb cnt) (hV : relV MV cnt) (hC : relC MV cnt) (hi : i < cnt) (n : Nat) : ∀ (j : Nat) (F G sA g : Nat → Int32), relS MV cnt F G sA → idleF MV i F → stillF G → (X8_hit_run tb isF (nI i) 0 n j (g, sA, 0)).1 = 0 := by
  induction n with
  | zero =>
    intro j F G sA g _ _ _
    rw [X8_hit_run]
  | succ n ih =>
    intro j F G sA g h hF hG
    have hS := relS_frame hT hV hC h (j44_ok (isF := isF) (hb := 0) (j := j) hi) okIn_0
    have e12 := relS_12 hT hV hC h (j44_ok (isF := isF) (hb := 0) (j := j) hi) okIn_0
    obtain ⟨a, b, c, d⟩ := idle_frame (Nat.lt_of_lt_of_le hi hT.1) hF hG (j44_or (isF := isF) (i := i) (j := j))
    have e65 : X8_hits_j65 tb g 0 isF j (nI i) sA = 0 := by
      unfold X8_hits_j65
      rw [if_pos rfl, fr_11, ← e12, if_pos c]
    have e17 : X8_frame_w2 tb sA (X8_hits_j44 0 isF j (nI i)) 0 17 = 0 := hS.2.1.2.2.2.2.2.1.symm.trans d
    rw [X8_hit_run_s, e65, if_pos e17]
    exact ih (j + 1) _ _ _ _ hS a b
/-- the first hit's frames agree: it begins at once, or never -/
theorem rel_first {MV : Nat → Nat → Int32} {tb F G sA g : Nat → Int32} {isF : Int32} {cnt i : Nat} (hT : relT MV tb cnt) (hV : relV MV cnt) (hC : relC MV cnt) (hi : i < cnt) (n : Nat) (h : relS MV cnt F G sA) (f3 : F 3 = 0) (f9 : F 9 = -1) (hG : stillF G) :
    (X3_hw_run MV (nI i) 0 (n + 1) 0 (F, G, 0)).1 = (X8_hit_run tb isF (nI i) 0 (n + 1) 0 (g, sA, 0)).1 ∧ (¬ (X3_hw_run MV (nI i) 0 (n + 1) 0 (F, G, 0)).1 = 0 → relS MV cnt (X3_hw_run MV (nI i) 0 (n + 1) 0 (F, G, 0)).2.1 (X3_hw_run MV (nI i) 0 (n + 1) 0 (F, G, 0)).2.2 (X8_hit_run tb isF (nI i) 0 (n + 1) 0 (g, sA, 0)).2.2) := by
  have h6 : i < 6 := Nat.lt_of_lt_of_le hi hT.1
  by_cases cm : F 2 < X4_trait_r (MV (mi (nI i))) 3
  · have hF : idleF MV i F := ⟨f3, Or.inl f9, cm⟩
    have e := idle_run3 (MV := MV) h6 (n + 1) 0 F G hF hG
    rw [e, idle_run8 hT hV hC hi (n + 1) 0 F G sA g h hF hG]
    exact ⟨rfl, fun q => (q rfl).elim⟩
  · have e33 : X3_hitsWith_j33 0 (nI i) = 10 + nI i := by
      unfold X3_hitsWith_j33 X7_inputOf_r
      rw [if_pos rfl]
    have e44 : X8_hits_j44 0 isF 0 (nI i) = 10 + nI i := by
      unfold X8_hits_j44
      rw [if_pos rfl]
      split
      · rfl
      · rw [if_pos (show nI 0 ≤ 0 from Int32.le_refl _)]
    have hS := relS_frame hT hV hC h (okIn_mv hi) okIn_0
    have e12 := relS_12 hT hV hC h (okIn_mv hi) okIn_0
    have b12 : X2_beginKept_w0 (X2_take_w0 F (10 + nI i)) MV 12 = 1 := by
      unfold X2_take_w0
      rw [if_neg (ten_ge h6)]
      have k9 : upd (upd (upd (upd F 11 (10 + nI i)) 12 0) 9 (10 + nI i - 10)) 10 5 9 = nI i := show (10 : Int32) + nI i - 10 = nI i by rw [Int32.add_comm, Int32.add_sub_cancel]
      have k3 : upd (upd (upd (upd F 11 (10 + nI i)) 12 0) 9 (10 + nI i - 10)) 10 5 3 = 0 := f3
      have k2 : upd (upd (upd (upd F 11 (10 + nI i)) 12 0) 9 (10 + nI i - 10)) 10 5 2 = F 2 := rfl
      generalize upd (upd (upd (upd F 11 (10 + nI i)) 12 0) 9 (10 + nI i - 10)) 10 5 = A at k9 k3 k2 ⊢
      have hne : ¬ nI i = -1 := fun q => nI_pos (show i < 2 ^ 31 by omega) (by rw [q]; decide)
      have hfree : ¬ X2_isFreeForKept_r A MV = 0 := by
        unfold X2_isFreeForKept_r
        rw [if_pos k3]
        decide
      unfold X2_beginKept_w0
      rw [k9, k2, if_neg hne, if_neg cm, if_neg hfree]
      rfl
    have hb : X8_beginKept0_r tb (X8_keepInput11_w2 (X8_keepInput0_w2 sA (10 + nI i)) 0) = 1 := by
      have L1 := k11_L (x := (0 : Int32)) (rel_takeL (x := 10 + nI i) h.1)
      have I1 := figI_take (x := 10 + nI i) h.2.2.1 (okIn_mv hi)
      exact (rel_beginL (cnt := cnt) hT L1 (by rw [← L1.2.2.2.2.2.2.1]; exact I1.2.2.2.2.1) (fun q => by rw [← L1.2.2.2.2.1]; exact (figI_mL I1 (L1.2.2.2.1.trans q)).1) take_at.2.1).2.symm.trans b12
    have e56 : X3_hitsWith_j56 MV F G 0 (nI i) = 1 := by
      unfold X3_hitsWith_j56
      rw [if_pos rfl, e33, e12, hb]
      rfl
    have e65 : X8_hits_j65 tb g 0 isF 0 (nI i) sA = 1 := by
      unfold X8_hits_j65
      rw [if_pos rfl, fr_11, e44, hb]
      rfl
    rw [X3_hw_run_s, X8_hit_run_s, e33, e44, e56, e65]
    clear e12 b12 hb e56 e65
    generalize X1_playFrame_w1 F G MV (10 + nI i) 0 = P1 at hS ⊢
    generalize X1_playFrame_w2 F G MV (10 + nI i) 0 = P2 at hS ⊢
    generalize X8_frame_w2 tb sA (10 + nI i) 0 = s1 at hS ⊢
    generalize X8_frame_w0 g tb sA (10 + nI i) 0 = g1
    have e4 : P2 4 = s1 17 := hS.2.1.2.2.2.2.2.1
    rw [e4]
    by_cases k : s1 17 = 0
    · rw [if_pos k, if_pos k]
      obtain ⟨a, b⟩ := rel_hits (isF := isF) (c := 0) (tb := tb) hT hV hC hi n (0 + 1) P1 P2 s1 g1 1 hS (Or.inr rfl)
      exact ⟨a, fun _ => b⟩
    · rw [if_neg k, if_neg k]
      exact ⟨rfl, fun _ => hS⟩
