/-- a figure that stands and hasn't the meter for move i, the one that it may keep -/
def idleF (MV : Nat → Nat → Int32) (i : Nat) (F : Nat → Int32) : Prop := F 3 = 0 ∧ (F 9 = -1 ∨ F 9 = nI i) ∧ F 2 < X4_trait_r (MV (mi (nI i))) 3
def stillF (G : Nat → Int32) : Prop := G 3 = 0 ∧ G 9 = -1
theorem end_idle {F : Nat → Int32} {MV : Nat → Nat → Int32} (h : F 3 = 0) : X2_endFrame_w0 F MV 3 = 0 ∧ (X2_endFrame_w0 F MV 9 = F 9 ∨ X2_endFrame_w0 F MV 9 = -1) ∧ X2_endFrame_w0 F MV 2 = F 2 ∧ X2_endFrame_w0 F MV 12 = F 12 ∧ X2_endFrame_w0 F MV 4 = 0 := by
  have e54 : X2_endFrame_j54 F MV = F := by
    unfold X2_endFrame_j54
    rw [if_neg (by rw [h]; decide), if_pos h]
  have e67 : X2_endFrame_j67 F MV = upd F 4 0 := by
    unfold X2_endFrame_j67
    rw [e54, if_neg (by rw [h]; decide)]
  unfold X2_endFrame_w0
  rw [e67]
  split
  · exact ⟨h, Or.inl rfl, rfl, rfl, rfl⟩
  · exact ⟨h, Or.inr rfl, rfl, rfl, rfl⟩
theorem strike_idle {F G : Nat → Int32} {MV : Nat → Nat → Int32} (hF : F 3 = 0) (hG : G 3 = 0) : X1_strike_w1 F G MV = X2_rememberAheadOfHits_w0 F ∧ X1_strike_w2 F G MV = X2_rememberAheadOfHits_w0 G := by
  have cL : X1_reachesL_r F G (MV (mi (F 5))) = 0 := by
    by_cases c : X1_reachesL_r F G (MV (mi (F 5))) = 0
    · exact c
    · exact absurd ((reachL_3 c).symm.trans hF) (by decide)
  have cR : X1_reachesR_r F G (MV (mi (G 5))) = 0 := by
    by_cases c : X1_reachesR_r F G (MV (mi (G 5))) = 0
    · exact c
    · exact absurd ((reachR_3 c).symm.trans hG) (by decide)
  unfold X1_strike_w1 X1_strike_w2
  rw [if_pos cL, if_pos cR, if_pos cL, if_pos cR]
  exact ⟨rfl, rfl⟩
theorem ten_ge {i : Nat} (h : i < 6) : ¬ (10 : Int32) + nI i < 10 := by
  rw [show (10 : Int32) = nI 10 from rfl, nI_add, nI_ltI (by omega) (by omega)]
  omega
theorem idle_take {F : Nat → Int32} {MV : Nat → Nat → Int32} {i : Nat} {one : Int32} (hi : i < 6) (h : idleF MV i F) (ho : one = 10 + nI i ∨ one = 0) : X2_beginKept_w0 (X2_take_w0 F one) MV = X2_take_w0 F one ∧ idleF MV i (X2_take_w0 F one) := by
  have h1 : idleF MV i (X2_take_w0 F one) := by
    obtain ⟨a, b, c⟩ := h
    unfold X2_take_w0
    rcases ho with rfl | rfl
    · rw [if_neg (ten_ge hi)]
      exact ⟨a, Or.inr (show (10 : Int32) + nI i - 10 = nI i by rw [Int32.add_comm, Int32.add_sub_cancel]), c⟩
    · rw [if_pos (by decide)]
      exact ⟨a, b, c⟩
  refine ⟨?_, h1⟩
  obtain ⟨a, b, c⟩ := h1
  unfold X2_beginKept_w0
  by_cases k : X2_take_w0 F one 9 = -1
  · rw [if_pos k]
  · rw [if_neg k, b.resolve_left k, if_pos c]
theorem still_take {G : Nat → Int32} {MV : Nat → Nat → Int32} (h : stillF G) : X2_beginKept_w0 (X2_take_w0 G 0) MV = X2_take_w0 G 0 ∧ stillF (X2_take_w0 G 0) := by
  have h1 : stillF (X2_take_w0 G 0) := by
    unfold X2_take_w0
    rw [if_pos (by decide)]
    exact ⟨h.1, h.2⟩
  refine ⟨?_, h1⟩
  unfold X2_beginKept_w0
  rw [if_pos h1.2]
theorem idle_frame {F G : Nat → Int32} {MV : Nat → Nat → Int32} {i : Nat} {one : Int32} (hi : i < 6) (hF : idleF MV i F) (hG : stillF G) (ho : one = 10 + nI i ∨ one = 0) : idleF MV i (X1_playFrame_w1 F G MV one 0) ∧ stillF (X1_playFrame_w2 F G MV one 0) ∧ X1_playFrame_w1 F G MV one 0 12 = 0 ∧ X1_playFrame_w2 F G MV one 0 4 = 0 := by
  obtain ⟨eF, F1⟩ := idle_take hi hF ho
  obtain ⟨eG, G1⟩ := still_take (MV := MV) hG
  unfold X1_playFrame_w1 X1_playFrame_w2
  rw [eF, eG]
  have f12 : X2_take_w0 F one 12 = 0 := take_at.2.1
  generalize X2_take_w0 F one = A at F1 f12 ⊢
  generalize X2_take_w0 G 0 = B at G1 ⊢
  have a3 : X1_walk_w1 A B 3 = 0 := (walk1_at (by decide)).trans F1.1
  have b3 : X1_walk_w2 A B 3 = 0 := (walk2_at (by decide)).trans G1.1
  have a9 : X1_walk_w1 A B 9 = A 9 := walk1_at (by decide)
  have b9 : X1_walk_w2 A B 9 = B 9 := walk2_at (by decide)
  have a2 : X1_walk_w1 A B 2 = A 2 := walk1_at (by decide)
  have a12 : X1_walk_w1 A B 12 = A 12 := walk1_at (by decide)
  generalize X1_walk_w1 A B = A1 at a3 a9 a2 a12 ⊢
  generalize X1_walk_w2 A B = B1 at b3 b9 ⊢
  obtain ⟨s1, s2⟩ := strike_idle (MV := MV) a3 b3
  rw [s1, s2]
  obtain ⟨p3, p9, p2, p12, p4⟩ := end_idle (F := X2_rememberAheadOfHits_w0 A1) (MV := MV) a3
  obtain ⟨q3, q9, q2, q12, q4⟩ := end_idle (F := X2_rememberAheadOfHits_w0 B1) (MV := MV) b3
  have r9 : X2_rememberAheadOfHits_w0 A1 9 = A 9 := a9
  have t9 : X2_rememberAheadOfHits_w0 B1 9 = B 9 := b9
  have r2 : X2_rememberAheadOfHits_w0 A1 2 = A 2 := a2
  have r12 : X2_rememberAheadOfHits_w0 A1 12 = A 12 := a12
  refine ⟨⟨p3, ?_, ?_⟩, ⟨q3, ?_⟩, ?_, q4⟩
  · rcases p9 with p9 | p9
    · rw [p9, r9]; exact F1.2.1
    · exact Or.inl p9
  · rw [p2, r2]; exact F1.2.2
  · rcases q9 with q9 | q9
    · rw [q9, t9]; exact G1.2
    · exact q9
  · rw [p12, r12]; exact f12
