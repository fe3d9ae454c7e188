/-- what a figure tells is what the model's row tells -/
theorem tell_L {F sA : Nat → Int32} {w : Nat} (h : relL F sA) (hw : w ≤ 6) : X2_tell_r F (nI w) = sA w := by
  obtain ⟨F0, F1, F2, F3, F5, F4, F9, F10, F6, F8, F7⟩ := h
  have e : w = 0 ∨ w = 1 ∨ w = 2 ∨ w = 3 ∨ w = 4 ∨ w = 5 ∨ w = 6 := by omega
  rcases e with rfl | rfl | rfl | rfl | rfl | rfl | rfl
  · exact F0
  · exact F1
  · exact F2
  · exact F3
  · exact F5
  · show (if F 3 = 1 then F 6 else F 8) = sA 5
    by_cases c : F 3 = 1
    · rw [if_pos c]; exact F6 c
    · rw [if_neg c]; exact F8 c
  · exact F4
theorem tell_R {F sA : Nat → Int32} {w : Nat} (h : relR F sA) (hw : w ≤ 6) : X2_tell_r F (nI w) = sA (11 + w) := by
  obtain ⟨F0, F1, F2, F3, F5, F4, F9, F10, F6, F8, F7⟩ := h
  have e : w = 0 ∨ w = 1 ∨ w = 2 ∨ w = 3 ∨ w = 4 ∨ w = 5 ∨ w = 6 := by omega
  rcases e with rfl | rfl | rfl | rfl | rfl | rfl | rfl
  · exact F0
  · exact F1
  · exact F2
  · exact F3
  · exact F5
  · show (if F 3 = 1 then F 6 else F 8) = sA 16
    by_cases c : F 3 = 1
    · rw [if_pos c]; exact F6 c
    · rw [if_neg c]; exact F8 c
  · exact F4
