theorem X7_move_or (cnt : Int32) (go : Int32) (p0 : Int32) (p1 : Int32) (p2 : Int32) (p3 : Int32) (p4 : Int32) (p5 : Int32) : (X7_move_x cnt go p0 p1 p2 p3 p4 p5) = 0 ∨ ((X7_move_x cnt go p0 p1 p2 p3 p4 p5) = 2 ∨ (X7_move_x cnt go p0 p1 p2 p3 p4 p5) = 3) := by
  unfold X7_move_x
  exact (iteP (fun x => x = 0 ∨ (x = 2 ∨ x = 3)) (iteP (fun x => x = 0 ∨ (x = 2 ∨ x = 3)) (iteP (fun x => x = 0 ∨ (x = 2 ∨ x = 3)) (iteP (fun x => x = 0 ∨ (x = 2 ∨ x = 3)) (iteP (fun x => x = 0 ∨ (x = 2 ∨ x = 3)) (iteP (fun x => x = 0 ∨ (x = 2 ∨ x = 3)) (iteP (fun x => x = 0 ∨ (x = 2 ∨ x = 3)) (iteP (fun x => x = 0 ∨ (x = 2 ∨ x = 3)) (Or.inl rfl) (Or.inr (Or.inr rfl))) ((nR_or go).elim Or.inl (fun h => Or.inr (Or.inr h)))) ((nW_or 200 1 p5).elim Or.inl (fun h => Or.inr (Or.inl h)))) ((nW_or 3 0 p4).elim Or.inl (fun h => Or.inr (Or.inl h)))) ((nW_or 150 1 p3).elim Or.inl (fun h => Or.inr (Or.inl h)))) ((nW_or 40 1 p2).elim Or.inl (fun h => Or.inr (Or.inl h)))) ((nW_or 10 1 p1).elim Or.inl (fun h => Or.inr (Or.inl h)))) ((nW_or 30 1 p0).elim Or.inl (fun h => Or.inr (Or.inl h))))
theorem X7_patch_or (cnt : Int32) (go : Int32) (move : Int32) (value : Int32) (what : Int32) : (X7_patch_x cnt go move value what) = 0 ∨ ((X7_patch_x cnt go move value what) = 1 ∨ (X7_patch_x cnt go move value what) = 2 ∨ (X7_patch_x cnt go move value what) = 3) := by
  unfold X7_patch_x
  exact (iteP (fun x => x = 0 ∨ (x = 1 ∨ x = 2 ∨ x = 3)) (iteP (fun x => x = 0 ∨ (x = 1 ∨ x = 2 ∨ x = 3)) (iteP (fun x => x = 0 ∨ (x = 1 ∨ x = 2 ∨ x = 3)) (iteP (fun x => x = 0 ∨ (x = 1 ∨ x = 2 ∨ x = 3)) (Or.inl rfl) ((nR_or go).elim Or.inl (fun h => Or.inr (Or.inr (Or.inr h))))) ((nW_or 60 0 value).elim Or.inl (fun h => Or.inr (Or.inr (Or.inl h))))) ((nW_or 4 0 what).elim Or.inl (fun h => Or.inr (Or.inr (Or.inl h))))) ((nM_or cnt move).elim Or.inl (fun h => Or.inr (Or.inl h))))
theorem X7_cancel_or (cnt : Int32) (go : Int32) (into : Int32) (move : Int32) : (X7_cancel_x cnt go into move) = 0 ∨ ((X7_cancel_x cnt go into move) = 1 ∨ (X7_cancel_x cnt go into move) = 3) := by
  unfold X7_cancel_x
  exact (iteP (fun x => x = 0 ∨ (x = 1 ∨ x = 3)) (iteP (fun x => x = 0 ∨ (x = 1 ∨ x = 3)) (iteP (fun x => x = 0 ∨ (x = 1 ∨ x = 3)) (Or.inl rfl) ((nR_or go).elim Or.inl (fun h => Or.inr (Or.inr h)))) ((nM_or cnt into).elim Or.inl (fun h => Or.inr (Or.inl h)))) ((nM_or cnt move).elim Or.inl (fun h => Or.inr (Or.inl h))))
theorem X7_begin_or (apart : Int32) (go : Int32) : (X7_begin_x apart go) = 0 ∨ ((X7_begin_x apart go) = 2 ∨ (X7_begin_x apart go) = 3) := by
  unfold X7_begin_x
  exact (iteP (fun x => x = 0 ∨ (x = 2 ∨ x = 3)) (iteP (fun x => x = 0 ∨ (x = 2 ∨ x = 3)) (iteP (fun x => x = 0 ∨ (x = 2 ∨ x = 3)) (Or.inl rfl) ((nR_or go).elim Or.inl (fun h => Or.inr (Or.inr h)))) (Or.inr (Or.inl rfl))) ((nW_or 300 20 apart).elim Or.inl (fun h => Or.inr (Or.inl h))))
theorem X7_play_or (cne : Int32) (frames : Int32) (go : Int32) (one : Int32) (two : Int32) : (X7_play_x cne frames go one two) = 0 ∨ ((X7_play_x cne frames go one two) = 2 ∨ (X7_play_x cne frames go one two) = 3) := by
  unfold X7_play_x
  exact (iteP (fun x => x = 0 ∨ (x = 2 ∨ x = 3)) (iteP (fun x => x = 0 ∨ (x = 2 ∨ x = 3)) (iteP (fun x => x = 0 ∨ (x = 2 ∨ x = 3)) (iteP (fun x => x = 0 ∨ (x = 2 ∨ x = 3)) (Or.inr (Or.inr rfl)) (Or.inl rfl)) ((nN_or cne two).elim Or.inl (fun h => Or.inr (Or.inl h)))) ((nN_or cne one).elim Or.inl (fun h => Or.inr (Or.inl h)))) ((nW_or 60 1 frames).elim Or.inl (fun h => Or.inr (Or.inl h))))
theorem X7_of_or (figure : Int32) (what : Int32) : (X7_of_x figure what) = 0 ∨ ((X7_of_x figure what) = 1 ∨ (X7_of_x figure what) = 2) := by
  unfold X7_of_x
  exact (iteP (fun x => x = 0 ∨ (x = 1 ∨ x = 2)) (iteP (fun x => x = 0 ∨ (x = 1 ∨ x = 2)) (Or.inl rfl) ((nW_or 7 0 what).elim Or.inl (fun h => Or.inr (Or.inr h)))) ((nF_or figure).elim Or.inl (fun h => Or.inr (Or.inl h))))
theorem X7_again_or (bg : Int32) (figure : Int32) (fr : Int32) (frame : Int32) (what : Int32) : (X7_again_x bg figure fr frame what) = 0 ∨ ((X7_again_x bg figure fr frame what) = 1 ∨ (X7_again_x bg figure fr frame what) = 2) := by
  unfold X7_again_x
  exact (iteP (fun x => x = 0 ∨ (x = 1 ∨ x = 2)) (Or.inr (Or.inl rfl)) (iteP (fun x => x = 0 ∨ (x = 1 ∨ x = 2)) (Or.inr (Or.inl rfl)) (iteP (fun x => x = 0 ∨ (x = 1 ∨ x = 2)) (iteP (fun x => x = 0 ∨ (x = 1 ∨ x = 2)) (iteP (fun x => x = 0 ∨ (x = 1 ∨ x = 2)) (Or.inl rfl) ((nW_or 6 0 what).elim Or.inl (fun h => Or.inr (Or.inr h)))) ((nF_or figure).elim Or.inl (fun h => Or.inr (Or.inl h)))) (Or.inr (Or.inl rfl)))))
theorem X7_advantage_or (cnt : Int32) (move : Int32) : (X7_advantage_x cnt move) = 0 ∨ ((X7_advantage_x cnt move) = 1) := by
  unfold X7_advantage_x
  exact (iteP (fun x => x = 0 ∨ x = 1) (Or.inl rfl) ((nM_or cnt move).elim Or.inl (fun h => Or.inr h)))
theorem X7_punish_or (by_ : Int32) (cnt : Int32) (move : Int32) : (X7_punish_x by_ cnt move) = 0 ∨ ((X7_punish_x by_ cnt move) = 1) := by
  unfold X7_punish_x
  exact (iteP (fun x => x = 0 ∨ x = 1) (iteP (fun x => x = 0 ∨ x = 1) (Or.inl rfl) ((nM_or cnt by_).elim Or.inl (fun h => Or.inr h))) ((nM_or cnt move).elim Or.inl (fun h => Or.inr h)))
theorem X7_most_or (cnt : Int32) (hits : Int32) (meter : Int32) (move : Int32) : (X7_most_x cnt hits meter move) = 0 ∨ ((X7_most_x cnt hits meter move) = 1 ∨ (X7_most_x cnt hits meter move) = 2) := by
  unfold X7_most_x
  exact (iteP (fun x => x = 0 ∨ (x = 1 ∨ x = 2)) (iteP (fun x => x = 0 ∨ (x = 1 ∨ x = 2)) (iteP (fun x => x = 0 ∨ (x = 1 ∨ x = 2)) (Or.inl rfl) ((nW_or 100 0 meter).elim Or.inl (fun h => Or.inr (Or.inr h)))) ((nW_or 4 1 hits).elim Or.inl (fun h => Or.inr (Or.inr h)))) ((nM_or cnt move).elim Or.inl (fun h => Or.inr (Or.inl h))))
theorem X7_mostAt_or (cnt : Int32) (hits : Int32) (meter : Int32) (move : Int32) (place : Int32) : (X7_mostAt_x cnt hits meter move place) = 0 ∨ ((X7_mostAt_x cnt hits meter move place) = 1 ∨ (X7_mostAt_x cnt hits meter move place) = 2) := by
  unfold X7_mostAt_x
  exact (iteP (fun x => x = 0 ∨ (x = 1 ∨ x = 2)) (iteP (fun x => x = 0 ∨ (x = 1 ∨ x = 2)) (iteP (fun x => x = 0 ∨ (x = 1 ∨ x = 2)) (iteP (fun x => x = 0 ∨ (x = 1 ∨ x = 2)) (Or.inl rfl) ((nW_or 100 0 meter).elim Or.inl (fun h => Or.inr (Or.inr h)))) ((nW_or 4 1 hits).elim Or.inl (fun h => Or.inr (Or.inr h)))) (Or.inr (Or.inl rfl))) ((nM_or cnt move).elim Or.inl (fun h => Or.inr (Or.inl h))))
