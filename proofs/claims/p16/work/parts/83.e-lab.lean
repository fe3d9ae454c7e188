/-! pure: the laboratory's calls -/
def lbZ (n : Nat) (u : zS) : Prop := 1 ≤ n ∧ u.1 1 = nI n ∧ mvB n u.2.2.1 ∧ flagL u.2.1
theorem rdZ.lb {n fr T : Nat} {u : zS} (h : rdZ n fr T u) : lbZ n u := ⟨h.1.1, h.1.2.1, h.1.2.2.1, h.2.1.2.2⟩
theorem in_mv {n m : Nat} (hm : m < n) (hn : n ≤ 6) : inB n (X7_inputOf_r (nI m)) := by
  refine Or.inr ⟨m, hm, ?_⟩
  unfold X7_inputOf_r
  rw [show (10 : Int32) = nI 10 from rfl, nI_add, pk_sub (by omega)]
  congr 1
  omega
theorem zq.tr {S : Nat → Prop} {F G H : Nat → Int32} (h : zq S F G) (g : zq S G H) : zq S F H := fun k hk => (h k hk).trans (g k hk)
theorem zq.sy {S : Nat → Prop} {F G : Nat → Int32} (h : zq S F G) : zq S G F := fun k hk => (h k hk).symm
theorem duB_zq {t n LF LG : Nat} {F G F' G' : Nat → Int32} (a : zq zqA F' F) (b : zq zqA G' G) (h : duB t n LF LG F G) : duB t n LF LG F' G' := by
  obtain ⟨hF, hG, hp, lF, lG, f15, g15, f4, g4⟩ := h
  refine ⟨hF.congr (a 2 (by decide)) (a 3 (by decide)) (a 5 (by decide)) (a 6 (by decide)) (a 8 (by decide)) (a 9 (by decide)), hG.congr (b 2 (by decide)) (b 3 (by decide)) (b 5 (by decide)) (b 6 (by decide)) (b 8 (by decide)) (b 9 (by decide)), ?_, lF.congr (Nat.le_refl _) (a 1 (by decide)) (Or.inl (a 4 (by decide))), lG.congr (Nat.le_refl _) (b 1 (by decide)) (Or.inl (b 4 (by decide))), (a 15 (by decide)).trans f15, (b 15 (by decide)).trans g15, ?_, ?_⟩
  · unfold plB
    rw [a 0 (by decide), b 0 (by decide)]
    exact hp
  · rw [a 3 (by decide), a 4 (by decide)]
    exact f4
  · rw [b 3 (by decide), b 4 (by decide)]
    exact g4
/-- what punishes -/
theorem lop_B {n m b : Nat} {MV : Nat → Nat → Int32} {F G : Nat → Int32} {guard : Int32} (hM : mvB n MV) (hm : m < n) (hb : b < n) (hg : guard < 10) (h : duB 0 n 0 0 F G) (k : Nat) : k ≤ 200 → ∃ L1 L2, duB k n L1 L2 (X3_lop_it MV (nI b) guard (nI m) (F, G, 0, 0) k).1 (X3_lop_it MV (nI b) guard (nI m) (F, G, 0, 0) k).2.1 := by
  induction k with
  | zero => intro _; rw [X3_lop_it]; exact ⟨0, 0, h⟩
  | succ k ih =>
    intro hk
    obtain ⟨L1, L2, hd⟩ := ih (by omega)
    rw [X3_lop_it]
    generalize X3_lop_it MV (nI b) guard (nI m) (F, G, 0, 0) k = x at hd ⊢
    have i1 : inB n (X3_lossOfPunished_j98 guard k (nI m)) := by
      unfold X3_lossOfPunished_j98
      split
      · exact in_mv hm hM.1
      · exact Or.inl hg
    have i46 : X3_lossOfPunished_j46 MV x.2.2.2 k (nI m) < 10 := by
      unfold X3_lossOfPunished_j46 X3_inputToBlock_r
      split
      · split
        · split <;> decide
        · decide
      · decide
    have i2 : inB n (X3_lossOfPunished_j80 MV x.2.1 (nI b) x.2.2.1 x.2.2.2 k (nI m)) := by
      unfold X3_lossOfPunished_j80
      split
      · exact Or.inl i46
      · split
        · split
          · exact in_mv hb hM.1
          · exact Or.inl i46
        · exact Or.inl i46
    obtain ⟨L3, L4, -, -, hd2⟩ := frame_B hM (by omega) i1 i2 hd
    unfold X3_lop_step
    dsimp only
    exact ⟨L3, L4, hd2⟩
theorem loss_nn {t n L1 L2 : Nat} {F G : Nat → Int32} (h : duB t n L1 L2 F G) (ht : t ≤ 2000) : 0 ≤ 1000 - F 1 := by
  obtain ⟨-, hL, e1⟩ := h.2.2.2.1
  have es : ((1000 : Int32) - nI L1).toInt = (1000 : Nat) - (L1 : Int) := pk_sub_toInt (a := 1000) (by decide) (by omega)
  have e0 : (0 : Int32).toInt = 0 := rfl
  have e1000 : (1000 : Int32).toInt = 1000 := rfl
  rw [e1, zi_le, e0, zi_sub (by rw [es]; omega) (by rw [es]; omega), es]
  omega
theorem punish_Z {n m b : Nat} {u : zS} (h : lbZ n u) (hm : m < n) (hb : b < n) : X7_punish_x (nI b) (u.1 1) (nI m) = 0 ∧ 0 ≤ X7_punish_r (u.2.1 4) (u.2.1 5) u.2.2.1 (nI b) (nI m) ∧ ∀ v1 v2, X7_punish_w3 (u.2.1 4) (u.2.1 5) u.2.2.1 (nI b) (nI m) = v1 → X7_punish_w4 (u.2.1 4) (u.2.1 5) u.2.2.1 (nI b) (nI m) = v2 → lbZ n (u.1, hfS (hfS u.2.1 4 v1) 5 v2, u.2.2.1, u.2.2.2) := by
  obtain ⟨hn, e1, hM, ⟨hf4, hf5⟩, hfl⟩ := h
  have h0 := prep_B (n := n) (P := u.2.1 4) (Q := u.2.1 5) (ap := 20) (lm := 100) (rm := 100) (a := 20) (x := 100) (y := 100) rfl (by decide) (by decide) (by decide) rfl (by decide) rfl (by decide) hf4 hf5
  obtain ⟨L1, L2, d1⟩ := lop_B (guard := 2) hM hm hb (by decide) h0 200 (by decide)
  have e2 : (X3_lop_it u.2.2.1 (nI b) 2 (nI m) (X1_prepare_w1 (u.2.1 4) 20 100, X1_prepare_w2 (u.2.1 5) 20 100, 0, 0) 200).1 = X3_lossOfPunished_w2 (u.2.1 4) (u.2.1 5) u.2.2.1 (nI b) 2 (nI m) := rfl
  have e3 : (X3_lop_it u.2.2.1 (nI b) 2 (nI m) (X1_prepare_w1 (u.2.1 4) 20 100, X1_prepare_w2 (u.2.1 5) 20 100, 0, 0) 200).2.1 = X3_lossOfPunished_w3 (u.2.1 4) (u.2.1 5) u.2.2.1 (nI b) 2 (nI m) := rfl
  have r1 : 0 ≤ X3_lossOfPunished_r (u.2.1 4) (u.2.1 5) u.2.2.1 (nI b) 2 (nI m) := loss_nn d1 (by decide)
  rw [e2, e3] at d1
  unfold X7_punish_r X7_punish_w3 X7_punish_w4
  generalize X3_lossOfPunished_w2 (u.2.1 4) (u.2.1 5) u.2.2.1 (nI b) 2 (nI m) = P at d1 ⊢
  generalize X3_lossOfPunished_w3 (u.2.1 4) (u.2.1 5) u.2.2.1 (nI b) 2 (nI m) = Q at d1 ⊢
  have h1 := prep_B (n := n) (P := P) (Q := Q) (ap := 20) (lm := 100) (rm := 100) (a := 20) (x := 100) (y := 100) rfl (by decide) (by decide) (by decide) rfl (by decide) rfl (by decide) d1.2.2.2.2.2.1 d1.2.2.2.2.2.2.1
  obtain ⟨L3, L4, d2⟩ := lop_B (guard := 4) hM hm hb (by decide) h1 200 (by decide)
  have e4 : (X3_lop_it u.2.2.1 (nI b) 4 (nI m) (X1_prepare_w1 P 20 100, X1_prepare_w2 Q 20 100, 0, 0) 200).1 = X3_lossOfPunished_w2 P Q u.2.2.1 (nI b) 4 (nI m) := rfl
  have e5 : (X3_lop_it u.2.2.1 (nI b) 4 (nI m) (X1_prepare_w1 P 20 100, X1_prepare_w2 Q 20 100, 0, 0) 200).2.1 = X3_lossOfPunished_w3 P Q u.2.2.1 (nI b) 4 (nI m) := rfl
  have r2 : 0 ≤ X3_lossOfPunished_r P Q u.2.2.1 (nI b) 4 (nI m) := loss_nn d2 (by decide)
  rw [e4, e5] at d2
  refine ⟨?_, ?_, fun v1 v2 q1 q2 => ?_⟩
  · unfold X7_punish_x
    rw [e1, nM_0 hm hM.1, nM_0 hb hM.1]
    rfl
  · split
    · exact r2
    · exact r1
  · rw [q1, q2] at d2
    exact ⟨hn, e1, hM, ⟨d2.2.2.2.2.2.1, d2.2.2.2.2.2.2.1⟩, hfl⟩
