/-! pure: what the laboratory answers of hits in a row -/
theorem lab_flags {n m : Nat} {u : zS} {hits : Int32} (h : lbZ n u) (hm : m < n) (hh : hits = 1 ∨ hits = 2) (v1 v2 : Int32) (cf1 : Nat → Nat → Int32) (k4 : cf1 4 = u.2.1 4) (k5 : cf1 5 = u.2.1 5) (k10 : cf1 10 = X3_clearRows_w3 (u.2.1 10) 50) (k11 : cf1 11 = X3_clearRows_w4 (u.2.1 11)) (k12 : cf1 12 = X3_addHit0_w10 u.2.2.1 (X3_clearRows_w3 (u.2.1 10) 50) (u.2.1 12) (X3_clearRows_w4 (u.2.1 11)) (u.2.1 13) hits (nI m)) (k13 : cf1 13 = X3_addHit0_w11 u.2.2.1 (X3_clearRows_w3 (u.2.1 10) 50) (u.2.1 12) (X3_clearRows_w4 (u.2.1 11)) (u.2.1 13) hits (nI m)) : lbZ n ((upd (upd u.1 10 v1) 11 v2), cf1, u.2.2.1, u.2.2.2) := by
  obtain ⟨hn, e1, hM, ⟨f4, f5⟩, ⟨f10, f11⟩, f12, f13⟩ := h
  have h0 : ¬ hits ≤ 0 := by rcases hh with rfl | rfl <;> decide
  unfold X3_clearRows_w3 X3_clearRows_w4 X3_addHit0_w10 X3_addHit0_w11 at *
  obtain ⟨X, hX, -, -, b1, b2, -⟩ := hw_first hM hm f10 f11 f12 f13
  rw [if_neg h0, hX] at k12 k13
  refine ⟨hn, e1, hM, ⟨?_, ?_⟩, ⟨?_, ?_⟩, ?_, ?_⟩
  · show cf1 4 15 = 1
    rw [k4]; exact f4
  · show cf1 5 15 = 0
    rw [k5]; exact f5
  · show cf1 10 15 = 1
    rw [k10]; exact f10
  · show cf1 11 15 = 0
    rw [k11]; exact f11
  · show cf1 12 15 = 1
    rw [k12]; exact b1
  · show cf1 13 15 = 0
    rw [k13]; exact b2
theorem most_Z {n m : Nat} {u : zS} {hits : Int32} (h : lbZ n u) (hm : m < n) (hh : hits = 1 ∨ hits = 2) :
    X7_most_x (u.1 1) hits 50 (nI m) = 0 ∧ X7_mostAt_x (u.1 1) hits 50 (nI m) 0 = 0 ∧ ((hwZ u.2.2.1 (nI m)).1 = 0 → X3_addHit0_0_0 u.2.2.1 (X3_clearRows_w3 (u.2.1 10) 50) (u.2.1 12) (u.2.1 14) (u.2.1 16) (u.2.1 18) (X3_clearRows_w4 (u.2.1 11)) (u.2.1 13) (u.2.1 15) (u.2.1 17) (u.2.1 19) 0 0 (u.2.1 9) (u.1 1) hits (nI m) (u.2.1 8) = 0 ∧ X3_bestAt_r (X3_addHit0_0_6 u.2.2.1 (X3_clearRows_w3 (u.2.1 10) 50) (u.2.1 12) (u.2.1 14) (u.2.1 16) (u.2.1 18) (X3_clearRows_w4 (u.2.1 11)) (u.2.1 13) (u.2.1 15) (u.2.1 17) (u.2.1 19) 0 0 (u.2.1 9) (u.1 1) hits (nI m) (u.2.1 8)) (X3_addHit0_w5 u.2.2.1 (X3_clearRows_w3 (u.2.1 10) 50) (u.2.1 12) (u.2.1 14) (u.2.1 16) (u.2.1 18) (X3_clearRows_w4 (u.2.1 11)) (u.2.1 13) (u.2.1 15) (u.2.1 17) (u.2.1 19) 0 0 (u.2.1 9) (u.1 1) hits (nI m) (u.2.1 8)) 0 = -1) ∧ (¬ (hwZ u.2.2.1 (nI m)).1 = 0 → lossZ u.2.2.1 (nI m) ≤ X3_addHit0_0_0 u.2.2.1 (X3_clearRows_w3 (u.2.1 10) 50) (u.2.1 12) (u.2.1 14) (u.2.1 16) (u.2.1 18) (X3_clearRows_w4 (u.2.1 11)) (u.2.1 13) (u.2.1 15) (u.2.1 17) (u.2.1 19) 0 0 (u.2.1 9) (u.1 1) hits (nI m) (u.2.1 8) ∧ (hits = 1 → X3_addHit0_0_0 u.2.2.1 (X3_clearRows_w3 (u.2.1 10) 50) (u.2.1 12) (u.2.1 14) (u.2.1 16) (u.2.1 18) (X3_clearRows_w4 (u.2.1 11)) (u.2.1 13) (u.2.1 15) (u.2.1 17) (u.2.1 19) 0 0 (u.2.1 9) (u.1 1) hits (nI m) (u.2.1 8) = lossZ u.2.2.1 (nI m)) ∧ X3_bestAt_r (X3_addHit0_0_6 u.2.2.1 (X3_clearRows_w3 (u.2.1 10) 50) (u.2.1 12) (u.2.1 14) (u.2.1 16) (u.2.1 18) (X3_clearRows_w4 (u.2.1 11)) (u.2.1 13) (u.2.1 15) (u.2.1 17) (u.2.1 19) 0 0 (u.2.1 9) (u.1 1) hits (nI m) (u.2.1 8)) (X3_addHit0_w5 u.2.2.1 (X3_clearRows_w3 (u.2.1 10) 50) (u.2.1 12) (u.2.1 14) (u.2.1 16) (u.2.1 18) (X3_clearRows_w4 (u.2.1 11)) (u.2.1 13) (u.2.1 15) (u.2.1 17) (u.2.1 19) 0 0 (u.2.1 9) (u.1 1) hits (nI m) (u.2.1 8)) 0 = nI m ∧ ¬ lossZ u.2.2.1 (nI m) = 0) := by
  obtain ⟨hn, e1, hM, ⟨f4, f5⟩, ⟨f10, f11⟩, f12, f13⟩ := h
  have h1 : 1 ≤ hits := by rcases hh with rfl | rfl <;> decide
  have hw : X7_needWithin_x 4 1 hits = 0 := by rcases hh with rfl | rfl <;> decide
  obtain ⟨HF, k0, k1, k2, k3, k4, k5, k6, k7, k8, k9⟩ : ∃ HF : Nat → Nat → Int32, HF 0 = X3_clearRows_w3 (u.2.1 10) 50 ∧ HF 1 = X3_clearRows_w4 (u.2.1 11) ∧ HF 2 = u.2.1 12 ∧ HF 3 = u.2.1 13 ∧ HF 4 = u.2.1 14 ∧ HF 5 = u.2.1 15 ∧ HF 6 = u.2.1 16 ∧ HF 7 = u.2.1 17 ∧ HF 8 = u.2.1 18 ∧ HF 9 = u.2.1 19 := ⟨fun k => if k = 0 then X3_clearRows_w3 (u.2.1 10) 50 else if k = 1 then X3_clearRows_w4 (u.2.1 11) else u.2.1 (10 + k), rfl, rfl, rfl, rfl, rfl, rfl, rfl, rfl, rfl, rfl⟩
  obtain ⟨X, hX, x1, x2, -, -, x3⟩ := hw_first hM hm f10 f11 f12 f13
  have hX2 : hitR u.2.2.1 (nI m) HF 0 = X := by
    unfold hitR
    rw [show 2 * 0 + 3 = 3 from rfl, show 2 * 0 + 2 = 2 from rfl, show 2 * 0 + 1 = 1 from rfl, show 2 * 0 = 0 from rfl, k0, k1, k2, k3]
    exact hX
  have ht := ahG_top (cnt := u.1 1) (rr := u.2.1 8) (bs := u.2.1 9) h1 hX2 x3
  have e := ah0_eq (MV := u.2.2.1) (cnt := u.1 1) (hits := hits) (mv := nI m) (0, 0, u.2.1 8, u.2.1 9, HF)
  dsimp only at e
  rw [k0, k1, k2, k3, k4, k5, k6, k7, k8, k9] at e
  have eA := congrArg (fun z : aS => z.1) e
  have eB := congrArg (fun z : aS => z.2.1) e
  have eC := congrArg (fun z : aS => z.2.2.2.1) e
  clear e
  dsimp only at eA eB eC
  rw [← eA, ← eB, ← eC]
  rw [x1, x2] at ht
  generalize ahG u.2.2.1 (u.1 1) hits 4 0 (nI m) (0, 0, u.2.1 8, u.2.1 9, HF) = Y at ht ⊢
  refine ⟨?_, ?_, fun c => ?_, fun c => ?_⟩
  · unfold X7_most_x
    rw [e1, nM_0 hm hM.1, hw]
    decide
  · unfold X7_mostAt_x
    rw [e1, nM_0 hm hM.1, hw]
    decide
  · obtain ⟨a, b⟩ := ht.1 c
    refine ⟨a, ?_⟩
    unfold X3_bestAt_r
    rw [b, if_neg (by decide), if_pos (by decide)]
  · obtain ⟨a, b, d, -, f⟩ := ht.2 c
    refine ⟨a, b, ?_, ?_⟩
    · unfold X3_bestAt_r
      rw [if_neg (by decide), if_neg d, if_neg (by decide)]
      exact f
    · obtain ⟨L, hL1, hL2, eL⟩ := x3 (by rw [x1]; exact c)
      rw [← x2, eL]
      exact nI_ne0 (by omega) (by omega)
