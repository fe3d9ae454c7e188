/-! pure: moves are made, patched, let go into others -/
theorem nM_0 {n i : Nat} (hi : i < n) (hn : n ≤ 6) : X7_needMove_x (nI n) (nI i) = 0 := by
  unfold X7_needMove_x X5_has_r
  rw [if_neg (nI_pos (by omega)), if_neg (show ¬ nI n ≤ nI i from nI_ge hi (by omega)), if_neg (by decide)]
theorem mi_at {n i : Nat} (hi : i < n) (hn : n ≤ 6) : mi (nI i) = i := mi_nI (by omega)
theorem mvB_new {n : Nat} {MV : Nat → Nat → Int32} {row : Nat → Int32} (h : mvB n MV) (hn : n < 6) (h5 : ∃ d, 1 ≤ d ∧ d ≤ 200 ∧ row 5 = nI d) (ht : ∀ k, k < 5 → ∃ v, v ≤ 60 ∧ row (6 + k) = nI v) : mvB (n + 1) (mvS MV n row) := by
  refine ⟨by omega, fun i hi => ?_, fun i hi k hk => ?_⟩
  · unfold mvS
    by_cases c : i = n
    · rw [if_pos c]; exact h5
    · rw [if_neg c]; exact h.2.1 i (by omega)
  · unfold mvS
    by_cases c : i = n
    · rw [if_pos c]; exact ht k hk
    · rw [if_neg c]; exact h.2.2 i (by omega) k hk
theorem mvB_set {n j : Nat} {MV : Nat → Nat → Int32} {row : Nat → Int32} (h : mvB n MV) (hj : j < n) (h5 : row 5 = MV j 5) (ht : ∀ k, k < 5 → ∃ v, v ≤ 60 ∧ row (6 + k) = nI v) : mvB n (mvS MV j row) := by
  refine ⟨h.1, fun i hi => ?_, fun i hi k hk => ?_⟩
  · unfold mvS
    by_cases c : i = j
    · rw [if_pos c, h5]; exact h.2.1 j hj
    · rw [if_neg c]; exact h.2.1 i hi
  · unfold mvS
    by_cases c : i = j
    · rw [if_pos c]; exact ht k hk
    · rw [if_neg c]; exact h.2.2 i hi k hk
theorem bit_set {j : Nat} {MV : Nat → Nat → Int32} {row : Nat → Int32} (hb : ∀ i k, MV i (11 + k) = 0 ∨ MV i (11 + k) = 1) (hr : ∀ k, row (11 + k) = 0 ∨ row (11 + k) = 1) : ∀ i k, mvS MV j row i (11 + k) = 0 ∨ mvS MV j row i (11 + k) = 1 := by
  intro i k
  unfold mvS
  by_cases c : i = j
  · rw [if_pos c]; exact hr k
  · rw [if_neg c]; exact hb i k
theorem make_B {tr : Nat → Int32} {k : Nat} (hk : k < 5) : ∃ v, v ≤ 60 ∧ X4_make_w1 tr k = nI v := by
  rcases (show k = 0 ∨ k = 1 ∨ k = 2 ∨ k = 3 ∨ k = 4 by omega) with rfl | rfl | rfl | rfl | rfl
  · exact ⟨20, by omega, rfl⟩
  · exact ⟨12, by omega, rfl⟩
  · exact ⟨10, by omega, rfl⟩
  · exact ⟨0, by omega, rfl⟩
  · exact ⟨5, by omega, rfl⟩
theorem move_Z {n a0 a1 a2 a3 a4 a5 : Nat} {u : zS} (h : mkZ n u) (hn : n < 6) (l0 : 1 ≤ a0) (g0 : a0 ≤ 30) (l1 : 1 ≤ a1) (g1 : a1 ≤ 10) (l2 : 1 ≤ a2) (g2 : a2 ≤ 40) (l3 : 1 ≤ a3) (g3 : a3 ≤ 150) (g4 : a4 ≤ 3) (l5 : 1 ≤ a5) (g5 : a5 ≤ 200) :
    X7_move_x (u.1 1) (u.1 0) (nI a0) (nI a1) (nI a2) (nI a3) (nI a4) (nI a5) = 0 ∧ ∀ v1 v2, u.1 1 + 1 = v1 → mvS u.2.2.1 (mi (u.1 1)) (rowM (nI a0) (nI a1) (nI a2) (nI a3) (nI a4) (nI a5) (X4_make_w1 (fun k => (u.2.2.1 (mi (u.1 1))) (6 + k))) (fun k => (u.2.2.1 (mi (u.1 1))) (11 + k))) = v2 → mkZ (n + 1) (upd u.1 1 v1, u.2.1, v2, u.2.2.2) := by
  obtain ⟨h0, e1, hM, hb, hfl, h7⟩ := h
  constructor
  · unfold X7_move_x X7_needNoRound_x
    rw [nW_0 (g := 30) (l := 1) (b := 30) (a := 1) (x := a0) rfl rfl rfl l0 g0 (by decide), nW_0 (g := 10) (l := 1) (b := 10) (a := 1) (x := a1) rfl rfl rfl l1 g1 (by decide), nW_0 (g := 40) (l := 1) (b := 40) (a := 1) (x := a2) rfl rfl rfl l2 g2 (by decide), nW_0 (g := 150) (l := 1) (b := 150) (a := 1) (x := a3) rfl rfl rfl l3 g3 (by decide), nW_0 (g := 3) (l := 0) (b := 3) (a := 0) (x := a4) rfl rfl rfl (by omega) g4 (by decide), nW_0 (g := 200) (l := 1) (b := 200) (a := 1) (x := a5) rfl rfl rfl l5 g5 (by decide), h0, e1, if_pos rfl, if_pos rfl, if_pos rfl, if_pos rfl, if_pos rfl, if_pos rfl, if_pos (show (if (0 : Int32) = 0 then (0 : Int32) else 3) = 0 from rfl), if_pos (show nI n < 6 from nI_lt (b := 6) hn (by decide))]
  · intro v1 v2 q1 q2
    rw [e1, nI_1] at q1
    rw [e1, mi_nI hn] at q2
    subst q1 q2
    refine ⟨h0, rfl, mvB_new hM hn ⟨a5, l5, g5, rfl⟩ (fun k hk => ?_), bit_set hb (fun k => ?_), hfl, h7⟩
    · rw [rowM_t hk]
      exact make_B hk
    · rw [rowM_i]
      exact hb n k
theorem patch_Z {n m w v : Nat} {u : zS} (h : mkZ n u) (hm : m < n) (hw : w ≤ 4) (hv : v ≤ 60) :
    X7_patch_x (u.1 1) (u.1 0) (nI m) (nI v) (nI w) = 0 ∧ ∀ v1, mvS u.2.2.1 (mi (nI m)) (rowM ((u.2.2.1 (mi (nI m))) 0) ((u.2.2.1 (mi (nI m))) 1) ((u.2.2.1 (mi (nI m))) 2) ((u.2.2.1 (mi (nI m))) 3) ((u.2.2.1 (mi (nI m))) 4) ((u.2.2.1 (mi (nI m))) 5) (X4_setTrait_w1 (fun k => (u.2.2.1 (mi (nI m))) (6 + k)) (nI v) (nI w)) (fun k => (u.2.2.1 (mi (nI m))) (11 + k))) = v1 → mkZ n (u.1, u.2.1, v1, u.2.2.2) := by
  obtain ⟨h0, e1, hM, hb, hfl, h7⟩ := h
  have h6 := hM.1
  constructor
  · unfold X7_patch_x X7_needNoRound_x
    rw [nW_0 (g := 4) (l := 0) (b := 4) (a := 0) (x := w) rfl rfl rfl (by omega) hw (by decide), nW_0 (g := 60) (l := 0) (b := 60) (a := 0) (x := v) rfl rfl rfl (by omega) hv (by decide), h0, e1, nM_0 hm h6]
    rfl
  · intro v1 q1
    rw [mi_nI (by omega)] at q1
    subst q1
    refine ⟨h0, e1, mvB_set hM hm rfl (fun k hk => ?_), bit_set hb (fun k => ?_), hfl, h7⟩
    · rw [rowM_t hk]
      unfold X4_setTrait_w1
      rw [if_neg (nI_pos (by omega)), if_neg (show ¬ (5 : Int32) ≤ nI w from nI_ge (b := 5) (by omega) (by decide)), nI_clamp (by omega)]
      by_cases c : k = w
      · subst c
        rw [upd_s]
        exact ⟨v, hv, rfl⟩
      · rw [upd_n _ _ c]
        exact hM.2.2 m hm k hk
    · rw [rowM_i]
      exact hb m k
theorem cancel_Z {n m j : Nat} {u : zS} (h : mkZ n u) (hm : m < n) (hj : j < n) :
    X7_cancel_x (u.1 1) (u.1 0) (nI j) (nI m) = 0 ∧ ∀ v1, mvS u.2.2.1 (mi (nI m)) (rowM ((u.2.2.1 (mi (nI m))) 0) ((u.2.2.1 (mi (nI m))) 1) ((u.2.2.1 (mi (nI m))) 2) ((u.2.2.1 (mi (nI m))) 3) ((u.2.2.1 (mi (nI m))) 4) ((u.2.2.1 (mi (nI m))) 5) (fun k => (u.2.2.1 (mi (nI m))) (6 + k)) (X4_letGoInto_w2 (fun k => (u.2.2.1 (mi (nI m))) (11 + k)) 1 (nI j))) = v1 → mkZ n (u.1, u.2.1, v1, u.2.2.2) := by
  obtain ⟨h0, e1, hM, hb, hfl, h7⟩ := h
  have h6 := hM.1
  constructor
  · unfold X7_cancel_x X7_needNoRound_x
    rw [h0, e1, nM_0 hm h6, nM_0 hj h6]
    rfl
  · intro v1 q1
    rw [mi_nI (by omega)] at q1
    subst q1
    refine ⟨h0, e1, mvB_set hM hm rfl (fun k hk => ?_), bit_set hb (fun k => ?_), hfl, h7⟩
    · rw [rowM_t hk]
      exact hM.2.2 m hm k hk
    · rw [rowM_i]
      unfold X4_letGoInto_w2
      rw [if_neg (nI_pos (by omega)), if_neg (show ¬ (6 : Int32) ≤ nI j from nI_ge (b := 6) (by omega) (by decide)), nI_clamp (by omega)]
      by_cases c : k = j
      · rw [c, upd_s]
        exact Or.inr rfl
      · rw [upd_n _ _ c]
        exact hb m k
