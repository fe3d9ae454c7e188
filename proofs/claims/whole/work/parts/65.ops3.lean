/-- the moves written, no round going on -/
theorem INV.moves {t n1 : Nat} {ci ci1 g g1 : Nat → Int32} {cf MV MV1 MVR mf mf1 : Nat → Nat → Int32} (h : INV t ci cf MV MVR g mf) (h9 : g 9 = 0) (hM : movOK MV1 (mf1 0) n1) (c1 : ci1 1 = nI n1) (hc : ∀ k, k < 10 → k ≠ 1 → ci1 k = ci k) (m2 : mf1 2 = mf 2) (m4 : mf1 4 = mf 4) (m5 : mf1 5 = mf 5) (g1_1 : g1 1 = nI n1) (g1_7 : g1 7 = g 7) (g1_8 : g1 8 = g 8) (g1_9 : g1 9 = g 9) (g1_10 : g1 10 = g 10) : INV (t + 1) ci1 cf MV1 MVR g1 mf1 := by
  obtain ⟨n, nR, fr, tbR, a, b, ⟨⟨bb, hb, eb⟩, c⟩, d, e, f, i, j, k⟩ := h
  refine ⟨n1, nR, fr, tbR, ⟨c1, g1_1, hM⟩, ?_, ⟨⟨bb, by omega, ?_⟩, ?_⟩, ?_, e, ?_, i, ?_, ?_⟩
  · rw [hc 0 (by decide) (by decide), g1_9]; exact b
  · rw [hc 7 (by decide) (by decide)]; exact eb
  · rw [hc 7 (by decide) (by decide), hc 8 (by decide) (by decide), hc 9 (by decide) (by decide), g1_8, g1_9, g1_10, m5]; exact c
  · rw [hc 3 (by decide) (by decide), hc 7 (by decide) (by decide), g1_7, g1_9]; exact d
  · rw [m2]; exact f
  · rw [hc 7 (by decide) (by decide), hc 2 (by decide) (by decide), hc 4 (by decide) (by decide), hc 5 (by decide) (by decide), hc 6 (by decide) (by decide), m4]; exact j
  · intro q
    rw [g1_9] at q
    exact absurd h9 q
theorem mvS_at {MV : Nat → Nat → Int32} {i k : Nat} {v : Int32} {row : Nat → Int32} (hr : ∀ q, row q = upd (MV i) k v q) (a b : Nat) : mvS MV i row a b = if a = i ∧ b = k then v else MV a b := by
  unfold mvS
  by_cases c : a = i
  · subst c
    rw [if_pos rfl, hr]
    by_cases c2 : b = k
    · subst c2
      rw [upd_s, if_pos ⟨rfl, rfl⟩]
    · rw [upd_n _ _ c2, if_neg (fun q => c2 q.2)]
  · rw [if_neg c, if_neg (fun q => c q.1)]
theorem rowM_upd {MV : Nat → Int32} {k : Nat} {v : Int32} {tr inn : Nat → Int32} (htr : ∀ q, q < 5 → tr q = upd MV k v (6 + q)) (hin : ∀ q, inn q = upd MV k v (11 + q)) (hk : 6 ≤ k) (q : Nat) : rowM (MV 0) (MV 1) (MV 2) (MV 3) (MV 4) (MV 5) tr inn q = upd MV k v q := by
  by_cases c : q < 6
  · rw [upd_n _ _ (by omega)]
    rcases (show q = 0 ∨ q = 1 ∨ q = 2 ∨ q = 3 ∨ q = 4 ∨ q = 5 by omega) with rfl | rfl | rfl | rfl | rfl | rfl <;> rfl
  · by_cases c2 : q < 11
    · have e : q = 6 + (q - 6) := by omega
      rw [e, rowM_t (by omega)]
      exact htr _ (by omega)
    · have e : q = 11 + (q - 11) := by omega
      rw [e, rowM_i]
      exact hin _
theorem movOK_set {MV M1 : Nat → Nat → Int32} {tb : Nat → Int32} {n i k c : Nat} (h : movOK MV tb n) (hi : i < n) (h6 : 6 ≤ k) (hk : k < 11) (hc : c ≤ 60) (hM : ∀ a b, M1 a b = if a = i ∧ b = k then nI c else MV a b) : movOK M1 (upd tb (12 * i + k) (nI c)) n := by
  obtain ⟨⟨hn, hA, hB, hZ⟩, hV, hC, hD, hb⟩ := h
  have hs : ∀ a b, ¬ b = k → M1 a b = MV a b := fun a b q => by rw [hM, if_neg (fun z => q z.2)]
  refine ⟨⟨hn, ?_, ?_, ?_⟩, ?_, ?_, ?_, ?_⟩
  · intro a ha b hb9
    rw [ofMove_n (by omega) (by omega), hM]
    by_cases q : a = i ∧ b = k
    · obtain ⟨rfl, rfl⟩ := q
      rw [upd_s, if_pos ⟨rfl, rfl⟩]
    · rw [upd_n _ _ (by omega), if_neg q, ← hA a ha b hb9, ofMove_n (by omega) (by omega)]
  · intro a ha b hb9
    rw [hs a (11 + b) (by omega), ← hB a ha b hb9, show (11 : Int32) = nI 11 from rfl, ofMove_n (by omega) (by omega), ofMove_n (by omega) (by omega), upd_n _ _ (by omega)]
  · intro a ha ha6 b hb9
    rw [hs a (11 + b) (by omega)]
    exact hZ a ha ha6 b hb9
  · intro a ha
    rw [hs a 0 (by omega), hs a 1 (by omega), hs a 2 (by omega)]
    exact hV a ha
  · intro a ha
    rw [hM]
    by_cases q : a = i ∧ 9 = k
    · rw [if_pos q]
      exact ⟨c, hc, rfl⟩
    · rw [if_neg q]
      exact hC a ha
  · intro a ha
    rw [hs a 5 (by omega)]
    exact hD a ha
  · intro a b
    rw [hs a (11 + b) (by omega)]
    exact hb a b
theorem nR_is {g : Int32} (h : X7_needNoRound_x g = 0) : g = 0 := by
  unfold X7_needNoRound_x at h
  by_cases c : g = 0
  · exact c
  · rw [if_neg c] at h
    exact absurd h (by decide)
theorem nR_not {g : Int32} (h : ¬ X7_needNoRound_x g = 0) : ¬ g = 0 := fun q => h (by unfold X7_needNoRound_x; rw [if_pos q])
theorem op_patch {t : Nat} {ci g : Nat → Int32} {cf MV MVR mf : Nat → Nat → Int32} (h : INV t ci cf MV MVR g mf) (m w v : Int32) :
    X8_patch_w0 g m v w 12 = (if X7_patch_x (ci 1) (ci 0) m v w = 0 then 0 else (if X7_patch_x (ci 1) (ci 0) m v w = 1 then 1 else (if X7_patch_x (ci 1) (ci 0) m v w = 2 then 2 else 3))) ∧ (X7_patch_x (ci 1) (ci 0) m v w = 0 → X4_trait_r (MV (mi m)) w = X8_patch_r g (mf 0) m v w ∧ INV (t + 1) ci cf (mvS MV (mi m) (rowM ((MV (mi m)) 0) ((MV (mi m)) 1) ((MV (mi m)) 2) ((MV (mi m)) 3) ((MV (mi m)) 4) ((MV (mi m)) 5) (X4_setTrait_w1 (fun k => (MV (mi m)) (6 + k)) v w) (fun k => (MV (mi m)) (11 + k)))) MVR (X8_patch_w0 g m v w) (hfS mf 0 (X8_patch_w1 g (mf 0) m v w))) ∧ (¬ X7_patch_x (ci 1) (ci 0) m v w = 0 → INV (t + 1) ci cf MV MVR (X8_patch_w0 g m v w) (hfS mf 0 (X8_patch_w1 g (mf 0) m v w))) := by
  obtain ⟨n, nR, fr, tbR, ⟨e1, eg, hM⟩, ⟨e0, -⟩, -⟩ := id h
  have h6 := hM.1.1
  unfold X8_patch_w0 X7_patch_x X8_patch_r X8_patch_w1
  rw [eg, e1, e0]
  by_cases a : X7_needMove_x (nI n) m = 0
  · have a1 : ¬ X8_in_r (nI n - 1) 0 m = 0 := fun q => (mv_iff h6).mp q a
    by_cases b : X7_needWithin_x 4 0 w = 0
    · have b1 : ¬ X8_in_r 4 0 w = 0 := fun q => in_iff.mp q b
      by_cases d : X7_needWithin_x 60 0 v = 0
      · have d1 : ¬ X8_in_r 60 0 v = 0 := fun q => in_iff.mp q d
        by_cases e : X7_needNoRound_x (g 9) = 0
        · have e2 := nR_is e
          simp only [if_pos a, if_neg a1, if_pos b, if_neg b1, if_pos d, if_neg d1, if_pos e, if_pos e2, c12, ↓reduceIte]
          obtain ⟨i, hi, rfl⟩ := mv_is h6 a
          obtain ⟨j, hj, rfl⟩ := within_is (m := 4) rfl b
          obtain ⟨c, hc, rfl⟩ := within_is (m := 60) rfl d
          have ei : mi (nI i) = i := mi_nI (by omega)
          have ix : (((12 * nI i) + 6) + nI j).toNatClampNeg = 12 * i + (6 + j) := by
            rw [show (12 : Int32) = nI 12 from rfl, show (6 : Int32) = nI 6 from rfl, pk_mul, nI_add, nI_add, nI_clamp (by omega)]
            omega
          refine ⟨trivial, fun _ => ⟨?_, ?_⟩, fun q => absurd trivial q⟩
          · rw [ei, ix]
            unfold X4_trait_r
            rw [if_neg (nI_pos (by omega)), if_neg (show ¬ (5 : Int32) ≤ nI j from nI_ge (b := 5) (by omega) (by decide)), nI_clamp (by omega), ← hM.1.2.1 i hi (6 + j) (by omega), ofMove_n (by omega) (by omega)]
          · rw [ei, ix]
            refine h.moves (n1 := n) e2 (movOK_set (i := i) (k := 6 + j) (c := c) hM hi (by omega) (by omega) hc ?_) e1 (fun _ _ _ => rfl) rfl rfl rfl eg rfl rfl rfl rfl
            refine mvS_at (rowM_upd (k := 6 + j) ?_ ?_ (by omega))
            · intro q hq
              unfold X4_setTrait_w1
              rw [if_neg (nI_pos (by omega)), if_neg (show ¬ (5 : Int32) ≤ nI j from nI_ge (b := 5) (by omega) (by decide)), nI_clamp (by omega)]
              by_cases z : q = j
              · subst z
                rw [upd_s, upd_s]
              · rw [upd_n _ _ z, upd_n _ _ (by omega)]
            · intro q
              rw [upd_n _ _ (by omega)]
        · have e2 := nR_not e
          have e3 := (nR_or (g 9)).resolve_left e
          simp only [if_pos a, if_neg a1, if_pos b, if_neg b1, if_pos d, if_neg d1, if_neg e, if_neg e2, c12, e3]
          refine ⟨by decide, fun q => absurd q (by decide), fun _ => ?_⟩
          rw [hfS_id]
          exact h.g12 3
      · have d1 : X8_in_r 60 0 v = 0 := in_iff.mpr d
        have d2 := (nW_or 60 0 v).resolve_left d
        simp only [if_pos a, if_neg a1, if_pos b, if_neg b1, if_neg d, if_pos d1, c12, d2, if_neg e10x, if_neg e20x, if_neg e30x]
        refine ⟨by decide, fun q => absurd q (by decide), fun _ => ?_⟩
        rw [hfS_id]
        exact h.g12 2
    · have b1 : X8_in_r 4 0 w = 0 := in_iff.mpr b
      have b2 := (nW_or 4 0 w).resolve_left b
      simp only [if_pos a, if_neg a1, if_neg b, if_pos b1, c12, b2, if_neg e10x, if_neg e20x, if_neg e30x]
      refine ⟨by decide, fun q => absurd q (by decide), fun _ => ?_⟩
      rw [hfS_id]
      exact h.g12 2
  · have a1 : X8_in_r (nI n - 1) 0 m = 0 := (mv_iff h6).mpr a
    have a2 := (nM_or (nI n) m).resolve_left a
    simp only [if_neg a, if_pos a1, c12, a2, if_neg e10x, if_neg e20x, if_neg e30x]
    refine ⟨by decide, fun q => absurd q (by decide), fun _ => ?_⟩
    rw [hfS_id]
    exact h.g12 1
theorem movOK_bit {MV M1 : Nat → Nat → Int32} {tb : Nat → Int32} {n i j : Nat} {z v : Int32} (h : movOK MV tb n) (hi : i < n) (hj : j < n) (hz : z = 0 ∨ z = 1) (hv : ∀ b, b < 6 → (bt v b = true ↔ if b = j then ¬ z = 0 else bt (tb (12 * i + 11)) b = true)) (hM : ∀ a b, M1 a b = if a = i ∧ b = 11 + j then z else MV a b) : movOK M1 (upd tb (12 * i + 11) v) n := by
  obtain ⟨⟨hn, hA, hB, hZ⟩, hV, hC, hD, hb⟩ := h
  have hs : ∀ a b, ¬ b = 11 + j → M1 a b = MV a b := fun a b q => by rw [hM, if_neg (fun z => q z.2)]
  refine ⟨⟨hn, ?_, ?_, ?_⟩, ?_, ?_, ?_, ?_⟩
  · intro a ha b hb9
    rw [ofMove_n (by omega) (by omega), hs a b (by omega), upd_n _ _ (by omega), ← hA a ha b hb9, ofMove_n (by omega) (by omega)]
  · intro a ha b hb9
    have hBa := hB a ha b hb9
    rw [show (11 : Int32) = nI 11 from rfl, ofMove_n (by omega) (by omega), bit_iff (by omega)] at hBa ⊢
    by_cases c : a = i
    · subst c
      rw [upd_s, hv b hb9, hM]
      by_cases c2 : b = j
      · subst c2
        rw [if_pos rfl, if_pos ⟨rfl, rfl⟩]
      · rw [if_neg c2, if_neg (fun q => c2 (by omega))]
        exact hBa
    · rw [upd_n _ _ (by omega), hM, if_neg (fun q => c q.1)]
      exact hBa
  · intro a ha ha6 b hb9
    rw [hM, if_neg (fun q => by omega)]
    exact hZ a ha ha6 b hb9
  · intro a ha
    rw [hs a 0 (by omega), hs a 1 (by omega), hs a 2 (by omega)]
    exact hV a ha
  · intro a ha
    rw [hs a 9 (by omega)]
    exact hC a ha
  · intro a ha
    rw [hs a 5 (by omega)]
    exact hD a ha
  · intro a b
    rw [hM]
    by_cases q : a = i ∧ 11 + b = 11 + j
    · rw [if_pos q]
      exact hz
    · rw [if_neg q]
      exact hb a b
theorem op_cancel {t : Nat} {ci g : Nat → Int32} {cf MV MVR mf : Nat → Nat → Int32} (h : INV t ci cf MV MVR g mf) (m w z : Int32) (hz : z = 0 ∨ z = 1) :
    X8_cancel_w0 g w m 12 = (if X7_cancel_x (ci 1) (ci 0) w m = 0 then 0 else (if X7_cancel_x (ci 1) (ci 0) w m = 1 then 1 else 2)) ∧ (X7_cancel_x (ci 1) (ci 0) w m = 0 → X4_goesInto_r (MV (mi m)) w = X8_cancel_r g (mf 0) w m ∧ INV (t + 1) ci cf (mvS MV (mi m) (rowM ((MV (mi m)) 0) ((MV (mi m)) 1) ((MV (mi m)) 2) ((MV (mi m)) 3) ((MV (mi m)) 4) ((MV (mi m)) 5) (fun k => (MV (mi m)) (6 + k)) (X4_letGoInto_w2 (fun k => (MV (mi m)) (11 + k)) z w))) MVR (X8_cancel_w0 g w m) (hfS mf 0 (X8_cancel_w1 g (mf 0) w z m))) ∧ (¬ X7_cancel_x (ci 1) (ci 0) w m = 0 → INV (t + 1) ci cf MV MVR (X8_cancel_w0 g w m) (hfS mf 0 (X8_cancel_w1 g (mf 0) w z m))) := by
  obtain ⟨n, nR, fr, tbR, ⟨e1, eg, hM⟩, ⟨e0, -⟩, -⟩ := id h
  have h6 := hM.1.1
  unfold X8_cancel_w0 X7_cancel_x X8_cancel_r X8_cancel_w1
  rw [eg, e1, e0]
  by_cases a : X7_needMove_x (nI n) m = 0
  · have a1 : ¬ X8_in_r (nI n - 1) 0 m = 0 := fun q => (mv_iff h6).mp q a
    by_cases b : X7_needMove_x (nI n) w = 0
    · have b1 : ¬ X8_in_r (nI n - 1) 0 w = 0 := fun q => (mv_iff h6).mp q b
      by_cases e : X7_needNoRound_x (g 9) = 0
      · have e2 := nR_is e
        simp only [if_pos a, if_neg a1, if_pos b, if_neg b1, if_pos e, if_pos e2, c12, ↓reduceIte]
        obtain ⟨i, hi, rfl⟩ := mv_is h6 a
        obtain ⟨j, hj, rfl⟩ := mv_is h6 b
        have ei : mi (nI i) = i := mi_nI (by omega)
        have ix : ((12 * nI i) + 11).toNatClampNeg = 12 * i + 11 := by
          rw [show (12 : Int32) = nI 12 from rfl, show (11 : Int32) = nI 11 from rfl, pk_mul, nI_add, nI_clamp (by omega)]
        have hBa := hM.1.2.2.1 i hi j (by omega)
        rw [show (11 : Int32) = nI 11 from rfl, ofMove_n (by omega) (by omega)] at hBa
        refine ⟨trivial, fun _ => ⟨?_, ?_⟩, fun q => absurd trivial q⟩
        · unfold X8_cancel_j70 X4_goesInto_r
          rw [ei, ix, if_neg (nI_pos (by omega)), if_neg (show ¬ (6 : Int32) ≤ nI j from nI_ge (b := 6) (by omega) (by decide)), nI_clamp (by omega)]
          by_cases c : MV i (11 + j) = 0
          · rw [if_pos c, if_neg (fun q => hBa.mp q c)]
          · rw [if_neg c, if_pos (hBa.mpr c)]
        · rw [ei, ix]
          unfold X8_cancel_j109
          rw [ix]
          refine h.moves (n1 := n) e2 (movOK_bit (i := i) (j := j) (z := z) hM hi hj hz ?_ ?_) e1 (fun _ _ _ => rfl) rfl rfl rfl eg rfl rfl rfl rfl
          · intro b hb
            by_cases c : z = 0
            · rw [if_pos c, b_clear (by omega) (by omega)]
              by_cases c2 : b = j
              · simp [c, c2]
              · simp [c2]
            · rw [if_neg c, b_set (by omega) (by omega)]
              by_cases c2 : b = j
              · simp [c, c2]
              · simp [c2]
          · refine mvS_at (rowM_upd (k := 11 + j) ?_ ?_ (by omega))
            · intro q hq
              rw [upd_n _ _ (by omega)]
            · intro q
              unfold X4_letGoInto_w2
              rw [if_neg (nI_pos (by omega)), if_neg (show ¬ (6 : Int32) ≤ nI j from nI_ge (b := 6) (by omega) (by decide)), nI_clamp (by omega)]
              by_cases y : q = j
              · subst y
                rw [upd_s, upd_s]
              · rw [upd_n _ _ y, upd_n _ _ (by omega)]
      · have e2 := nR_not e
        have e3 := (nR_or (g 9)).resolve_left e
        simp only [if_pos a, if_neg a1, if_pos b, if_neg b1, if_neg e, if_neg e2, c12, e3]
        refine ⟨by decide, fun q => absurd q (by decide), fun _ => ?_⟩
        rw [hfS_id]
        exact h.g12 2
    · have b1 : X8_in_r (nI n - 1) 0 w = 0 := (mv_iff h6).mpr b
      have b2 := (nM_or (nI n) w).resolve_left b
      simp only [if_pos a, if_neg a1, if_neg b, if_pos b1, c12, b2, if_neg e10x, if_neg e20x, if_neg e30x]
      refine ⟨by decide, fun q => absurd q (by decide), fun _ => ?_⟩
      rw [hfS_id]
      exact h.g12 1
  · have a1 : X8_in_r (nI n - 1) 0 m = 0 := (mv_iff h6).mpr a
    have a2 := (nM_or (nI n) m).resolve_left a
    simp only [if_neg a, if_pos a1, c12, a2, if_neg e10x, if_neg e20x, if_neg e30x]
    refine ⟨by decide, fun q => absurd q (by decide), fun _ => ?_⟩
    rw [hfS_id]
    exact h.g12 1
