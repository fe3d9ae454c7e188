theorem adv_g {tb : Nat → Int32} {isB mv : Int32} {x : (Nat → Int32) × (Nat → Int32) × Int32 × Int32} {k : Nat} (hk : k ≠ 11) : ∀ n, (X8_adv_it tb isB mv x n).1 k = x.1 k
  | 0 => rfl
  | n + 1 => by
    rw [X8_adv_it, X8_adv_step]
    exact (fr_g hk).trans (adv_g hk n)
theorem los_g {tb : Nat → Int32} {b gd mv : Int32} {x : (Nat → Int32) × (Nat → Int32) × Int32} {k : Nat} (hk : k ≠ 11) : ∀ n, (X8_los_it tb b gd mv x n).1 k = x.1 k
  | 0 => rfl
  | n + 1 => by
    rw [X8_los_it, X8_los_step]
    exact (fr_g hk).trans (los_g hk n)
theorem flag23 {cf : Nat → Nat → Int32} {F G : Nat → Int32} (h : flagOK cf) (f : ¬ F 15 = 0) (g : G 15 = 0) : flagOK (hfS (hfS cf 4 F) 5 G) := by
  refine ⟨h.1, h.2.1, ⟨f, g⟩, fun k hk => ?_⟩
  rw [hfS_n _ _ (by omega), hfS_n _ _ (by omega), hfS_n _ _ (by omega), hfS_n _ _ (by omega)]
  exact h.2.2.2 k hk
theorem op_advantage {t : Nat} {ci g : Nat → Int32} {cf MV MVR mf : Nat → Nat → Int32} (h : INV t ci cf MV MVR g mf) (m b : Int32) :
    X8_advantage_w0 g (mf 0) (mf 1) b m 12 = (if X7_advantage_x (ci 1) m = 0 then 0 else 1) ∧ (X7_advantage_x (ci 1) m = 0 → X3_framesAhead_r (cf 4) (cf 5) MV b m = X8_advantage_r g (mf 0) (mf 1) b m ∧ INV (t + 1) ci (hfS (hfS cf 4 (X7_advantage_w3 (cf 4) (cf 5) MV b m)) 5 (X7_advantage_w4 (cf 4) (cf 5) MV b m)) MV MVR (X8_advantage_w0 g (mf 0) (mf 1) b m) (hfS mf 1 (X8_advantage_w2 g (mf 0) (mf 1) b m))) ∧ INV (t + 1) ci cf MV MVR (X8_advantage_w0 g (mf 0) (mf 1) b m) (hfS mf 1 (X8_advantage_w2 g (mf 0) (mf 1) b m)) := by
  obtain ⟨n, nR, fr, tbR, ⟨e1, eg, hM⟩, -, -, -, hfl, -⟩ := id h
  have h6 := hM.1.1
  have hg : ∀ k, k ≠ 11 → k ≠ 12 → X8_advantage_w0 g (mf 0) (mf 1) b m k = g k := by
    intro k k1 k2
    unfold X8_advantage_w0
    split
    · exact upd_n _ _ k2
    · rw [adv_g k1]
      exact upd_n _ _ k2
  have hI : ∀ cf1, cf1 0 = cf 0 → cf1 1 = cf 1 → cf1 6 = cf 6 → cf1 7 = cf 7 → flagOK cf1 → INV (t + 1) ci cf1 MV MVR (X8_advantage_w0 g (mf 0) (mf 1) b m) (hfS mf 1 (X8_advantage_w2 g (mf 0) (mf 1) b m)) := fun cf1 a0 a1 a6 a7 af => h.keep (fun _ _ => rfl) a0 a1 a6 a7 af rfl rfl rfl rfl (hg 1 (by decide) (by decide)) (hg 7 (by decide) (by decide)) (hg 8 (by decide) (by decide)) (hg 9 (by decide) (by decide)) (hg 10 (by decide) (by decide))
  refine ⟨?_, ?_, hI cf rfl rfl rfl rfl hfl⟩
  · unfold X8_advantage_w0 X7_advantage_x
    rw [eg, e1]
    by_cases a : X7_needMove_x (nI n) m = 0
    · rw [if_neg (fun q => (mv_iff h6).mp q a), if_pos a, if_pos rfl, adv_g (by decide)]
      exact c12 (g := g) (v := 0)
    · rw [if_pos ((mv_iff h6).mpr a), if_neg a, if_neg a]
      exact c12
  · intro hx
    unfold X7_advantage_x at hx
    rw [e1] at hx
    by_cases a : X7_needMove_x (nI n) m = 0
    · obtain ⟨i, hi, rfl⟩ := mv_is h6 a
      obtain ⟨r1, r2, r3⟩ := rel_advantage (g := g) (isB := b) (sA := mf 1) hM.1.t hM.2.1 hM.2.2.1 hi hfl.2.2.1.1 hfl.2.2.1.2 (by rw [eg]; exact fun q => (mv_iff h6).mp q a)
      exact ⟨r1, hI _ rfl rfl rfl rfl (flag23 hfl r2 r3)⟩
    · rw [if_neg a] at hx
      exact absurd hx a
theorem min_eq (a b : Int32) : (if b < a then b else a) = (if a ≤ b then a else b) := by
  by_cases c : a ≤ b
  · rw [if_pos c, if_neg (Int32.not_lt.mpr c)]
  · rw [if_neg c, if_pos (Int32.not_le.mp c)]
theorem op_punish {t : Nat} {ci g : Nat → Int32} {cf MV MVR mf : Nat → Nat → Int32} (h : INV t ci cf MV MVR g mf) (m b : Int32) :
    X8_punish_w0 g (mf 0) (mf 1) b m 12 = (if X7_punish_x b (ci 1) m = 0 then 0 else 1) ∧ (X7_punish_x b (ci 1) m = 0 → X7_punish_r (cf 4) (cf 5) MV b m = X8_punish_r g (mf 0) (mf 1) b m ∧ INV (t + 1) ci (hfS (hfS cf 4 (X7_punish_w3 (cf 4) (cf 5) MV b m)) 5 (X7_punish_w4 (cf 4) (cf 5) MV b m)) MV MVR (X8_punish_w0 g (mf 0) (mf 1) b m) (hfS mf 1 (X8_punish_w2 g (mf 0) (mf 1) b m))) ∧ INV (t + 1) ci cf MV MVR (X8_punish_w0 g (mf 0) (mf 1) b m) (hfS mf 1 (X8_punish_w2 g (mf 0) (mf 1) b m)) := by
  obtain ⟨n, nR, fr, tbR, ⟨e1, eg, hM⟩, -, -, -, hfl, -⟩ := id h
  have h6 := hM.1.1
  have hg : ∀ k, k ≠ 11 → k ≠ 12 → X8_punish_w0 g (mf 0) (mf 1) b m k = g k := by
    intro k k1 k2
    unfold X8_punish_w0
    split
    · exact upd_n _ _ k2
    · split
      · exact upd_n _ _ k2
      · unfold X8_lossBy_w0
        rw [los_g k1, los_g k1]
        exact upd_n _ _ k2
  have hI : ∀ cf1, cf1 0 = cf 0 → cf1 1 = cf 1 → cf1 6 = cf 6 → cf1 7 = cf 7 → flagOK cf1 → INV (t + 1) ci cf1 MV MVR (X8_punish_w0 g (mf 0) (mf 1) b m) (hfS mf 1 (X8_punish_w2 g (mf 0) (mf 1) b m)) := fun cf1 a0 a1 a6 a7 af => h.keep (fun _ _ => rfl) a0 a1 a6 a7 af rfl rfl rfl rfl (hg 1 (by decide) (by decide)) (hg 7 (by decide) (by decide)) (hg 8 (by decide) (by decide)) (hg 9 (by decide) (by decide)) (hg 10 (by decide) (by decide))
  refine ⟨?_, ?_, hI cf rfl rfl rfl rfl hfl⟩
  · unfold X8_punish_w0 X7_punish_x
    rw [eg, e1]
    by_cases a : X7_needMove_x (nI n) m = 0
    · rw [if_neg (fun q => (mv_iff h6).mp q a), if_pos a]
      by_cases a2 : X7_needMove_x (nI n) b = 0
      · rw [if_neg (fun q => (mv_iff h6).mp q a2), if_pos a2, if_pos rfl]
        unfold X8_lossBy_w0
        rw [los_g (by decide), los_g (by decide)]
        exact c12 (g := g) (v := 0)
      · rw [if_pos ((mv_iff h6).mpr a2), if_neg a2, if_neg a2]
        exact c12
    · rw [if_pos ((mv_iff h6).mpr a), if_neg a, if_neg a]
      exact c12
  · intro hx
    unfold X7_punish_x at hx
    rw [e1] at hx
    by_cases a : X7_needMove_x (nI n) m = 0
    · rw [if_pos a] at hx
      by_cases a2 : X7_needMove_x (nI n) b = 0
      · obtain ⟨i, hi, rfl⟩ := mv_is h6 a
        obtain ⟨j, hj, rfl⟩ := mv_is h6 a2
        have r1 := rel_punish (g := g) (sA := mf 1) hM.1.t hM.2.1 hM.2.2.1 hM.2.2.2.1 hi hj hfl.2.2.1.1 hfl.2.2.1.2 (by rw [eg]; exact fun q => (mv_iff h6).mp q a) (by rw [eg]; exact fun q => (mv_iff h6).mp q a2)
        obtain ⟨-, f1, f2⟩ := rel_lossBy (g := upd g 12 0) (sA := mf 1) hM.1.t hM.2.1 hM.2.2.1 hM.2.2.2.1 hi hj (okIn_2 (cnt := n)) hfl.2.2.1.1 hfl.2.2.1.2
        obtain ⟨-, f3, f4⟩ := rel_lossBy (g := upd g 12 0) (sA := mf 1) hM.1.t hM.2.1 hM.2.2.1 hM.2.2.2.1 hi hj (okIn_4 (cnt := n)) f1 f2
        refine ⟨?_, hI _ rfl rfl rfl rfl (flag23 hfl f3 f4)⟩
        unfold X7_punish_r
        rw [min_eq]
        exact r1
      · rw [if_neg a2] at hx
        exact absurd hx a2
    · rw [if_neg a] at hx
      exact absurd hx a
