theorem relX_congr {MV M1 : Nat → Nat → Int32} {tb : Nat → Int32} {n : Nat} (hT : relT MV tb n) (hV : relV MV n) (hC : relC MV n) (hD : relD MV n) (h : ∀ i, i < 6 → M1 i = MV i) : relT M1 tb n ∧ relV M1 n ∧ relC M1 n ∧ relD M1 n := by
  have h6 := hT.1
  refine ⟨⟨h6, fun i hi k hk => ?_, fun i hi j hj => ?_⟩, fun i hi => ?_, fun i hi => ?_, fun i hi => ?_⟩
  · rw [h i (by omega)]; exact hT.2.1 i hi k hk
  · rw [h i (by omega)]; exact hT.2.2 i hi j hj
  · rw [h i (by omega)]; exact hV i hi
  · rw [h i (by omega)]; exact hC i hi
  · rw [h i (by omega)]; exact hD i hi
theorem upd_cong {f g : Nat → Int32} {k q : Nat} {v : Int32} (h : q ≠ k → f q = g q) : upd f k v q = upd g k v q := by
  by_cases c : q = k
  · subst c
    rw [upd_s, upd_s]
  · rw [upd_n _ _ c, upd_n _ _ c]
    exact h c
theorem lay_at {s s1 : Nat → Int32} {a b c d : Int32} (q : Nat) (hq : q < 22) : X8_lay_w2 s a b c d q = X8_lay_w2 s1 a b c d q := by
  unfold X8_lay_w2
  repeat refine upd_cong (fun _ => ?_)
  exact absurd hq (by omega)
theorem upd_pick {f s : Nat → Int32} {k q : Nat} (h : q ≠ k → f q = s q) : upd f k (s k) q = s q := by
  by_cases c : q = k
  · subst c
    rw [upd_s]
  · rw [upd_n _ _ c]
    exact h c
theorem store3_at {sA rd : Nat → Int32} (q : Nat) (hq : q < 22) : X8_store_w3 sA rd q = sA q := by
  unfold X8_store_w3
  repeat refine upd_pick (s := sA) (fun _ => ?_)
  exact absurd hq (by omega)
def st14 (td : Nat → Int32) (b : Nat) (s : Nat → Int32) : Nat → (Nat → Int32)
  | 0 => td
  | k + 1 => upd (upd (st14 td b s k) (b + k) (s k)) (b + 7 + k) (s (11 + k))
theorem st14_at (td : Nat → Int32) (b : Nat) (s : Nat → Int32) (q : Nat) : ∀ n, n ≤ 7 → st14 td b s n q = if b ≤ q ∧ q < b + n then s (q - b) else if b + 7 ≤ q ∧ q < b + 7 + n then s (11 + (q - (b + 7))) else td q
  | 0, _ => by rw [st14, if_neg (by omega), if_neg (by omega)]
  | n + 1, h => by
    rw [st14]
    by_cases e : q = b + 7 + n
    · subst e
      rw [upd_s, if_neg (by omega), if_pos (by omega), Nat.add_sub_cancel_left]
    · rw [upd_n _ _ e]
      by_cases e2 : q = b + n
      · subst e2
        rw [upd_s, if_pos (by omega), Nat.add_sub_cancel_left]
      · rw [upd_n _ _ e2, st14_at td b s q n (by omega)]
        by_cases c : b ≤ q ∧ q < b + n
        · have d1 : b ≤ q ∧ q < b + (n + 1) := by omega
          rw [if_pos c, if_pos d1]
        · have d1 : ¬ (b ≤ q ∧ q < b + (n + 1)) := by omega
          by_cases c2 : b + 7 ≤ q ∧ q < b + 7 + n
          · have d2 : b + 7 ≤ q ∧ q < b + 7 + (n + 1) := by omega
            rw [if_neg c, if_pos c2, if_neg d1, if_pos d2]
          · have d2 : ¬ (b + 7 ≤ q ∧ q < b + 7 + (n + 1)) := by omega
            rw [if_neg c, if_neg c2, if_neg d1, if_neg d2]
theorem key14 {f k : Nat} (hf : f ≤ 600) (hk : k < 7) : ((14 * nI f) + nI k).toNatClampNeg = 14 * f + k := by
  rw [show (14 : Int32) = nI 14 from rfl, pk_mul, nI_add, nI_clamp (by omega)]
theorem key147 {f k : Nat} (hf : f ≤ 600) (hk : k < 7) : (((14 * nI f) + 7) + nI k).toNatClampNeg = 14 * f + 7 + k := by
  rw [show (14 : Int32) = nI 14 from rfl, show (7 : Int32) = nI 7 from rfl, pk_mul, nI_add, nI_add, nI_clamp (by omega)]
theorem store5 {g s td : Nat → Int32} {f : Nat} (hf : f ≤ 600) (hg : g 7 = nI f) : X8_store_w5 g s td = st14 td (14 * f) s 7 := by
  unfold X8_store_w5
  rw [hg]
  have a0 : ((14 * nI f) + 0).toNatClampNeg = 14 * f + 0 := key14 hf (by decide)
  have a1 : ((14 * nI f) + 1).toNatClampNeg = 14 * f + 1 := key14 hf (by decide)
  have a2 : ((14 * nI f) + 2).toNatClampNeg = 14 * f + 2 := key14 hf (by decide)
  have a3 : ((14 * nI f) + 3).toNatClampNeg = 14 * f + 3 := key14 hf (by decide)
  have a4 : ((14 * nI f) + 4).toNatClampNeg = 14 * f + 4 := key14 hf (by decide)
  have a5 : ((14 * nI f) + 5).toNatClampNeg = 14 * f + 5 := key14 hf (by decide)
  have a6 : ((14 * nI f) + 6).toNatClampNeg = 14 * f + 6 := key14 hf (by decide)
  have b0 : (((14 * nI f) + 7) + 0).toNatClampNeg = 14 * f + 7 + 0 := key147 hf (by decide)
  have b1 : (((14 * nI f) + 7) + 1).toNatClampNeg = 14 * f + 7 + 1 := key147 hf (by decide)
  have b2 : (((14 * nI f) + 7) + 2).toNatClampNeg = 14 * f + 7 + 2 := key147 hf (by decide)
  have b3 : (((14 * nI f) + 7) + 3).toNatClampNeg = 14 * f + 7 + 3 := key147 hf (by decide)
  have b4 : (((14 * nI f) + 7) + 4).toNatClampNeg = 14 * f + 7 + 4 := key147 hf (by decide)
  have b5 : (((14 * nI f) + 7) + 5).toNatClampNeg = 14 * f + 7 + 5 := key147 hf (by decide)
  have b6 : (((14 * nI f) + 7) + 6).toNatClampNeg = 14 * f + 7 + 6 := key147 hf (by decide)
  rw [a0, a1, a2, a3, a4, a5, a6, b0, b1, b2, b3, b4, b5, b6]
  rfl
theorem j35_iff {g : Nat → Int32} {ap : Int32} : X8_begin_j35 g ap = (if X7_begin_x ap (g 9) = 0 then 0 else (if X7_begin_x ap (g 9) = 2 then 1 else 2)) := by
  unfold X8_begin_j35 X7_begin_x
  by_cases a : X7_needWithin_x 300 20 ap = 0
  · rw [if_neg (fun q => in_iff.mp q a), if_pos a]
    by_cases b : ap - ap / 2 * 2 = 0
    · rw [if_pos b, if_pos b]
      by_cases c : X7_needNoRound_x (g 9) = 0
      · rw [if_pos c, if_pos (nR_is c), if_pos rfl]
      · rw [if_neg c, if_neg (nR_not c), (nR_or (g 9)).resolve_left c]
        decide
    · rw [if_neg b, if_neg b]
      decide
  · rw [if_pos (in_iff.mpr a), if_neg a, (nW_or 300 20 ap).resolve_left a]
    decide
/-- the moves of a round that begins -/
def mvN (MV MVR : Nat → Nat → Int32) : Nat → Nat → Int32 := fun i => if i = 6 then MVR 6 else MV i
theorem op_begin {t : Nat} {ci g : Nat → Int32} {cf MV MVR mf : Nat → Nat → Int32} (h : INV t ci cf MV MVR g mf) (ht : t < 1000) (ap : Int32) :
    X8_begin_w0 g ap 12 = (if X7_begin_x ap (ci 0) = 0 then 0 else (if X7_begin_x ap (ci 0) = 2 then 1 else 2)) ∧ (X7_begin_x ap (ci 0) = 0 → X7_begin_r (ci 7) (ci 8) (ci 9) = X8_begin_r g ap ∧ INV (t + 1) (upd (upd (upd (upd (upd (upd (upd (upd (upd ci 0 1) 2 (ci 1)) 3 0) 4 ap) 5 (X7_begin_j101 (cf 0) (ci 7) (ci 8) (ci 9))) 6 (X7_begin_j119 (cf 1) (ci 7) (ci 8) (ci 9))) 7 (X7_begin_r (ci 7) (ci 8) (ci 9))) 8 (X7_begin_j67_1 (ci 7) (ci 8) (ci 9))) 9 (X7_begin_j67_2 (ci 7) (ci 8) (ci 9))) (hfS (hfS cf 0 (X7_begin_w2 (cf 0) ap (ci 7) (ci 8) (ci 9))) 1 (X7_begin_w3 (cf 1) ap (ci 7) (ci 8) (ci 9))) MV (mvN MV MVR) (X8_begin_w0 g ap) (hfS (hfS (hfS (hfS mf 1 (X8_begin_w2 g (mf 1) (mf 2) ap)) 2 (X8_begin_w3 g (mf 1) (mf 2) ap)) 4 (X8_begin_w5 g (mf 1) (mf 2) (mf 4) ap)) 5 (X8_begin_w6 g (mf 5) ap))) ∧ (¬ X7_begin_x ap (ci 0) = 0 → INV (t + 1) ci cf MV MVR (X8_begin_w0 g ap) (hfS (hfS (hfS (hfS mf 1 (X8_begin_w2 g (mf 1) (mf 2) ap)) 2 (X8_begin_w3 g (mf 1) (mf 2) ap)) 4 (X8_begin_w5 g (mf 1) (mf 2) (mf 4) ap)) 5 (X8_begin_w6 g (mf 5) ap))) := by
  have hwon := (op_winner h).1
  obtain ⟨n, nR, fr, tbR, ⟨e1, eg, hM⟩, ⟨e0, -⟩, ⟨⟨b, hb, e7⟩, e78, e8, e9, hw⟩, -, hfl, htl, ⟨m0, m1⟩, -, -⟩ := id h
  have hj := j35_iff (g := g) (ap := ap)
  rw [← e0] at hj
  unfold X8_begin_w0 X8_begin_w2 X8_begin_w3 X8_begin_w5 X8_begin_w6 X8_begin_r
  by_cases c : X7_begin_x ap (ci 0) = 0
  · rw [if_pos c] at hj
    have hf : ¬ X8_isFine_r (X8_begin_j35 g ap) = 0 := by rw [hj]; decide
    simp only [if_neg hf, if_pos c]
    have c9 : g 9 = 0 := by
      unfold X7_begin_x at c
      by_cases a : X7_needWithin_x 300 20 ap = 0
      · rw [if_pos a] at c
        by_cases bb : ap - ap / 2 * 2 = 0
        · rw [if_pos bb] at c
          by_cases d : X7_needNoRound_x (ci 0) = 0
          · rw [← e0]; exact nR_is d
          · rw [if_neg d] at c
            exact absurd c d
        · rw [if_neg bb] at c
          exact absurd c (by decide)
      · rw [if_neg a] at c
        exact absurd c a
    have hj55 : X7_begin_j55 (ci 7) (ci 8) (ci 9) = if g 8 = 0 then 1 else (if g 10 = -1 then 0 else 1) := by
      unfold X7_begin_j55
      rw [hwon, e78]
      rfl
    -- what the new set changes
    obtain ⟨B, L1, L2, ML, MR, hB, hL1, hL2, hML, hMR, hG8, hG10, hR2, hR13, hW0, hW1, hwin, hml, hmr, hbb, hR⟩ : ∃ B L1 L2 ML MR : Int32, X7_begin_j67 (ci 7) (ci 8) (ci 9) = B ∧ X7_begin_j67_1 (ci 7) (ci 8) (ci 9) = L1 ∧ X7_begin_j67_2 (ci 7) (ci 8) (ci 9) = L2 ∧ X7_begin_j101 (cf 0) (ci 7) (ci 8) (ci 9) = ML ∧ X7_begin_j119 (cf 1) (ci 7) (ci 8) (ci 9) = MR ∧ X8_begin_j97 g ap 8 = B ∧ X8_begin_j97 g ap 10 = -1 ∧ X8_begin_j97_1 g (mf 2) 2 = ML ∧ X8_begin_j97_1 g (mf 2) 13 = MR ∧ X8_begin_j97_2 g (mf 5) 0 = L1 ∧ X8_begin_j97_2 g (mf 5) 1 = L2 ∧ winOK L1 L2 (-1) 1 ∧ ML ≤ 100 ∧ MR ≤ 100 ∧ (∃ b, b ≤ t ∧ B = nI b) ∧ X8_begin_j97 g ap 1 = nI n ∧ X8_begin_j97 g ap 12 = 0 := by
      have f2 : X2_tell_r (cf 0) (nI 2) = mf 2 2 := (htl 2 (by decide)).1
      have g2 : X2_tell_r (cf 1) (nI 2) = mf 2 (11 + 2) := (htl 2 (by decide)).2
      have f2' : cf 0 2 = mf 2 2 := f2
      have g2' : cf 1 2 = mf 2 13 := g2
      unfold X7_begin_j67 X7_begin_j67_1 X7_begin_j67_2 X7_begin_j101 X7_begin_j119 X8_begin_j97 X8_begin_j97_1 X8_begin_j97_2
      rw [hj55, hj]
      by_cases q8 : g 8 = 0
      · simp only [if_pos q8]
        exact ⟨0, 0, 0, 0, 0, rfl, rfl, rfl, rfl, rfl, rfl, rfl, rfl, rfl, rfl, rfl, Or.inl ⟨Or.inl rfl, Or.inl rfl, rfl⟩, by decide, by decide, ⟨0, Nat.zero_le _, rfl⟩, eg, rfl⟩
      · by_cases q10 : g 10 = -1
        · simp only [if_neg q8, if_pos q10, ↓reduceIte]
          refine ⟨ci 7, ci 8, ci 9, cf 0 2, cf 1 2, rfl, rfl, rfl, rfl, rfl, e78.symm, q10, f2'.symm, g2'.symm, e8.symm, e9.symm, ?_, m0, m1, ⟨b, hb, e7⟩, eg, rfl⟩
          rcases hw with ⟨x, y, -⟩ | ⟨-, -, z, -⟩ | ⟨-, -, z, -⟩
          · exact Or.inl ⟨x, y, rfl⟩
          · rw [q10] at z
            exact absurd z (by decide)
          · rw [q10] at z
            exact absurd z (by decide)
        · have h1 : ¬ (1 : Int32) = 0 := by decide
          simp only [if_neg q8, if_neg q10, if_neg h1]
          exact ⟨0, 0, 0, 0, 0, rfl, rfl, rfl, rfl, rfl, rfl, rfl, rfl, rfl, rfl, rfl, Or.inl ⟨Or.inl rfl, Or.inl rfl, rfl⟩, by decide, by decide, ⟨0, Nat.zero_le _, rfl⟩, eg, rfl⟩
    unfold X7_begin_r X7_begin_w2 X7_begin_w3
    rw [hB, hL1, hL2, hML, hMR, hG8, hR2, hR13]
    obtain ⟨b2, hb2, eB⟩ := hbb
    have hS := relS_lay (MV := mvN MV MVR) (cnt := n) (sA := mf 1) (ap := ap) (lm := ML) (rm := MR) hfl.1.1 hfl.1.2 rfl rfl hml hmr
    refine ⟨?_, fun _ => ⟨rfl, ?_⟩, fun q => absurd c q⟩
    · show X8_begin_j97 g ap 12 = 0
      exact hR.2
    · obtain ⟨rT, rV, rC, rD⟩ := relX_congr (M1 := mvN MV MVR) hM.1.t hM.2.1 hM.2.2.1 hM.2.2.2.1 (fun i hi => by unfold mvN; rw [if_neg (by omega)])
      have ne7 : ¬ B + 1 = 0 := by
        rw [eB, nI_s]
        exact nI_ne0 (by omega) (by omega)
      have hrd : ∀ q, q < 22 → X8_store_w3 (X8_lay_w2 (mf 1) ML (300 + ap / 2) MR (300 - ap / 2)) (X8_begin_j97_1 g (mf 2)) q = X8_lay_w2 (mf 1) ML (300 + ap / 2) MR (300 - ap / 2) q := fun q hq => store3_at q hq
      have hS2 := relS_s hS hrd
      refine ⟨n, n, 0, mf 0, ⟨e1, hR.1, hM⟩, ⟨rfl, Or.inr rfl⟩, ⟨⟨b2 + 1, by omega, by show B + 1 = _; rw [eB, nI_s]⟩, rfl, hW0.symm, hW1.symm, ?_⟩, ⟨rfl, Nat.zero_le _, Or.inl ⟨ne7, rfl⟩⟩, ⟨⟨hS.2.2.2.2.1, hS.2.2.2.2.2⟩, hfl.2.1, hfl.2.2.1, fun k hk => ?_⟩, fun w hw9 => ⟨tell_L hS2.1 (by omega), tell_R hS2.2.1 (by omega)⟩, ⟨hS.2.2.1.2.2.2.2.2.2, hS.2.2.2.1.2.2.2.2.2.2⟩, fun _ => ⟨e1, rT, rV, rC, rD, hml, hmr, fun m hm => absurd hm (Nat.not_lt_zero _), fun k hk w hw9 => ?_⟩, fun _ => ⟨rfl, rfl, by decide, ⟨cf 0, cf 1, hfl.1.1, hfl.1.2, rfl, rfl⟩, hS2⟩⟩
      · show winOK L1 L2 (X8_begin_j97 g ap 10) 1
        rw [hG10]
        exact hwin
      · rw [hfS_n _ _ (by omega), hfS_n _ _ (by omega), hfS_n _ _ (by omega), hfS_n _ _ (by omega)]
        exact hfl.2.2.2 k hk
      · have ek : k = 0 := by omega
        subst ek
        show X8_store_w5 _ _ (mf 4) (14 * 0 + w) = _ ∧ X8_store_w5 _ _ (mf 4) (14 * 0 + 7 + w) = _
        rw [store5 (f := 0) (by decide) (show upd (upd (upd (X8_begin_j97 g ap) 8 (B + 1)) 9 1) 7 0 7 = nI 0 from rfl), st14_at _ _ _ _ 7 (Nat.le_refl _), st14_at _ _ _ _ 7 (Nat.le_refl _), if_pos (by omega), if_neg (by omega), if_pos (by omega), mrep]
        refine ⟨?_, ?_⟩
        · rw [show 14 * 0 + w - 14 * 0 = w by omega]
          exact lay_at w (by omega)
        · rw [show 11 + (14 * 0 + 7 + w - (14 * 0 + 7)) = 11 + w by omega]
          exact lay_at (11 + w) (by omega)
  · rw [if_neg c] at hj
    have hor : X8_begin_j35 g ap = 1 ∨ X8_begin_j35 g ap = 2 := by
      rw [hj]
      split
      · exact Or.inl rfl
      · exact Or.inr rfl
    have hf : X8_isFine_r (X8_begin_j35 g ap) = 0 := by
      rcases hor with q | q <;> rw [q] <;> decide
    simp only [if_pos hf, if_neg c, c12]
    refine ⟨hj, fun q => absurd q c, fun _ => ?_⟩
    refine h.keep (fun _ _ => rfl) rfl rfl rfl rfl hfl rfl rfl rfl rfl rfl rfl rfl rfl rfl
