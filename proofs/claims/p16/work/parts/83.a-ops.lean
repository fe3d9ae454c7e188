/-! pure: what holds of an object's state between two calls, and what play leaves of it -/
def flagL (cf : Nat → Nat → Int32) : Prop := (cf 4 15 = 1 ∧ cf 5 15 = 0) ∧ (cf 10 15 = 1 ∧ cf 11 15 = 0) ∧ (cf 12 15 = 1 ∧ cf 13 15 = 0)
def flagZ (cf : Nat → Nat → Int32) : Prop := (cf 0 15 = 1 ∧ cf 1 15 = 0) ∧ (cf 2 15 = 1 ∧ cf 3 15 = 0) ∧ flagL cf
def winZ (lw rw go : Int32) : Prop := ((lw = 0 ∨ lw = 1) ∧ (rw = 0 ∨ rw = 1)) ∨ (lw = 2 ∧ (rw = 0 ∨ rw = 1) ∧ go = 0) ∨ ((lw = 0 ∨ lw = 1) ∧ rw = 2 ∧ go = 0)
def tapeZ (ap lm rm : Int32) : Prop := ∃ a x y, ap = nI a ∧ 20 ≤ a ∧ a ≤ 300 ∧ a % 2 = 0 ∧ lm = nI x ∧ x ≤ 100 ∧ rm = nI y ∧ y ≤ 100
def duelZ (MVR : Nat → Nat → Int32) (on tw : Nat → Int32) (ap lm rm : Int32) (fr : Nat) (F G : Nat → Int32) : Prop := ∃ P Q : Nat → Int32, P 15 = 1 ∧ Q 15 = 0 ∧ F = (rep MVR on tw (X1_prepare_w1 P ap lm) (X1_prepare_w2 Q ap rm) fr).1 ∧ G = (rep MVR on tw (X1_prepare_w1 P ap lm) (X1_prepare_w2 Q ap rm) fr).2
theorem rep_next {MVR : Nat → Nat → Int32} {ap lm rm one two : Int32} {fr : Nat} {F G on tw : Nat → Int32} (h : duelZ MVR on tw ap lm rm fr F G) : duelZ MVR (upd on fr one) (upd tw fr two) ap lm rm (fr + 1) (X1_playFrame_w1 F G MVR one two) (X1_playFrame_w2 F G MVR one two) := by
  obtain ⟨P, Q, p, q, eF, eG⟩ := h
  have ec := rep_congr (MV := MVR) (on := on) (tw := tw) (on1 := upd on fr one) (tw1 := upd tw fr two) (F := X1_prepare_w1 P ap lm) (G := X1_prepare_w2 Q ap rm) fr (fun m hm => ⟨upd_n _ _ (by omega), upd_n _ _ (by omega)⟩)
  refine ⟨P, Q, p, q, ?_, ?_⟩
  · rw [rep_s1, ec, upd_s, upd_s, ← eF, ← eG]
  · rw [rep_s2, ec, upd_s, upd_s, ← eF, ← eG]
/-- within a call of play -/
def PZ (MVR : Nat → Nat → Int32) (n : Nat) (ap lm rm : Int32) (fr LG : Nat) (go frI lw rw : Int32) (F G on tw : Nat → Int32) : Prop :=
  (go = 0 ∨ go = 1) ∧ (frI = nI fr ∧ fr ≤ 600 ∧ (¬ go = 0 → fr < 600)) ∧ winZ lw rw go ∧ duelZ MVR on tw ap lm rm fr F G ∧ (∀ m, m < fr → inB n (on m) ∧ inB n (tw m)) ∧ ∃ LF, duB fr n LF LG F G
theorem endZ {lw rw go F1 G1 : Int32} (h : winZ lw rw go) (h0 : ¬ go = 0) : winZ (X0_count_0_1 F1 G1 lw) (X0_count_0_2 F1 G1 rw) 0 := by
  obtain ⟨a, b⟩ : (lw = 0 ∨ lw = 1) ∧ (rw = 0 ∨ rw = 1) := by
    rcases h with h | ⟨-, -, h⟩ | ⟨-, -, h⟩
    · exact h
    · exact absurd h h0
    · exact absurd h h0
  unfold X0_count_0_1 X0_count_0_2
  by_cases c1 : F1 ≤ G1
  · rw [if_pos c1, if_pos c1]
    by_cases c2 : G1 ≤ F1
    · rw [if_pos c2]
      exact Or.inl ⟨a, b⟩
    · rw [if_neg c2]
      rcases b with b | b
      · subst b
        exact Or.inl ⟨a, Or.inr rfl⟩
      · subst b
        exact Or.inr (Or.inr ⟨a, rfl, rfl⟩)
  · rw [if_neg c1, if_neg c1]
    rcases a with a | a
    · subst a
      exact Or.inl ⟨Or.inr rfl, b⟩
    · subst a
      exact Or.inr (Or.inl ⟨rfl, b, rfl⟩)
theorem PZ_step {MVR : Nat → Nat → Int32} {n fr LG : Nat} {ap lm rm go frI lw rw one two : Int32} {F G on tw : Nat → Int32} (hM : mvB n MVR) (h1 : inB n one) (h2 : inB n two) (h : PZ MVR n ap lm rm fr LG go frI lw rw F G on tw) (h0 : ¬ go = 0) :
    ∃ L1, LG ≤ L1 ∧ PZ MVR n ap lm rm (fr + 1) L1 (X7_endRoundIfOver_0_7 (X1_playFrame_w1 F G MVR one two) (X1_playFrame_w2 F G MVR one two) (X6_add_0_0 frI) go) (X6_add_0_0 frI) (X7_endRoundIfOver_5_1 (X1_playFrame_w1 F G MVR one two) (X1_playFrame_w2 F G MVR one two) (X6_add_0_0 frI) lw) (X7_endRoundIfOver_5_2 (X1_playFrame_w1 F G MVR one two) (X1_playFrame_w2 F G MVR one two) (X6_add_0_0 frI) rw) (X1_playFrame_w1 F G MVR one two) (X1_playFrame_w2 F G MVR one two) (X6_add_w1 frI on one) (X6_add_w2 frI tw two) ∧ (∀ m, m < fr → X6_add_w1 frI on one m = on m ∧ X6_add_w2 frI tw two m = tw m) := by
  obtain ⟨g01, ⟨efr, hfr6, hfrl⟩, hw, hdu, hin, LF, hB⟩ := h
  have hlt := hfrl h0
  have e00 : X6_add_0_0 frI = nI (fr + 1) := by
    unfold X6_add_0_0
    rw [efr, if_neg (show ¬ (600 : Int32) ≤ nI fr from nI_ge (b := 600) hlt (by decide)), nI_1]
  have eon : X6_add_w1 frI on one = upd on fr one := by
    unfold X6_add_w1
    rw [efr, if_neg (show ¬ (600 : Int32) ≤ nI fr from nI_ge (b := 600) hlt (by decide)), nI_clamp (by omega)]
  have etw : X6_add_w2 frI tw two = upd tw fr two := by
    unfold X6_add_w2
    rw [efr, if_neg (show ¬ (600 : Int32) ≤ nI fr from nI_ge (b := 600) hlt (by decide)), nI_clamp (by omega)]
  have hdu1 := rep_next (one := one) (two := two) hdu
  have hin1 : ∀ m, m < fr + 1 → inB n (upd on fr one m) ∧ inB n (upd tw fr two m) := by
    intro m hm
    by_cases c : m = fr
    · subst c
      rw [upd_s, upd_s]
      exact ⟨h1, h2⟩
    · rw [upd_n _ _ c, upd_n _ _ c]
      exact hin m (by omega)
  obtain ⟨L1, L2, hL1, hL2, hB1⟩ := frame_B hM (by omega) h1 h2 hB
  refine ⟨L2, hL2, ?_, ?_⟩
  · rw [e00, eon, etw]
    unfold X7_endRoundIfOver_0_7 X7_endRoundIfOver_5_1 X7_endRoundIfOver_5_2
    generalize X1_playFrame_w1 F G MVR one two = F1 at hdu1 hB1 ⊢
    generalize X1_playFrame_w2 F G MVR one two = G1 at hdu1 hB1 ⊢
    have over : PZ MVR n ap lm rm (fr + 1) L2 0 (nI (fr + 1)) (X0_count_0_1 (F1 1) (G1 1) lw) (X0_count_0_2 (F1 1) (G1 1) rw) F1 G1 (upd on fr one) (upd tw fr two) := ⟨Or.inl rfl, ⟨rfl, by omega, fun q => absurd rfl q⟩, endZ hw h0, hdu1, hin1, L1, hB1⟩
    by_cases c1 : F1 1 ≤ 0
    · rw [if_pos c1, if_pos c1, if_pos c1]
      exact over
    · rw [if_neg c1, if_neg c1, if_neg c1]
      by_cases c2 : G1 1 ≤ 0
      · rw [if_pos c2, if_pos c2, if_pos c2]
        exact over
      · rw [if_neg c2, if_neg c2, if_neg c2]
        by_cases c3 : (600 : Int32) ≤ nI (fr + 1)
        · rw [if_pos c3, if_pos c3, if_pos c3]
          exact over
        · rw [if_neg c3, if_neg c3, if_neg c3]
          have hl6 : fr + 1 < 600 := by
            rcases Nat.lt_or_ge (fr + 1) 600 with q | q
            · exact q
            · exact absurd (show (600 : Int32) ≤ nI (fr + 1) from nI_le (a := 600) q (by omega)) c3
          exact ⟨g01, ⟨rfl, by omega, fun _ => hl6⟩, hw, hdu1, hin1, L1, hB1⟩
  · rw [eon, etw]
    exact fun m hm => ⟨upd_n _ _ (by omega), upd_n _ _ (by omega)⟩
theorem ply_Z {MVR : Nat → Nat → Int32} {n N : Nat} {ap lm rm one two : Int32} (hM : mvB n MVR) (h1 : inB n one) (h2 : inB n two) (hN : N ≤ 60) (k : Nat) : ∀ (j fr LG : Nat) (go frI lw rw : Int32) (F G on tw : Nat → Int32), j ≤ N → N ≤ j + k → PZ MVR n ap lm rm fr LG go frI lw rw F G on tw → ∃ fr1 L1, LG ≤ L1 ∧ PZ MVR n ap lm rm fr1 L1 (X7_ply_run MVR one two (nI N) k j (go, F, G, frI, on, tw, lw, rw)).1 (X7_ply_run MVR one two (nI N) k j (go, F, G, frI, on, tw, lw, rw)).2.2.2.1 (X7_ply_run MVR one two (nI N) k j (go, F, G, frI, on, tw, lw, rw)).2.2.2.2.2.2.1 (X7_ply_run MVR one two (nI N) k j (go, F, G, frI, on, tw, lw, rw)).2.2.2.2.2.2.2 (X7_ply_run MVR one two (nI N) k j (go, F, G, frI, on, tw, lw, rw)).2.1 (X7_ply_run MVR one two (nI N) k j (go, F, G, frI, on, tw, lw, rw)).2.2.1 (X7_ply_run MVR one two (nI N) k j (go, F, G, frI, on, tw, lw, rw)).2.2.2.2.1 (X7_ply_run MVR one two (nI N) k j (go, F, G, frI, on, tw, lw, rw)).2.2.2.2.2.1 ∧ fr1 ≤ fr + (N - j) ∧ fr ≤ fr1 ∧ (fr1 = fr + (N - j) ∨ (X7_ply_run MVR one two (nI N) k j (go, F, G, frI, on, tw, lw, rw)).1 = 0) ∧ (¬ go = 0 → j < N → fr < fr1) ∧ ∀ m, m < fr → (X7_ply_run MVR one two (nI N) k j (go, F, G, frI, on, tw, lw, rw)).2.2.2.2.1 m = on m ∧ (X7_ply_run MVR one two (nI N) k j (go, F, G, frI, on, tw, lw, rw)).2.2.2.2.2.1 m = tw m := by
  induction k with
  | zero =>
    intro j fr LG go frI lw rw F G on tw hj hk h
    rw [X7_ply_run]
    exact ⟨fr, LG, Nat.le_refl _, h, by omega, Nat.le_refl _, Or.inl (by omega), fun _ q => by omega, fun _ _ => ⟨rfl, rfl⟩⟩
  | succ k ih =>
    intro j fr LG go frI lw rw F G on tw hj hk h
    rw [X7_ply_run_s]
    by_cases c : nI N ≤ nI j
    · have cj : N ≤ j := (nI_leI (by omega) (by omega)).mp c
      rw [if_pos c]
      exact ⟨fr, LG, Nat.le_refl _, h, by omega, Nat.le_refl _, Or.inl (by omega), fun _ q => by omega, fun _ _ => ⟨rfl, rfl⟩⟩
    · have cj : ¬ N ≤ j := fun q => c ((nI_leI (by omega) (by omega)).mpr q)
      rw [if_neg c]
      by_cases c9 : go = 0
      · rw [if_pos c9]
        exact ⟨fr, LG, Nat.le_refl _, h, by omega, Nat.le_refl _, Or.inr c9, fun q => absurd c9 q, fun _ _ => ⟨rfl, rfl⟩⟩
      · rw [if_neg c9]
        obtain ⟨L2, hL2, hP, hk2⟩ := PZ_step hM h1 h2 h c9
        obtain ⟨fr1, L1, hL1, a, b, d, e, -, g⟩ := ih (j + 1) (fr + 1) L2 _ _ _ _ _ _ _ _ (by omega) (by omega) hP
        refine ⟨fr1, L1, by omega, a, by omega, by omega, ?_, fun _ _ => by omega, fun m hm => ?_⟩
        · rcases e with e | e
          · exact Or.inl (by omega)
          · exact Or.inr e
        · obtain ⟨g1, g2⟩ := g m (by omega)
          obtain ⟨k1, k2⟩ := hk2 m hm
          exact ⟨g1.trans k1, g2.trans k2⟩
