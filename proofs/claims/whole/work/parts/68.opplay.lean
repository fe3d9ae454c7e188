/-- what holds between the class's round and the model's, between two frames -/
theorem load_at {sA rd : Nat → Int32} (q : Nat) (hq : q < 22) : X8_load_w2 sA rd q = rd q := by
  unfold X8_load_w2
  repeat refine upd_pick (s := rd) (fun _ => ?_)
  exact absurd hq (by omega)
def PI (MVR : Nat → Nat → Int32) (tb : Nat → Int32) (n : Nat) (ap lm rm : Int32) (fr : Nat) (go frI lw rw : Int32) (F G on tw g s rd td wn : Nat → Int32) : Prop :=
  (go = g 9 ∧ (g 9 = 0 ∨ g 9 = 1)) ∧ (frI = nI fr ∧ g 7 = nI fr ∧ fr ≤ 600 ∧ (¬ g 9 = 0 → fr < 600)) ∧ (lw = wn 0 ∧ rw = wn 1 ∧ winOK lw rw (g 10) (g 9)) ∧ (relS MVR n F G s ∧ relS MVR n F G rd) ∧ duelOK MVR on tw ap lm rm fr F G ∧ (∀ m, m < fr → okIn n (on m) ∧ okIn n (tw m)) ∧ (∀ k, k ≤ fr → ∀ w, w < 7 → td (14 * k + w) = mrep tb on tw (lay0 ap lm rm) k w ∧ td (14 * k + 7 + w) = mrep tb on tw (lay0 ap lm rm) k (11 + w))
theorem endR_win {g s wn : Nat → Int32} {lw rw F1 G1 : Int32} (e1 : F1 = s 1) (e2 : G1 = s 12) (hl : lw = wn 0) (hr : rw = wn 1) (hw : winOK lw rw (g 10) (g 9)) (h9 : ¬ g 9 = 0) : X0_count_0_1 F1 G1 lw = X8_endRound_w6 s wn 0 ∧ X0_count_0_2 F1 G1 rw = X8_endRound_w6 s wn 1 ∧ winOK (X0_count_0_1 F1 G1 lw) (X0_count_0_2 F1 G1 rw) (X8_endRound_w0 g s wn 10) 0 := by
  obtain ⟨a, b, c⟩ : (lw = 0 ∨ lw = 1) ∧ (rw = 0 ∨ rw = 1) ∧ g 10 = -1 := by
    rcases hw with h | ⟨-, -, -, h⟩ | ⟨-, -, -, h⟩
    · exact h
    · exact absurd h h9
    · exact absurd h h9
  unfold X0_count_0_1 X0_count_0_2 X8_endRound_w6 X8_endRound_w0
  rw [e1, e2]
  by_cases c1 : s 1 ≤ s 12
  · simp only [if_pos c1]
    by_cases c2 : s 12 ≤ s 1
    · simp only [if_pos c2]
      refine ⟨hl, hr, Or.inl ⟨a, b, ?_⟩⟩
      exact c
    · simp only [if_neg c2]
      refine ⟨hl, by rw [hr]; rfl, ?_⟩
      rw [← hr]
      rcases b with b | b
      · subst b
        exact Or.inl ⟨a, Or.inr rfl, rfl⟩
      · subst b
        exact Or.inr (Or.inr ⟨a, rfl, rfl, rfl⟩)
  · simp only [if_neg c1]
    refine ⟨by rw [hl]; rfl, hr, ?_⟩
    rw [← hl]
    rcases a with a | a
    · subst a
      exact Or.inl ⟨Or.inr rfl, b, rfl⟩
    · subst a
      exact Or.inr (Or.inl ⟨rfl, b, rfl, rfl⟩)
theorem endR_g {g s wn : Nat → Int32} {k : Nat} (h9 : k ≠ 9) (h10 : k ≠ 10) : X8_endRound_w0 g s wn k = g k := by
  unfold X8_endRound_w0
  repeat' split
  all_goals first | exact upd_n _ _ h9 | (rw [upd_n _ _ h10]; exact upd_n _ _ h9)
theorem rep_next {MVR : Nat → Nat → Int32} {ap lm rm one two : Int32} {fr : Nat} {F G on tw : Nat → Int32} (h : duelOK MVR on tw ap lm rm fr F G) : duelOK MVR (upd on fr one) (upd tw fr two) ap lm rm (fr + 1) (X1_playFrame_w1 F G MVR one two) (X1_playFrame_w2 F G MVR one two) := by
  obtain ⟨P, Q, p, q, eF, eG⟩ := h
  have ec := rep_congr (MV := MVR) (on := on) (tw := tw) (on1 := upd on fr one) (tw1 := upd tw fr two) (F := X1_prepare_w1 P ap lm) (G := X1_prepare_w2 Q ap rm) fr (fun m hm => ⟨upd_n _ _ (by omega), upd_n _ _ (by omega)⟩)
  refine ⟨P, Q, p, q, ?_, ?_⟩
  · rw [rep_s1, ec, upd_s, upd_s, ← eF, ← eG]
  · rw [rep_s2, ec, upd_s, upd_s, ← eF, ← eG]
theorem duel_rel {MVR : Nat → Nat → Int32} {tb F G on tw : Nat → Int32} {n fr : Nat} {ap lm rm : Int32} (hT : relT MVR tb n) (hV : relV MVR n) (hC : relC MVR n) (ml : lm ≤ 100) (mr : rm ≤ 100) (hin : ∀ m, m < fr → okIn n (on m) ∧ okIn n (tw m)) (h : duelOK MVR on tw ap lm rm fr F G) : relS MVR n F G (mrep tb on tw (lay0 ap lm rm) fr) := by
  obtain ⟨P, Q, p, q, eF, eG⟩ := h
  have hS := relS_rep hT hV hC (relS_lay (MV := MVR) (cnt := n) (sA := fun _ => 0) (ap := ap) (lm := lm) (rm := rm) p q rfl rfl ml mr) fr hin
  rw [← eF, ← eG] at hS
  exact hS
theorem PI_step {MVR : Nat → Nat → Int32} {tb : Nat → Int32} {n fr : Nat} {ap lm rm go frI lw rw one two : Int32} {F G on tw g s rd td wn : Nat → Int32} (hT : relT MVR tb n) (hV : relV MVR n) (hC : relC MVR n) (ml : lm ≤ 100) (mr : rm ≤ 100) (h1 : okIn n one) (h2 : okIn n two) (h : PI MVR tb n ap lm rm fr go frI lw rw F G on tw g s rd td wn) (h9 : ¬ g 9 = 0) :
    PI MVR tb n ap lm rm (fr + 1) (X7_endRoundIfOver_0_7 (X1_playFrame_w1 F G MVR one two) (X1_playFrame_w2 F G MVR one two) (X6_add_0_0 frI) go) (X6_add_0_0 frI) (X7_endRoundIfOver_5_1 (X1_playFrame_w1 F G MVR one two) (X1_playFrame_w2 F G MVR one two) (X6_add_0_0 frI) lw) (X7_endRoundIfOver_5_2 (X1_playFrame_w1 F G MVR one two) (X1_playFrame_w2 F G MVR one two) (X6_add_0_0 frI) rw) (X1_playFrame_w1 F G MVR one two) (X1_playFrame_w2 F G MVR one two) (X6_add_w1 frI on one) (X6_add_w2 frI tw two) (X8_play_L58_g9 tb g one s two wn) (X8_frame_w2 tb s one two) (X8_store_w3 (X8_frame_w2 tb s one two) rd) (X8_store_w5 (upd (X8_frame_w0 g tb s one two) 7 (((X8_frame_w0 g tb s one two) 7) + 1)) (X8_frame_w2 tb s one two) td) (X8_play_L58_wn9 tb g one s two wn) := by
  obtain ⟨⟨ego, h901⟩, ⟨efr, eg7, hfr6, hfrl⟩, ⟨elw, erw, hw⟩, ⟨hS, -⟩, hdu, hin, htd⟩ := h
  have hlt := hfrl h9
  have e00 : X6_add_0_0 frI = nI (fr + 1) := by
    unfold X6_add_0_0
    rw [efr, if_neg (show ¬ (600 : Int32) ≤ nI fr from nI_ge (b := 600) hlt (by decide)), nI_s]
  have eon : X6_add_w1 frI on one = upd on fr one := by
    unfold X6_add_w1
    rw [efr, if_neg (show ¬ (600 : Int32) ≤ nI fr from nI_ge (b := 600) hlt (by decide)), nI_clamp (by omega)]
  have etw : X6_add_w2 frI tw two = upd tw fr two := by
    unfold X6_add_w2
    rw [efr, if_neg (show ¬ (600 : Int32) ≤ nI fr from nI_ge (b := 600) hlt (by decide)), nI_clamp (by omega)]
  have hS1 := relS_frame hT hV hC hS h1 h2
  have hdu1 := rep_next (one := one) (two := two) hdu
  have hin1 : ∀ m, m < fr + 1 → okIn n (upd on fr one m) ∧ okIn n (upd tw fr two m) := by
    intro m hm
    by_cases c : m = fr
    · subst c
      rw [upd_s, upd_s]
      exact ⟨h1, h2⟩
    · rw [upd_n _ _ c, upd_n _ _ c]
      exact hin m (by omega)
  have hS2 := duel_rel hT hV hC ml mr hin1 hdu1
  have e7 : (X8_frame_w0 g tb s one two) 7 + 1 = nI (fr + 1) := by rw [fr_g (by decide), eg7, nI_s]
  have hg1 : ∀ k, k ≠ 7 → k ≠ 11 → upd (X8_frame_w0 g tb s one two) 7 (((X8_frame_w0 g tb s one two) 7) + 1) k = g k := fun k k7 k11 => by rw [upd_n _ _ k7, fr_g k11]
  have hg7 : upd (X8_frame_w0 g tb s one two) 7 (((X8_frame_w0 g tb s one two) 7) + 1) 7 = nI (fr + 1) := by rw [upd_s, e7]
  have htd1 : ∀ k, k ≤ fr + 1 → ∀ w, w < 7 → X8_store_w5 (upd (X8_frame_w0 g tb s one two) 7 (((X8_frame_w0 g tb s one two) 7) + 1)) (X8_frame_w2 tb s one two) td (14 * k + w) = mrep tb (upd on fr one) (upd tw fr two) (lay0 ap lm rm) k w ∧ X8_store_w5 (upd (X8_frame_w0 g tb s one two) 7 (((X8_frame_w0 g tb s one two) 7) + 1)) (X8_frame_w2 tb s one two) td (14 * k + 7 + w) = mrep tb (upd on fr one) (upd tw fr two) (lay0 ap lm rm) k (11 + w) := by
    intro k hk w hw9
    rw [store5 (f := fr + 1) (by omega) hg7, st14_at _ _ _ _ 7 (Nat.le_refl _), st14_at _ _ _ _ 7 (Nat.le_refl _)]
    by_cases c : k = fr + 1
    · subst c
      rw [if_pos (by omega), if_neg (by omega), if_pos (by omega), show 14 * (fr + 1) + w - 14 * (fr + 1) = w by omega, show 11 + (14 * (fr + 1) + 7 + w - (14 * (fr + 1) + 7)) = 11 + w by omega]
      exact ⟨(tell_L hS1.1 (by omega)).symm.trans (tell_L hS2.1 (by omega)), (tell_R hS1.2.1 (by omega)).symm.trans (tell_R hS2.2.1 (by omega))⟩
    · rw [if_neg (by omega), if_neg (by omega), if_neg (by omega), if_neg (by omega), mrep_congr (tb := tb) (on := on) (tw := tw) (on1 := upd on fr one) (tw1 := upd tw fr two) k (fun m hm => ⟨upd_n _ _ (by omega), upd_n _ _ (by omega)⟩)]
      exact htd k (by omega) w hw9
  have hw0 : winOK lw rw (upd (X8_frame_w0 g tb s one two) 7 (((X8_frame_w0 g tb s one two) 7) + 1) 10) (upd (X8_frame_w0 g tb s one two) 7 (((X8_frame_w0 g tb s one two) 7) + 1) 9) := by
    rw [hg1 10 (by decide) (by decide), hg1 9 (by decide) (by decide)]
    exact hw
  have h90 : ¬ upd (X8_frame_w0 g tb s one two) 7 (((X8_frame_w0 g tb s one two) 7) + 1) 9 = 0 := by
    rw [hg1 9 (by decide) (by decide)]
    exact h9
  have eF1 : X1_playFrame_w1 F G MVR one two 1 = X8_frame_w2 tb s one two 1 := hS1.1.2.1
  have eG1 : X1_playFrame_w2 F G MVR one two 1 = X8_frame_w2 tb s one two 12 := hS1.2.1.2.1
  have hS3 := relS_s (s1 := X8_store_w3 (X8_frame_w2 tb s one two) rd) hS1 (fun q hq => store3_at q hq)
  rw [e00, eon, etw]
  unfold X7_endRoundIfOver_0_7 X7_endRoundIfOver_5_1 X7_endRoundIfOver_5_2 X8_play_L58_g9 X8_play_L58_wn9
  rw [eF1, eG1, e7]
  rw [e7] at htd1 hw0 h90 hg1 hg7
  generalize X1_playFrame_w1 F G MVR one two = F1 at *
  generalize X1_playFrame_w2 F G MVR one two = G1 at *
  generalize X8_frame_w2 tb s one two = s1 at *
  have h600 : (600 : Int32) ≤ nI (fr + 1) ↔ nI (fr + 1) = 600 := by
    constructor
    · intro q
      have := (nI_leI (a := 600) (b := fr + 1) (by decide) (by omega)).mp q
      rw [show fr + 1 = 600 by omega]
      rfl
    · intro q
      rw [q]
      decide
  generalize hgg : upd (X8_frame_w0 g tb s one two) 7 (nI (fr + 1)) = g1 at *
  have over : PI MVR tb n ap lm rm (fr + 1) 0 (nI (fr + 1)) (X0_count_0_1 (s1 1) (s1 12) lw) (X0_count_0_2 (s1 1) (s1 12) rw) F1 G1 (upd on fr one) (upd tw fr two) (X8_endRound_w0 g1 s1 wn) s1 (X8_store_w3 s1 rd) (X8_store_w5 g1 s1 td) (X8_endRound_w6 s1 wn) := by
    obtain ⟨w1, w2, w3⟩ := endR_win (g := g1) (s := s1) rfl rfl elw erw hw0 h90
    refine ⟨⟨er9.symm, Or.inl er9⟩, ⟨rfl, by rw [endR_g (by decide) (by decide)]; exact hg7, by omega, fun q => absurd er9 q⟩, ⟨w1, w2, by rw [er9]; exact w3⟩, ⟨hS1, hS3⟩, hdu1, hin1, htd1⟩
  by_cases c1 : s1 1 ≤ 0
  · simp only [if_pos c1]
    exact over
  · simp only [if_neg c1]
    by_cases c2 : s1 12 ≤ 0
    · simp only [if_pos c2]
      exact over
    · simp only [if_neg c2]
      by_cases c3 : nI (fr + 1) = 600
      · simp only [if_pos c3, if_pos (h600.mpr c3)]
        exact over
      · simp only [if_neg c3, if_neg (fun q => c3 (h600.mp q))]
        have hl6 : fr + 1 < 600 := by
          rcases Nat.lt_or_ge (fr + 1) 600 with q | q
          · exact q
          · exact absurd (by rw [show fr + 1 = 600 by omega]; rfl) c3
        refine ⟨⟨?_, ?_⟩, ⟨rfl, hg7, by omega, fun _ => hl6⟩, ⟨elw, erw, hw0⟩, ⟨hS1, hS3⟩, hdu1, hin1, htd1⟩
        · rw [hg1 9 (by decide) (by decide)]; exact ego
        · rw [hg1 9 (by decide) (by decide)]; exact h901
theorem L58_g {tb g s wn : Nat → Int32} {one two : Int32} {k : Nat} (h7 : k ≠ 7) (h9 : k ≠ 9) (h10 : k ≠ 10) (h11 : k ≠ 11) : X8_play_L58_g9 tb g one s two wn k = g k := by
  unfold X8_play_L58_g9
  have e : upd (X8_frame_w0 g tb s one two) 7 (((X8_frame_w0 g tb s one two) 7) + 1) k = g k := by rw [upd_n _ _ h7, fr_g h11]
  split
  · rw [endR_g h9 h10]; exact e
  · split
    · rw [endR_g h9 h10]; exact e
    · split
      · rw [endR_g h9 h10]; exact e
      · exact e
theorem ply_rel {MVR : Nat → Nat → Int32} {tb : Nat → Int32} {n : Nat} {ap lm rm one two frames : Int32} (hT : relT MVR tb n) (hV : relV MVR n) (hC : relC MVR n) (ml : lm ≤ 100) (mr : rm ≤ 100) (h1 : okIn n one) (h2 : okIn n two) (k : Nat) : ∀ (j fr : Nat) (go frI lw rw : Int32) (F G on tw g s rd td wn : Nat → Int32), PI MVR tb n ap lm rm fr go frI lw rw F G on tw g s rd td wn → ∃ fr1, PI MVR tb n ap lm rm fr1 (X7_ply_run MVR one two frames k j (go, F, G, frI, on, tw, lw, rw)).1 (X7_ply_run MVR one two frames k j (go, F, G, frI, on, tw, lw, rw)).2.2.2.1 (X7_ply_run MVR one two frames k j (go, F, G, frI, on, tw, lw, rw)).2.2.2.2.2.2.1 (X7_ply_run MVR one two frames k j (go, F, G, frI, on, tw, lw, rw)).2.2.2.2.2.2.2 (X7_ply_run MVR one two frames k j (go, F, G, frI, on, tw, lw, rw)).2.1 (X7_ply_run MVR one two frames k j (go, F, G, frI, on, tw, lw, rw)).2.2.1 (X7_ply_run MVR one two frames k j (go, F, G, frI, on, tw, lw, rw)).2.2.2.2.1 (X7_ply_run MVR one two frames k j (go, F, G, frI, on, tw, lw, rw)).2.2.2.2.2.1 (X8_ply_run tb one two frames k j (g, s, rd, td, wn)).1 (X8_ply_run tb one two frames k j (g, s, rd, td, wn)).2.1 (X8_ply_run tb one two frames k j (g, s, rd, td, wn)).2.2.1 (X8_ply_run tb one two frames k j (g, s, rd, td, wn)).2.2.2.1 (X8_ply_run tb one two frames k j (g, s, rd, td, wn)).2.2.2.2 ∧ (∀ q, q ≠ 7 → q ≠ 9 → q ≠ 10 → q ≠ 11 → (X8_ply_run tb one two frames k j (g, s, rd, td, wn)).1 q = g q) := by
  induction k with
  | zero =>
    intro j fr go frI lw rw F G on tw g s rd td wn h
    rw [X7_ply_run, X8_ply_run]
    exact ⟨fr, h, fun _ _ _ _ _ => rfl⟩
  | succ k ih =>
    intro j fr go frI lw rw F G on tw g s rd td wn h
    rw [X7_ply_run_s, X8_ply_run_s]
    by_cases c : frames ≤ nI j
    · rw [if_pos c, if_pos c]
      exact ⟨fr, h, fun _ _ _ _ _ => rfl⟩
    · rw [if_neg c, if_neg c]
      by_cases c9 : g 9 = 0
      · rw [if_pos c9, if_pos (h.1.1.trans c9)]
        exact ⟨fr, h, fun _ _ _ _ _ => rfl⟩
      · rw [if_neg c9, if_neg (fun q => c9 (h.1.1.symm.trans q))]
        obtain ⟨fr1, a, b⟩ := ih (j + 1) (fr + 1) _ _ _ _ _ _ _ _ _ _ _ _ _ (PI_step hT hV hC ml mr h1 h2 h c9)
        exact ⟨fr1, a, fun q q7 q9 q10 q11 => (b q q7 q9 q10 q11).trans (L58_g q7 q9 q10 q11)⟩
theorem inp_iff {g : Nat → Int32} {n : Nat} {x : Int32} (h6 : n ≤ 6) (hg : g 1 = nI n) : (X8_isInput_r g x = 0 ↔ ¬ X7_needInput_x (nI n) x = 0) ∧ (X7_needInput_x (nI n) x = 0 → okIn n x) := by
  unfold X8_isInput_r X7_needInput_x X7_needInput_j14 X7_needInput_j40 X5_has_r
  rw [hg]
  by_cases c0 : x < 0
  · have a1 : X8_in_r 4 0 x = 0 := by unfold X8_in_r; rw [if_pos c0]
    have c10 : x < 10 := Int32.lt_trans c0 (by decide)
    have a2 : X8_in_r (9 + nI n) 10 x = 0 := by unfold X8_in_r; rw [if_pos c10]
    rw [if_pos a1, if_pos a2, if_pos c0, if_pos c10]
    exact ⟨⟨fun _ => by decide, fun _ => rfl⟩, fun q => absurd q (by decide)⟩
  · obtain ⟨j, hj, rfl⟩ := nI_of c0
    by_cases c4 : (4 : Int32) < nI j
    · have j4 := (nI_ltI (a := 4) (by decide) hj).mp c4
      have a1 : X8_in_r 4 0 (nI j) = 0 := by unfold X8_in_r; rw [if_neg c0, if_pos c4]
      rw [if_pos a1, if_neg c0, if_pos c4]
      by_cases c10 : nI j < 10
      · have a2 : X8_in_r (9 + nI n) 10 (nI j) = 0 := by unfold X8_in_r; rw [if_pos c10]
        rw [if_pos a2, if_pos c10]
        exact ⟨⟨fun _ => by decide, fun _ => rfl⟩, fun q => absurd q (by decide)⟩
      · have j10 : ¬ j < 10 := fun q => c10 ((nI_ltI (b := 10) hj (by decide)).mpr q)
        have es : nI j - 10 = nI (j - 10) := pk_sub (b := 10) (by omega)
        have ea : (9 : Int32) + nI n = nI (9 + n) := nI_add 9 n
        rw [if_neg c10, es, ea, if_neg (nI_pos (show j - 10 < 2 ^ 31 by omega))]
        by_cases cn : n ≤ j - 10
        · have a2 : X8_in_r (nI (9 + n)) 10 (nI j) = 0 := by
            unfold X8_in_r
            rw [if_neg c10, if_pos ((nI_ltI (by omega) hj).mpr (by omega))]
          rw [if_pos a2, if_pos ((nI_leI (by omega) (by omega)).mpr cn)]
          exact ⟨⟨fun _ => by decide, fun _ => rfl⟩, fun q => absurd q (by decide)⟩
        · have a2 : ¬ X8_in_r (nI (9 + n)) 10 (nI j) = 0 := by
            unfold X8_in_r
            rw [if_neg c10, if_neg (fun q => by have := (nI_ltI (by omega) hj).mp q; omega)]
            decide
          rw [if_neg a2, if_neg (fun q => cn ((nI_leI (by omega) (by omega)).mp q))]
          refine ⟨⟨fun q => absurd q (by decide), fun q => absurd rfl q⟩, fun _ => Or.inr ⟨j - 10, by omega, es⟩⟩
    · have a1 : ¬ X8_in_r 4 0 (nI j) = 0 := by unfold X8_in_r; rw [if_neg c0, if_neg c4]; decide
      rw [if_neg a1, if_neg c0, if_neg c4]
      refine ⟨⟨fun q => absurd q (by decide), fun q => absurd rfl q⟩, fun _ => Or.inl ?_⟩
      exact Int32.lt_of_le_of_lt (Int32.not_lt.mp c4) (by decide)
theorem okS_of {MV : Nat → Nat → Int32} {n : Nat} {F G s : Nat → Int32} (h6 : n ≤ 6) (h : relS MV n F G s) : okS s := by
  obtain ⟨⟨a0, a1, a2, a3, a5, a4, a9, a10, a6, a8, a7⟩, ⟨b0, b1, b2, b3, b5, b4, b9, b10, b6, b8, b7⟩, hI, hJ, -, -⟩ := h
  have km : ∀ x, isMv n x → okM x := fun x q => by
    obtain ⟨i, hi, rfl⟩ := q
    exact vp_in_nI (by omega) (by decide)
  refine ⟨?_, ?_, fun q => ?_, fun q => ?_⟩
  · rw [← a9]
    exact hI.2.2.2.2.1.imp_right (km _)
  · rw [← b9]
    exact hJ.2.2.2.2.1.imp_right (km _)
  · rw [← a5]
    exact km _ (figI_mL hI (a3.trans q)).1
  · rw [← b5]
    exact km _ (figI_mL hJ (b3.trans q)).1
theorem op_play {t : Nat} {ci g : Nat → Int32} {cf MV MVR mf : Nat → Nat → Int32} (h : INV t ci cf MV MVR g mf) (many one two : Int32) :
    X8_play_w0 g (mf 0) (mf 1) (mf 2) (mf 4) (mf 5) many one two 12 = (if X7_play_x (ci 1) many (ci 0) one two = 0 then 0 else (if X7_play_x (ci 1) many (ci 0) one two = 2 then 1 else 2)) ∧ (X7_play_x (ci 1) many (ci 0) one two = 0 → X7_play_r (cf 0) (cf 1) MVR (ci 3) many (ci 0) (ci 8) (cf 6) one (ci 9) (cf 7) two = X8_play_r g (mf 0) (mf 1) (mf 2) (mf 4) (mf 5) many one two ∧ INV (t + 1) (upd (upd (upd (upd ci 0 (X7_play_0_7 (cf 0) (cf 1) MVR (ci 3) many (ci 0) (ci 8) (cf 6) one (ci 9) (cf 7) two)) 3 (X7_play_7_0 (cf 0) (cf 1) MVR (ci 3) many (ci 0) (ci 8) (cf 6) one (ci 9) (cf 7) two)) 8 (X7_play_10_1 (cf 0) (cf 1) MVR (ci 3) many (ci 0) (ci 8) (cf 6) one (ci 9) (cf 7) two)) 9 (X7_play_10_2 (cf 0) (cf 1) MVR (ci 3) many (ci 0) (ci 8) (cf 6) one (ci 9) (cf 7) two)) (hfS (hfS (hfS (hfS cf 0 (X7_play_w3 (cf 0) (cf 1) MVR (ci 3) many (ci 0) (ci 8) (cf 6) one (ci 9) (cf 7) two)) 1 (X7_play_w4 (cf 0) (cf 1) MVR (ci 3) many (ci 0) (ci 8) (cf 6) one (ci 9) (cf 7) two)) 6 (X7_play_w8 (cf 0) (cf 1) MVR (ci 3) many (ci 0) (ci 8) (cf 6) one (ci 9) (cf 7) two)) 7 (X7_play_w9 (cf 0) (cf 1) MVR (ci 3) many (ci 0) (ci 8) (cf 6) one (ci 9) (cf 7) two)) MV MVR (X8_play_w0 g (mf 0) (mf 1) (mf 2) (mf 4) (mf 5) many one two) (hfS (hfS (hfS (hfS mf 1 (X8_play_w2 g (mf 0) (mf 1) (mf 2) (mf 4) (mf 5) many one two)) 2 (X8_play_w3 g (mf 0) (mf 1) (mf 2) (mf 4) (mf 5) many one two)) 4 (X8_play_w5 g (mf 0) (mf 1) (mf 2) (mf 4) (mf 5) many one two)) 5 (X8_play_w6 g (mf 0) (mf 1) (mf 2) (mf 4) (mf 5) many one two))) ∧ (¬ X7_play_x (ci 1) many (ci 0) one two = 0 → INV (t + 1) ci cf MV MVR (X8_play_w0 g (mf 0) (mf 1) (mf 2) (mf 4) (mf 5) many one two) (hfS (hfS (hfS (hfS mf 1 (X8_play_w2 g (mf 0) (mf 1) (mf 2) (mf 4) (mf 5) many one two)) 2 (X8_play_w3 g (mf 0) (mf 1) (mf 2) (mf 4) (mf 5) many one two)) 4 (X8_play_w5 g (mf 0) (mf 1) (mf 2) (mf 4) (mf 5) many one two)) 5 (X8_play_w6 g (mf 0) (mf 1) (mf 2) (mf 4) (mf 5) many one two))) := by
  obtain ⟨n, nR, fr, tbR, ⟨e1, eg, hM⟩, ⟨e0, e01⟩, ⟨⟨b, hb, e7⟩, e78, e8, e9, hw⟩, ⟨e3, hfr, e37⟩, hfl, htl, hmt, htape, hgo⟩ := id h
  have h6 := hM.1.1
  obtain ⟨i1, k1⟩ := inp_iff (x := one) h6 eg
  obtain ⟨i2, k2⟩ := inp_iff (x := two) h6 eg
  have hkeep : ∀ v : Int32, INV (t + 1) ci cf MV MVR (upd g 12 v) (hfS (hfS (hfS (hfS mf 1 (mf 1)) 2 (mf 2)) 4 (mf 4)) 5 (mf 5)) := fun v => h.keep (fun _ _ => rfl) rfl rfl rfl rfl hfl rfl rfl rfl rfl rfl rfl rfl rfl rfl
  unfold X8_play_w0 X8_play_r X8_play_w2 X8_play_w3 X8_play_w5 X8_play_w6 X7_play_x
  rw [e1]
  by_cases a : X7_needWithin_x 60 1 many = 0
  · have a1 : ¬ X8_in_r 60 1 many = 0 := fun q => in_iff.mp q a
    by_cases bb : X7_needInput_x (nI n) one = 0
    · have b1 : ¬ X8_isInput_r g one = 0 := fun q => i1.mp q bb
      by_cases d : X7_needInput_x (nI n) two = 0
      · have d1 : ¬ X8_isInput_r g two = 0 := fun q => i2.mp q d
        by_cases c9 : g 9 = 0
        · simp only [if_pos a, if_neg a1, if_pos bb, if_neg b1, if_pos d, if_neg d1, if_pos c9, if_pos (e0.trans c9), c12]
          exact ⟨by decide, fun q => absurd q (by decide), fun _ => hkeep 2⟩
        · have c90 : ¬ ci 0 = 0 := fun q => c9 (e0.symm.trans q)
          simp only [if_pos a, if_neg a1, if_pos bb, if_neg b1, if_pos d, if_neg d1, if_neg c9, if_neg c90, ↓reduceIte]
          have c7 : ¬ ci 7 = 0 := fun q => c9 ((e37.resolve_left (fun z => z.1 q)).2.2)
          obtain ⟨e2, hT, hV, hC, hD, ml, mr, hin, htd⟩ := htape c7
          obtain ⟨etb, enR, hlt, hdu, hS⟩ := hgo c9
          subst etb
          have enS := enR.symm
          subst enS
          have g7 : g 7 = nI fr := (e37.resolve_right (fun z => c7 z.1)).2
          have hP0 : PI MVR (mf 0) n (ci 4) (ci 5) (ci 6) fr (ci 0) (ci 3) (ci 8) (ci 9) (cf 0) (cf 1) (cf 6) (cf 7) (upd g 12 0) (X8_load_w2 (mf 1) (mf 2)) (mf 2) (mf 4) (mf 5) := ⟨⟨e0, e01⟩, ⟨e3, g7, hfr, fun _ => hlt⟩, ⟨e8, e9, hw⟩, ⟨relS_s hS (fun q hq => load_at q hq), hS⟩, hdu, hin, htd⟩
          obtain ⟨fr1, hP, hg⟩ := ply_rel (frames := many) hT hV hC ml mr (k1 bb) (k2 d) 60 0 fr (ci 0) (ci 3) (ci 8) (ci 9) (cf 0) (cf 1) (cf 6) (cf 7) (upd g 12 0) (X8_load_w2 (mf 1) (mf 2)) (mf 2) (mf 4) (mf 5) hP0
          unfold X7_play_r X7_play_0_7 X7_play_7_0 X7_play_10_1 X7_play_10_2 X7_play_w3 X7_play_w4 X7_play_w8 X7_play_w9
          generalize X7_ply_run MVR one two many 60 0 (ci 0, cf 0, cf 1, ci 3, cf 6, cf 7, ci 8, ci 9) = Y at hP ⊢
          generalize X8_ply_run (mf 0) one two many 60 0 (upd g 12 0, X8_load_w2 (mf 1) (mf 2), mf 2, mf 4, mf 5) = Z at hP hg ⊢
          obtain ⟨⟨p1, p2⟩, ⟨p3, p4, p5, p6⟩, ⟨p7, p8, p9⟩, ⟨p10, p11⟩, p12, p13, p14⟩ := hP
          refine ⟨?_, fun _ => ⟨?_, ?_⟩, fun q => absurd trivial q⟩
          · rw [hg 12 (by decide) (by decide) (by decide) (by decide)]
            exact c12
          · rw [p3, p4]
          · refine ⟨n, n, fr1, mf 0, ⟨e1, ?_, hM⟩, ⟨p1, p2⟩, ⟨⟨b, by omega, e7⟩, ?_, p7, p8, p9⟩, ⟨p3, p5, Or.inl ⟨c7, p4⟩⟩, ⟨⟨p11.2.2.2.2.1, p11.2.2.2.2.2⟩, hfl.2.1, hfl.2.2.1, fun k hk => ?_⟩, fun w hw9 => ⟨tell_L p11.1 (by omega), tell_R p11.2.1 (by omega)⟩, ⟨p11.2.2.1.2.2.2.2.2.2, p11.2.2.2.1.2.2.2.2.2.2⟩, fun _ => ⟨e2, hT, hV, hC, hD, ml, mr, p13, p14⟩, fun q => ⟨rfl, rfl, p6 q, p12, p11⟩⟩
            · rw [hg 1 (by decide) (by decide) (by decide) (by decide)]
              exact eg
            · show ci 7 = Z.1 8
              rw [hg 8 (by decide) (by decide) (by decide) (by decide)]
              exact e78
            · rw [hfS_n _ _ (by omega), hfS_n _ _ (by omega), hfS_n _ _ (by omega), hfS_n _ _ (by omega), hfS_n _ _ (by omega), hfS_n _ _ (by omega), hfS_n _ _ (by omega), hfS_n _ _ (by omega)]
              exact hfl.2.2.2 k hk
      · have d1 : X8_isInput_r g two = 0 := i2.mpr d
        have d2 := (nN_or (nI n) two).resolve_left d
        simp only [if_pos a, if_neg a1, if_pos bb, if_neg b1, if_neg d, if_pos d1, c12, d2, if_neg e10x, if_neg e20x, if_neg e30x]
        exact ⟨by decide, fun q => absurd q (by decide), fun _ => hkeep 1⟩
    · have b1 : X8_isInput_r g one = 0 := i1.mpr bb
      have b2 := (nN_or (nI n) one).resolve_left bb
      simp only [if_pos a, if_neg a1, if_neg bb, if_pos b1, c12, b2, if_neg e10x, if_neg e20x, if_neg e30x]
      exact ⟨by decide, fun q => absurd q (by decide), fun _ => hkeep 1⟩
  · have a1 : X8_in_r 60 1 many = 0 := in_iff.mpr a
    have a2 := (nW_or 60 1 many).resolve_left a
    simp only [if_neg a, if_pos a1, c12, a2, if_neg e10x, if_neg e20x, if_neg e30x]
    exact ⟨by decide, fun q => absurd q (by decide), fun _ => hkeep 1⟩
