/-! pure: bounds through a whole frame, and through a tape -/
theorem strike_B {t n LF LG : Nat} {F G : Nat → Int32} {MV : Nat → Nat → Int32} (hM : mvB n MV) (ht : t ≤ 2000) (hF : fgB t n F) (hG : fgB t n G) (lF : lfB t LF F) (lG : lfB t LG G) (hp : plB F G) (f15 : ¬ F 15 = 0) (g15 : G 15 = 0) :
    (fgB t n (X1_strike_w1 F G MV) ∧ fgB t n (X1_strike_w2 F G MV) ∧ plB (X1_strike_w1 F G MV) (X1_strike_w2 F G MV)) ∧ (∃ L1, LF ≤ L1 ∧ lfB (t + 1) L1 (X1_strike_w1 F G MV)) ∧ (∃ L1, LG ≤ L1 ∧ lfB (t + 1) L1 (X1_strike_w2 F G MV)) ∧ X1_strike_w1 F G MV 15 = F 15 ∧ X1_strike_w2 F G MV 15 = G 15 := by
  obtain ⟨rF, rlF, r14F, r13F⟩ := rem_B hF lF
  obtain ⟨rG, rlG, r14G, r13G⟩ := rem_B hG lG
  have up : ∀ {L : Nat} {H K : Nat → Int32}, lfB t L H → K 1 = H 1 → K 4 = H 4 → ∃ L1, L ≤ L1 ∧ lfB (t + 1) L1 K := fun h a b => ⟨_, Nat.le_refl _, h.congr (by omega) a (Or.inl b)⟩
  have hpr : plB (X2_rememberAheadOfHits_w0 F) (X2_rememberAheadOfHits_w0 G) := hp
  have r15F : ¬ X2_rememberAheadOfHits_w0 F 15 = 0 := f15
  have r15G : X2_rememberAheadOfHits_w0 G 15 = 0 := g15
  unfold X1_strike_w1 X1_strike_w2
  by_cases cL : X1_reachesL_r F G (MV (mi (F 5))) = 0
  · rw [if_pos cL, if_pos cL]
    by_cases cR : X1_reachesR_r F G (MV (mi (G 5))) = 0
    · rw [if_pos cR, if_pos cR]
      exact ⟨⟨rF, rG, hpr⟩, up rlF rfl rfl, up rlG rfl rfl, rfl, rfl⟩
    · rw [if_neg cR, if_neg cR]
      obtain ⟨i, hi, ei, hd, t0, t1, t2, t3, t4⟩ := trait_B hM (hG.out.1 (reachR_3 cR))
      rw [ei]
      obtain ⟨a, b⟩ := land1_B (MV := MV) (i := i) ht rF rlF r14F r13F hd t0 t1
      have c := landR_P (MV := MV) (i := i) r15F r15G hpr t2
      refine ⟨⟨a, land0_B rG t4, c.pl hpr⟩, b, up rlG (land0_k (by decide)) (land0_k (by decide)), ?_, ?_⟩
      · rw [land1_k (by decide)]; rfl
      · rw [land0_k (by decide)]; rfl
  · rw [if_neg cL, if_neg cL]
    obtain ⟨i, hi, ei, hd, t0, t1, t2, t3, t4⟩ := trait_B hM (hF.out.1 (reachL_3 cL))
    rw [ei]
    obtain ⟨a, L1, hL1, b⟩ := land1_B (MV := MV) (i := i) ht rG rlG r14G r13G hd t0 t1
    have c := landL_P (MV := MV) (i := i) r15F r15G hpr t2
    by_cases cR : X1_reachesR_r F G (MV (mi (G 5))) = 0
    · rw [if_pos cR, if_pos cR]
      refine ⟨⟨land0_B rF t4, a, c.pl hpr⟩, up rlF (land0_k (by decide)) (land0_k (by decide)), ⟨L1, hL1, b⟩, ?_, ?_⟩
      · rw [land0_k (by decide)]; rfl
      · rw [land1_k (by decide)]; rfl
    · rw [if_neg cR, if_neg cR]
      obtain ⟨i2, hi2, ei2, hd2, s0, s1, s2, s3, s4⟩ := trait_B hM (hG.out.1 (reachR_3 cR))
      rw [ei2]
      have both : (fgB t n (X1_land_w1 (X1_land_w0 (X2_rememberAheadOfHits_w0 F) (X2_rememberAheadOfHits_w0 G) MV i) MV i2) ∧ fgB t n (X1_land_w0 (X1_land_w1 (X2_rememberAheadOfHits_w0 G) MV i) (X1_land_w0 (X2_rememberAheadOfHits_w0 F) (X2_rememberAheadOfHits_w0 G) MV i) MV i2) ∧ plB (X1_land_w1 (X1_land_w0 (X2_rememberAheadOfHits_w0 F) (X2_rememberAheadOfHits_w0 G) MV i) MV i2) (X1_land_w0 (X1_land_w1 (X2_rememberAheadOfHits_w0 G) MV i) (X1_land_w0 (X2_rememberAheadOfHits_w0 F) (X2_rememberAheadOfHits_w0 G) MV i) MV i2)) ∧ (∃ L1, LF ≤ L1 ∧ lfB (t + 1) L1 (X1_land_w1 (X1_land_w0 (X2_rememberAheadOfHits_w0 F) (X2_rememberAheadOfHits_w0 G) MV i) MV i2)) ∧ (∃ L1, LG ≤ L1 ∧ lfB (t + 1) L1 (X1_land_w0 (X1_land_w1 (X2_rememberAheadOfHits_w0 G) MV i) (X1_land_w0 (X2_rememberAheadOfHits_w0 F) (X2_rememberAheadOfHits_w0 G) MV i) MV i2)) ∧ X1_land_w1 (X1_land_w0 (X2_rememberAheadOfHits_w0 F) (X2_rememberAheadOfHits_w0 G) MV i) MV i2 15 = F 15 ∧ X1_land_w0 (X1_land_w1 (X2_rememberAheadOfHits_w0 G) MV i) (X1_land_w0 (X2_rememberAheadOfHits_w0 F) (X2_rememberAheadOfHits_w0 G) MV i) MV i2 15 = G 15 := by
        have bF := land0_B (G := X2_rememberAheadOfHits_w0 G) (i := i) rF t4
        have k0 : ∀ k, k ∉ [0, 2, 7] → X1_land_w0 (X2_rememberAheadOfHits_w0 F) (X2_rememberAheadOfHits_w0 G) MV i k = X2_rememberAheadOfHits_w0 F k := fun k hk => land0_k hk
        have k1 : X1_land_w1 (X2_rememberAheadOfHits_w0 G) MV i 15 = X2_rememberAheadOfHits_w0 G 15 := land1_k (by decide)
        have bp := c.pl hpr
        have bl := rlF.congr (F1 := X1_land_w0 (X2_rememberAheadOfHits_w0 F) (X2_rememberAheadOfHits_w0 G) MV i) (Nat.le_refl _) (k0 1 (by decide)) (Or.inl (k0 4 (by decide)))
        have h14 : X1_land_w0 (X2_rememberAheadOfHits_w0 F) (X2_rememberAheadOfHits_w0 G) MV i 14 = X1_land_w0 (X2_rememberAheadOfHits_w0 F) (X2_rememberAheadOfHits_w0 G) MV i 4 := by rw [k0 14 (by decide), k0 4 (by decide)]; exact r14F
        have h13 : X1_land_w0 (X2_rememberAheadOfHits_w0 F) (X2_rememberAheadOfHits_w0 G) MV i 13 = 0 ∨ X1_land_w0 (X2_rememberAheadOfHits_w0 F) (X2_rememberAheadOfHits_w0 G) MV i 13 = 3 → X1_land_w0 (X2_rememberAheadOfHits_w0 F) (X2_rememberAheadOfHits_w0 G) MV i 5 = -1 := by rw [k0 13 (by decide), k0 5 (by decide)]; exact r13F
        have b15 : ¬ X1_land_w0 (X2_rememberAheadOfHits_w0 F) (X2_rememberAheadOfHits_w0 G) MV i 15 = 0 := by rw [k0 15 (by decide)]; exact r15F
        have g15b : X1_land_w1 (X2_rememberAheadOfHits_w0 G) MV i 15 = 0 := k1.trans r15G
        have x15 : X1_land_w0 (X2_rememberAheadOfHits_w0 F) (X2_rememberAheadOfHits_w0 G) MV i 15 = F 15 := k0 15 (by decide)
        have y15 : X1_land_w1 (X2_rememberAheadOfHits_w0 G) MV i 15 = G 15 := k1
        generalize X1_land_w0 (X2_rememberAheadOfHits_w0 F) (X2_rememberAheadOfHits_w0 G) MV i = F1 at bF bp bl h14 h13 b15 x15 ⊢
        generalize X1_land_w1 (X2_rememberAheadOfHits_w0 G) MV i = G1 at a b bp g15b y15 ⊢
        obtain ⟨a2, b2⟩ := land1_B (MV := MV) (i := i2) ht bF bl h14 h13 hd2 s0 s1
        have c2 := landR_P (MV := MV) (i := i2) b15 g15b bp s2
        refine ⟨⟨a2, land0_B a s4, c2.pl bp⟩, b2, ⟨L1, hL1, b.congr (Nat.le_refl _) (land0_k (by decide)) (Or.inl (land0_k (by decide)))⟩, ?_, ?_⟩
        · rw [land1_k (by decide)]; exact x15
        · rw [land0_k (by decide)]; exact y15
      have parts : (fgB t n (X1_part_w1 F) ∧ fgB t n (X1_part_w2 G) ∧ plB (X1_part_w1 F) (X1_part_w2 G)) ∧ (∃ L1, LF ≤ L1 ∧ lfB (t + 1) L1 (X1_part_w1 F)) ∧ (∃ L1, LG ≤ L1 ∧ lfB (t + 1) L1 (X1_part_w2 G)) ∧ X1_part_w1 F 15 = F 15 ∧ X1_part_w2 G 15 = G 15 := by
        refine ⟨⟨part_B hF, part_B hG, (part_P f15 g15 hp).pl hp⟩, up lF (part_k (by decide)) (part_k (by decide)), up lG (part_k (by decide)) (part_k (by decide)), ?_, ?_⟩
        · unfold X1_part_w1; exact part_k (by decide)
        · unfold X1_part_w2; exact part_k (by decide)
      by_cases k1 : MV i 4 = 3
      · rw [if_pos k1, if_pos k1]
        by_cases k2 : MV i2 4 = 3
        · rw [if_pos k2, if_pos k2]
          exact parts
        · rw [if_neg k2, if_neg k2]
          exact both
      · rw [if_neg k1, if_neg k1]
        exact both
theorem stand_at {F : Nat → Int32} {k : Nat} (h : k ≠ 3 ∧ k ≠ 5 ∧ k ≠ 6 ∧ k ≠ 7 ∧ k ≠ 8) : X2_stand_w0 F k = F k := by
  obtain ⟨h3, h5, h6, h7, h8⟩ := h
  simp [X2_stand_w0, X2_leaveMove_w0, upd, h3, h5, h6, h7, h8]
theorem j28_at {F : Nat → Int32} {k : Nat} (h : k ≠ 6 ∧ k ≠ 7) : X2_endFrameOfMove_j28 F k = F k := by
  unfold X2_endFrameOfMove_j28
  split <;> simp [upd, h.1, h.2]
theorem eom_at {F : Nat → Int32} {x : Int32} {k : Nat} (h : k ≠ 3 ∧ k ≠ 5 ∧ k ≠ 6 ∧ k ≠ 7 ∧ k ≠ 8) : X2_endFrameOfMove_w0 F x k = F k := by
  unfold X2_endFrameOfMove_w0
  split
  · exact j28_at ⟨h.2.2.1, h.2.2.2.1⟩
  · rw [stand_at h]; exact j28_at ⟨h.2.2.1, h.2.2.2.1⟩
theorem e54_at {F : Nat → Int32} {MV : Nat → Nat → Int32} {k : Nat} (h : k ≠ 3 ∧ k ≠ 5 ∧ k ≠ 6 ∧ k ≠ 7 ∧ k ≠ 8) : X2_endFrame_j54 F MV k = F k := by
  unfold X2_endFrame_j54
  split
  · exact eom_at h
  · split
    · rfl
    · split
      · exact upd_n _ _ h.2.2.2.2
      · rw [stand_at h]; exact upd_n _ _ h.2.2.2.2
theorem stand_B {t n : Nat} {F : Nat → Int32} : dsB t n (X2_stand_w0 F) := Or.inr (Or.inl ⟨rfl, rfl, rfl⟩)
theorem e54_B {t n : Nat} {F : Nat → Int32} {MV : Nat → Nat → Int32} (h : fgB t n F) : dsB (t + 1) n (X2_endFrame_j54 F MV) := by
  obtain ⟨d, -, -⟩ := h
  unfold X2_endFrame_j54
  rcases d with ⟨a, b, k, hk, ek⟩ | ⟨a, b, c⟩ | ⟨a, b, k, hk, ek⟩
  · rw [if_pos a]
    unfold X2_endFrameOfMove_w0
    split
    · have e6 : X2_endFrameOfMove_j28 F 6 = F 6 + 1 := by unfold X2_endFrameOfMove_j28; split <;> simp [upd]
      refine Or.inl ⟨?_, ?_, k + 1, by omega, ?_⟩
      · rw [j28_at (by decide)]; exact a
      · rw [j28_at (by decide)]; exact b
      · rw [e6, ek, nI_1]
    · exact stand_B
  · rw [if_neg (by rw [a]; decide), if_pos a]
    exact Or.inr (Or.inl ⟨a, b, c⟩)
  · rw [if_neg (fun q => by rw [q] at a; rcases a with a | a <;> exact absurd a (by decide)), if_neg (fun q => by rw [q] at a; rcases a with a | a <;> exact absurd a (by decide))]
    split
    · rename_i c
      cases k with
      | zero =>
        rw [ek] at c
        exact absurd c (by decide)
      | succ k => exact Or.inr (Or.inr ⟨a, b, k, by omega, (show F 8 - 1 = nI k by rw [ek, nI_pred])⟩)
    · exact stand_B
theorem end_B {t n L : Nat} {F : Nat → Int32} {MV : Nat → Nat → Int32} (h : fgB t n F) (hl : lfB (t + 1) L F) : fgB (t + 1) n (X2_endFrame_w0 F MV) ∧ lfB (t + 1) L (X2_endFrame_w0 F MV) ∧ (¬ X2_endFrame_w0 F MV 3 = 2 → X2_endFrame_w0 F MV 4 = 0) ∧ X2_endFrame_w0 F MV 0 = F 0 ∧ X2_endFrame_w0 F MV 15 = F 15 ∧ X2_endFrame_w0 F MV 12 = F 12 ∧ X2_endFrame_w0 F MV 1 = F 1 := by
  have d := e54_B (MV := MV) h
  obtain ⟨-, k, m⟩ := h
  have j67 : ∀ k, k ≠ 4 → X2_endFrame_j67 F MV k = X2_endFrame_j54 F MV k := by
    intro k hk
    unfold X2_endFrame_j67
    split <;> simp [upd, hk]
  have wo : ∀ k, k ≠ 9 → k ≠ 10 → X2_endFrame_w0 F MV k = X2_endFrame_j67 F MV k := by
    intro k h9 h10
    unfold X2_endFrame_w0
    split
    · simp [upd, h10]
    · simp [X2_drop_w0, upd, h9, h10]
  have wE : ∀ k, k ≠ 4 → k ≠ 9 → k ≠ 10 → X2_endFrame_w0 F MV k = X2_endFrame_j54 F MV k := fun k h4 h9 h10 => (wo k h9 h10).trans (j67 k h4)
  have w9 : X2_endFrame_w0 F MV 9 = F 9 ∨ X2_endFrame_w0 F MV 9 = -1 := by
    unfold X2_endFrame_w0
    split
    · exact Or.inl ((upd_n _ _ (by decide)).trans ((j67 9 (by decide)).trans (e54_at (by decide))))
    · exact Or.inr rfl
  have w4 : X2_endFrame_w0 F MV 4 = F 4 ∨ X2_endFrame_w0 F MV 4 = 0 := by
    rw [wo 4 (by decide) (by decide)]
    unfold X2_endFrame_j67
    split
    · exact Or.inl (e54_at (by decide))
    · exact Or.inr rfl
  have w1 : X2_endFrame_w0 F MV 1 = F 1 := (wE 1 (by decide) (by decide) (by decide)).trans (e54_at (by decide))
  refine ⟨⟨?_, ?_, ?_⟩, hl.congr (Nat.le_refl _) w1 w4, ?_, (wE 0 (by decide) (by decide) (by decide)).trans (e54_at (by decide)), (wE 15 (by decide) (by decide) (by decide)).trans (e54_at (by decide)), (wE 12 (by decide) (by decide) (by decide)).trans (e54_at (by decide)), w1⟩
  · unfold dsB at *
    rw [wE 3 (by decide) (by decide) (by decide), wE 5 (by decide) (by decide) (by decide), wE 6 (by decide) (by decide) (by decide), wE 8 (by decide) (by decide) (by decide)]
    exact d
  · unfold kpB
    rcases w9 with e | e
    · rw [e]; exact k
    · exact Or.inl e
  · unfold mtB
    rw [wE 2 (by decide) (by decide) (by decide), e54_at (by decide)]
    exact m
  · rw [wE 3 (by decide) (by decide) (by decide), wo 4 (by decide) (by decide)]
    intro q
    unfold X2_endFrame_j67
    rw [if_neg q]
    exact upd_s _ _ _
/-- two figures between two frames, t frames behind the beginning -/
def duB (t n LF LG : Nat) (F G : Nat → Int32) : Prop := fgB t n F ∧ fgB t n G ∧ plB F G ∧ lfB t LF F ∧ lfB t LG G ∧ F 15 = 1 ∧ G 15 = 0 ∧ (¬ F 3 = 2 → F 4 = 0) ∧ (¬ G 3 = 2 → G 4 = 0)
theorem frame_B {t n LF LG : Nat} {F G : Nat → Int32} {MV : Nat → Nat → Int32} {one two : Int32} (hM : mvB n MV) (ht : t ≤ 2000) (h1 : inB n one) (h2 : inB n two) (h : duB t n LF LG F G) : ∃ L1 L2, LF ≤ L1 ∧ LG ≤ L2 ∧ duB (t + 1) n L1 L2 (X1_playFrame_w1 F G MV one two) (X1_playFrame_w2 F G MV one two) := by
  obtain ⟨hF, hG, hp, lF, lG, f15, g15, -, -⟩ := h
  have n1 : ∀ x : Int32, x = 1 → ¬ x = 0 := fun x q => by rw [q]; decide
  have a := fg_begin hM (fg_take hF h1)
  have b := fg_begin hM (fg_take hG h2)
  have tk : ∀ {H : Nat → Int32} {x : Int32} {k : Nat}, k ∈ [0, 1, 4, 15] → X2_beginKept_w0 (X2_take_w0 H x) MV k = H k := by
    intro H x k hk
    rw [begin_at (by revert hk; simp only [List.mem_cons, List.not_mem_nil, or_false]; omega)]
    exact take_k (by revert hk; simp only [List.mem_cons, List.not_mem_nil, or_false]; omega)
  have la := lF.congr (F1 := X2_beginKept_w0 (X2_take_w0 F one) MV) (Nat.le_refl _) (tk (by decide)) (Or.inl (tk (by decide)))
  have lb := lG.congr (F1 := X2_beginKept_w0 (X2_take_w0 G two) MV) (Nat.le_refl _) (tk (by decide)) (Or.inl (tk (by decide)))
  have a15 : X2_beginKept_w0 (X2_take_w0 F one) MV 15 = 1 := (tk (by decide)).trans f15
  have b15 : X2_beginKept_w0 (X2_take_w0 G two) MV 15 = 0 := by rw [tk (by decide)]; exact g15
  have hp1 : plB (X2_beginKept_w0 (X2_take_w0 F one) MV) (X2_beginKept_w0 (X2_take_w0 G two) MV) := by
    unfold plB
    rw [tk (by decide), tk (by decide)]
    exact hp
  unfold X1_playFrame_w1 X1_playFrame_w2
  generalize X2_beginKept_w0 (X2_take_w0 F one) MV = F1 at a la a15 hp1 ⊢
  generalize X2_beginKept_w0 (X2_take_w0 G two) MV = G1 at b lb b15 hp1 ⊢
  have wa : fgB t n (X1_walk_w1 F1 G1) := a.congr (walk1_at (by decide)) (walk1_at (by decide)) (walk1_at (by decide)) (walk1_at (by decide)) (walk1_at (by decide)) (walk1_at (by decide))
  have wb : fgB t n (X1_walk_w2 F1 G1) := b.congr (walk2_at (by decide)) (walk2_at (by decide)) (walk2_at (by decide)) (walk2_at (by decide)) (walk2_at (by decide)) (walk2_at (by decide))
  have wla := la.congr (F1 := X1_walk_w1 F1 G1) (Nat.le_refl _) (walk1_at (by decide)) (Or.inl (walk1_at (by decide)))
  have wlb := lb.congr (F1 := X1_walk_w2 F1 G1) (Nat.le_refl _) (walk2_at (by decide)) (Or.inl (walk2_at (by decide)))
  have wp := pl_walk (n1 _ a15) b15 hp1
  have w15 : X1_walk_w1 F1 G1 15 = 1 := (walk1_at (by decide)).trans a15
  have v15 : X1_walk_w2 F1 G1 15 = 0 := by rw [walk2_at (by decide)]; exact b15
  generalize X1_walk_w1 F1 G1 = F2 at wa wla wp w15 ⊢
  generalize X1_walk_w2 F1 G1 = G2 at wb wlb wp v15 ⊢
  obtain ⟨⟨s1, s2, s3⟩, ⟨L1, hL1, s4⟩, ⟨L2, hL2, s5⟩, s6, s7⟩ := strike_B hM ht wa wb wla wlb wp (n1 _ w15) v15
  have s6 := s6.trans w15
  have s7 := s7.trans v15
  generalize X1_strike_w1 F2 G2 MV = F3 at s1 s3 s4 s6 ⊢
  generalize X1_strike_w2 F2 G2 MV = G3 at s2 s3 s5 s7 ⊢
  obtain ⟨e1, e2, e3, e4, e5, -, -⟩ := end_B (MV := MV) s1 s4
  obtain ⟨o1, o2, o3, o4, o5, -, -⟩ := end_B (MV := MV) s2 s5
  refine ⟨L1, L2, hL1, hL2, e1, o1, ?_, e2, o2, ?_, o5.trans s7, e3, o3⟩
  · unfold plB
    rw [e4, o4]
    exact s3
  · exact e5.trans s6
/-- .. as a tape begins -/
theorem prep_B {n : Nat} {P Q : Nat → Int32} {ap lm rm : Int32} {a x y : Nat} (ea : ap = nI a) (ha : 20 ≤ a) (hb : a ≤ 300) (he : a % 2 = 0) (ex : lm = nI x) (hx : x ≤ 100) (ey : rm = nI y) (hy : y ≤ 100) (p15 : P 15 = 1) (q15 : Q 15 = 0) : duB 0 n 0 0 (X1_prepare_w1 P ap lm) (X1_prepare_w2 Q ap rm) := by
  have ed : ap / 2 = nI (a / 2) := by rw [ea, show (2 : Int32) = nI 2 from rfl, pk_div (by omega) (by omega) (by omega)]
  refine ⟨⟨Or.inr (Or.inl ⟨rfl, rfl, rfl⟩), Or.inl rfl, x, hx, ex⟩, ⟨Or.inr (Or.inl ⟨rfl, rfl, rfl⟩), Or.inl rfl, y, hy, ey⟩, ?_, ⟨⟨0, by omega, rfl, fun q => absurd q (by decide)⟩, by omega, (show (1000 : Int32) = 1000 - nI 0 by decide)⟩, ⟨⟨0, by omega, rfl, fun q => absurd q (by decide)⟩, by omega, (show (1000 : Int32) = 1000 - nI 0 by decide)⟩, p15, q15, fun _ => rfl, fun _ => rfl⟩
  have e1 : (300 - ap / 2 : Int32).toInt = 300 - (a / 2 : Nat) := by rw [ed]; exact pk_sub_toInt (a := 300) (by decide) (by omega)
  have e2 : (300 + ap / 2 : Int32).toInt = 300 + (a / 2 : Nat) := by rw [ed, show (300 : Int32) = nI 300 from rfl, nI_add, nI_toInt (by omega)]; omega
  show 0 ≤ (300 - ap / 2 : Int32).toInt ∧ (300 - ap / 2 : Int32).toInt + 20 ≤ (300 + ap / 2 : Int32).toInt ∧ (300 + ap / 2 : Int32).toInt ≤ 600
  rw [e1, e2]
  omega
theorem rep_B {MV : Nat → Nat → Int32} {on tw F G : Nat → Int32} {n LF LG : Nat} (hM : mvB n MV) (h : duB 0 n LF LG F G) (k : Nat) : k ≤ 2000 → (∀ m, m < k → inB n (on m) ∧ inB n (tw m)) → ∃ L1 L2, LF ≤ L1 ∧ LG ≤ L2 ∧ duB k n L1 L2 (rep MV on tw F G k).1 (rep MV on tw F G k).2 := by
  induction k with
  | zero => intro _ _; rw [rep]; exact ⟨LF, LG, Nat.le_refl _, Nat.le_refl _, h⟩
  | succ k ih =>
    intro hk hin
    obtain ⟨L1, L2, h1, h2, hd⟩ := ih (by omega) (fun m hm => hin m (by omega))
    obtain ⟨L3, L4, h3, h4, hd2⟩ := frame_B hM (by omega) (hin k (by omega)).1 (hin k (by omega)).2 hd
    rw [rep_s1, rep_s2]
    exact ⟨L3, L4, by omega, by omega, hd2⟩
