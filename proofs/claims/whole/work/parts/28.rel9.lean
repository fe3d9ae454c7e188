/-! a whole frame -/
def relC (MV : Nat → Nat → Int32) (cnt : Nat) : Prop := ∀ i, i < cnt → ∃ c, c ≤ 60 ∧ MV i 9 = nI c
/-- an input that a round takes -/
def okIn (cnt : Nat) (x : Int32) : Prop := x < 10 ∨ isMv cnt (x - 10)
theorem figI_congr {cnt : Nat} {MV : Nat → Nat → Int32} {F F1 : Nat → Int32} (h : figI cnt MV F) (h2 : F1 2 = F 2) (h3 : F1 3 = F 3) (h5 : F1 5 = F 5) (h6 : F1 6 = F 6) (h8 : F1 8 = F 8) (h9 : F1 9 = F 9) (h10 : F1 10 = F 10) : figI cnt MV F1 := by
  unfold figI at *
  rw [h2, h3, h5, h6, h8, h9, h10]
  exact h
theorem figI_take {cnt : Nat} {MV : Nat → Nat → Int32} {F : Nat → Int32} {x : Int32} (h : figI cnt MV F) (hx : okIn cnt x) : figI cnt MV (X2_take_w0 F x) := by
  unfold X2_take_w0
  split
  · exact figI_congr h rfl rfl rfl rfl rfl rfl rfl
  · rename_i c
    obtain ⟨iA, iB, iE, iD, iK, iT, iM⟩ := h
    exact ⟨iA, iB, iE, iD, Or.inr (hx.resolve_left c), ⟨5, by omega, rfl⟩, iM⟩
theorem take_at {F : Nat → Int32} {x : Int32} : X2_take_w0 F x 11 = x ∧ X2_take_w0 F x 12 = 0 ∧ X2_take_w0 F x 15 = F 15 := by
  unfold X2_take_w0
  split <;> exact ⟨rfl, rfl, rfl⟩
theorem begin_at {F : Nat → Int32} {MV : Nat → Nat → Int32} {k : Nat} (h : k ∈ [0, 1, 4, 8, 11, 15]) : X2_beginKept_w0 F MV k = F k := by
  have hk : k ≠ 2 ∧ k ≠ 3 ∧ k ≠ 5 ∧ k ≠ 6 ∧ k ≠ 7 ∧ k ≠ 9 ∧ k ≠ 10 ∧ k ≠ 12 := by
    revert h; simp only [List.mem_cons, List.not_mem_nil, or_false]; omega
  obtain ⟨k2, k3, k5, k6, k7, k9, k10, k12⟩ := hk
  unfold X2_beginKept_w0
  repeat' split
  all_goals first | rfl | simp [X2_drop_w0, upd, k2, k3, k5, k6, k7, k9, k10, k12]
theorem figI_begin {MV : Nat → Nat → Int32} {tb : Nat → Int32} {F : Nat → Int32} {cnt : Nat} (hT : relT MV tb cnt) (hV : relV MV cnt) (hC : relC MV cnt) (h : figI cnt MV F) : figI cnt MV (X2_beginKept_w0 F MV) := by
  obtain ⟨iA, iB, iE, iD, iK, iT, iM⟩ := id h
  have hc := hT.1
  unfold X2_beginKept_w0
  split
  · exact h
  · rename_i c9
    obtain ⟨i, hi, ei⟩ := iK.resolve_left c9
    split
    · exact h
    · rename_i cm
      split
      · exact h
      · obtain ⟨⟨a, ha1, ha2, ea⟩, ⟨b, hb1, hb2, eb⟩, ⟨c, hc1, hc2, ec⟩⟩ := hV i hi
        obtain ⟨k, hk, ek⟩ := hC i hi
        have et : X4_trait_r (MV (mi (F 9))) 3 = nI k := by rw [ei, mi_nI (by omega)]; exact ek
        rw [et] at cm ⊢
        refine ⟨fun _ => ⟨i, hi, ei, 0, a, b, c, rfl, ea, eb, ec, by omega, by omega⟩, fun q => absurd rfl q, fun q => absurd (show (1 : Int32) = 0 from q) (by decide), Or.inr (Or.inl rfl), Or.inl rfl, ⟨0, by omega, rfl⟩, ?_⟩
        show F 2 - nI k ≤ 100
        have h0 : nI k ≤ F 2 := Int32.not_lt.mp cm
        have hn : ¬ F 2 < 0 := by
          intro q
          have q1 := Int32.lt_iff_toInt_lt.mp q
          have q2 := Int32.le_iff_toInt_le.mp h0
          rw [nI_toInt (by omega)] at q2
          have e0 : (0 : Int32).toInt = 0 := rfl
          omega
        obtain ⟨j, hj, ej⟩ := nI_of hn
        rw [ej] at h0 iM ⊢
        have h1 := (nI_leI (by omega) hj).mp h0
        have h2 : j ≤ 100 := (nI_leI hj (by decide)).mp (show nI j ≤ nI 100 from iM)
        rw [pk_sub h1]
        exact nI_le (show j - k ≤ 100 by omega) (by decide)
theorem figI_st {cnt : Nat} {MV : Nat → Nat → Int32} {F F1 : Nat → Int32} (h : figI cnt MV F) (s : stOK F F1) : figI cnt MV F1 := by
  obtain ⟨iA, iB, iE, iD, iK, iT, iM⟩ := h
  obtain ⟨s1, s2, s3⟩ := s
  have e9 := s1 9 (by decide)
  have e10 := s1 10 (by decide)
  unfold figI
  rw [e9, e10]
  rcases s2 with ⟨h3, h5⟩ | ⟨h3, h5, h6, h8, -⟩
  · refine ⟨fun q => (ne1 h3 q).elim, fun _ => h5, fun q => ?_, Or.inr (Or.inr h3), iK, iT, s3 iM⟩
    rw [q] at h3
    rcases h3 with h3 | h3 <;> exact absurd h3 (by decide)
  · rw [h3, h5, h6, h8]
    exact ⟨iA, iB, iE, iD, iK, iT, s3 iM⟩
theorem figI_mL {cnt : Nat} {MV : Nat → Nat → Int32} {F : Nat → Int32} (h : figI cnt MV F) : F 3 = 1 → isMv cnt (F 5) ∧ ∃ n, n < 100 ∧ F 6 = nI n := by
  intro q
  obtain ⟨i, hi, ei, n, a, b, c, en, -, -, -, hn, h80⟩ := h.1 q
  exact ⟨⟨i, hi, ei⟩, n, by omega, en⟩
theorem rel_frame {MV : Nat → Nat → Int32} {tb F G sA : Nat → Int32} {cnt : Nat} {one two : Int32} (hT : relT MV tb cnt) (hV : relV MV cnt) (hC : relC MV cnt) (hL : relL F sA) (hR : relR G sA) (iL : figI cnt MV F) (iR : figI cnt MV G) (f15 : ¬ F 15 = 0) (g15 : G 15 = 0) (h1 : okIn cnt one) (h2 : okIn cnt two) :
    relL (X1_playFrame_w1 F G MV one two) (X8_frame_w2 tb sA one two) ∧ relR (X1_playFrame_w2 F G MV one two) (X8_frame_w2 tb sA one two) ∧ figI cnt MV (X1_playFrame_w1 F G MV one two) ∧ figI cnt MV (X1_playFrame_w2 F G MV one two) ∧ (¬ X1_playFrame_w1 F G MV one two 15 = 0) ∧ X1_playFrame_w2 F G MV one two 15 = 0 ∧ X1_playFrame_w1 F G MV one two 12 = X8_beginKept0_r tb (X8_keepInput11_w2 (X8_keepInput0_w2 sA one) two) := by
  -- inputs
  have L1 := k11_L (x := two) (rel_takeL (x := one) hL)
  have R1 := rel_takeR (x := two) (k0_R (x := one) hR)
  have I1 := figI_take iL h1
  have J1 := figI_take iR h2
  obtain ⟨p11, p12, p15⟩ := take_at (F := F) (x := one)
  obtain ⟨q11, q12, q15⟩ := take_at (F := G) (x := two)
  -- moves begin
  obtain ⟨L2, r12⟩ := rel_beginL (cnt := cnt) hT L1 (by rw [← L1.2.2.2.2.2.2.1]; exact I1.2.2.2.2.1) (fun q => by rw [← L1.2.2.2.2.1]; exact (figI_mL I1 (L1.2.2.2.1.trans q)).1) p12
  have L2b := b11_L (tb := tb) L2
  have R1b := b0_R (tb := tb) R1
  have R2 := rel_beginR (cnt := cnt) hT R1b (by rw [← R1b.2.2.2.2.2.2.1]; exact J1.2.2.2.2.1) (fun q => by rw [← R1b.2.2.2.2.1]; exact (figI_mL J1 (R1b.2.2.2.1.trans q)).1)
  have I2 := figI_begin hT hV hC I1
  have J2 := figI_begin hT hV hC J1
  -- walking
  have F11 : X2_beginKept_w0 (X2_take_w0 F one) MV 11 = one := (begin_at (by decide)).trans p11
  have G11 : X2_beginKept_w0 (X2_take_w0 G two) MV 11 = two := (begin_at (by decide)).trans q11
  have F15 : ¬ X2_beginKept_w0 (X2_take_w0 F one) MV 15 = 0 := by rw [begin_at (by decide), p15]; exact f15
  have G15 : X2_beginKept_w0 (X2_take_w0 G two) MV 15 = 0 := by rw [begin_at (by decide), q15]; exact g15
  obtain ⟨L3, R3⟩ := rel_walk L2b R2 F11 G11 F15 G15
  have I3 := figI_congr (F1 := X1_walk_w1 (X2_beginKept_w0 (X2_take_w0 F one) MV) (X2_beginKept_w0 (X2_take_w0 G two) MV)) I2 (walk1_at (by decide)) (walk1_at (by decide)) (walk1_at (by decide)) (walk1_at (by decide)) (walk1_at (by decide)) (walk1_at (by decide)) (walk1_at (by decide))
  have J3 := figI_congr (F1 := X1_walk_w2 (X2_beginKept_w0 (X2_take_w0 F one) MV) (X2_beginKept_w0 (X2_take_w0 G two) MV)) J2 (walk2_at (by decide)) (walk2_at (by decide)) (walk2_at (by decide)) (walk2_at (by decide)) (walk2_at (by decide)) (walk2_at (by decide)) (walk2_at (by decide))
  -- strikes
  obtain ⟨L4, R4, sL, sR⟩ := rel_strike hT hV L3 R3 (by rw [walk1_at (by decide)]; exact F15) (by rw [walk2_at (by decide)]; exact G15) ((walk1_at (by decide)).trans F11) ((walk2_at (by decide)).trans G11) (figI_mL I3) (figI_mL J3) I3.2.1 J3.2.1 I3.2.2.2.2.2.2 J3.2.2.2.2.2.2
  have I4 := figI_st I3 sL
  have J4 := figI_st J3 sR
  -- the end
  obtain ⟨L5, I5, kL, oL, -, -⟩ := endL hT L4 I4
  have R4b : relR (X1_strike_w2 (X1_walk_w1 (X2_beginKept_w0 (X2_take_w0 F one) MV) (X2_beginKept_w0 (X2_take_w0 G two) MV)) (X1_walk_w2 (X2_beginKept_w0 (X2_take_w0 F one) MV) (X2_beginKept_w0 (X2_take_w0 G two) MV)) MV) (X8_comeOn0_w2 tb (X8_hitBoth_w2 tb (X8_go_w2 (X8_beginKept11_w2 tb (X8_beginKept0_w2 tb (X8_keepInput11_w2 (X8_keepInput0_w2 sA one) two))) one two) one two)) := by
    unfold relR at *
    rw [oL 11 (by decide), oL 12 (by decide), oL 13 (by decide), oL 14 (by decide), oL 15 (by decide), oL 16 (by decide), oL 17 (by decide), oL 18 (by decide), oL 19 (by decide), oL 20 (by decide)]
    exact R4
  obtain ⟨R5, J5, kR, oR, -, -⟩ := endR hT R4b J4
  have L5b : relL (X1_playFrame_w1 F G MV one two) (X8_frame_w2 tb sA one two) := by
    unfold X8_frame_w2
    unfold relL at *
    rw [oR 0 (by decide), oR 1 (by decide), oR 2 (by decide), oR 3 (by decide), oR 4 (by decide), oR 5 (by decide), oR 6 (by decide), oR 7 (by decide), oR 8 (by decide), oR 9 (by decide)]
    exact L5
  refine ⟨L5b, R5, I5, J5, ?_, ?_, ?_⟩
  · unfold X1_playFrame_w1
    rw [kL 15 (by decide), sL.1 15 (by decide), walk1_at (by decide)]
    exact F15
  · unfold X1_playFrame_w2
    rw [kR 15 (by decide), sR.1 15 (by decide), walk2_at (by decide)]
    exact G15
  · unfold X1_playFrame_w1
    rw [kL 12 (by decide), sL.1 12 (by decide), walk1_at (by decide)]
    exact r12
