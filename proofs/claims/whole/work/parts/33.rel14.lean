theorem sub_self2 (a b : Int32) : a - (a - b) = b := by
  rw [Int32.sub_eq_add_neg, Int32.neg_sub, Int32.add_comm, Int32.sub_add_cancel]
theorem block_lt {tb : Nat → Int32} {f m : Int32} : X8_blocking_r tb f m < 10 := by
  unfold X8_blocking_r
  split
  · split <;> decide
  · decide
theorem life_lop {MV : Nat → Nat → Int32} {tb F0 G0 s0 g0 : Nat → Int32} {guard : Int32} {cnt i b : Nat} (hT : relT MV tb cnt) (hV : relV MV cnt) (hC : relC MV cnt) (hD : relD MV cnt) (hi : i < cnt) (hb : b < cnt) (hg : okIn cnt guard) (h : relS MV cnt F0 G0 s0) (hF : lifeI 0 F0) (hG : lifeI 0 G0) (hq : quiet G0) (h1 : F0 1 = 1000) : ∀ n, n ≤ 200 →
    lifeI n (X3_lop_it MV (nI b) guard (nI i) (F0, G0, 0, 0) n).1 ∧ lifeI n (X3_lop_it MV (nI b) guard (nI i) (F0, G0, 0, 0) n).2.1 ∧ ((X3_lop_it MV (nI b) guard (nI i) (F0, G0, 0, 0) n).2.2.1 = 0 → quiet (X3_lop_it MV (nI b) guard (nI i) (F0, G0, 0, 0) n).2.1 ∧ (X3_lop_it MV (nI b) guard (nI i) (F0, G0, 0, 0) n).1 1 = 1000)
  | 0, _ => ⟨hF, hG, fun _ => ⟨hq, h1⟩⟩
  | n + 1, hn => by
    have ih := life_lop (g0 := g0) hT hV hC hD hi hb hg h hF hG hq h1 n (by omega)
    have ir := rel_los (g0 := g0) hT hV hC hi hb hg h n (by omega)
    rw [X3_lop_it]
    generalize X3_lop_it MV (nI b) guard (nI i) (F0, G0, 0, 0) n = x at ih ir ⊢
    generalize X8_los_it tb (nI b) guard (nI i) (g0, s0, 0) n = y at ir
    obtain ⟨F, G, p, q⟩ := x
    obtain ⟨g, sA, c⟩ := y
    obtain ⟨hS, hP⟩ := ir
    obtain ⟨iF, iG, iq⟩ := ih
    simp only at hS hP iF iG iq
    obtain ⟨e80, -⟩ := rel_j80 (tb := tb) (b := b) hT hV hi (show n < 900 by omega) hP hS.2.1.2.2.2.1
    obtain ⟨l1, l2, l3⟩ := life_frame hT hV hC hD hS (okIn_j109 (j := n) hi hg) (okIn_j80 (tb := tb) (sA := sA) (i := i) (j := n) (ph := c) hb) iF iG (by omega)
    unfold X3_lop_step X3_lossOfPunished_j127
    simp only [e80, rel_j98 (guard := guard) (i := i) (show n < 900 by omega)]
    refine ⟨l1, l2, fun z => ?_⟩
    have hp : p = 0 := by
      by_cases k : p = 0
      · exact k
      · rw [if_neg k] at z; exact absurd z (by decide)
    have e2 : X8_lossBy_j80 tb (nI b) n (nI i) c sA = X8_blocking_r tb (nI n) (nI i) := by
      have hc : c = 0 := by
        rcases hP with ⟨_, _, k⟩ | ⟨k, _, _⟩ | ⟨k, _, _⟩
        · exact k
        · rw [hp] at k; exact absurd k (by decide)
        · rw [hp] at k; exact absurd k (by decide)
      subst hc
      rfl
    obtain ⟨iq1, iq2⟩ := iq hp
    obtain ⟨a, b⟩ := l3 (by rw [e2]; exact block_lt) iq1
    exact ⟨a, b.trans iq2⟩
theorem rel_lossBy {MV : Nat → Nat → Int32} {tb F G sA g : Nat → Int32} {guard : Int32} {cnt i b : Nat} (hT : relT MV tb cnt) (hV : relV MV cnt) (hC : relC MV cnt) (hD : relD MV cnt) (hi : i < cnt) (hb : b < cnt) (hg : okIn cnt guard) (f15 : ¬ F 15 = 0) (g15 : G 15 = 0) :
    (∃ v, v ≤ 48000 ∧ X3_lossOfPunished_r F G MV (nI b) guard (nI i) = nI v ∧ (X8_lossBy_r g tb sA (nI b) guard (nI i) = nI v ∨ (X8_lossBy_r g tb sA (nI b) guard (nI i) = -1 ∧ v = 0))) ∧ (¬ X3_lossOfPunished_w2 F G MV (nI b) guard (nI i) 15 = 0) ∧ X3_lossOfPunished_w3 F G MV (nI b) guard (nI i) 15 = 0 := by
  have hS := relS_lay (MV := MV) (cnt := cnt) (sA := sA) (ap := 20) (lm := 100) (rm := 100) (pl := 290) (ot := 310) f15 g15 (by decide) (by decide) (by decide) (by decide)
  have h := rel_los (g0 := g) hT hV hC hi hb hg hS 200 (Nat.le_refl _)
  have k := life_lop (g0 := g) hT hV hC hD hi hb hg hS ⟨⟨0, by omega, rfl⟩, 0, by omega, rfl⟩ ⟨⟨0, by omega, rfl⟩, 0, by omega, rfl⟩ ⟨show ¬ (0 : Int32) = 1 by decide, rfl⟩ rfl 200 (Nat.le_refl _)
  unfold X3_lossOfPunished_r X8_lossBy_r X3_lossOfPunished_w2 X3_lossOfPunished_w3
  generalize X3_lop_it MV (nI b) guard (nI i) (X1_prepare_w1 F 20 100, X1_prepare_w2 G 20 100, 0, 0) 200 = x at h k ⊢
  generalize X8_los_it tb (nI b) guard (nI i) (g, X8_lay_w2 sA 100 310 100 290, 0) 200 = y at h ⊢
  obtain ⟨F, G, p, q⟩ := x
  obtain ⟨g, sA, c⟩ := y
  obtain ⟨hS', hP⟩ := h
  obtain ⟨⟨-, L, hL, eL⟩, -, kq⟩ := k
  simp only at hS' hP eL kq ⊢
  refine ⟨⟨L, by omega, ?_, ?_⟩, hS'.2.2.2.2.1, hS'.2.2.2.2.2⟩
  · rw [eL, sub_self2]
  · by_cases hc : c = 0
    · have hp : p = 0 := by
        rcases hP with ⟨k, _, _⟩ | ⟨_, _, k⟩ | ⟨_, _, k⟩
        · exact k
        · rw [hc] at k; exact absurd k (by decide)
        · rw [hc] at k; exact absurd k (by decide)
      right
      refine ⟨if_pos hc, ?_⟩
      have e := (kq hp).2
      rw [eL] at e
      have e1 := congrArg (fun z => (1000 : Int32) - z) e
      simp only [sub_self2] at e1
      have e2 := congrArg Int32.toInt e1
      rw [nI_toInt (by omega), show ((1000 : Int32) - 1000).toInt = 0 from rfl] at e2
      omega
    · left
      rw [if_neg hc, ← hS'.1.2.1, eL, sub_self2]
theorem rel_punish {MV : Nat → Nat → Int32} {tb F G sA g : Nat → Int32} {cnt i b : Nat} (hT : relT MV tb cnt) (hV : relV MV cnt) (hC : relC MV cnt) (hD : relD MV cnt) (hi : i < cnt) (hb : b < cnt) (f15 : ¬ F 15 = 0) (g15 : G 15 = 0) (hin : ¬ X8_in_r (g 1 - 1) 0 (nI i) = 0) (hin2 : ¬ X8_in_r (g 1 - 1) 0 (nI b) = 0) :
    (if X3_lossOfPunished_r F G MV (nI b) 2 (nI i) ≤ X3_lossOfPunished_r (X3_lossOfPunished_w2 F G MV (nI b) 2 (nI i)) (X3_lossOfPunished_w3 F G MV (nI b) 2 (nI i)) MV (nI b) 4 (nI i) then X3_lossOfPunished_r F G MV (nI b) 2 (nI i) else X3_lossOfPunished_r (X3_lossOfPunished_w2 F G MV (nI b) 2 (nI i)) (X3_lossOfPunished_w3 F G MV (nI b) 2 (nI i)) MV (nI b) 4 (nI i)) = X8_punish_r g tb sA (nI b) (nI i) := by
  obtain ⟨⟨v2, hv2, c2, m2⟩, f15', g15'⟩ := rel_lossBy (g := upd g 12 0) (sA := sA) hT hV hC hD hi hb (okIn_2 (cnt := cnt)) f15 g15
  obtain ⟨⟨v4, hv4, c4, m4⟩, -, -⟩ := rel_lossBy (g := X8_lossBy_w0 (upd g 12 0) tb sA (nI b) 2 (nI i)) (sA := X8_lossBy_w2 (upd g 12 0) tb sA (nI b) 2 (nI i)) hT hV hC hD hi hb (okIn_4 (cnt := cnt)) f15' g15'
  unfold X8_punish_r
  rw [if_neg hin, if_neg hin2, c2, c4]
  unfold X8_punish_j59
  generalize X8_lossBy_r (upd g 12 0) tb sA (nI b) 2 (nI i) = a2 at m2 ⊢
  generalize X8_lossBy_r (X8_lossBy_w0 (upd g 12 0) tb sA (nI b) 2 (nI i)) tb (X8_lossBy_w2 (upd g 12 0) tb sA (nI b) 2 (nI i)) (nI b) 4 (nI i) = a4 at m4 ⊢
  have hpos : ∀ v, v ≤ 48000 → ¬ nI v ≤ -1 := by
    intro v hv q
    have q1 := Int32.le_iff_toInt_le.mp q
    rw [nI_toInt (by omega), show (-1 : Int32).toInt = -1 from rfl] at q1
    omega
  have hm : ∀ v, v ≤ 48000 → (-1 : Int32) ≤ nI v := by
    intro v hv
    refine Int32.le_iff_toInt_le.mpr ?_
    rw [nI_toInt (by omega), show (-1 : Int32).toInt = -1 from rfl]
    omega
  have n1 : ¬ (0 : Int32) ≤ -1 := by decide
  rcases m2 with e2 | ⟨e2, z2⟩ <;> rcases m4 with e4 | ⟨e4, z4⟩ <;> rw [e2, e4]
  · by_cases c : nI v4 ≤ nI v2
    · rw [if_pos c, if_pos (nI_pos' (by omega))]
      by_cases d : nI v2 ≤ nI v4
      · rw [if_pos d]
        exact Int32.le_antisymm d c
      · rw [if_neg d]
    · have d : nI v2 ≤ nI v4 := by
        rw [nI_leI (by omega) (by omega)] at c ⊢
        omega
      rw [if_neg c, if_pos (nI_pos' (by omega)), if_pos d]
  · subst z4
    rw [if_pos (hm v2 hv2), if_neg n1]
    by_cases d : nI v2 ≤ nI 0
    · rw [if_pos d]
      rw [nI_leI (by omega) (by omega)] at d
      rw [show v2 = 0 by omega]; rfl
    · rw [if_neg d]; rfl
  · subst z2
    rw [if_neg (hpos v4 hv4), if_neg n1, if_pos (nI_le (by omega) (by omega))]
    rfl
  · subst z2 z4
    rw [if_pos (Int32.le_refl (nI 0)), if_pos (Int32.le_refl (-1)), if_neg n1]
    rfl
