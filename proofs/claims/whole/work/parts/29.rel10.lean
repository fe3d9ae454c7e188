/-- a round's state on both sides: the two figures of the class and the model's row -/
def relS (MV : Nat → Nat → Int32) (cnt : Nat) (F G sA : Nat → Int32) : Prop := relL F sA ∧ relR G sA ∧ figI cnt MV F ∧ figI cnt MV G ∧ (¬ F 15 = 0) ∧ G 15 = 0
theorem relS_frame {MV : Nat → Nat → Int32} {tb F G sA : Nat → Int32} {cnt : Nat} {one two : Int32} (hT : relT MV tb cnt) (hV : relV MV cnt) (hC : relC MV cnt) (h : relS MV cnt F G sA) (h1 : okIn cnt one) (h2 : okIn cnt two) : relS MV cnt (X1_playFrame_w1 F G MV one two) (X1_playFrame_w2 F G MV one two) (X8_frame_w2 tb sA one two) := by
  obtain ⟨hL, hR, iL, iR, f15, g15⟩ := h
  obtain ⟨a, b, c, d, e, f, -⟩ := rel_frame hT hV hC hL hR iL iR f15 g15 h1 h2
  exact ⟨a, b, c, d, e, f⟩
theorem relS_12 {MV : Nat → Nat → Int32} {tb F G sA : Nat → Int32} {cnt : Nat} {one two : Int32} (hT : relT MV tb cnt) (hV : relV MV cnt) (hC : relC MV cnt) (h : relS MV cnt F G sA) (h1 : okIn cnt one) (h2 : okIn cnt two) : X1_playFrame_w1 F G MV one two 12 = X8_beginKept0_r tb (X8_keepInput11_w2 (X8_keepInput0_w2 sA one) two) := by
  obtain ⟨hL, hR, iL, iR, f15, g15⟩ := h
  obtain ⟨-, -, -, -, -, -, a⟩ := rel_frame hT hV hC hL hR iL iR f15 g15 h1 h2
  exact a
theorem relS_lay {MV : Nat → Nat → Int32} {F G sA : Nat → Int32} {cnt : Nat} {ap lm rm pl ot : Int32} (f15 : ¬ F 15 = 0) (g15 : G 15 = 0) (e1 : 300 - ap / 2 = pl) (e2 : 300 + ap / 2 = ot) (m1 : lm ≤ 100) (m2 : rm ≤ 100) : relS MV cnt (X1_prepare_w1 F ap lm) (X1_prepare_w2 G ap rm) (X8_lay_w2 sA lm ot rm pl) := by
  unfold X1_prepare_w1 X1_prepare_w2
  rw [e1, e2]
  refine ⟨⟨rfl, rfl, rfl, rfl, rfl, rfl, rfl, rfl, fun q => absurd q ?_, fun _ => rfl, fun q => absurd q ?_⟩, ⟨rfl, rfl, rfl, rfl, rfl, rfl, rfl, rfl, fun q => absurd q ?_, fun _ => rfl, fun q => absurd q ?_⟩, ⟨fun q => absurd q ?_, fun _ => rfl, fun _ => rfl, Or.inl rfl, Or.inl rfl, ⟨0, by omega, rfl⟩, m1⟩, ⟨fun q => absurd q ?_, fun _ => rfl, fun _ => rfl, Or.inl rfl, Or.inl rfl, ⟨0, by omega, rfl⟩, m2⟩, f15, g15⟩
  all_goals exact show ¬ ((0 : Int32) = 1) by decide
theorem okIn_mv {cnt i : Nat} (h : i < cnt) : okIn cnt (10 + nI i) := Or.inr ⟨i, h, by rw [Int32.add_comm, Int32.add_sub_cancel]⟩
theorem okIn_0 {cnt : Nat} : okIn cnt 0 := Or.inl (by decide)
theorem okIn_2 {cnt : Nat} : okIn cnt 2 := Or.inl (by decide)
theorem okIn_4 {cnt : Nat} : okIn cnt 4 := Or.inl (by decide)
theorem rel_block {MV : Nat → Nat → Int32} {tb : Nat → Int32} {cnt i j : Nat} (hT : relT MV tb cnt) (hV : relV MV cnt) (h : i < cnt) (hj : j < 900) : X3_inputToBlock_r MV (nI (j + 1)) (nI i) = X8_blocking_r tb (nI j) (nI i) := by
  obtain ⟨⟨n, -, hn, en⟩, -, -⟩ := hV i h
  have h6 := hT.1
  unfold X3_inputToBlock_r X8_blocking_r
  rw [show X8_ofMove_r tb (nI i) 0 = MV i 0 from hT.2.1 i h 0 (by omega), show X8_ofMove_r tb (nI i) 4 = MV i 4 from hT.2.1 i h 4 (by omega), mi_nI (by omega), en]
  have e : nI n < nI (j + 1) ↔ nI n ≤ nI j := by
    rw [nI_ltI (by omega) (by omega), nI_leI (by omega) (by omega)]
    omega
  by_cases c : nI n ≤ nI j
  · rw [if_pos c, if_pos (e.mpr c)]
  · rw [if_neg c, if_neg (fun q => c (e.mp q))]
theorem okIn_block {tb : Nat → Int32} {cnt : Nat} {f m : Int32} : okIn cnt (X8_blocking_r tb f m) := by
  unfold X8_blocking_r
  split
  · split
    · exact okIn_4
    · exact okIn_2
  · exact okIn_0
theorem one_0 {j : Nat} (h : j < 900) : nI (j + 1) = 1 ↔ nI j = 0 := by
  constructor
  · intro q
    have q1 := congrArg Int32.toInt q
    rw [nI_toInt (by omega), show (1 : Int32).toInt = 1 from rfl] at q1
    have : j = 0 := by omega
    rw [this]; rfl
  · intro q
    have q1 := congrArg Int32.toInt q
    rw [nI_toInt (by omega), show (0 : Int32).toInt = 0 from rfl] at q1
    have : j = 0 := by omega
    rw [this]; rfl
theorem rel_j43 {i j : Nat} (h : j < 900) : X3_framesAhead_j43 j (nI i) = X8_advantage_j66 j (nI i) := by
  unfold X3_framesAhead_j43 X8_advantage_j66 X7_inputOf_r
  by_cases c : nI j = 0
  · rw [if_pos c, if_pos ((one_0 h).mpr c)]
  · rw [if_neg c, if_neg (fun q => c ((one_0 h).mp q))]
theorem okIn_j66 {cnt i j : Nat} (h : i < cnt) : okIn cnt (X8_advantage_j66 j (nI i)) := by
  unfold X8_advantage_j66
  split
  · exact okIn_mv h
  · exact okIn_0
theorem rel_j66 {MV : Nat → Nat → Int32} {tb : Nat → Int32} {isB : Int32} {cnt i j : Nat} (hT : relT MV tb cnt) (hV : relV MV cnt) (h : i < cnt) (hj : j < 900) : X3_framesAhead_j66 MV isB j (nI i) = X8_advantage_j81 tb isB j (nI i) := by
  unfold X3_framesAhead_j66 X8_advantage_j81
  rw [rel_block hT hV h hj]
theorem okIn_j81 {tb : Nat → Int32} {isB : Int32} {cnt i j : Nat} : okIn cnt (X8_advantage_j81 tb isB j (nI i)) := by
  unfold X8_advantage_j81
  split
  · exact okIn_0
  · exact okIn_block
theorem nI_2 (j : Nat) : nI (j + 1) + 1 = nI j + 2 := by
  show nI (j + 1) + nI 1 = nI j + nI 2
  rw [nI_add, nI_add]
theorem rel_adv {MV : Nat → Nat → Int32} {tb F0 G0 s0 g0 : Nat → Int32} {isB : Int32} {cnt i : Nat} (hT : relT MV tb cnt) (hV : relV MV cnt) (hC : relC MV cnt) (hi : i < cnt) (h : relS MV cnt F0 G0 s0) : ∀ n, n ≤ 200 →
    relS MV cnt (X3_fah_it MV isB (nI i) (F0, G0, 0, 0) n).1 (X3_fah_it MV isB (nI i) (F0, G0, 0, 0) n).2.1 (X8_adv_it tb isB (nI i) (g0, s0, 0, 0) n).2.1 ∧ (X3_fah_it MV isB (nI i) (F0, G0, 0, 0) n).2.2 = (X8_adv_it tb isB (nI i) (g0, s0, 0, 0) n).2.2
  | 0, _ => ⟨h, rfl⟩
  | n + 1, hn => by
    have ih := rel_adv (isB := isB) (g0 := g0) hT hV hC hi h n (by omega)
    rw [X3_fah_it, X8_adv_it]
    generalize X3_fah_it MV isB (nI i) (F0, G0, 0, 0) n = x at ih ⊢
    generalize X8_adv_it tb isB (nI i) (g0, s0, 0, 0) n = y at ih ⊢
    obtain ⟨F, G, a, b⟩ := x
    obtain ⟨g, sA, c, d⟩ := y
    obtain ⟨hS, e⟩ := ih
    simp only at hS e
    obtain ⟨ea, eb⟩ := Prod.mk.inj e
    subst ea eb
    have hS' := relS_frame hT hV hC hS (okIn_j66 (j := n) hi) (okIn_j81 (tb := tb) (isB := isB) (i := i) (j := n))
    unfold X3_fah_step X8_adv_step X3_framesAhead_j87 X3_framesAhead_j106 X8_advantage_j101 X8_advantage_j121
    simp only [rel_j43 (i := i) (show n < 900 by omega), rel_j66 (isB := isB) hT hV hi (show n < 900 by omega)]
    refine ⟨hS', ?_⟩
    rw [hS'.1.2.2.2.1, hS'.2.1.2.2.2.1, nI_2]
theorem rel_advantage {MV : Nat → Nat → Int32} {tb F G sA g : Nat → Int32} {isB : Int32} {cnt i : Nat} (hT : relT MV tb cnt) (hV : relV MV cnt) (hC : relC MV cnt) (hi : i < cnt) (f15 : ¬ F 15 = 0) (g15 : G 15 = 0) (hin : ¬ X8_in_r (g 1 - 1) 0 (nI i) = 0) : X3_framesAhead_r F G MV isB (nI i) = X8_advantage_r g tb sA isB (nI i) ∧ (¬ X3_framesAhead_w2 F G MV isB (nI i) 15 = 0) ∧ X3_framesAhead_w3 F G MV isB (nI i) 15 = 0 := by
  have h := rel_adv (isB := isB) (g0 := upd g 12 0) hT hV hC hi (relS_lay (MV := MV) (cnt := cnt) (sA := sA) (ap := 20) (lm := 100) (rm := 100) (pl := 290) (ot := 310) f15 g15 (by decide) (by decide) (by decide) (by decide)) 200 (Nat.le_refl _)
  unfold X3_framesAhead_r X8_advantage_r X3_framesAhead_w2 X3_framesAhead_w3
  rw [if_neg hin, h.2]
  exact ⟨rfl, h.1.2.2.2.2.1, h.1.2.2.2.2.2⟩
