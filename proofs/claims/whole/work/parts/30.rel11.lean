/-- how far a punishing has come: the class's two marks and the model's one -/
def relP (hbl hpu ph : Int32) : Prop := (hbl = 0 ∧ hpu = 0 ∧ ph = 0) ∨ (hbl = 1 ∧ hpu = 0 ∧ ph = 1) ∨ (hbl = 1 ∧ hpu = 1 ∧ ph = 2)
theorem rel_j98 {guard : Int32} {i j : Nat} (h : j < 900) : X3_lossOfPunished_j98 guard j (nI i) = X8_lossBy_j109 guard j (nI i) := by
  unfold X3_lossOfPunished_j98 X8_lossBy_j109 X7_inputOf_r
  by_cases c : nI j = 0
  · rw [if_pos c, if_pos ((one_0 h).mpr c)]
  · rw [if_neg c, if_neg (fun q => c ((one_0 h).mp q))]
theorem okIn_j109 {cnt i j : Nat} {guard : Int32} (h : i < cnt) (hg : okIn cnt guard) : okIn cnt (X8_lossBy_j109 guard j (nI i)) := by
  unfold X8_lossBy_j109
  split
  · exact okIn_mv h
  · exact hg
theorem okIn_j80 {tb sA : Nat → Int32} {cnt i b j : Nat} {ph : Int32} (h : b < cnt) : okIn cnt (X8_lossBy_j80 tb (nI b) j (nI i) ph sA) := by
  unfold X8_lossBy_j80
  split
  · exact okIn_0
  · split
    · exact okIn_block
    · exact okIn_mv h
theorem rel_j80 {MV : Nat → Nat → Int32} {tb G sA : Nat → Int32} {hbl hpu ph : Int32} {cnt i b j : Nat} (hT : relT MV tb cnt) (hV : relV MV cnt) (hi : i < cnt) (hj : j < 900) (hP : relP hbl hpu ph) (e3 : G 3 = sA 14) :
    X3_lossOfPunished_j80 MV G (nI b) hbl hpu j (nI i) = X8_lossBy_j80 tb (nI b) j (nI i) ph sA ∧ relP hbl (X3_lossOfPunished_j80_1 G hbl hpu) (X8_lossBy_j93 ph sA) := by
  unfold X3_lossOfPunished_j80 X8_lossBy_j80 X3_lossOfPunished_j80_1 X8_lossBy_j93 X8_lossBy_j49 X3_lossOfPunished_j46 X7_inputOf_r
  rw [rel_block hT hV hi hj, e3]
  rcases hP with ⟨rfl, rfl, rfl⟩ | ⟨rfl, rfl, rfl⟩ | ⟨rfl, rfl, rfl⟩
  · exact ⟨rfl, Or.inl ⟨rfl, rfl, rfl⟩⟩
  · by_cases c : sA 14 = 0
    · rw [if_pos c, if_pos c]
      exact ⟨rfl, Or.inr (Or.inr ⟨rfl, rfl, rfl⟩)⟩
    · rw [if_neg c, if_neg c]
      exact ⟨rfl, Or.inr (Or.inl ⟨rfl, rfl, rfl⟩)⟩
  · exact ⟨rfl, Or.inr (Or.inr ⟨rfl, rfl, rfl⟩)⟩
theorem rel_j127 {tb F G sA s1 : Nat → Int32} {MV : Nat → Nat → Int32} {hbl hpu hpu1 ph ph1 x : Int32} {r : Prop} [Decidable r] (hP : relP hbl hpu1 ph1) (h0 : hbl = 0 → hpu1 = 0) :
    relP (if hbl = 0 then (if r then 1 else 0) else 1) hpu1 (if ph1 = 0 then (if r then 1 else ph1) else ph1) := by
  rcases hP with ⟨rfl, rfl, rfl⟩ | ⟨rfl, rfl, rfl⟩ | ⟨rfl, rfl, rfl⟩
  · by_cases c : r
    · rw [if_pos c]
      exact Or.inr (Or.inl ⟨rfl, rfl, rfl⟩)
    · rw [if_neg c]
      exact Or.inl ⟨rfl, rfl, rfl⟩
  · exact Or.inr (Or.inl ⟨rfl, rfl, rfl⟩)
  · exact Or.inr (Or.inr ⟨rfl, rfl, rfl⟩)
theorem rel_los {MV : Nat → Nat → Int32} {tb F0 G0 s0 g0 : Nat → Int32} {guard : Int32} {cnt i b : Nat} (hT : relT MV tb cnt) (hV : relV MV cnt) (hC : relC MV cnt) (hi : i < cnt) (hb : b < cnt) (hg : okIn cnt guard) (h : relS MV cnt F0 G0 s0) : ∀ n, n ≤ 200 →
    relS MV cnt (X3_lop_it MV (nI b) guard (nI i) (F0, G0, 0, 0) n).1 (X3_lop_it MV (nI b) guard (nI i) (F0, G0, 0, 0) n).2.1 (X8_los_it tb (nI b) guard (nI i) (g0, s0, 0) n).2.1 ∧ relP (X3_lop_it MV (nI b) guard (nI i) (F0, G0, 0, 0) n).2.2.1 (X3_lop_it MV (nI b) guard (nI i) (F0, G0, 0, 0) n).2.2.2 (X8_los_it tb (nI b) guard (nI i) (g0, s0, 0) n).2.2
  | 0, _ => ⟨h, Or.inl ⟨rfl, rfl, rfl⟩⟩
  | n + 1, hn => by
    have ih := rel_los (g0 := g0) hT hV hC hi hb hg h n (by omega)
    rw [X3_lop_it, X8_los_it]
    generalize X3_lop_it MV (nI b) guard (nI i) (F0, G0, 0, 0) n = x at ih ⊢
    generalize X8_los_it tb (nI b) guard (nI i) (g0, s0, 0) n = y at ih ⊢
    obtain ⟨F, G, p, q⟩ := x
    obtain ⟨g, sA, c⟩ := y
    obtain ⟨hS, hP⟩ := ih
    simp only at hS hP
    obtain ⟨e80, hP1⟩ := rel_j80 (tb := tb) (b := b) hT hV hi (show n < 900 by omega) hP hS.2.1.2.2.2.1
    have hS' := relS_frame hT hV hC hS (okIn_j109 (j := n) hi hg) (okIn_j80 (tb := tb) (sA := sA) (i := i) (j := n) (ph := c) hb)
    unfold X3_lop_step X8_los_step X3_lossOfPunished_j127 X8_lossBy_j136
    simp only [e80, rel_j98 (guard := guard) (i := i) (show n < 900 by omega)]
    refine ⟨hS', ?_⟩
    rw [hS'.2.1.2.2.2.1]
    refine rel_j127 (tb := tb) (F := F) (G := G) (sA := sA) (s1 := sA) (MV := MV) (hpu := q) (ph := c) (x := 0) hP1 (fun z => ?_)
    rcases hP1 with ⟨_, k, _⟩ | ⟨k, _, _⟩ | ⟨k, _, _⟩
    · exact k
    · rw [z] at k; exact absurd k (by decide)
    · rw [z] at k; exact absurd k (by decide)
