/-! hits in a row: the class's recursion, level by level, as one function -/
abbrev aS := Int32 × Int32 × (Nat → Int32) × (Nat → Int32) × (Nat → Nat → Int32)
def hfS (HF : Nat → Nat → Int32) (k : Nat) (f : Nat → Int32) : Nat → Nat → Int32 := fun j => if j = k then f else HF j
theorem hfS_id (HF : Nat → Nat → Int32) (k : Nat) : hfS HF k (HF k) = HF := by
  funext j
  unfold hfS
  by_cases c : j = k
  · rw [if_pos c, c]
  · rw [if_neg c]
theorem hfS_s (HF : Nat → Nat → Int32) (k : Nat) (f : Nat → Int32) : hfS HF k f k = f := if_pos rfl
theorem hfS_n (HF : Nat → Nat → Int32) {k j : Nat} (f : Nat → Int32) (h : j ≠ k) : hfS HF k f j = HF j := if_neg h
def hitR (MV : Nat → Nat → Int32) (mv : Int32) (HF : Nat → Nat → Int32) (d : Nat) : Int32 × (Nat → Int32) × (Nat → Int32) := X3_hw_run MV mv ((X1_copy_w2 (HF (2 * d + 3)) (HF (2 * d + 1))) 4) 60 0 ((X1_copy_w1 (HF (2 * d + 2)) (HF (2 * d))), (X1_copy_w2 (HF (2 * d + 3)) (HF (2 * d + 1))), 0)
def ahK (d : Nat) (mv : Int32) (S : aS) (r : Int32 × (Nat → Int32) × (Nat → Int32)) : aS := (X3_keepIfBest_0_0 S.1 (nI (d + 1)) (1000 - r.2.2 1), X3_keepIfBest_0_6 S.2.1 S.1 (nI (d + 1)) (1000 - r.2.2 1), upd S.2.2.1 d mv, X3_keepIfBest_w2 S.1 S.2.2.2.1 (nI (d + 1)) (1000 - r.2.2 1) (upd S.2.2.1 d mv), hfS (hfS S.2.2.2.2 (2 * d + 2) r.2.1) (2 * d + 3) r.2.2)
def ahN (d : Nat) (S : aS) (r : Int32 × (Nat → Int32) × (Nat → Int32)) : aS := (S.1, S.2.1, S.2.2.1, S.2.2.2.1, hfS (hfS S.2.2.2.2 (2 * d + 2) r.2.1) (2 * d + 3) r.2.2)
def ahL (f : Int32 → aS → aS) (cnt : Int32) : Nat → Nat → aS → aS
  | 0, _, S => S
  | k + 1, j, S => if cnt ≤ nI j then S else ahL f cnt k (j + 1) (f (nI j) S)
def ahG (MV : Nat → Nat → Int32) (cnt hits : Int32) : Nat → Nat → Int32 → aS → aS
  | 0, _, _, S => S
  | n + 1, d, mv, S => if hits ≤ nI d then S else if (hitR MV mv S.2.2.2.2 d).1 = 0 then ahN d S (hitR MV mv S.2.2.2.2 d) else ahL (ahG MV cnt hits n (d + 1)) cnt 6 0 (ahK d mv S (hitR MV mv S.2.2.2.2 d))
theorem ahL_id {f : Int32 → aS → aS} {cnt : Int32} (hf : ∀ (i : Int32) (S : aS), f i S = S) : ∀ (k j : Nat) (S : aS), ahL f cnt k j S = S
  | 0, _, _ => rfl
  | k + 1, j, S => by
    rw [ahL, hf, ahL_id hf k (j + 1) S]
    split <;> rfl
theorem ah3_id {cnt : Int32} (n : Nat) : ∀ (j : Nat) (x : Int32 × Int32), X3_ah3_run cnt n j x = x := by
  induction n with
  | zero => intro j x; rfl
  | succ n ih =>
    intro j x
    obtain ⟨a, b⟩ := x
    rw [X3_ah3_run_s, ih]
    split <;> rfl
theorem ah3_eq {MV : Nat → Nat → Int32} {cnt hits : Int32} {mv : Int32} (S : aS) : ahG MV cnt hits 1 3 mv S = ((X3_addHit3_0_0 MV (S.2.2.2.2 6) (S.2.2.2.2 8) (S.2.2.2.2 7) (S.2.2.2.2 9) S.2.1 S.1 cnt hits mv), (X3_addHit3_0_6 MV (S.2.2.2.2 6) (S.2.2.2.2 8) (S.2.2.2.2 7) (S.2.2.2.2 9) S.2.1 S.1 cnt hits mv), (X3_addHit3_w4 MV (S.2.2.2.2 6) (S.2.2.2.2 8) (S.2.2.2.2 7) (S.2.2.2.2 9) hits mv S.2.2.1), (X3_addHit3_w5 MV (S.2.2.2.2 6) (S.2.2.2.2 8) (S.2.2.2.2 7) (S.2.2.2.2 9) S.1 S.2.2.2.1 hits mv S.2.2.1), (hfS (hfS S.2.2.2.2 8 (X3_addHit3_w10 MV (S.2.2.2.2 6) (S.2.2.2.2 8) (S.2.2.2.2 7) (S.2.2.2.2 9) hits mv)) 9 (X3_addHit3_w11 MV (S.2.2.2.2 6) (S.2.2.2.2 8) (S.2.2.2.2 7) (S.2.2.2.2 9) hits mv))) := by
  obtain ⟨bl, bh, rr, bs, HF⟩ := S
  show ahG MV cnt hits 1 3 mv (bl, bh, rr, bs, HF) = ((X3_addHit3_0_0 MV (HF 6) (HF 8) (HF 7) (HF 9) bh bl cnt hits mv), (X3_addHit3_0_6 MV (HF 6) (HF 8) (HF 7) (HF 9) bh bl cnt hits mv), (X3_addHit3_w4 MV (HF 6) (HF 8) (HF 7) (HF 9) hits mv rr), (X3_addHit3_w5 MV (HF 6) (HF 8) (HF 7) (HF 9) bl bs hits mv rr), (hfS (hfS HF 8 (X3_addHit3_w10 MV (HF 6) (HF 8) (HF 7) (HF 9) hits mv)) 9 (X3_addHit3_w11 MV (HF 6) (HF 8) (HF 7) (HF 9) hits mv)))
  unfold X3_addHit3_0_0 X3_addHit3_0_6 X3_addHit3_w4 X3_addHit3_w5 X3_addHit3_w10 X3_addHit3_w11
  rw [ahG]
  by_cases c : hits ≤ nI 3
  · have c1 : hits ≤ 3 := c
    simp only [if_pos c, if_pos c1, hfS_id]
  · have c1 : ¬ hits ≤ 3 := c
    obtain ⟨X, hX⟩ : ∃ X, X = X3_hw_run MV mv ((X1_copy_w2 (HF 9) (HF 7)) 4) 60 0 ((X1_copy_w1 (HF 8) (HF 6)), (X1_copy_w2 (HF 9) (HF 7)), 0) := ⟨_, rfl⟩
    have hR : hitR MV mv HF 3 = X := hX.symm
    simp only [if_neg c, if_neg c1, hR, ← hX]
    by_cases c2 : X.1 = 0
    · simp only [if_pos c2]
      unfold ahN
      refine Prod.ext rfl (Prod.ext rfl (Prod.ext rfl (Prod.ext rfl (funext fun k => ?_))))
      by_cases k9 : k = 9
      · subst k9; rfl
      by_cases k8 : k = 8
      · subst k8; rfl
      simp only [hfS, if_neg k8, if_neg k9]
    · simp only [if_neg c2]
      rw [ahL_id (fun i S => by rw [ahG]), ah3_id]
      rfl
theorem ah2_run {MV : Nat → Nat → Int32} {cnt hits : Int32} {mv : Int32} {F2 F3 G2 G3 : Nat → Int32} {X : Int32 × (Nat → Int32) × (Nat → Int32)} (hX : X = X3_hw_run MV mv ((X1_copy_w2 G3 G2) 4) 60 0 ((X1_copy_w1 F3 F2), (X1_copy_w2 G3 G2), 0)) (n : Nat) : ∀ (j : Nat) (S : aS), S.2.2.2.2 6 = X.2.1 → S.2.2.2.2 7 = X.2.2 → X3_ah2_run MV F2 F3 G2 G3 cnt hits mv n j (S.1, S.2.1, S.2.2.1, S.2.2.2.1, S.2.2.2.2 8, S.2.2.2.2 9) = ((ahL (ahG MV cnt hits 1 3) cnt n j S).1, (ahL (ahG MV cnt hits 1 3) cnt n j S).2.1, (ahL (ahG MV cnt hits 1 3) cnt n j S).2.2.1, (ahL (ahG MV cnt hits 1 3) cnt n j S).2.2.2.1, (ahL (ahG MV cnt hits 1 3) cnt n j S).2.2.2.2 8, (ahL (ahG MV cnt hits 1 3) cnt n j S).2.2.2.2 9) ∧ ∀ k, k ≠ 8 → k ≠ 9 → (ahL (ahG MV cnt hits 1 3) cnt n j S).2.2.2.2 k = S.2.2.2.2 k := by
  induction n with
  | zero => intro j S h1 h2; exact ⟨rfl, fun k _ _ => rfl⟩
  | succ n ih =>
    intro j S h1 h2
    by_cases c : cnt ≤ nI j
    · have e : (ahL (ahG MV cnt hits 1 3) cnt (n + 1) j S) = S := by rw [ahL, if_pos c]
      rw [e, X3_ah2_run_s, if_pos c]
      exact ⟨rfl, fun k _ _ => rfl⟩
    · have e : (ahL (ahG MV cnt hits 1 3) cnt (n + 1) j S) = (ahL (ahG MV cnt hits 1 3) cnt n (j + 1) ((ahG MV cnt hits 1 3) (nI j) S)) := by rw [ahL, if_neg c]
      have eq := ah3_eq (MV := MV) (cnt := cnt) (hits := hits) (mv := nI j) S
      have q := ih (j + 1) ((ahG MV cnt hits 1 3) (nI j) S) (by rw [eq]; exact h1) (by rw [eq]; exact h2)
      have q0 : ((ahG MV cnt hits 1 3) (nI j) S).1 = (X3_addHit3_0_0 MV (S.2.2.2.2 6) (S.2.2.2.2 8) (S.2.2.2.2 7) (S.2.2.2.2 9) S.2.1 S.1 cnt hits (nI j)) := by rw [eq] <;> rfl
      have q1 : ((ahG MV cnt hits 1 3) (nI j) S).2.1 = (X3_addHit3_0_6 MV (S.2.2.2.2 6) (S.2.2.2.2 8) (S.2.2.2.2 7) (S.2.2.2.2 9) S.2.1 S.1 cnt hits (nI j)) := by rw [eq] <;> rfl
      have q2 : ((ahG MV cnt hits 1 3) (nI j) S).2.2.1 = (X3_addHit3_w4 MV (S.2.2.2.2 6) (S.2.2.2.2 8) (S.2.2.2.2 7) (S.2.2.2.2 9) hits (nI j) S.2.2.1) := by rw [eq] <;> rfl
      have q3 : ((ahG MV cnt hits 1 3) (nI j) S).2.2.2.1 = (X3_addHit3_w5 MV (S.2.2.2.2 6) (S.2.2.2.2 8) (S.2.2.2.2 7) (S.2.2.2.2 9) S.1 S.2.2.2.1 hits (nI j) S.2.2.1) := by rw [eq] <;> rfl
      have q4 : ((ahG MV cnt hits 1 3) (nI j) S).2.2.2.2 8 = (X3_addHit3_w10 MV (S.2.2.2.2 6) (S.2.2.2.2 8) (S.2.2.2.2 7) (S.2.2.2.2 9) hits (nI j)) := by rw [eq] <;> rfl
      have q5 : ((ahG MV cnt hits 1 3) (nI j) S).2.2.2.2 9 = (X3_addHit3_w11 MV (S.2.2.2.2 6) (S.2.2.2.2 8) (S.2.2.2.2 7) (S.2.2.2.2 9) hits (nI j)) := by rw [eq] <;> rfl
      rw [e, X3_ah2_run_s, if_neg c]
      rw [q0, q1, q2, q3, q4, q5] at q
      refine ⟨?_, fun k k8 k9 => ?_⟩
      · have q9 := q.1
        rw [← hX, ← h1, ← h2]
        exact q9
      · refine (q.2 k k8 k9).trans ?_
        rw [eq]
        simp only [hfS, if_neg k8, if_neg k9]
theorem ah2_eq {MV : Nat → Nat → Int32} {cnt hits : Int32} {mv : Int32} (S : aS) : ahG MV cnt hits 2 2 mv S = ((X3_addHit2_0_0 MV (S.2.2.2.2 4) (S.2.2.2.2 6) (S.2.2.2.2 8) (S.2.2.2.2 5) (S.2.2.2.2 7) (S.2.2.2.2 9) S.2.1 S.1 S.2.2.2.1 cnt hits mv S.2.2.1), (X3_addHit2_0_6 MV (S.2.2.2.2 4) (S.2.2.2.2 6) (S.2.2.2.2 8) (S.2.2.2.2 5) (S.2.2.2.2 7) (S.2.2.2.2 9) S.2.1 S.1 S.2.2.2.1 cnt hits mv S.2.2.1), (X3_addHit2_w4 MV (S.2.2.2.2 4) (S.2.2.2.2 6) (S.2.2.2.2 8) (S.2.2.2.2 5) (S.2.2.2.2 7) (S.2.2.2.2 9) S.2.1 S.1 S.2.2.2.1 cnt hits mv S.2.2.1), (X3_addHit2_w5 MV (S.2.2.2.2 4) (S.2.2.2.2 6) (S.2.2.2.2 8) (S.2.2.2.2 5) (S.2.2.2.2 7) (S.2.2.2.2 9) S.2.1 S.1 S.2.2.2.1 cnt hits mv S.2.2.1), (hfS (hfS (hfS (hfS S.2.2.2.2 6 (X3_addHit2_w10 MV (S.2.2.2.2 4) (S.2.2.2.2 6) (S.2.2.2.2 5) (S.2.2.2.2 7) hits mv)) 7 (X3_addHit2_w11 MV (S.2.2.2.2 4) (S.2.2.2.2 6) (S.2.2.2.2 5) (S.2.2.2.2 7) hits mv)) 8 (X3_addHit2_w13 MV (S.2.2.2.2 4) (S.2.2.2.2 6) (S.2.2.2.2 8) (S.2.2.2.2 5) (S.2.2.2.2 7) (S.2.2.2.2 9) S.2.1 S.1 S.2.2.2.1 cnt hits mv S.2.2.1)) 9 (X3_addHit2_w14 MV (S.2.2.2.2 4) (S.2.2.2.2 6) (S.2.2.2.2 8) (S.2.2.2.2 5) (S.2.2.2.2 7) (S.2.2.2.2 9) S.2.1 S.1 S.2.2.2.1 cnt hits mv S.2.2.1))) := by
  obtain ⟨bl, bh, rr, bs, HF⟩ := S
  show ahG MV cnt hits 2 2 mv (bl, bh, rr, bs, HF) = ((X3_addHit2_0_0 MV (HF 4) (HF 6) (HF 8) (HF 5) (HF 7) (HF 9) bh bl bs cnt hits mv rr), (X3_addHit2_0_6 MV (HF 4) (HF 6) (HF 8) (HF 5) (HF 7) (HF 9) bh bl bs cnt hits mv rr), (X3_addHit2_w4 MV (HF 4) (HF 6) (HF 8) (HF 5) (HF 7) (HF 9) bh bl bs cnt hits mv rr), (X3_addHit2_w5 MV (HF 4) (HF 6) (HF 8) (HF 5) (HF 7) (HF 9) bh bl bs cnt hits mv rr), (hfS (hfS (hfS (hfS HF 6 (X3_addHit2_w10 MV (HF 4) (HF 6) (HF 5) (HF 7) hits mv)) 7 (X3_addHit2_w11 MV (HF 4) (HF 6) (HF 5) (HF 7) hits mv)) 8 (X3_addHit2_w13 MV (HF 4) (HF 6) (HF 8) (HF 5) (HF 7) (HF 9) bh bl bs cnt hits mv rr)) 9 (X3_addHit2_w14 MV (HF 4) (HF 6) (HF 8) (HF 5) (HF 7) (HF 9) bh bl bs cnt hits mv rr)))
  unfold X3_addHit2_0_0 X3_addHit2_0_6 X3_addHit2_w4 X3_addHit2_w5 X3_addHit2_w10 X3_addHit2_w11 X3_addHit2_w13 X3_addHit2_w14
  rw [ahG]
  by_cases c : hits ≤ nI 2
  · have c1 : hits ≤ 2 := c
    simp only [if_pos c, if_pos c1, hfS_id]
  · have c1 : ¬ hits ≤ 2 := c
    obtain ⟨X, hX⟩ : ∃ X, X = X3_hw_run MV mv ((X1_copy_w2 (HF 7) (HF 5)) 4) 60 0 ((X1_copy_w1 (HF 6) (HF 4)), (X1_copy_w2 (HF 7) (HF 5)), 0) := ⟨_, rfl⟩
    have hR : hitR MV mv HF 2 = X := hX.symm
    simp only [if_neg c, if_neg c1, hR, ← hX]
    by_cases c2 : X.1 = 0
    · simp only [if_pos c2]
      unfold ahN
      refine Prod.ext rfl (Prod.ext rfl (Prod.ext rfl (Prod.ext rfl (funext fun k => ?_))))
      by_cases k9 : k = 9
      · subst k9; rfl
      by_cases k8 : k = 8
      · subst k8; rfl
      by_cases k7 : k = 7
      · subst k7; rfl
      by_cases k6 : k = 6
      · subst k6; rfl
      simp only [hfS, if_neg k6, if_neg k7, if_neg k8, if_neg k9]
    · simp only [if_neg c2]
      obtain ⟨a, b⟩ := ah2_run (cnt := cnt) (hits := hits) hX 6 0 (ahK 2 mv (bl, bh, rr, bs, HF) X) rfl rfl
      have a1 : X3_ah2_run MV (HF 4) (HF 6) (HF 5) (HF 7) cnt hits mv 6 0 ((X3_keepIfBest_0_0 bl 3 (1000 - (X.2.2 1))), (X3_keepIfBest_0_6 bh bl 3 (1000 - (X.2.2 1))), (upd rr 2 mv), (X3_keepIfBest_w2 bl bs 3 (1000 - (X.2.2 1)) (upd rr 2 mv)), (HF 8), (HF 9)) = ((ahL (ahG MV cnt hits 1 3) cnt 6 0 (ahK 2 mv (bl, bh, rr, bs, HF) X)).1, (ahL (ahG MV cnt hits 1 3) cnt 6 0 (ahK 2 mv (bl, bh, rr, bs, HF) X)).2.1, (ahL (ahG MV cnt hits 1 3) cnt 6 0 (ahK 2 mv (bl, bh, rr, bs, HF) X)).2.2.1, (ahL (ahG MV cnt hits 1 3) cnt 6 0 (ahK 2 mv (bl, bh, rr, bs, HF) X)).2.2.2.1, (ahL (ahG MV cnt hits 1 3) cnt 6 0 (ahK 2 mv (bl, bh, rr, bs, HF) X)).2.2.2.2 8, (ahL (ahG MV cnt hits 1 3) cnt 6 0 (ahK 2 mv (bl, bh, rr, bs, HF) X)).2.2.2.2 9) := a
      rw [a1]
      clear a a1
      generalize ahL (ahG MV cnt hits 1 3) cnt 6 0 (ahK 2 mv (bl, bh, rr, bs, HF) X) = Y at b ⊢
      obtain ⟨y1, y2, y3, y4, H1⟩ := Y
      refine Prod.ext rfl (Prod.ext rfl (Prod.ext rfl (Prod.ext rfl (funext fun k => ?_))))
      by_cases k9 : k = 9
      · subst k9; rfl
      by_cases k8 : k = 8
      · subst k8; rfl
      refine (b k k8 k9).trans ?_
      show hfS (hfS HF 6 X.2.1) 7 X.2.2 k = _
      simp only [hfS, if_neg k8, if_neg k9]
theorem ah1_run {MV : Nat → Nat → Int32} {cnt hits : Int32} {mv : Int32} {F1 F2 G1 G2 : Nat → Int32} {X : Int32 × (Nat → Int32) × (Nat → Int32)} (hX : X = X3_hw_run MV mv ((X1_copy_w2 G2 G1) 4) 60 0 ((X1_copy_w1 F2 F1), (X1_copy_w2 G2 G1), 0)) (n : Nat) : ∀ (j : Nat) (S : aS), S.2.2.2.2 4 = X.2.1 → S.2.2.2.2 5 = X.2.2 → X3_ah1_run MV F1 F2 G1 G2 cnt hits mv n j (S.1, S.2.1, S.2.2.1, S.2.2.2.1, S.2.2.2.2 6, S.2.2.2.2 7, S.2.2.2.2 8, S.2.2.2.2 9) = ((ahL (ahG MV cnt hits 2 2) cnt n j S).1, (ahL (ahG MV cnt hits 2 2) cnt n j S).2.1, (ahL (ahG MV cnt hits 2 2) cnt n j S).2.2.1, (ahL (ahG MV cnt hits 2 2) cnt n j S).2.2.2.1, (ahL (ahG MV cnt hits 2 2) cnt n j S).2.2.2.2 6, (ahL (ahG MV cnt hits 2 2) cnt n j S).2.2.2.2 7, (ahL (ahG MV cnt hits 2 2) cnt n j S).2.2.2.2 8, (ahL (ahG MV cnt hits 2 2) cnt n j S).2.2.2.2 9) ∧ ∀ k, k ≠ 6 → k ≠ 7 → k ≠ 8 → k ≠ 9 → (ahL (ahG MV cnt hits 2 2) cnt n j S).2.2.2.2 k = S.2.2.2.2 k := by
  induction n with
  | zero => intro j S h1 h2; exact ⟨rfl, fun k _ _ _ _ => rfl⟩
  | succ n ih =>
    intro j S h1 h2
    by_cases c : cnt ≤ nI j
    · have e : (ahL (ahG MV cnt hits 2 2) cnt (n + 1) j S) = S := by rw [ahL, if_pos c]
      rw [e, X3_ah1_run_s, if_pos c]
      exact ⟨rfl, fun k _ _ _ _ => rfl⟩
    · have e : (ahL (ahG MV cnt hits 2 2) cnt (n + 1) j S) = (ahL (ahG MV cnt hits 2 2) cnt n (j + 1) ((ahG MV cnt hits 2 2) (nI j) S)) := by rw [ahL, if_neg c]
      have eq := ah2_eq (MV := MV) (cnt := cnt) (hits := hits) (mv := nI j) S
      have q := ih (j + 1) ((ahG MV cnt hits 2 2) (nI j) S) (by rw [eq]; exact h1) (by rw [eq]; exact h2)
      have q0 : ((ahG MV cnt hits 2 2) (nI j) S).1 = (X3_addHit2_0_0 MV (S.2.2.2.2 4) (S.2.2.2.2 6) (S.2.2.2.2 8) (S.2.2.2.2 5) (S.2.2.2.2 7) (S.2.2.2.2 9) S.2.1 S.1 S.2.2.2.1 cnt hits (nI j) S.2.2.1) := by rw [eq] <;> rfl
      have q1 : ((ahG MV cnt hits 2 2) (nI j) S).2.1 = (X3_addHit2_0_6 MV (S.2.2.2.2 4) (S.2.2.2.2 6) (S.2.2.2.2 8) (S.2.2.2.2 5) (S.2.2.2.2 7) (S.2.2.2.2 9) S.2.1 S.1 S.2.2.2.1 cnt hits (nI j) S.2.2.1) := by rw [eq] <;> rfl
      have q2 : ((ahG MV cnt hits 2 2) (nI j) S).2.2.1 = (X3_addHit2_w4 MV (S.2.2.2.2 4) (S.2.2.2.2 6) (S.2.2.2.2 8) (S.2.2.2.2 5) (S.2.2.2.2 7) (S.2.2.2.2 9) S.2.1 S.1 S.2.2.2.1 cnt hits (nI j) S.2.2.1) := by rw [eq] <;> rfl
      have q3 : ((ahG MV cnt hits 2 2) (nI j) S).2.2.2.1 = (X3_addHit2_w5 MV (S.2.2.2.2 4) (S.2.2.2.2 6) (S.2.2.2.2 8) (S.2.2.2.2 5) (S.2.2.2.2 7) (S.2.2.2.2 9) S.2.1 S.1 S.2.2.2.1 cnt hits (nI j) S.2.2.1) := by rw [eq] <;> rfl
      have q4 : ((ahG MV cnt hits 2 2) (nI j) S).2.2.2.2 6 = (X3_addHit2_w10 MV (S.2.2.2.2 4) (S.2.2.2.2 6) (S.2.2.2.2 5) (S.2.2.2.2 7) hits (nI j)) := by rw [eq] <;> rfl
      have q5 : ((ahG MV cnt hits 2 2) (nI j) S).2.2.2.2 7 = (X3_addHit2_w11 MV (S.2.2.2.2 4) (S.2.2.2.2 6) (S.2.2.2.2 5) (S.2.2.2.2 7) hits (nI j)) := by rw [eq] <;> rfl
      have q6 : ((ahG MV cnt hits 2 2) (nI j) S).2.2.2.2 8 = (X3_addHit2_w13 MV (S.2.2.2.2 4) (S.2.2.2.2 6) (S.2.2.2.2 8) (S.2.2.2.2 5) (S.2.2.2.2 7) (S.2.2.2.2 9) S.2.1 S.1 S.2.2.2.1 cnt hits (nI j) S.2.2.1) := by rw [eq] <;> rfl
      have q7 : ((ahG MV cnt hits 2 2) (nI j) S).2.2.2.2 9 = (X3_addHit2_w14 MV (S.2.2.2.2 4) (S.2.2.2.2 6) (S.2.2.2.2 8) (S.2.2.2.2 5) (S.2.2.2.2 7) (S.2.2.2.2 9) S.2.1 S.1 S.2.2.2.1 cnt hits (nI j) S.2.2.1) := by rw [eq] <;> rfl
      rw [e, X3_ah1_run_s, if_neg c]
      rw [q0, q1, q2, q3, q4, q5, q6, q7] at q
      refine ⟨?_, fun k k6 k7 k8 k9 => ?_⟩
      · have q9 := q.1
        rw [← hX, ← h1, ← h2]
        exact q9
      · refine (q.2 k k6 k7 k8 k9).trans ?_
        rw [eq]
        simp only [hfS, if_neg k6, if_neg k7, if_neg k8, if_neg k9]
theorem ah1_eq {MV : Nat → Nat → Int32} {cnt hits : Int32} {mv : Int32} (S : aS) : ahG MV cnt hits 3 1 mv S = ((X3_addHit1_0_0 MV (S.2.2.2.2 2) (S.2.2.2.2 4) (S.2.2.2.2 6) (S.2.2.2.2 8) (S.2.2.2.2 3) (S.2.2.2.2 5) (S.2.2.2.2 7) (S.2.2.2.2 9) S.2.1 S.1 S.2.2.2.1 cnt hits mv S.2.2.1), (X3_addHit1_0_6 MV (S.2.2.2.2 2) (S.2.2.2.2 4) (S.2.2.2.2 6) (S.2.2.2.2 8) (S.2.2.2.2 3) (S.2.2.2.2 5) (S.2.2.2.2 7) (S.2.2.2.2 9) S.2.1 S.1 S.2.2.2.1 cnt hits mv S.2.2.1), (X3_addHit1_w4 MV (S.2.2.2.2 2) (S.2.2.2.2 4) (S.2.2.2.2 6) (S.2.2.2.2 8) (S.2.2.2.2 3) (S.2.2.2.2 5) (S.2.2.2.2 7) (S.2.2.2.2 9) S.2.1 S.1 S.2.2.2.1 cnt hits mv S.2.2.1), (X3_addHit1_w5 MV (S.2.2.2.2 2) (S.2.2.2.2 4) (S.2.2.2.2 6) (S.2.2.2.2 8) (S.2.2.2.2 3) (S.2.2.2.2 5) (S.2.2.2.2 7) (S.2.2.2.2 9) S.2.1 S.1 S.2.2.2.1 cnt hits mv S.2.2.1), (hfS (hfS (hfS (hfS (hfS (hfS S.2.2.2.2 4 (X3_addHit1_w10 MV (S.2.2.2.2 2) (S.2.2.2.2 4) (S.2.2.2.2 3) (S.2.2.2.2 5) hits mv)) 5 (X3_addHit1_w11 MV (S.2.2.2.2 2) (S.2.2.2.2 4) (S.2.2.2.2 3) (S.2.2.2.2 5) hits mv)) 6 (X3_addHit1_w13 MV (S.2.2.2.2 2) (S.2.2.2.2 4) (S.2.2.2.2 6) (S.2.2.2.2 8) (S.2.2.2.2 3) (S.2.2.2.2 5) (S.2.2.2.2 7) (S.2.2.2.2 9) S.2.1 S.1 S.2.2.2.1 cnt hits mv S.2.2.1)) 7 (X3_addHit1_w14 MV (S.2.2.2.2 2) (S.2.2.2.2 4) (S.2.2.2.2 6) (S.2.2.2.2 8) (S.2.2.2.2 3) (S.2.2.2.2 5) (S.2.2.2.2 7) (S.2.2.2.2 9) S.2.1 S.1 S.2.2.2.1 cnt hits mv S.2.2.1)) 8 (X3_addHit1_w16 MV (S.2.2.2.2 2) (S.2.2.2.2 4) (S.2.2.2.2 6) (S.2.2.2.2 8) (S.2.2.2.2 3) (S.2.2.2.2 5) (S.2.2.2.2 7) (S.2.2.2.2 9) S.2.1 S.1 S.2.2.2.1 cnt hits mv S.2.2.1)) 9 (X3_addHit1_w17 MV (S.2.2.2.2 2) (S.2.2.2.2 4) (S.2.2.2.2 6) (S.2.2.2.2 8) (S.2.2.2.2 3) (S.2.2.2.2 5) (S.2.2.2.2 7) (S.2.2.2.2 9) S.2.1 S.1 S.2.2.2.1 cnt hits mv S.2.2.1))) := by
  obtain ⟨bl, bh, rr, bs, HF⟩ := S
  show ahG MV cnt hits 3 1 mv (bl, bh, rr, bs, HF) = ((X3_addHit1_0_0 MV (HF 2) (HF 4) (HF 6) (HF 8) (HF 3) (HF 5) (HF 7) (HF 9) bh bl bs cnt hits mv rr), (X3_addHit1_0_6 MV (HF 2) (HF 4) (HF 6) (HF 8) (HF 3) (HF 5) (HF 7) (HF 9) bh bl bs cnt hits mv rr), (X3_addHit1_w4 MV (HF 2) (HF 4) (HF 6) (HF 8) (HF 3) (HF 5) (HF 7) (HF 9) bh bl bs cnt hits mv rr), (X3_addHit1_w5 MV (HF 2) (HF 4) (HF 6) (HF 8) (HF 3) (HF 5) (HF 7) (HF 9) bh bl bs cnt hits mv rr), (hfS (hfS (hfS (hfS (hfS (hfS HF 4 (X3_addHit1_w10 MV (HF 2) (HF 4) (HF 3) (HF 5) hits mv)) 5 (X3_addHit1_w11 MV (HF 2) (HF 4) (HF 3) (HF 5) hits mv)) 6 (X3_addHit1_w13 MV (HF 2) (HF 4) (HF 6) (HF 8) (HF 3) (HF 5) (HF 7) (HF 9) bh bl bs cnt hits mv rr)) 7 (X3_addHit1_w14 MV (HF 2) (HF 4) (HF 6) (HF 8) (HF 3) (HF 5) (HF 7) (HF 9) bh bl bs cnt hits mv rr)) 8 (X3_addHit1_w16 MV (HF 2) (HF 4) (HF 6) (HF 8) (HF 3) (HF 5) (HF 7) (HF 9) bh bl bs cnt hits mv rr)) 9 (X3_addHit1_w17 MV (HF 2) (HF 4) (HF 6) (HF 8) (HF 3) (HF 5) (HF 7) (HF 9) bh bl bs cnt hits mv rr)))
  unfold X3_addHit1_0_0 X3_addHit1_0_6 X3_addHit1_w4 X3_addHit1_w5 X3_addHit1_w10 X3_addHit1_w11 X3_addHit1_w13 X3_addHit1_w14 X3_addHit1_w16 X3_addHit1_w17
  rw [ahG]
  by_cases c : hits ≤ nI 1
  · have c1 : hits ≤ 1 := c
    simp only [if_pos c, if_pos c1, hfS_id]
  · have c1 : ¬ hits ≤ 1 := c
    obtain ⟨X, hX⟩ : ∃ X, X = X3_hw_run MV mv ((X1_copy_w2 (HF 5) (HF 3)) 4) 60 0 ((X1_copy_w1 (HF 4) (HF 2)), (X1_copy_w2 (HF 5) (HF 3)), 0) := ⟨_, rfl⟩
    have hR : hitR MV mv HF 1 = X := hX.symm
    simp only [if_neg c, if_neg c1, hR, ← hX]
    by_cases c2 : X.1 = 0
    · simp only [if_pos c2]
      unfold ahN
      refine Prod.ext rfl (Prod.ext rfl (Prod.ext rfl (Prod.ext rfl (funext fun k => ?_))))
      by_cases k9 : k = 9
      · subst k9; rfl
      by_cases k8 : k = 8
      · subst k8; rfl
      by_cases k7 : k = 7
      · subst k7; rfl
      by_cases k6 : k = 6
      · subst k6; rfl
      by_cases k5 : k = 5
      · subst k5; rfl
      by_cases k4 : k = 4
      · subst k4; rfl
      simp only [hfS, if_neg k4, if_neg k5, if_neg k6, if_neg k7, if_neg k8, if_neg k9]
    · simp only [if_neg c2]
      obtain ⟨a, b⟩ := ah1_run (cnt := cnt) (hits := hits) hX 6 0 (ahK 1 mv (bl, bh, rr, bs, HF) X) rfl rfl
      have a1 : X3_ah1_run MV (HF 2) (HF 4) (HF 3) (HF 5) cnt hits mv 6 0 ((X3_keepIfBest_0_0 bl 2 (1000 - (X.2.2 1))), (X3_keepIfBest_0_6 bh bl 2 (1000 - (X.2.2 1))), (upd rr 1 mv), (X3_keepIfBest_w2 bl bs 2 (1000 - (X.2.2 1)) (upd rr 1 mv)), (HF 6), (HF 7), (HF 8), (HF 9)) = ((ahL (ahG MV cnt hits 2 2) cnt 6 0 (ahK 1 mv (bl, bh, rr, bs, HF) X)).1, (ahL (ahG MV cnt hits 2 2) cnt 6 0 (ahK 1 mv (bl, bh, rr, bs, HF) X)).2.1, (ahL (ahG MV cnt hits 2 2) cnt 6 0 (ahK 1 mv (bl, bh, rr, bs, HF) X)).2.2.1, (ahL (ahG MV cnt hits 2 2) cnt 6 0 (ahK 1 mv (bl, bh, rr, bs, HF) X)).2.2.2.1, (ahL (ahG MV cnt hits 2 2) cnt 6 0 (ahK 1 mv (bl, bh, rr, bs, HF) X)).2.2.2.2 6, (ahL (ahG MV cnt hits 2 2) cnt 6 0 (ahK 1 mv (bl, bh, rr, bs, HF) X)).2.2.2.2 7, (ahL (ahG MV cnt hits 2 2) cnt 6 0 (ahK 1 mv (bl, bh, rr, bs, HF) X)).2.2.2.2 8, (ahL (ahG MV cnt hits 2 2) cnt 6 0 (ahK 1 mv (bl, bh, rr, bs, HF) X)).2.2.2.2 9) := a
      rw [a1]
      clear a a1
      generalize ahL (ahG MV cnt hits 2 2) cnt 6 0 (ahK 1 mv (bl, bh, rr, bs, HF) X) = Y at b ⊢
      obtain ⟨y1, y2, y3, y4, H1⟩ := Y
      refine Prod.ext rfl (Prod.ext rfl (Prod.ext rfl (Prod.ext rfl (funext fun k => ?_))))
      by_cases k9 : k = 9
      · subst k9; rfl
      by_cases k8 : k = 8
      · subst k8; rfl
      by_cases k7 : k = 7
      · subst k7; rfl
      by_cases k6 : k = 6
      · subst k6; rfl
      refine (b k k6 k7 k8 k9).trans ?_
      show hfS (hfS HF 4 X.2.1) 5 X.2.2 k = _
      simp only [hfS, if_neg k6, if_neg k7, if_neg k8, if_neg k9]
theorem ah0_run {MV : Nat → Nat → Int32} {cnt hits : Int32} {mv : Int32} {F0 F1 G0 G1 : Nat → Int32} {X : Int32 × (Nat → Int32) × (Nat → Int32)} (hX : X = X3_hw_run MV mv ((X1_copy_w2 G1 G0) 4) 60 0 ((X1_copy_w1 F1 F0), (X1_copy_w2 G1 G0), 0)) (n : Nat) : ∀ (j : Nat) (S : aS), S.2.2.2.2 2 = X.2.1 → S.2.2.2.2 3 = X.2.2 → X3_ah0_run MV F0 F1 G0 G1 cnt hits mv n j (S.1, S.2.1, S.2.2.1, S.2.2.2.1, S.2.2.2.2 4, S.2.2.2.2 5, S.2.2.2.2 6, S.2.2.2.2 7, S.2.2.2.2 8, S.2.2.2.2 9) = ((ahL (ahG MV cnt hits 3 1) cnt n j S).1, (ahL (ahG MV cnt hits 3 1) cnt n j S).2.1, (ahL (ahG MV cnt hits 3 1) cnt n j S).2.2.1, (ahL (ahG MV cnt hits 3 1) cnt n j S).2.2.2.1, (ahL (ahG MV cnt hits 3 1) cnt n j S).2.2.2.2 4, (ahL (ahG MV cnt hits 3 1) cnt n j S).2.2.2.2 5, (ahL (ahG MV cnt hits 3 1) cnt n j S).2.2.2.2 6, (ahL (ahG MV cnt hits 3 1) cnt n j S).2.2.2.2 7, (ahL (ahG MV cnt hits 3 1) cnt n j S).2.2.2.2 8, (ahL (ahG MV cnt hits 3 1) cnt n j S).2.2.2.2 9) ∧ ∀ k, k ≠ 4 → k ≠ 5 → k ≠ 6 → k ≠ 7 → k ≠ 8 → k ≠ 9 → (ahL (ahG MV cnt hits 3 1) cnt n j S).2.2.2.2 k = S.2.2.2.2 k := by
  induction n with
  | zero => intro j S h1 h2; exact ⟨rfl, fun k _ _ _ _ _ _ => rfl⟩
  | succ n ih =>
    intro j S h1 h2
    by_cases c : cnt ≤ nI j
    · have e : (ahL (ahG MV cnt hits 3 1) cnt (n + 1) j S) = S := by rw [ahL, if_pos c]
      rw [e, X3_ah0_run_s, if_pos c]
      exact ⟨rfl, fun k _ _ _ _ _ _ => rfl⟩
    · have e : (ahL (ahG MV cnt hits 3 1) cnt (n + 1) j S) = (ahL (ahG MV cnt hits 3 1) cnt n (j + 1) ((ahG MV cnt hits 3 1) (nI j) S)) := by rw [ahL, if_neg c]
      have eq := ah1_eq (MV := MV) (cnt := cnt) (hits := hits) (mv := nI j) S
      have q := ih (j + 1) ((ahG MV cnt hits 3 1) (nI j) S) (by rw [eq]; exact h1) (by rw [eq]; exact h2)
      have q0 : ((ahG MV cnt hits 3 1) (nI j) S).1 = (X3_addHit1_0_0 MV (S.2.2.2.2 2) (S.2.2.2.2 4) (S.2.2.2.2 6) (S.2.2.2.2 8) (S.2.2.2.2 3) (S.2.2.2.2 5) (S.2.2.2.2 7) (S.2.2.2.2 9) S.2.1 S.1 S.2.2.2.1 cnt hits (nI j) S.2.2.1) := by rw [eq] <;> rfl
      have q1 : ((ahG MV cnt hits 3 1) (nI j) S).2.1 = (X3_addHit1_0_6 MV (S.2.2.2.2 2) (S.2.2.2.2 4) (S.2.2.2.2 6) (S.2.2.2.2 8) (S.2.2.2.2 3) (S.2.2.2.2 5) (S.2.2.2.2 7) (S.2.2.2.2 9) S.2.1 S.1 S.2.2.2.1 cnt hits (nI j) S.2.2.1) := by rw [eq] <;> rfl
      have q2 : ((ahG MV cnt hits 3 1) (nI j) S).2.2.1 = (X3_addHit1_w4 MV (S.2.2.2.2 2) (S.2.2.2.2 4) (S.2.2.2.2 6) (S.2.2.2.2 8) (S.2.2.2.2 3) (S.2.2.2.2 5) (S.2.2.2.2 7) (S.2.2.2.2 9) S.2.1 S.1 S.2.2.2.1 cnt hits (nI j) S.2.2.1) := by rw [eq] <;> rfl
      have q3 : ((ahG MV cnt hits 3 1) (nI j) S).2.2.2.1 = (X3_addHit1_w5 MV (S.2.2.2.2 2) (S.2.2.2.2 4) (S.2.2.2.2 6) (S.2.2.2.2 8) (S.2.2.2.2 3) (S.2.2.2.2 5) (S.2.2.2.2 7) (S.2.2.2.2 9) S.2.1 S.1 S.2.2.2.1 cnt hits (nI j) S.2.2.1) := by rw [eq] <;> rfl
      have q4 : ((ahG MV cnt hits 3 1) (nI j) S).2.2.2.2 4 = (X3_addHit1_w10 MV (S.2.2.2.2 2) (S.2.2.2.2 4) (S.2.2.2.2 3) (S.2.2.2.2 5) hits (nI j)) := by rw [eq] <;> rfl
      have q5 : ((ahG MV cnt hits 3 1) (nI j) S).2.2.2.2 5 = (X3_addHit1_w11 MV (S.2.2.2.2 2) (S.2.2.2.2 4) (S.2.2.2.2 3) (S.2.2.2.2 5) hits (nI j)) := by rw [eq] <;> rfl
      have q6 : ((ahG MV cnt hits 3 1) (nI j) S).2.2.2.2 6 = (X3_addHit1_w13 MV (S.2.2.2.2 2) (S.2.2.2.2 4) (S.2.2.2.2 6) (S.2.2.2.2 8) (S.2.2.2.2 3) (S.2.2.2.2 5) (S.2.2.2.2 7) (S.2.2.2.2 9) S.2.1 S.1 S.2.2.2.1 cnt hits (nI j) S.2.2.1) := by rw [eq] <;> rfl
      have q7 : ((ahG MV cnt hits 3 1) (nI j) S).2.2.2.2 7 = (X3_addHit1_w14 MV (S.2.2.2.2 2) (S.2.2.2.2 4) (S.2.2.2.2 6) (S.2.2.2.2 8) (S.2.2.2.2 3) (S.2.2.2.2 5) (S.2.2.2.2 7) (S.2.2.2.2 9) S.2.1 S.1 S.2.2.2.1 cnt hits (nI j) S.2.2.1) := by rw [eq] <;> rfl
      have q8 : ((ahG MV cnt hits 3 1) (nI j) S).2.2.2.2 8 = (X3_addHit1_w16 MV (S.2.2.2.2 2) (S.2.2.2.2 4) (S.2.2.2.2 6) (S.2.2.2.2 8) (S.2.2.2.2 3) (S.2.2.2.2 5) (S.2.2.2.2 7) (S.2.2.2.2 9) S.2.1 S.1 S.2.2.2.1 cnt hits (nI j) S.2.2.1) := by rw [eq] <;> rfl
      have q9 : ((ahG MV cnt hits 3 1) (nI j) S).2.2.2.2 9 = (X3_addHit1_w17 MV (S.2.2.2.2 2) (S.2.2.2.2 4) (S.2.2.2.2 6) (S.2.2.2.2 8) (S.2.2.2.2 3) (S.2.2.2.2 5) (S.2.2.2.2 7) (S.2.2.2.2 9) S.2.1 S.1 S.2.2.2.1 cnt hits (nI j) S.2.2.1) := by rw [eq] <;> rfl
      rw [e, X3_ah0_run_s, if_neg c]
      rw [q0, q1, q2, q3, q4, q5, q6, q7, q8, q9] at q
      refine ⟨?_, fun k k4 k5 k6 k7 k8 k9 => ?_⟩
      · have q9 := q.1
        rw [← hX, ← h1, ← h2]
        exact q9
      · refine (q.2 k k4 k5 k6 k7 k8 k9).trans ?_
        rw [eq]
        simp only [hfS, if_neg k4, if_neg k5, if_neg k6, if_neg k7, if_neg k8, if_neg k9]
theorem ah0_eq {MV : Nat → Nat → Int32} {cnt hits : Int32} {mv : Int32} (S : aS) : ahG MV cnt hits 4 0 mv S = ((X3_addHit0_0_0 MV (S.2.2.2.2 0) (S.2.2.2.2 2) (S.2.2.2.2 4) (S.2.2.2.2 6) (S.2.2.2.2 8) (S.2.2.2.2 1) (S.2.2.2.2 3) (S.2.2.2.2 5) (S.2.2.2.2 7) (S.2.2.2.2 9) S.2.1 S.1 S.2.2.2.1 cnt hits mv S.2.2.1), (X3_addHit0_0_6 MV (S.2.2.2.2 0) (S.2.2.2.2 2) (S.2.2.2.2 4) (S.2.2.2.2 6) (S.2.2.2.2 8) (S.2.2.2.2 1) (S.2.2.2.2 3) (S.2.2.2.2 5) (S.2.2.2.2 7) (S.2.2.2.2 9) S.2.1 S.1 S.2.2.2.1 cnt hits mv S.2.2.1), (X3_addHit0_w4 MV (S.2.2.2.2 0) (S.2.2.2.2 2) (S.2.2.2.2 4) (S.2.2.2.2 6) (S.2.2.2.2 8) (S.2.2.2.2 1) (S.2.2.2.2 3) (S.2.2.2.2 5) (S.2.2.2.2 7) (S.2.2.2.2 9) S.2.1 S.1 S.2.2.2.1 cnt hits mv S.2.2.1), (X3_addHit0_w5 MV (S.2.2.2.2 0) (S.2.2.2.2 2) (S.2.2.2.2 4) (S.2.2.2.2 6) (S.2.2.2.2 8) (S.2.2.2.2 1) (S.2.2.2.2 3) (S.2.2.2.2 5) (S.2.2.2.2 7) (S.2.2.2.2 9) S.2.1 S.1 S.2.2.2.1 cnt hits mv S.2.2.1), (hfS (hfS (hfS (hfS (hfS (hfS (hfS (hfS S.2.2.2.2 2 (X3_addHit0_w10 MV (S.2.2.2.2 0) (S.2.2.2.2 2) (S.2.2.2.2 1) (S.2.2.2.2 3) hits mv)) 3 (X3_addHit0_w11 MV (S.2.2.2.2 0) (S.2.2.2.2 2) (S.2.2.2.2 1) (S.2.2.2.2 3) hits mv)) 4 (X3_addHit0_w13 MV (S.2.2.2.2 0) (S.2.2.2.2 2) (S.2.2.2.2 4) (S.2.2.2.2 6) (S.2.2.2.2 8) (S.2.2.2.2 1) (S.2.2.2.2 3) (S.2.2.2.2 5) (S.2.2.2.2 7) (S.2.2.2.2 9) S.2.1 S.1 S.2.2.2.1 cnt hits mv S.2.2.1)) 5 (X3_addHit0_w14 MV (S.2.2.2.2 0) (S.2.2.2.2 2) (S.2.2.2.2 4) (S.2.2.2.2 6) (S.2.2.2.2 8) (S.2.2.2.2 1) (S.2.2.2.2 3) (S.2.2.2.2 5) (S.2.2.2.2 7) (S.2.2.2.2 9) S.2.1 S.1 S.2.2.2.1 cnt hits mv S.2.2.1)) 6 (X3_addHit0_w16 MV (S.2.2.2.2 0) (S.2.2.2.2 2) (S.2.2.2.2 4) (S.2.2.2.2 6) (S.2.2.2.2 8) (S.2.2.2.2 1) (S.2.2.2.2 3) (S.2.2.2.2 5) (S.2.2.2.2 7) (S.2.2.2.2 9) S.2.1 S.1 S.2.2.2.1 cnt hits mv S.2.2.1)) 7 (X3_addHit0_w17 MV (S.2.2.2.2 0) (S.2.2.2.2 2) (S.2.2.2.2 4) (S.2.2.2.2 6) (S.2.2.2.2 8) (S.2.2.2.2 1) (S.2.2.2.2 3) (S.2.2.2.2 5) (S.2.2.2.2 7) (S.2.2.2.2 9) S.2.1 S.1 S.2.2.2.1 cnt hits mv S.2.2.1)) 8 (X3_addHit0_w19 MV (S.2.2.2.2 0) (S.2.2.2.2 2) (S.2.2.2.2 4) (S.2.2.2.2 6) (S.2.2.2.2 8) (S.2.2.2.2 1) (S.2.2.2.2 3) (S.2.2.2.2 5) (S.2.2.2.2 7) (S.2.2.2.2 9) S.2.1 S.1 S.2.2.2.1 cnt hits mv S.2.2.1)) 9 (X3_addHit0_w20 MV (S.2.2.2.2 0) (S.2.2.2.2 2) (S.2.2.2.2 4) (S.2.2.2.2 6) (S.2.2.2.2 8) (S.2.2.2.2 1) (S.2.2.2.2 3) (S.2.2.2.2 5) (S.2.2.2.2 7) (S.2.2.2.2 9) S.2.1 S.1 S.2.2.2.1 cnt hits mv S.2.2.1))) := by
  obtain ⟨bl, bh, rr, bs, HF⟩ := S
  show ahG MV cnt hits 4 0 mv (bl, bh, rr, bs, HF) = ((X3_addHit0_0_0 MV (HF 0) (HF 2) (HF 4) (HF 6) (HF 8) (HF 1) (HF 3) (HF 5) (HF 7) (HF 9) bh bl bs cnt hits mv rr), (X3_addHit0_0_6 MV (HF 0) (HF 2) (HF 4) (HF 6) (HF 8) (HF 1) (HF 3) (HF 5) (HF 7) (HF 9) bh bl bs cnt hits mv rr), (X3_addHit0_w4 MV (HF 0) (HF 2) (HF 4) (HF 6) (HF 8) (HF 1) (HF 3) (HF 5) (HF 7) (HF 9) bh bl bs cnt hits mv rr), (X3_addHit0_w5 MV (HF 0) (HF 2) (HF 4) (HF 6) (HF 8) (HF 1) (HF 3) (HF 5) (HF 7) (HF 9) bh bl bs cnt hits mv rr), (hfS (hfS (hfS (hfS (hfS (hfS (hfS (hfS HF 2 (X3_addHit0_w10 MV (HF 0) (HF 2) (HF 1) (HF 3) hits mv)) 3 (X3_addHit0_w11 MV (HF 0) (HF 2) (HF 1) (HF 3) hits mv)) 4 (X3_addHit0_w13 MV (HF 0) (HF 2) (HF 4) (HF 6) (HF 8) (HF 1) (HF 3) (HF 5) (HF 7) (HF 9) bh bl bs cnt hits mv rr)) 5 (X3_addHit0_w14 MV (HF 0) (HF 2) (HF 4) (HF 6) (HF 8) (HF 1) (HF 3) (HF 5) (HF 7) (HF 9) bh bl bs cnt hits mv rr)) 6 (X3_addHit0_w16 MV (HF 0) (HF 2) (HF 4) (HF 6) (HF 8) (HF 1) (HF 3) (HF 5) (HF 7) (HF 9) bh bl bs cnt hits mv rr)) 7 (X3_addHit0_w17 MV (HF 0) (HF 2) (HF 4) (HF 6) (HF 8) (HF 1) (HF 3) (HF 5) (HF 7) (HF 9) bh bl bs cnt hits mv rr)) 8 (X3_addHit0_w19 MV (HF 0) (HF 2) (HF 4) (HF 6) (HF 8) (HF 1) (HF 3) (HF 5) (HF 7) (HF 9) bh bl bs cnt hits mv rr)) 9 (X3_addHit0_w20 MV (HF 0) (HF 2) (HF 4) (HF 6) (HF 8) (HF 1) (HF 3) (HF 5) (HF 7) (HF 9) bh bl bs cnt hits mv rr)))
  unfold X3_addHit0_0_0 X3_addHit0_0_6 X3_addHit0_w4 X3_addHit0_w5 X3_addHit0_w10 X3_addHit0_w11 X3_addHit0_w13 X3_addHit0_w14 X3_addHit0_w16 X3_addHit0_w17 X3_addHit0_w19 X3_addHit0_w20
  rw [ahG]
  by_cases c : hits ≤ nI 0
  · have c1 : hits ≤ 0 := c
    simp only [if_pos c, if_pos c1, hfS_id]
  · have c1 : ¬ hits ≤ 0 := c
    obtain ⟨X, hX⟩ : ∃ X, X = X3_hw_run MV mv ((X1_copy_w2 (HF 3) (HF 1)) 4) 60 0 ((X1_copy_w1 (HF 2) (HF 0)), (X1_copy_w2 (HF 3) (HF 1)), 0) := ⟨_, rfl⟩
    have hR : hitR MV mv HF 0 = X := hX.symm
    simp only [if_neg c, if_neg c1, hR, ← hX]
    by_cases c2 : X.1 = 0
    · simp only [if_pos c2]
      unfold ahN
      refine Prod.ext rfl (Prod.ext rfl (Prod.ext rfl (Prod.ext rfl (funext fun k => ?_))))
      by_cases k9 : k = 9
      · subst k9; rfl
      by_cases k8 : k = 8
      · subst k8; rfl
      by_cases k7 : k = 7
      · subst k7; rfl
      by_cases k6 : k = 6
      · subst k6; rfl
      by_cases k5 : k = 5
      · subst k5; rfl
      by_cases k4 : k = 4
      · subst k4; rfl
      by_cases k3 : k = 3
      · subst k3; rfl
      by_cases k2 : k = 2
      · subst k2; rfl
      simp only [hfS, if_neg k2, if_neg k3, if_neg k4, if_neg k5, if_neg k6, if_neg k7, if_neg k8, if_neg k9]
    · simp only [if_neg c2]
      obtain ⟨a, b⟩ := ah0_run (cnt := cnt) (hits := hits) hX 6 0 (ahK 0 mv (bl, bh, rr, bs, HF) X) rfl rfl
      have a1 : X3_ah0_run MV (HF 0) (HF 2) (HF 1) (HF 3) cnt hits mv 6 0 ((X3_keepIfBest_0_0 bl 1 (1000 - (X.2.2 1))), (X3_keepIfBest_0_6 bh bl 1 (1000 - (X.2.2 1))), (upd rr 0 mv), (X3_keepIfBest_w2 bl bs 1 (1000 - (X.2.2 1)) (upd rr 0 mv)), (HF 4), (HF 5), (HF 6), (HF 7), (HF 8), (HF 9)) = ((ahL (ahG MV cnt hits 3 1) cnt 6 0 (ahK 0 mv (bl, bh, rr, bs, HF) X)).1, (ahL (ahG MV cnt hits 3 1) cnt 6 0 (ahK 0 mv (bl, bh, rr, bs, HF) X)).2.1, (ahL (ahG MV cnt hits 3 1) cnt 6 0 (ahK 0 mv (bl, bh, rr, bs, HF) X)).2.2.1, (ahL (ahG MV cnt hits 3 1) cnt 6 0 (ahK 0 mv (bl, bh, rr, bs, HF) X)).2.2.2.1, (ahL (ahG MV cnt hits 3 1) cnt 6 0 (ahK 0 mv (bl, bh, rr, bs, HF) X)).2.2.2.2 4, (ahL (ahG MV cnt hits 3 1) cnt 6 0 (ahK 0 mv (bl, bh, rr, bs, HF) X)).2.2.2.2 5, (ahL (ahG MV cnt hits 3 1) cnt 6 0 (ahK 0 mv (bl, bh, rr, bs, HF) X)).2.2.2.2 6, (ahL (ahG MV cnt hits 3 1) cnt 6 0 (ahK 0 mv (bl, bh, rr, bs, HF) X)).2.2.2.2 7, (ahL (ahG MV cnt hits 3 1) cnt 6 0 (ahK 0 mv (bl, bh, rr, bs, HF) X)).2.2.2.2 8, (ahL (ahG MV cnt hits 3 1) cnt 6 0 (ahK 0 mv (bl, bh, rr, bs, HF) X)).2.2.2.2 9) := a
      rw [a1]
      clear a a1
      generalize ahL (ahG MV cnt hits 3 1) cnt 6 0 (ahK 0 mv (bl, bh, rr, bs, HF) X) = Y at b ⊢
      obtain ⟨y1, y2, y3, y4, H1⟩ := Y
      refine Prod.ext rfl (Prod.ext rfl (Prod.ext rfl (Prod.ext rfl (funext fun k => ?_))))
      by_cases k9 : k = 9
      · subst k9; rfl
      by_cases k8 : k = 8
      · subst k8; rfl
      by_cases k7 : k = 7
      · subst k7; rfl
      by_cases k6 : k = 6
      · subst k6; rfl
      by_cases k5 : k = 5
      · subst k5; rfl
      by_cases k4 : k = 4
      · subst k4; rfl
      refine (b k k4 k5 k6 k7 k8 k9).trans ?_
      show hfS (hfS HF 2 X.2.1) 3 X.2.2 k = _
      simp only [hfS, if_neg k4, if_neg k5, if_neg k6, if_neg k7, if_neg k8, if_neg k9]
