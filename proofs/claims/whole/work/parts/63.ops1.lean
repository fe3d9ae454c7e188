/-! call by call: the class's answer is the model's, and what holds holds again -/
theorem fig_is {f : Int32} (h : X7_needFigure_x f = 0) : f = 0 ∨ f = 1 := by
  unfold X7_needFigure_x at h
  by_cases c : f = 0
  · exact Or.inl c
  · rw [if_neg c] at h
    by_cases c2 : f = 1
    · exact Or.inr c2
    · rw [if_neg c2] at h
      exact absurd h (by decide)
theorem fig_iff {f : Int32} : X8_in_r 1 0 f = 0 ↔ ¬ X7_needFigure_x f = 0 := by
  by_cases c : X7_needFigure_x f = 0
  · rcases fig_is c with rfl | rfl
    · exact ⟨fun q => absurd q (by decide), fun q => absurd rfl q⟩
    · exact ⟨fun q => absurd q (by decide), fun q => absurd rfl q⟩
  · refine ⟨fun _ => c, fun _ => ?_⟩
    unfold X8_in_r
    by_cases c1 : f < 0
    · rw [if_pos c1]
    · rw [if_neg c1]
      by_cases c2 : 1 < f
      · rw [if_pos c2]
      · obtain ⟨j, hj, rfl⟩ := nI_of2 (M := 1) (n := 1) rfl c1 (Int32.not_lt.mp c2)
        rcases (show j = 0 ∨ j = 1 by omega) with rfl | rfl
        · exact absurd rfl c
        · exact absurd rfl c
theorem c12 {g : Nat → Int32} {v : Int32} : upd g 12 v 12 = v := upd_s _ _ _
theorem op_of {t : Nat} {ci g : Nat → Int32} {cf MV MVR mf : Nat → Nat → Int32} (h : INV t ci cf MV MVR g mf) (f w : Int32) :
    X8_of_w0 g f w 12 = (if X7_of_x f w = 0 then 0 else (if X7_of_x f w = 1 then 1 else 2)) ∧ (X7_of_x f w = 0 → X7_of_r (cf 0) (cf 1) f (ci 8) (ci 9) w = X8_of_r (mf 2) (mf 5) f w) ∧ INV (t + 1) ci cf MV MVR (X8_of_w0 g f w) mf := by
  unfold X8_of_w0 X7_of_x
  by_cases a : X7_needFigure_x f = 0
  · have a1 : ¬ X8_in_r 1 0 f = 0 := fun q => fig_iff.mp q a
    by_cases b : X7_needWithin_x 7 0 w = 0
    · have b1 : ¬ X8_in_r 7 0 w = 0 := fun q => in_iff.mp q b
      simp only [if_pos a, if_pos b, if_neg a1, if_neg b1, c12, ↓reduceIte]
      refine ⟨trivial, fun _ => ?_, h.g12 0⟩
      obtain ⟨i, hi, rfl⟩ := within_is (m := 7) rfl b
      obtain ⟨n, nR, fr, tbR, -, -, ⟨-, -, e8, e9, -⟩, -, -, ht, -⟩ := h
      unfold X7_of_r X8_of_r
      rw [if_neg a1, if_neg b1]
      by_cases c : nI i = 7
      · rw [if_pos c, if_pos c]
        unfold X0_wins_r
        rcases fig_is a with rfl | rfl
        · rw [if_pos rfl]; exact e8
        · rw [if_neg (by decide)]; exact e9
      · have hi7 : i < 7 := by
          rcases Nat.lt_or_ge i 7 with q | q
          · exact q
          · exact absurd (by rw [show i = 7 by omega]; rfl) c
        rw [if_neg c, if_neg c]
        rcases fig_is a with rfl | rfl
        · rw [if_pos rfl, show (11 : Int32) * 0 + nI i = nI i by rw [show (11 : Int32) * 0 = 0 from rfl, Int32.zero_add], nI_clamp (by omega)]
          exact (ht i hi7).1
        · rw [if_neg (by decide), show (11 : Int32) * 1 + nI i = nI (11 + i) by rw [show (11 : Int32) * 1 = nI 11 from rfl, nI_add], nI_clamp (by omega)]
          exact (ht i hi7).2
    · have b1 : X8_in_r 7 0 w = 0 := in_iff.mpr b
      have b2 := (nW_or 7 0 w).resolve_left b
      simp only [if_pos a, if_neg b, if_neg a1, if_pos b1, c12, b2, if_neg e10x, if_neg e20x, if_neg e30x]
      exact ⟨by decide, fun q => absurd q (by decide), h.g12 2⟩
  · have a1 : X8_in_r 1 0 f = 0 := fig_iff.mpr a
    have a2 := (nF_or f).resolve_left a
    simp only [if_neg a, if_pos a1, c12, a2, if_neg e10x, if_neg e20x, if_neg e30x]
    exact ⟨by decide, fun q => absurd q (by decide), h.g12 1⟩
theorem op_goesOn {t : Nat} {ci g : Nat → Int32} {cf MV MVR mf : Nat → Nat → Int32} (h : INV t ci cf MV MVR g mf) : ci 0 = X8_goesOn_r g ∧ (ci 0 = 0 ∨ ci 0 = 1) ∧ INV (t + 1) ci cf MV MVR (X8_goesOn_w0 g) mf := by
  obtain ⟨n, nR, fr, tbR, -, ⟨a, b⟩, -⟩ := id h
  exact ⟨a, by rw [a]; exact b, h.g12 0⟩
theorem op_winner {t : Nat} {ci g : Nat → Int32} {cf MV MVR mf : Nat → Nat → Int32} (h : INV t ci cf MV MVR g mf) : X0_wonBy_r (ci 8) (ci 9) = X8_winner_r g ∧ INV (t + 1) ci cf MV MVR (X8_winner_w0 g) mf := by
  obtain ⟨n, nR, fr, tbR, -, -, ⟨-, -, -, -, hw⟩, -⟩ := id h
  refine ⟨?_, h.g12 0⟩
  unfold X8_winner_r
  rcases hw with ⟨a, b, c⟩ | ⟨a, b, c, -⟩ | ⟨a, b, c, -⟩
  · rw [c]
    rcases a with a | a <;> rcases b with b | b <;> rw [a, b] <;> rfl
  · rw [c, a]
    rcases b with b | b <;> rw [b] <;> rfl
  · rw [c, b]
    rcases a with a | a <;> rw [a] <;> rfl
theorem op_again {t : Nat} {ci g : Nat → Int32} {cf MV MVR mf : Nat → Nat → Int32} (h : INV t ci cf MV MVR g mf) (x f w : Int32) :
    X8_again_w0 g f x w 12 = (if X7_again_x (ci 7) f (ci 3) x w = 0 then 0 else (if X7_again_x (ci 7) f (ci 3) x w = 1 then 1 else 2)) ∧ (X7_again_x (ci 7) f (ci 3) x w = 0 → X7_again_r (cf 2) (cf 3) MVR (ci 4) f (ci 3) x (ci 5) (cf 6) (ci 6) (cf 7) w = X8_again_r g (mf 4) f x w ∧ INV (t + 1) ci (hfS (hfS cf 2 (X7_again_w3 (cf 2) (cf 3) MVR (ci 4) (ci 3) x (ci 5) (cf 6) (ci 6) (cf 7))) 3 (X7_again_w4 (cf 2) (cf 3) MVR (ci 4) (ci 3) x (ci 5) (cf 6) (ci 6) (cf 7))) MV MVR (X8_again_w0 g f x w) mf) ∧ INV (t + 1) ci cf MV MVR (X8_again_w0 g f x w) mf := by
  obtain ⟨n, nR, fr, tbR, -, -, -, ⟨e3, hfr, e7⟩, hfl, -, -, htape, -⟩ := id h
  unfold X8_again_w0 X7_again_x
  by_cases c7 : ci 7 = 0
  · have e7' : g 7 = -1 := (e7.resolve_left (fun q => q.1 c7)).2.1
    have a1 : X8_in_r (g 7) 0 x = 0 := by
      rw [e7']
      unfold X8_in_r
      by_cases c : x < 0
      · rw [if_pos c]
      · rw [if_neg c, if_pos (Int32.lt_of_lt_of_le (by decide : (-1 : Int32) < 0) (Int32.not_lt.mp c))]
    simp only [if_pos c7, if_pos a1, c12]
    exact ⟨by decide, fun q => absurd q (by decide), h.g12 1⟩
  · have e7' : g 7 = nI fr := (e7.resolve_right (fun q => c7 q.1)).2
    obtain ⟨e2, hT, hV, hC, hD, ml, mr, hin, htd⟩ := htape c7
    by_cases c0 : x < 0
    · have a1 : X8_in_r (g 7) 0 x = 0 := by unfold X8_in_r; rw [if_pos c0]
      simp only [if_neg c7, if_pos c0, if_pos a1, c12]
      exact ⟨by decide, fun q => absurd q (by decide), h.g12 1⟩
    · by_cases cx : x ≤ ci 3
      · have a1 : ¬ X8_in_r (g 7) 0 x = 0 := by
          unfold X8_in_r
          rw [if_neg c0, if_neg (by rw [e7', ← e3]; exact Int32.not_lt.mpr cx)]
          decide
        by_cases a : X7_needFigure_x f = 0
        · have a2 : ¬ X8_in_r 1 0 f = 0 := fun q => fig_iff.mp q a
          by_cases b : X7_needWithin_x 6 0 w = 0
          · have b1 : ¬ X8_in_r 6 0 w = 0 := fun q => in_iff.mp q b
            simp only [if_neg c7, if_neg c0, if_pos cx, if_pos a, if_pos b, if_neg a1, if_neg a2, if_neg b1, c12, ↓reduceIte]
            obtain ⟨k, hk, rfl⟩ := nI_of c0
            have hkf : k ≤ fr := (nI_leI hk (by omega)).mp (by rw [← e3]; exact cx)
            obtain ⟨i, hi, rfl⟩ := within_is (m := 6) rfl b
            have hp : X6_pin_run MVR (cf 6) (cf 7) (ci 3) (nI k) 600 0 (X6_prepare_w2 (cf 2) (ci 4) (ci 5), X6_prepare_w3 (cf 3) (ci 4) (ci 6)) = rep MVR (cf 6) (cf 7) (X1_prepare_w1 (cf 2) (ci 4) (ci 5)) (X1_prepare_w2 (cf 3) (ci 4) (ci 6)) k := by
              rw [e3]
              exact pin_eq (F := X1_prepare_w1 (cf 2) (ci 4) (ci 5)) (G := X1_prepare_w2 (cf 3) (ci 4) (ci 6)) hkf hfr 600 0 (Nat.zero_le _) (by omega)
            have hS := relS_rep hT hV hC (relS_lay (MV := MVR) (cnt := nR) (sA := fun _ => 0) (ap := ci 4) (lm := ci 5) (rm := ci 6) hfl.2.1.1 hfl.2.1.2 rfl rfl ml mr) k (fun m hm => hin m (by omega))
            have hS2 : relS MVR nR (rep MVR (cf 6) (cf 7) (X1_prepare_w1 (cf 2) (ci 4) (ci 5)) (X1_prepare_w2 (cf 3) (ci 4) (ci 6)) k).1 (rep MVR (cf 6) (cf 7) (X1_prepare_w1 (cf 2) (ci 4) (ci 5)) (X1_prepare_w2 (cf 3) (ci 4) (ci 6)) k).2 (mrep tbR (cf 6) (cf 7) (lay0 (ci 4) (ci 5) (ci 6)) k) := hS
            obtain ⟨td1, td2⟩ := htd k hkf i (by omega)
            refine ⟨trivial, fun _ => ⟨?_, ?_⟩, h.g12 0⟩
            · unfold X7_again_r X8_again_r
              rw [if_neg a1, if_neg a2, if_neg b1, hp]
              rcases fig_is a with rfl | rfl
              · rw [if_pos rfl, show (14 : Int32) * nI k + 7 * 0 + nI i = nI (14 * k + i) by rw [show (14 : Int32) = nI 14 from rfl, show (7 : Int32) * 0 = nI 0 from rfl, pk_mul, nI_add, nI_add]; rfl, nI_clamp (by omega), td1]
                exact tell_L hS2.1 hi
              · rw [if_neg (by decide), show (14 : Int32) * nI k + 7 * 1 + nI i = nI (14 * k + 7 + i) by rw [show (14 : Int32) = nI 14 from rfl, show (7 : Int32) * 1 = nI 7 from rfl, pk_mul, nI_add, nI_add], nI_clamp (by omega), td2]
                exact tell_R hS2.2.1 hi
            · refine h.keep (fun _ _ => rfl) rfl rfl rfl rfl ?_ rfl rfl rfl rfl rfl rfl rfl rfl rfl
              refine ⟨hfl.1, ⟨?_, ?_⟩, hfl.2.2.1, fun k hk => ?_⟩
              · show ¬ X7_again_w3 (cf 2) (cf 3) MVR (ci 4) (ci 3) (nI k) (ci 5) (cf 6) (ci 6) (cf 7) 15 = 0
                unfold X7_again_w3
                rw [hp]
                exact hS2.2.2.2.2.1
              · show X7_again_w4 (cf 2) (cf 3) MVR (ci 4) (ci 3) (nI k) (ci 5) (cf 6) (ci 6) (cf 7) 15 = 0
                unfold X7_again_w4
                rw [hp]
                exact hS2.2.2.2.2.2
              · rw [hfS_n _ _ (by omega), hfS_n _ _ (by omega), hfS_n _ _ (by omega), hfS_n _ _ (by omega)]
                exact hfl.2.2.2 k hk
          · have b1 : X8_in_r 6 0 w = 0 := in_iff.mpr b
            have b2 := (nW_or 6 0 w).resolve_left b
            simp only [if_neg c7, if_neg c0, if_pos cx, if_pos a, if_neg b, if_neg a1, if_neg a2, if_pos b1, c12, b2, if_neg e10x, if_neg e20x, if_neg e30x]
            exact ⟨by decide, fun q => absurd q (by decide), h.g12 2⟩
        · have a2 : X8_in_r 1 0 f = 0 := fig_iff.mpr a
          have a3 := (nF_or f).resolve_left a
          simp only [if_neg c7, if_neg c0, if_pos cx, if_neg a, if_neg a1, if_pos a2, c12, a3, if_neg e10x, if_neg e20x, if_neg e30x]
          exact ⟨by decide, fun q => absurd q (by decide), h.g12 1⟩
      · have a1 : X8_in_r (g 7) 0 x = 0 := by
          unfold X8_in_r
          rw [if_neg c0, if_pos (by rw [e7', ← e3]; exact Int32.not_le.mp cx)]
        simp only [if_neg c7, if_neg c0, if_neg cx, if_pos a1, c12]
        exact ⟨by decide, fun q => absurd q (by decide), h.g12 1⟩
