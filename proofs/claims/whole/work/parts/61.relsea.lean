/-! the model's search and the class's recursion tell the same -/
theorem nI_s (d : Nat) : nI d + 1 = nI (d + 1) := nI_add d 1
theorem sea_j {tb : Nat → Int32} {most : Int32} (n : Nat) : ∀ (j j' : Nat) (x : (Nat → Int32) × (Nat → Int32) × (Nat → Int32) × (Nat → Int32) × (Nat → Int32) × Int32 × Int32), X8_sea_run tb most n j x = X8_sea_run tb most n j' x := by
  induction n with
  | zero =>
    intro j j' x
    obtain ⟨a, b, c, d, e, f, g⟩ := x
    rw [X8_sea_run, X8_sea_run]
  | succ n ih =>
    intro j j' x
    obtain ⟨a, b, c, d, e, f, g⟩ := x
    rw [X8_sea_run_s, X8_sea_run_s]
    split
    · rfl
    · exact ih _ _ _
theorem relS_s {MV : Nat → Nat → Int32} {n : Nat} {F G s s1 : Nat → Int32} (h : relS MV n F G s) (hs : ∀ q, q < 22 → s1 q = s q) : relS MV n F G s1 := by
  obtain ⟨⟨a0, a1, a2, a3, a5, a4, a9, a10, a6, a8, a7⟩, ⟨b0, b1, b2, b3, b5, b4, b9, b10, b6, b8, b7⟩, hI, hJ, f15, g15⟩ := h
  refine ⟨⟨?_, ?_, ?_, ?_, ?_, ?_, ?_, ?_, fun q => ?_, fun q => ?_, fun q => ?_⟩, ⟨?_, ?_, ?_, ?_, ?_, ?_, ?_, ?_, fun q => ?_, fun q => ?_, fun q => ?_⟩, hI, hJ, f15, g15⟩
  · rw [hs 0 (by decide)]; exact a0
  · rw [hs 1 (by decide)]; exact a1
  · rw [hs 2 (by decide)]; exact a2
  · rw [hs 3 (by decide)]; exact a3
  · rw [hs 4 (by decide)]; exact a5
  · rw [hs 6 (by decide)]; exact a4
  · rw [hs 7 (by decide)]; exact a9
  · rw [hs 8 (by decide)]; exact a10
  · rw [hs 5 (by decide)]; exact a6 q
  · rw [hs 5 (by decide)]; exact a8 q
  · rw [hs 9 (by decide)]; exact a7 q
  · rw [hs 11 (by decide)]; exact b0
  · rw [hs 12 (by decide)]; exact b1
  · rw [hs 13 (by decide)]; exact b2
  · rw [hs 14 (by decide)]; exact b3
  · rw [hs 15 (by decide)]; exact b5
  · rw [hs 17 (by decide)]; exact b4
  · rw [hs 18 (by decide)]; exact b9
  · rw [hs 19 (by decide)]; exact b10
  · rw [hs 16 (by decide)]; exact b6 q
  · rw [hs 16 (by decide)]; exact b8 q
  · rw [hs 20 (by decide)]; exact b7 q
theorem relS_copy {MV : Nat → Nat → Int32} {n : Nat} {F G s s1 T U : Nat → Int32} (h : relS MV n F G s) (f15 : ¬ T 15 = 0) (g15 : U 15 = 0) (hs : ∀ q, q < 22 → s1 q = s q) : relS MV n (X1_copy_w1 T F) (X1_copy_w2 U G) s1 := by
  obtain ⟨hL, hR, hI, hJ, -, -⟩ := relS_s h hs
  exact ⟨hL, hR, figI_congr hI rfl rfl rfl rfl rfl rfl rfl, figI_congr hJ rfl rfl rfl rfl rfl rfl rfl, f15, g15⟩
def RM (MV : Nat → Nat → Int32) (n d : Nat) (S : aS) (g kp rw br : Nat → Int32) : Prop :=
  g 1 = nI n ∧ S.1 = g 16 ∧ S.2.1 = g 15 ∧ (∃ b, 1 ≤ b ∧ b ≤ 4 ∧ g 15 = nI b ∧ ∀ k, k < b → S.2.2.2.1 k = br k) ∧ (∀ k, k < d → S.2.2.1 k = rw k) ∧ (∀ k, 1 ≤ k → k ≤ d → relS MV n (S.2.2.2.2 (2 * k)) (S.2.2.2.2 (2 * k + 1)) (fun q => kp (22 * k + q))) ∧ (∀ k, k ≤ 4 → ¬ S.2.2.2.2 (2 * k) 15 = 0 ∧ S.2.2.2.2 (2 * k + 1) 15 = 0)
theorem RM_hit {MV : Nat → Nat → Int32} {tb g kp rw br s : Nat → Int32} {S : aS} {n d i : Nat} (hT : relT MV tb n) (hV : relV MV n) (hC : relC MV n) (hd : d < 4) (h1 : 1 ≤ d) (hi : i < n) (h : RM MV n d S g kp rw br) : (hitR MV (nI i) S.2.2.2.2 d).1 = (X8_hit_run tb 0 (nI i) ((X8_fetch_w2 s kp (nI d)) 17) 60 0 (g, (X8_fetch_w2 s kp (nI d)), 0)).1 ∧ relS MV n (hitR MV (nI i) S.2.2.2.2 d).2.1 (hitR MV (nI i) S.2.2.2.2 d).2.2 (X8_hit_run tb 0 (nI i) ((X8_fetch_w2 s kp (nI d)) 17) 60 0 (g, (X8_fetch_w2 s kp (nI d)), 0)).2.2 := by
  obtain ⟨-, -, -, -, -, hk, hf⟩ := h
  have hS := relS_copy (s1 := X8_fetch_w2 s kp (nI d)) (hk d h1 (Nat.le_refl _)) (hf (d + 1) (by omega)).1 (hf (d + 1) (by omega)).2 (fun q hq => fetch_at (by omega) hq)
  have e4 : X1_copy_w2 (S.2.2.2.2 (2 * d + 3)) (S.2.2.2.2 (2 * d + 1)) 4 = X8_fetch_w2 s kp (nI d) 17 := hS.2.1.2.2.2.2.2.1
  unfold hitR
  rw [e4]
  exact rel_hits hT hV hC hi 60 0 _ _ _ g 0 hS (Or.inl rfl)
theorem note_br {g s rw br : Nat → Int32} {d k : Nat} (hd : d < 4) (hk : k < d + 1) (c : g 15 = 0 ∨ ¬ (1000 - s 12 ≤ g 16)) : X8_noteRow_w8 g s rw br (nI (d + 1)) k = rw k := by
  have key : (if nI (d + 1) ≤ 0 then br else (if nI (d + 1) ≤ 1 then (upd br 0 (rw 0)) else (if nI (d + 1) ≤ 2 then (upd (upd br 0 (rw 0)) 1 (rw 1)) else (if nI (d + 1) ≤ 3 then (upd (upd (upd br 0 (rw 0)) 1 (rw 1)) 2 (rw 2)) else (upd (upd (upd (upd br 0 (rw 0)) 1 (rw 1)) 2 (rw 2)) 3 (rw 3)))))) k = rw k := by
    have hdd : d = 0 ∨ d = 1 ∨ d = 2 ∨ d = 3 := by omega
    rcases hdd with rfl | rfl | rfl | rfl
    · rw [if_neg (by decide), if_pos (by decide)]
      have : k = 0 := by omega
      subst this
      rfl
    · rw [if_neg (by decide), if_neg (by decide), if_pos (by decide)]
      rcases (show k = 0 ∨ k = 1 by omega) with rfl | rfl <;> rfl
    · rw [if_neg (by decide), if_neg (by decide), if_neg (by decide), if_pos (by decide)]
      rcases (show k = 0 ∨ k = 1 ∨ k = 2 by omega) with rfl | rfl | rfl <;> rfl
    · rw [if_neg (by decide), if_neg (by decide), if_neg (by decide), if_neg (by decide)]
      rcases (show k = 0 ∨ k = 1 ∨ k = 2 ∨ k = 3 by omega) with rfl | rfl | rfl | rfl <;> rfl
  unfold X8_noteRow_w8
  by_cases c1 : g 15 = 0
  · rw [if_pos c1]
    exact key
  · rw [if_neg c1, if_neg (c.resolve_left c1)]
    exact key
theorem note_br0 {g s rw br : Nat → Int32} {m : Int32} (c : ¬ g 15 = 0) (c2 : 1000 - s 12 ≤ g 16) : X8_noteRow_w8 g s rw br m = br := by
  unfold X8_noteRow_w8
  rw [if_neg c, if_pos c2]
theorem RM_keep {MV : Nat → Nat → Int32} {g g1 s1 kp rw br : Nat → Int32} {S : aS} {r : Int32 × (Nat → Int32) × (Nat → Int32)} {n d i : Nat} (hd : d < 4) (h1 : 1 ≤ d) (h : RM MV n d S g kp rw br) (hr : relS MV n r.2.1 r.2.2 s1) (e1 : g1 1 = g 1) (e15 : g1 15 = g 15) (e16 : g1 16 = g 16) : RM MV n (d + 1) (ahK d (nI i) S r) (X8_noteRow_w0 g1 s1 (nI (d + 1))) (X8_keepState_w4 s1 kp (nI (d + 1))) (upd rw d (nI i)) (X8_noteRow_w8 g1 s1 (upd rw d (nI i)) br (nI (d + 1))) := by
  obtain ⟨hg, hbl, hbh, ⟨b, hb1, hb4, hb, hbs⟩, hrow, hk, hf⟩ := h
  have e12 : r.2.2 1 = s1 12 := hr.2.1.2.1
  have hrow1 : ∀ k, k < d + 1 → upd S.2.2.1 d (nI i) k = upd rw d (nI i) k := by
    intro k hk9
    by_cases c : k = d
    · subst c
      rw [upd_s, upd_s]
    · rw [upd_n _ _ c, upd_n _ _ c]
      exact hrow k (by omega)
  have hrows : ∀ k, 1 ≤ k → k ≤ d + 1 → relS MV n ((ahK d (nI i) S r).2.2.2.2 (2 * k)) ((ahK d (nI i) S r).2.2.2.2 (2 * k + 1)) (fun q => X8_keepState_w4 s1 kp (nI (d + 1)) (22 * k + q)) := by
    intro k hk1 hk2
    by_cases c : k = d + 1
    · subst c
      have z1 : (ahK d (nI i) S r).2.2.2.2 (2 * (d + 1)) = r.2.1 := by
        show hfS (hfS S.2.2.2.2 (2 * d + 2) r.2.1) (2 * d + 3) r.2.2 (2 * (d + 1)) = r.2.1
        rw [hfS_n _ _ (by omega), show 2 * (d + 1) = 2 * d + 2 by omega, hfS_s]
      have z2 : (ahK d (nI i) S r).2.2.2.2 (2 * (d + 1) + 1) = r.2.2 := by
        show hfS (hfS S.2.2.2.2 (2 * d + 2) r.2.1) (2 * d + 3) r.2.2 (2 * (d + 1) + 1) = r.2.2
        rw [show 2 * (d + 1) + 1 = 2 * d + 3 by omega, hfS_s]
      rw [z1, z2]
      exact relS_s hr (fun q hq => keep_same (by omega) hq)
    · have z1 : (ahK d (nI i) S r).2.2.2.2 (2 * k) = S.2.2.2.2 (2 * k) := by
        show hfS (hfS S.2.2.2.2 (2 * d + 2) r.2.1) (2 * d + 3) r.2.2 (2 * k) = _
        rw [hfS_n _ _ (by omega), hfS_n _ _ (by omega)]
      have z2 : (ahK d (nI i) S r).2.2.2.2 (2 * k + 1) = S.2.2.2.2 (2 * k + 1) := by
        show hfS (hfS S.2.2.2.2 (2 * d + 2) r.2.1) (2 * d + 3) r.2.2 (2 * k + 1) = _
        rw [hfS_n _ _ (by omega), hfS_n _ _ (by omega)]
      rw [z1, z2]
      exact relS_s (hk k hk1 (by omega)) (fun q hq => keep_other (by omega) hq c)
  have hfl : ∀ k, k ≤ 4 → ¬ (ahK d (nI i) S r).2.2.2.2 (2 * k) 15 = 0 ∧ (ahK d (nI i) S r).2.2.2.2 (2 * k + 1) 15 = 0 := by
    intro k hk4
    by_cases c : k = d + 1
    · have hq := hrows k (by omega) (by omega)
      exact ⟨hq.2.2.2.2.1, hq.2.2.2.2.2⟩
    · have z1 : (ahK d (nI i) S r).2.2.2.2 (2 * k) = S.2.2.2.2 (2 * k) := by
        show hfS (hfS S.2.2.2.2 (2 * d + 2) r.2.1) (2 * d + 3) r.2.2 (2 * k) = _
        rw [hfS_n _ _ (by omega), hfS_n _ _ (by omega)]
      have z2 : (ahK d (nI i) S r).2.2.2.2 (2 * k + 1) = S.2.2.2.2 (2 * k + 1) := by
        show hfS (hfS S.2.2.2.2 (2 * d + 2) r.2.1) (2 * d + 3) r.2.2 (2 * k + 1) = _
        rw [hfS_n _ _ (by omega), hfS_n _ _ (by omega)]
      rw [z1, z2]
      exact hf k hk4
  have c15 : ¬ g1 15 = 0 := by
    rw [e15, hb]
    exact nI_ne0 (by omega) (by omega)
  have c4 : ¬ (4 : Int32) < nI (d + 1) := by
    intro q
    have := (nI_ltI (a := 4) (b := d + 1) (by decide) (by omega)).mp q
    omega
  refine ⟨by rw [note_g (by decide) (by decide), e1, hg], ?_, ?_, ?_, hrow1, hrows, hfl⟩
  · show X3_keepIfBest_0_0 S.1 (nI (d + 1)) (1000 - r.2.2 1) = _
    unfold X3_keepIfBest_0_0 X8_noteRow_w0
    rw [e12, hbl, if_neg c15, e16]
    by_cases c : 1000 - s1 12 ≤ g 16
    · rw [if_pos c, if_pos c, e16]
    · rw [if_neg c, if_neg c, if_neg c4, upd_n _ _ (by decide), upd_s]
  · show X3_keepIfBest_0_6 S.2.1 S.1 (nI (d + 1)) (1000 - r.2.2 1) = _
    unfold X3_keepIfBest_0_6 X8_noteRow_w0
    rw [e12, hbl, if_neg c15, e16]
    by_cases c : 1000 - s1 12 ≤ g 16
    · rw [if_pos c, if_pos c, e15, hbh]
    · rw [if_neg c, if_neg c, if_neg c4, upd_s]
  · by_cases c : 1000 - s1 12 ≤ g 16
    · refine ⟨b, hb1, hb4, ?_, fun k hk9 => ?_⟩
      · unfold X8_noteRow_w0
        rw [if_neg c15, e16, if_pos c, e15, hb]
      · show X3_keepIfBest_w2 S.1 S.2.2.2.1 (nI (d + 1)) (1000 - r.2.2 1) (upd S.2.2.1 d (nI i)) k = _
        unfold X3_keepIfBest_w2
        rw [e12, hbl, if_pos c, note_br0 c15 (by rw [e16]; exact c)]
        exact hbs k hk9
    · refine ⟨d + 1, by omega, by omega, ?_, fun k hk9 => ?_⟩
      · unfold X8_noteRow_w0
        rw [if_neg c15, e16, if_neg c, upd_s]
      · show X3_keepIfBest_w2 S.1 S.2.2.2.1 (nI (d + 1)) (1000 - r.2.2 1) (upd S.2.2.1 d (nI i)) k = _
        unfold X3_keepIfBest_w2
        rw [e12, hbl, if_neg c, if_neg c4, nI_clamp (by omega), note_br hd hk9 (Or.inr (by rw [e16]; exact c)), ← hrow1 k hk9]
        unfold va_cpy
        rw [if_pos ⟨Nat.zero_le _, by omega⟩, Nat.sub_zero, Nat.zero_add]
theorem RM_none {MV : Nat → Nat → Int32} {g g1 s1 kp rw br : Nat → Int32} {S : aS} {r : Int32 × (Nat → Int32) × (Nat → Int32)} {n d : Nat} (hd : d < 4) (h : RM MV n d S g kp rw br) (hr : relS MV n r.2.1 r.2.2 s1) (e1 : g1 1 = g 1) (e15 : g1 15 = g 15) (e16 : g1 16 = g 16) : RM MV n d (ahN d S r) g1 kp rw br := by
  obtain ⟨hg, hbl, hbh, ⟨b, hb1, hb4, hb, hbs⟩, hrow, hk, hf⟩ := h
  have zz : ∀ k, ¬ k = 2 * d + 2 → ¬ k = 2 * d + 3 → (ahN d S r).2.2.2.2 k = S.2.2.2.2 k := by
    intro k k1 k2
    show hfS (hfS S.2.2.2.2 (2 * d + 2) r.2.1) (2 * d + 3) r.2.2 k = _
    rw [hfS_n _ _ k2, hfS_n _ _ k1]
  refine ⟨by rw [e1, hg], by rw [e16]; exact hbl, by rw [e15]; exact hbh, ⟨b, hb1, hb4, by rw [e15, hb], hbs⟩, hrow, fun k k1 k2 => ?_, fun k k4 => ?_⟩
  · rw [zz _ (by omega) (by omega), zz _ (by omega) (by omega)]
    exact hk k k1 k2
  · by_cases c : k = d + 1
    · subst c
      have z1 : (ahN d S r).2.2.2.2 (2 * (d + 1)) = r.2.1 := by
        show hfS (hfS S.2.2.2.2 (2 * d + 2) r.2.1) (2 * d + 3) r.2.2 (2 * (d + 1)) = r.2.1
        rw [hfS_n _ _ (by omega), show 2 * (d + 1) = 2 * d + 2 by omega, hfS_s]
      have z2 : (ahN d S r).2.2.2.2 (2 * (d + 1) + 1) = r.2.2 := by
        show hfS (hfS S.2.2.2.2 (2 * d + 2) r.2.1) (2 * d + 3) r.2.2 (2 * (d + 1) + 1) = r.2.2
        rw [show 2 * (d + 1) + 1 = 2 * d + 3 by omega, hfS_s]
      rw [z1, z2]
      exact ⟨hr.2.2.2.2.1, hr.2.2.2.2.2⟩
    · rw [zz _ (by omega) (by omega), zz _ (by omega) (by omega)]
      exact hf k k4
theorem ahL_row {f : Int32 → aS → aS} {cnt : Int32} {q : Nat} (hf : ∀ (i : Int32) (S : aS), (f i S).2.2.1 q = S.2.2.1 q) : ∀ (k j : Nat) (S : aS), (ahL f cnt k j S).2.2.1 q = S.2.2.1 q
  | 0, _, _ => rfl
  | k + 1, j, S => by
    rw [ahL]
    split
    · rfl
    · rw [ahL_row hf k (j + 1), hf]
theorem ahG_row {MV : Nat → Nat → Int32} {cnt hits : Int32} (n : Nat) : ∀ (d : Nat) (mv : Int32) (S : aS) (q : Nat), q < d → (ahG MV cnt hits n d mv S).2.2.1 q = S.2.2.1 q := by
  induction n with
  | zero =>
    intro d mv S q _
    rw [ahG]
  | succ n ih =>
    intro d mv S q hq
    rw [ahG]
    split
    · rfl
    · split
      · rfl
      · rw [ahL_row (fun i S => ih (d + 1) i S q (by omega))]
        exact upd_n _ _ (by omega)
theorem ahL_stop {f : Int32 → aS → aS} {n j : Nat} {S : aS} (h : n ≤ j) (hj : j < 1000) (k : Nat) : ahL f (nI n) k j S = S := by
  cases k with
  | zero => rfl
  | succ k => rw [ahL, if_pos ((nI_leI (by omega) (by omega)).mpr h)]
theorem ahG_stop {MV : Nat → Nat → Int32} {cnt : Int32} {m d : Nat} {mv : Int32} {S : aS} (h : m ≤ d) (hd : d < 1000) (k : Nat) : ahG MV cnt (nI m) k d mv S = S := by
  cases k with
  | zero => rfl
  | succ k => rw [ahG, if_pos ((nI_leI (by omega) (by omega)).mpr h)]
theorem RM_less {MV : Nat → Nat → Int32} {g kp rw br : Nat → Int32} {S : aS} {n d : Nat} (h : RM MV n (d + 1) S g kp rw br) : RM MV n d S g kp rw br := by
  obtain ⟨hg, hbl, hbh, hb, hrow, hk, hf⟩ := h
  exact ⟨hg, hbl, hbh, hb, fun k hk9 => hrow k (by omega), fun k k1 k2 => hk k k1 (by omega), hf⟩
theorem sea_T {MV : Nat → Nat → Int32} {tb : Nat → Int32} {n m : Nat} (hT : relT MV tb n) (hV : relV MV n) (hC : relC MV n) (h6 : n ≤ 6) (hm4 : m ≤ 4) (e : Nat) : ∀ d, d + e = m → 1 ≤ d → ∀ (q n0 : Nat), n0 + q = n → ∀ (S : aS) (g s kp rw br : Nat → Int32), RM MV n d S g kp rw br →
    ∃ (k : Nat) (g1 s1 kp1 rw1 br1 : Nat → Int32), (∀ r, X8_sea_run tb (nI m) (k + r) 0 (g, s, kp, rw, br, nI d, nI n0) = X8_sea_run tb (nI m) r 0 (g1, s1, kp1, rw1, br1, nI d + (-1), X8_search_j97 (nI d) rw1)) ∧ RM MV n d (ahL (ahG MV (nI n) (nI m) (4 - d) d) (nI n) (6 - n0) n0 S) g1 kp1 rw1 br1 := by
  induction e with
  | zero =>
    intro d hd h1 q n0 hq S g s kp rw br h
    have hdm : d = m := by omega
    subst hdm
    have c0 : ¬ nI d ≤ 0 := by
      intro c
      have := (nI_leI (a := d) (b := 0) (by omega) (by decide)).mp c
      omega
    refine ⟨1, g, s, kp, rw, br, fun r => ?_, ?_⟩
    · rw [Nat.add_comm 1 r, X8_sea_run_s, if_neg c0]
      unfold X8_search_L56_g9 X8_search_L56_sA9 X8_search_L56_kp9 X8_search_L56_rw9 X8_search_L56_br9 X8_search_L56_dp X8_search_L56_nx
      simp only [↓reduceIte]
      exact sea_j r (0 + 1) 0 (g, s, kp, rw, br, nI d + (-1), X8_search_j97 (nI d) rw)
    · rw [ahL_id (fun i S => ahG_stop (Nat.le_refl _) (by omega) _)]
      exact h
  | succ e ihe =>
    intro d hd h1 q
    have c0 : ¬ nI d ≤ 0 := by
      intro c
      have := (nI_leI (a := d) (b := 0) (by omega) (by decide)).mp c
      omega
    have cm : ¬ nI d = nI m := by
      intro c
      have := congrArg Int32.toNatClampNeg c
      rw [nI_clamp (by omega), nI_clamp (by omega)] at this
      omega
    induction q with
    | zero =>
      intro n0 hq S g s kp rw br h
      have hn0 : n0 = n := by omega
      subst hn0
      refine ⟨1, g, s, kp, rw, br, fun r => ?_, ?_⟩
      · rw [Nat.add_comm 1 r, X8_sea_run_s, if_neg c0]
        unfold X8_search_L56_g9 X8_search_L56_sA9 X8_search_L56_kp9 X8_search_L56_rw9 X8_search_L56_br9 X8_search_L56_dp X8_search_L56_nx
        simp only [if_neg cm, if_pos h.1.symm]
        exact sea_j _ _ _ _
      · rw [ahL_stop (Nat.le_refl _) (by omega)]
        exact h
    | succ q ihq =>
      intro n0 hq S g s kp rw br h
      have hi : n0 < n := by omega
      have cn : ¬ nI n0 = g 1 := by
        rw [h.1]
        intro c
        have := congrArg Int32.toNatClampNeg c
        rw [nI_clamp (by omega), nI_clamp (by omega)] at this
        omega
      obtain ⟨er, hr⟩ := RM_hit (s := s) hT hV hC (by omega) h1 hi h
      have e1 := hit_g (tb := tb) (isF := 0) (c := (X8_fetch_w2 s kp (nI d)) 17) (move := nI n0) (k := 1) (by decide) 60 0 g (X8_fetch_w2 s kp (nI d)) 0
      have e15 := hit_g (tb := tb) (isF := 0) (c := (X8_fetch_w2 s kp (nI d)) 17) (move := nI n0) (k := 15) (by decide) 60 0 g (X8_fetch_w2 s kp (nI d)) 0
      have e16 := hit_g (tb := tb) (isF := 0) (c := (X8_fetch_w2 s kp (nI d)) 17) (move := nI n0) (k := 16) (by decide) 60 0 g (X8_fetch_w2 s kp (nI d)) 0
      have cl : ahL (ahG MV (nI n) (nI m) (4 - d) d) (nI n) (6 - n0) n0 S = ahL (ahG MV (nI n) (nI m) (4 - d) d) (nI n) (6 - (n0 + 1)) (n0 + 1) (ahG MV (nI n) (nI m) (4 - d) d (nI n0) S) := by
        rw [show 6 - n0 = (6 - (n0 + 1)) + 1 by omega, ahL, if_neg (by rw [nI_leI (by omega) (by omega)]; omega)]
      have cg : ahG MV (nI n) (nI m) (4 - d) d (nI n0) S = if (hitR MV (nI n0) S.2.2.2.2 d).1 = 0 then ahN d S (hitR MV (nI n0) S.2.2.2.2 d) else ahL (ahG MV (nI n) (nI m) (4 - (d + 1)) (d + 1)) (nI n) 6 0 (ahK d (nI n0) S (hitR MV (nI n0) S.2.2.2.2 d)) := by
        rw [show 4 - d = (4 - (d + 1)) + 1 by omega, ahG, if_neg (by rw [nI_leI (by omega) (by omega)]; omega)]
      have step : ∀ r, X8_sea_run tb (nI m) (r + 1) 0 (g, s, kp, rw, br, nI d, nI n0) = X8_sea_run tb (nI m) r 0 (if (X8_hit_run tb 0 (nI n0) ((X8_fetch_w2 s kp (nI d)) 17) 60 0 (g, (X8_fetch_w2 s kp (nI d)), 0)).1 = 0 then ((X8_hit_run tb 0 (nI n0) ((X8_fetch_w2 s kp (nI d)) 17) 60 0 (g, (X8_fetch_w2 s kp (nI d)), 0)).2.1, (X8_hit_run tb 0 (nI n0) ((X8_fetch_w2 s kp (nI d)) 17) 60 0 (g, (X8_fetch_w2 s kp (nI d)), 0)).2.2, kp, rw, br, nI d, nI n0 + 1) else (X8_noteRow_w0 (X8_hit_run tb 0 (nI n0) ((X8_fetch_w2 s kp (nI d)) 17) 60 0 (g, (X8_fetch_w2 s kp (nI d)), 0)).2.1 (X8_hit_run tb 0 (nI n0) ((X8_fetch_w2 s kp (nI d)) 17) 60 0 (g, (X8_fetch_w2 s kp (nI d)), 0)).2.2 (nI d + 1), (X8_hit_run tb 0 (nI n0) ((X8_fetch_w2 s kp (nI d)) 17) 60 0 (g, (X8_fetch_w2 s kp (nI d)), 0)).2.2, X8_keepState_w4 (X8_hit_run tb 0 (nI n0) ((X8_fetch_w2 s kp (nI d)) 17) 60 0 (g, (X8_fetch_w2 s kp (nI d)), 0)).2.2 kp (nI d + 1), upd rw (nI d).toNatClampNeg (nI n0), X8_noteRow_w8 (X8_hit_run tb 0 (nI n0) ((X8_fetch_w2 s kp (nI d)) 17) 60 0 (g, (X8_fetch_w2 s kp (nI d)), 0)).2.1 (X8_hit_run tb 0 (nI n0) ((X8_fetch_w2 s kp (nI d)) 17) 60 0 (g, (X8_fetch_w2 s kp (nI d)), 0)).2.2 (upd rw (nI d).toNatClampNeg (nI n0)) br (nI d + 1), nI d + 1, 0)) := by
        intro r
        rw [X8_sea_run_s, if_neg c0]
        unfold X8_search_L56_g9 X8_search_L56_sA9 X8_search_L56_kp9 X8_search_L56_rw9 X8_search_L56_br9 X8_search_L56_dp X8_search_L56_nx
        simp only [if_neg cm, if_neg cn]
        generalize X8_hit_run tb 0 (nI n0) ((X8_fetch_w2 s kp (nI d)) 17) 60 0 (g, (X8_fetch_w2 s kp (nI d)), 0) = R
        by_cases c : R.1 = 0
        · simp only [if_pos c]
          exact sea_j _ _ _ _
        · simp only [if_neg c]
          exact sea_j _ _ _ _
      rw [cl, cg]
      generalize hitR MV (nI n0) S.2.2.2.2 d = r9 at er hr ⊢
      generalize X8_hit_run tb 0 (nI n0) ((X8_fetch_w2 s kp (nI d)) 17) 60 0 (g, (X8_fetch_w2 s kp (nI d)), 0) = R at er hr e1 e15 e16 step
      clear cl cg
      by_cases c : r9.1 = 0
      · have c2 : R.1 = 0 := er ▸ c
        rw [if_pos c]
        obtain ⟨k, g1, s1, kp1, rw1, br1, hrun, hRM⟩ := ihq (n0 + 1) (by omega) (ahN d S r9) R.2.1 R.2.2 kp rw br (RM_none (by omega) h hr e1 e15 e16)
        refine ⟨k + 1, g1, s1, kp1, rw1, br1, fun r => ?_, hRM⟩
        rw [show k + 1 + r = (k + r) + 1 by omega, step, if_pos c2, nI_s]
        exact hrun r
      · have c2 : ¬ R.1 = 0 := fun q9 => c (er.trans q9)
        rw [if_neg c]
        have hK := RM_keep (i := n0) (by omega) h1 h hr e1 e15 e16
        obtain ⟨k2, g2, s2, kp2, rw2, br2, hrun2, hRM2⟩ := ihe (d + 1) (by omega) (by omega) n 0 (by omega) (ahK d (nI n0) S r9) _ R.2.2 _ _ _ hK
        have hrow : rw2 d = nI n0 := by
          rw [← hRM2.2.2.2.2.1 d (by omega), ahL_row (fun i S => ahG_row _ (d + 1) i S d (by omega))]
          exact upd_s _ _ _
        rw [show 6 - 0 = 6 from rfl] at hRM2
        obtain ⟨k, g1, s1, kp1, rw1, br1, hrun, hRM⟩ := ihq (n0 + 1) (by omega) (ahL (ahG MV (nI n) (nI m) (4 - (d + 1)) (d + 1)) (nI n) 6 0 (ahK d (nI n0) S r9)) g2 s2 kp2 rw2 br2 (RM_less hRM2)
        refine ⟨k2 + k + 1, g1, s1, kp1, rw1, br1, fun r => ?_, hRM⟩
        rw [show k2 + k + 1 + r = (k2 + (k + r)) + 1 by omega, step, if_neg c2, nI_s, nI_clamp (by omega), show (0 : Int32) = nI 0 from rfl, hrun2, dec_nI (by omega), show d + 1 - 1 = d from rfl]
        have hj : X8_search_j97 (nI (d + 1)) rw2 = nI (n0 + 1) := by
          unfold X8_search_j97
          rw [dec_nI (by omega), show d + 1 - 1 = d from rfl, if_neg c0, nI_clamp (by omega), hrow, nI_s]
        rw [hj]
        exact hrun r
