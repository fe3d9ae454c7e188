/-! the search to its end, and what most and mostAt answer -/
theorem sea_stop {tb : Nat → Int32} {most : Int32} (n j : Nat) {a b c d e : Nat → Int32} {dp nx : Int32} (h : dp ≤ 0) : X8_sea_run tb most n j (a, b, c, d, e, dp, nx) = (a, b, c, d, e, dp, nx) := by
  cases n with
  | zero => rw [X8_sea_run]
  | succ n => rw [X8_sea_run_s, if_pos h]
theorem sea_more {tb : Nat → Int32} {most : Int32} (n : Nat) : ∀ (j r : Nat) (x : (Nat → Int32) × (Nat → Int32) × (Nat → Int32) × (Nat → Int32) × (Nat → Int32) × Int32 × Int32), (X8_sea_run tb most n j x).2.2.2.2.2.1 ≤ 0 → X8_sea_run tb most (n + r) j x = X8_sea_run tb most n j x := by
  induction n with
  | zero =>
    intro j r x h
    obtain ⟨a, b, c, d, e, dp, nx⟩ := x
    rw [X8_sea_run] at h
    have h' : dp ≤ 0 := h
    rw [Nat.zero_add, sea_stop r j h', sea_stop 0 j h']
  | succ n ih =>
    intro j r x h
    obtain ⟨a, b, c, d, e, dp, nx⟩ := x
    rw [X8_sea_run_s] at h
    rw [show n + 1 + r = (n + r) + 1 by omega, X8_sea_run_s, X8_sea_run_s]
    by_cases c9 : dp ≤ 0
    · rw [if_pos c9, if_pos c9]
    · rw [if_neg c9] at h
      rw [if_neg c9, if_neg c9]
      exact ih _ _ _ h
theorem sea_at {tb : Nat → Int32} {most : Int32} {x : (Nat → Int32) × (Nat → Int32) × (Nat → Int32) × (Nat → Int32) × (Nat → Int32) × Int32 × Int32} {a b c d e : Nat → Int32} {dp nx : Int32} {k : Nat} (H : ∀ r, X8_sea_run tb most (k + r) 0 x = X8_sea_run tb most r 0 (a, b, c, d, e, dp, nx)) (hx : (X8_sea_run tb most 65536 0 x).2.2.2.2.2.1 ≤ 0) (hy : dp ≤ 0) : X8_sea_run tb most 65536 0 x = (a, b, c, d, e, dp, nx) := by
  rw [← sea_more 65536 0 k x hx, Nat.add_comm, H, sea_stop 65536 0 hy]
theorem sea_done {cnt m : Nat} {tb : Nat → Int32} {most : Int32} (h6 : cnt ≤ 6) (hm : most = nI m ∧ 1 ≤ m ∧ m ≤ 4) (n : Nat) : ∀ (j : Nat) (g9 sA9 kp9 rw9 br9 : Nat → Int32) (dp nx : Int32), 65536 ≤ n + j → seaI cnt m j g9 kp9 rw9 dp nx → (X8_sea_run tb most n j (g9, sA9, kp9, rw9, br9, dp, nx)).2.2.2.2.2.1 ≤ 0 := by
  induction n with
  | zero =>
    intro j g9 sA9 kp9 rw9 br9 dp nx hj h
    obtain ⟨d, q, -, -, -, -, -, -, -, hv, -⟩ := h
    exact absurd hv (by omega)
  | succ n ih =>
    intro j g9 sA9 kp9 rw9 br9 dp nx hj h
    rw [X8_sea_run_s]
    by_cases c : dp ≤ 0
    · rw [if_pos c]
      exact c
    · rw [if_neg c]
      exact ih (j + 1) _ _ _ _ _ _ _ (by omega) (sea_step h6 hm h c)
theorem sea_g {tb : Nat → Int32} {most : Int32} {k : Nat} (h11 : k ≠ 11) (h15 : k ≠ 15) (h16 : k ≠ 16) (n : Nat) : ∀ (j : Nat) (x : (Nat → Int32) × (Nat → Int32) × (Nat → Int32) × (Nat → Int32) × (Nat → Int32) × Int32 × Int32), (X8_sea_run tb most n j x).1 k = x.1 k := by
  induction n with
  | zero =>
    intro j x
    rw [X8_sea_run]
  | succ n ih =>
    intro j x
    obtain ⟨a, b, c, d, e, dp, nx⟩ := x
    rw [X8_sea_run_s]
    by_cases c9 : dp ≤ 0
    · rw [if_pos c9]
    · rw [if_neg c9]
      refine (ih _ _).trans ?_
      show X8_search_L56_g9 tb dp a c most nx b k = a k
      unfold X8_search_L56_g9
      by_cases c1 : dp = most
      · rw [if_pos c1]
      · rw [if_neg c1]
        by_cases c2 : nx = a 1
        · rw [if_pos c2]
        · rw [if_neg c2]
          have e9 := hit_g (tb := tb) (isF := 0) (c := (X8_fetch_w2 b c dp) 17) (move := nx) h11 60 0 a (X8_fetch_w2 b c dp) 0
          generalize X8_hit_run tb 0 nx ((X8_fetch_w2 b c dp) 17) 60 0 (a, (X8_fetch_w2 b c dp), 0) = R at e9 ⊢
          by_cases c3 : R.1 = 0
          · rw [if_pos c3]
            exact e9
          · rw [if_neg c3]
            exact (note_g h15 h16).trans e9
/-- who was hit has lost something -/
def lossI (n : Nat) (G : Nat → Int32) : Prop := G 4 = 0 ∨ ∃ L, 1 ≤ L ∧ L ≤ 240 * n ∧ G 1 = 1000 - nI L
theorem loss_up {n m : Nat} {G G1 : Nat → Int32} (h : lossI n G) (hm : n ≤ m) (h1 : G1 1 = G 1) (h4 : G1 4 = G 4 ∨ G1 4 = 0) : lossI m G1 := by
  rcases h4 with h4 | h4
  · rcases h with h | ⟨L, a, b, c⟩
    · exact Or.inl (h4.trans h)
    · exact Or.inr ⟨L, a, by omega, h1.trans c⟩
  · exact Or.inl h4
theorem loss_land {G : Nat → Int32} {MV : Nat → Nat → Int32} {i n : Nat} (hD : ∃ d, 1 ≤ d ∧ d ≤ 200 ∧ MV i 5 = nI d) (hn : n ≤ 2000) (hG : lifeI n G) (h14 : G 14 = G 4) (h : lossI n G) : lossI (n + 1) (X1_land_w1 G MV i) := by
  obtain ⟨d, hd1, hd, ed⟩ := hD
  obtain ⟨⟨c, hc, ec⟩, L0, hL0, eL0⟩ := hG
  have hc0 : c = 0 ∨ ∃ L, 1 ≤ L ∧ L ≤ 240 * n ∧ G 1 = 1000 - nI L := by
    rcases h with h | h
    · left
      have e := congrArg Int32.toNatClampNeg (show nI c = nI 0 from ec.symm.trans h)
      rw [nI_clamp (by omega), nI_clamp (by omega)] at e
      exact e
    · exact Or.inr h
  unfold X1_land_w1 lossI
  rw [gb_at (by decide), gb_at (by decide)]
  unfold X1_land_j30
  split
  · right
    rw [show X2_suffer_w0 G MV i 1 = G 1 - X2_suffer_j100_1 G MV i from rfl]
    rcases hc0 with rfl | ⟨L, l1, l2, el⟩
    · have e33 : X2_suffer_j33 G = nI 1 := by
        unfold X2_suffer_j33
        split
        · rw [h14, ec]
          exact nI_s 0
        · rfl
      have e56 : X2_suffer_j56 G = nI 10 := by
        unfold X2_suffer_j56
        rw [e33]
        split
        · rename_i q
          exact absurd q (by decide)
        · rfl
      have e100 : ∃ D, 1 ≤ D ∧ D ≤ 240 ∧ X2_suffer_j100_1 G MV i = nI D := by
        unfold X2_suffer_j100_1
        rw [ed, e56, pk_mul, show (10 : Int32) = nI 10 from rfl, pk_div (by omega) (by omega) (by omega)]
        split
        · exact ⟨d * 10 / 10, by omega, by omega, rfl⟩
        · rw [show (6 : Int32) = nI 6 from rfl, show (5 : Int32) = nI 5 from rfl, pk_mul, pk_div (by omega) (by omega) (by omega)]
          exact ⟨_, by omega, by omega, rfl⟩
      obtain ⟨D, D1, hD, eD⟩ := e100
      refine ⟨L0 + D, by omega, by omega, ?_⟩
      rw [eD, eL0, sub_two]
    · have e33 : ∃ c1, 1 ≤ c1 ∧ c1 ≤ n + 1 ∧ X2_suffer_j33 G = nI c1 := by
        unfold X2_suffer_j33
        split
        · exact ⟨c + 1, by omega, by omega, by rw [h14, ec]; exact nI_s c⟩
        · exact ⟨1, by omega, by omega, rfl⟩
      obtain ⟨c1, h1, h2, e1⟩ := e33
      have e56 : ∃ t, t ≤ 10 ∧ X2_suffer_j56 G = nI t := by
        unfold X2_suffer_j56
        rw [e1]
        split
        · exact ⟨1, by omega, rfl⟩
        · rename_i q
          have q1 : ¬ 10 ≤ c1 := fun z => q ((nI_leI (by decide) (by omega)).mpr z)
          exact ⟨11 - c1, by omega, by rw [show (11 : Int32) = nI 11 from rfl, pk_sub (by omega)]⟩
      obtain ⟨t, ht, et⟩ := e56
      have hm : d * t ≤ 200 * 10 := Nat.mul_le_mul hd ht
      have e100 : ∃ D, D ≤ 240 ∧ X2_suffer_j100_1 G MV i = nI D := by
        unfold X2_suffer_j100_1
        rw [ed, et, pk_mul, show (10 : Int32) = nI 10 from rfl, pk_div (by omega) (by omega) (by omega)]
        split
        · exact ⟨d * t / 10, by omega, rfl⟩
        · rw [show (6 : Int32) = nI 6 from rfl, show (5 : Int32) = nI 5 from rfl, pk_mul, pk_div (by omega) (by omega) (by omega)]
          exact ⟨_, by omega, rfl⟩
      obtain ⟨D, hD, eD⟩ := e100
      refine ⟨L + D, by omega, by omega, ?_⟩
      rw [eD, el, sub_two]
  · rcases hc0 with rfl | ⟨L, l1, l2, el⟩
    · left
      exact ec
    · right
      refine ⟨L + d / 10, by omega, by omega, ?_⟩
      rw [show X2_block_w0 G MV i 1 = G 1 - MV i 5 / 10 from rfl, ed, el, show (10 : Int32) = nI 10 from rfl, pk_div (by omega) (by omega) (by omega), sub_two]
theorem loss_strike {MV : Nat → Nat → Int32} {F G : Nat → Int32} {cnt n : Nat} (h6 : cnt ≤ 6) (hD : relD MV cnt) (mL : F 3 = 1 → isMv cnt (F 5)) (hG : lifeI n G) (h : lossI n G) (hn : n ≤ 2000) : lossI (n + 1) (X1_strike_w2 F G MV) := by
  obtain ⟨rG, r14G⟩ := life_rem hG
  have rl : lossI n (X2_rememberAheadOfHits_w0 G) := loss_up h (Nat.le_refl _) rfl (Or.inl rfl)
  unfold X1_strike_w2
  by_cases cL : X1_reachesL_r F G (MV (mi (F 5))) = 0
  · by_cases cR : X1_reachesR_r F G (MV (mi (G 5))) = 0
    · rw [if_pos cL, if_pos cR]
      exact loss_up rl (by omega) rfl (Or.inl rfl)
    · rw [if_pos cL, if_neg cR]
      exact loss_up rl (by omega) (land0_at (Or.inl rfl)) (Or.inl (land0_at (Or.inr (Or.inl rfl))))
  · have f3 := reachL_3 cL
    have ll := loss_land (dmg_of h6 hD (mL f3)) hn rG r14G rl
    by_cases cR : X1_reachesR_r F G (MV (mi (G 5))) = 0
    · rw [if_neg cL, if_pos cR]
      exact ll
    · rw [if_neg cL, if_neg cR]
      have both : lossI (n + 1) (X1_land_w0 (X1_land_w1 (X2_rememberAheadOfHits_w0 G) MV (mi (F 5))) (X1_land_w0 (X2_rememberAheadOfHits_w0 F) (X2_rememberAheadOfHits_w0 G) MV (mi (F 5))) MV (mi (G 5))) := loss_up ll (Nat.le_refl _) (land0_at (Or.inl rfl)) (Or.inl (land0_at (Or.inr (Or.inl rfl))))
      split
      · split
        · exact loss_up h (by omega) (part_at (Or.inl rfl)) (Or.inl (part_at (Or.inr rfl)))
        · exact both
      · exact both
theorem loss_frame {MV : Nat → Nat → Int32} {tb F G sA : Nat → Int32} {cnt n : Nat} {one two : Int32} (hT : relT MV tb cnt) (hV : relV MV cnt) (hC : relC MV cnt) (hD : relD MV cnt) (h : relS MV cnt F G sA) (h1 : okIn cnt one) (hG : lifeI n G) (hl : lossI n G) (hn : n ≤ 2000) : lossI (n + 1) (X1_playFrame_w2 F G MV one two) := by
  obtain ⟨hL, hR, iL, iR, f15, g15⟩ := h
  have I2 := figI_begin hT hV hC (figI_take iL h1)
  have take_k : ∀ {H : Nat → Int32} {x : Int32} {k : Nat}, k = 1 ∨ k = 4 ∨ k = 3 → X2_take_w0 H x k = H k := by
    intro H x k hk
    unfold X2_take_w0
    split <;> (rcases hk with rfl | rfl | rfl <;> rfl)
  have tb1 : ∀ {H : Nat → Int32} {x : Int32}, X2_beginKept_w0 (X2_take_w0 H x) MV 1 = H 1 := (begin_at (by decide)).trans (take_k (Or.inl rfl))
  have tb4 : ∀ {H : Nat → Int32} {x : Int32}, X2_beginKept_w0 (X2_take_w0 H x) MV 4 = H 4 := (begin_at (by decide)).trans (take_k (Or.inr (Or.inl rfl)))
  have hG3 : lifeI n (X1_walk_w2 (X2_beginKept_w0 (X2_take_w0 F one) MV) (X2_beginKept_w0 (X2_take_w0 G two) MV)) := lifeI_up hG (Nat.le_refl _) ((walk2_at (by decide)).trans tb1) (Or.inl ((walk2_at (by decide)).trans tb4))
  have hl3 : lossI n (X1_walk_w2 (X2_beginKept_w0 (X2_take_w0 F one) MV) (X2_beginKept_w0 (X2_take_w0 G two) MV)) := loss_up hl (Nat.le_refl _) ((walk2_at (by decide)).trans tb1) (Or.inl ((walk2_at (by decide)).trans tb4))
  have mL : X1_walk_w1 (X2_beginKept_w0 (X2_take_w0 F one) MV) (X2_beginKept_w0 (X2_take_w0 G two) MV) 3 = 1 → isMv cnt (X1_walk_w1 (X2_beginKept_w0 (X2_take_w0 F one) MV) (X2_beginKept_w0 (X2_take_w0 G two) MV) 5) := by
    rw [walk1_at (by decide), walk1_at (by decide)]
    exact fun q => (figI_mL I2 q).1
  exact loss_up (loss_strike hT.1 hD mL hG3 hl3 hn) (Nat.le_refl _) end_at1 end_at4
theorem j33_ok {cnt i : Nat} {hb : Int32} (h : i < cnt) : okIn cnt (X3_hitsWith_j33 hb (nI i)) := by
  unfold X3_hitsWith_j33 X7_inputOf_r
  split
  · exact okIn_mv h
  · exact okIn_0
theorem hw_keep {MV : Nat → Nat → Int32} {tb : Nat → Int32} {cnt i : Nat} {c : Int32} (hT : relT MV tb cnt) (hV : relV MV cnt) (hC : relC MV cnt) (hi : i < cnt) (k : Nat) : ∀ (j : Nat) (F G sA : Nat → Int32) (hb : Int32), relS MV cnt F G sA → ∃ s, relS MV cnt (X3_hw_run MV (nI i) c k j (F, G, hb)).2.1 (X3_hw_run MV (nI i) c k j (F, G, hb)).2.2 s := by
  induction k with
  | zero =>
    intro j F G sA hb h
    rw [X3_hw_run]
    exact ⟨sA, h⟩
  | succ k ih =>
    intro j F G sA hb h
    have hS := relS_frame hT hV hC h (j33_ok (hb := hb) hi) okIn_0
    rw [X3_hw_run_s]
    generalize X1_playFrame_w1 F G MV (X3_hitsWith_j33 hb (nI i)) 0 = P1 at hS ⊢
    generalize X1_playFrame_w2 F G MV (X3_hitsWith_j33 hb (nI i)) 0 = P2 at hS ⊢
    generalize X8_frame_w2 tb sA (X3_hitsWith_j33 hb (nI i)) 0 = s1 at hS
    generalize X3_hitsWith_j56 MV F G hb (nI i) = hb1
    by_cases c9 : P2 4 = c
    · rw [if_pos c9]
      exact ih (j + 1) _ _ _ _ hS
    · rw [if_neg c9]
      exact ⟨s1, hS⟩
theorem loss_run {MV : Nat → Nat → Int32} {tb : Nat → Int32} {cnt i : Nat} (hT : relT MV tb cnt) (hV : relV MV cnt) (hC : relC MV cnt) (hD : relD MV cnt) (hi : i < cnt) (k : Nat) : ∀ (j m : Nat) (F G sA : Nat → Int32) (hb : Int32), relS MV cnt F G sA → lifeI m F → lifeI m G → lossI m G → m + k ≤ 2000 → ¬ (X3_hw_run MV (nI i) 0 k j (F, G, hb)).1 = 0 → ∃ L, 1 ≤ L ∧ L ≤ 240 * (m + k) ∧ (X3_hw_run MV (nI i) 0 k j (F, G, hb)).2.2 1 = 1000 - nI L := by
  induction k with
  | zero =>
    intro j m F G sA hb _ _ _ _ _ hne
    rw [X3_hw_run] at hne
    exact absurd rfl hne
  | succ k ih =>
    intro j m F G sA hb h hF hG hl hm hne
    have hS := relS_frame hT hV hC h (j33_ok (hb := hb) hi) okIn_0
    obtain ⟨a, b, -⟩ := life_frame hT hV hC hD h (j33_ok (hb := hb) hi) okIn_0 hF hG (by omega)
    have hl1 := loss_frame (two := 0) hT hV hC hD h (j33_ok (hb := hb) hi) hG hl (by omega)
    rw [X3_hw_run_s] at hne ⊢
    generalize X1_playFrame_w1 F G MV (X3_hitsWith_j33 hb (nI i)) 0 = P1 at hS a hne ⊢
    generalize X1_playFrame_w2 F G MV (X3_hitsWith_j33 hb (nI i)) 0 = P2 at hS b hl1 hne ⊢
    generalize X8_frame_w2 tb sA (X3_hitsWith_j33 hb (nI i)) 0 = s1 at hS
    generalize X3_hitsWith_j56 MV F G hb (nI i) = hb1 at hne ⊢
    by_cases c : P2 4 = 0
    · rw [if_pos c] at hne ⊢
      obtain ⟨L, l1, l2, l3⟩ := ih (j + 1) (m + 1) _ _ _ _ hS a b hl1 (by omega) hne
      exact ⟨L, l1, by omega, l3⟩
    · rw [if_neg c]
      obtain ⟨L, l1, l2, l3⟩ := hl1.resolve_left c
      exact ⟨L, l1, by omega, l3⟩
/-- the first hit opens the search -/
theorem RM_first {MV : Nat → Nat → Int32} {g1 s1 kp rw br : Nat → Int32} {S : aS} {r : Int32 × (Nat → Int32) × (Nat → Int32)} {n i L : Nat} (hr : relS MV n r.2.1 r.2.2 s1) (b0 : S.1 = 0) (b1 : S.2.1 = 0) (hf : ∀ k, k ≤ 4 → ¬ S.2.2.2.2 (2 * k) 15 = 0 ∧ S.2.2.2.2 (2 * k + 1) 15 = 0) (e1 : g1 1 = nI n) (e15 : g1 15 = 0) (l1 : 1 ≤ L) (l2 : L ≤ 48000) (el : r.2.2 1 = 1000 - nI L) : RM MV n 1 (ahK 0 (nI i) S r) (X8_noteRow_w0 g1 s1 (nI 1)) (X8_keepState_w4 s1 kp (nI 1)) (upd rw 0 (nI i)) (X8_noteRow_w8 g1 s1 (upd rw 0 (nI i)) br (nI 1)) := by
  have e12 : r.2.2 1 = s1 12 := hr.2.1.2.1
  have hrow1 : ∀ k, k < 1 → upd S.2.2.1 0 (nI i) k = upd rw 0 (nI i) k := by
    intro k hk9
    have : k = 0 := by omega
    subst this
    rw [upd_s, upd_s]
  have z1 : (ahK 0 (nI i) S r).2.2.2.2 2 = r.2.1 := by
    show hfS (hfS S.2.2.2.2 2 r.2.1) 3 r.2.2 2 = r.2.1
    rw [hfS_n _ _ (by omega), hfS_s]
  have z2 : (ahK 0 (nI i) S r).2.2.2.2 3 = r.2.2 := by
    show hfS (hfS S.2.2.2.2 2 r.2.1) 3 r.2.2 3 = r.2.2
    rw [hfS_s]
  have hrows : ∀ k, 1 ≤ k → k ≤ 1 → relS MV n ((ahK 0 (nI i) S r).2.2.2.2 (2 * k)) ((ahK 0 (nI i) S r).2.2.2.2 (2 * k + 1)) (fun q => X8_keepState_w4 s1 kp (nI 1) (22 * k + q)) := by
    intro k hk1 hk2
    have : k = 1 := by omega
    subst this
    rw [show 2 * 1 = 2 from rfl, show 2 + 1 = 3 from rfl, z1, z2]
    exact relS_s hr (fun q hq => keep_same (by omega) hq)
  have hfl : ∀ k, k ≤ 4 → ¬ (ahK 0 (nI i) S r).2.2.2.2 (2 * k) 15 = 0 ∧ (ahK 0 (nI i) S r).2.2.2.2 (2 * k + 1) 15 = 0 := by
    intro k hk4
    by_cases c : k = 1
    · have hq := hrows k (by omega) (by omega)
      exact ⟨hq.2.2.2.2.1, hq.2.2.2.2.2⟩
    · have y1 : (ahK 0 (nI i) S r).2.2.2.2 (2 * k) = S.2.2.2.2 (2 * k) := by
        show hfS (hfS S.2.2.2.2 2 r.2.1) 3 r.2.2 (2 * k) = _
        rw [hfS_n _ _ (by omega), hfS_n _ _ (by omega)]
      have y2 : (ahK 0 (nI i) S r).2.2.2.2 (2 * k + 1) = S.2.2.2.2 (2 * k + 1) := by
        show hfS (hfS S.2.2.2.2 2 r.2.1) 3 r.2.2 (2 * k + 1) = _
        rw [hfS_n _ _ (by omega), hfS_n _ _ (by omega)]
      rw [y1, y2]
      exact hf k hk4
  have c4 : ¬ (4 : Int32) < nI 1 := by decide
  have cl : ¬ 1000 - s1 12 ≤ 0 := by
    rw [← e12, el, sub_self2]
    intro q
    have := (nI_leI (a := L) (b := 0) (by omega) (by decide)).mp q
    omega
  refine ⟨by rw [note_g (by decide) (by decide), e1], ?_, ?_, ?_, hrow1, hrows, hfl⟩
  · show X3_keepIfBest_0_0 S.1 (nI 1) (1000 - r.2.2 1) = _
    unfold X3_keepIfBest_0_0 X8_noteRow_w0
    rw [e12, b0, if_pos e15, if_neg cl, if_neg c4, upd_n _ _ (by decide), upd_s]
  · show X3_keepIfBest_0_6 S.2.1 S.1 (nI 1) (1000 - r.2.2 1) = _
    unfold X3_keepIfBest_0_6 X8_noteRow_w0
    rw [e12, b0, if_pos e15, if_neg cl, if_neg c4, upd_s]
  · refine ⟨1, by omega, by omega, ?_, fun k hk9 => ?_⟩
    · unfold X8_noteRow_w0
      rw [if_pos e15, upd_s]
    · show X3_keepIfBest_w2 S.1 S.2.2.2.1 (nI 1) (1000 - r.2.2 1) (upd S.2.2.1 0 (nI i)) k = _
      have nb : X8_noteRow_w8 g1 s1 (upd rw 0 (nI i)) br (nI 1) k = upd rw 0 (nI i) k := note_br (d := 0) (by decide) hk9 (Or.inl e15)
      unfold X3_keepIfBest_w2
      rw [nb, e12, b0, if_neg cl, if_neg c4, nI_clamp (by omega), ← hrow1 k hk9]
      unfold va_cpy
      rw [if_pos ⟨Nat.zero_le _, by omega⟩, Nat.sub_zero, Nat.zero_add]
theorem most_core {MV : Nat → Nat → Int32} {tb g sA kp rw br P Q : Nat → Int32} {S : aS} {n m i : Nat} {meter : Int32} (hT : relT MV tb n) (hV : relV MV n) (hC : relC MV n) (hD : relD MV n) (hm1 : 1 ≤ m) (hm4 : m ≤ 4) (hi : i < n) (ml : meter ≤ 100) (hg1 : g 1 = nI n) (b0 : S.1 = 0) (b1 : S.2.1 = 0) (p0 : S.2.2.2.2 0 = X1_prepare_w1 P 20 meter) (p1 : S.2.2.2.2 1 = X1_prepare_w2 Q 20 100) (hf : ∀ k, k ≤ 4 → ¬ S.2.2.2.2 (2 * k) 15 = 0 ∧ S.2.2.2.2 (2 * k + 1) 15 = 0) :
    (ahG MV (nI n) (nI m) 4 0 (nI i) S).1 = X8_search_w0 g tb sA kp rw br meter (nI m) (nI i) 16 ∧ (ahG MV (nI n) (nI m) 4 0 (nI i) S).2.1 = X8_search_w0 g tb sA kp rw br meter (nI m) (nI i) 15 ∧ (∃ b, b ≤ 4 ∧ X8_search_w0 g tb sA kp rw br meter (nI m) (nI i) 15 = nI b ∧ ∀ k, k < b → (ahG MV (nI n) (nI m) 4 0 (nI i) S).2.2.2.1 k = X8_search_w8 g tb sA kp rw br meter (nI m) (nI i) k) ∧ (∀ k, k ≤ 4 → ¬ (ahG MV (nI n) (nI m) 4 0 (nI i) S).2.2.2.2 (2 * k) 15 = 0 ∧ (ahG MV (nI n) (nI m) 4 0 (nI i) S).2.2.2.2 (2 * k + 1) 15 = 0) ∧ ∀ k, k ≠ 11 → k ≠ 15 → k ≠ 16 → X8_search_w0 g tb sA kp rw br meter (nI m) (nI i) k = g k := by
  have h6 : n ≤ 6 := hT.1
  have f15 : ¬ P 15 = 0 := by
    have q := (hf 0 (by decide)).1
    rw [show 2 * 0 = 0 from rfl, p0] at q
    exact q
  have g15 : Q 15 = 0 := by
    have q := (hf 0 (by decide)).2
    rw [show 2 * 0 + 1 = 1 from rfl, p1] at q
    exact q
  have hS := relS_lay (MV := MV) (cnt := n) (sA := sA) (ap := 20) (lm := meter) (rm := 100) (pl := 290) (ot := 310) f15 g15 (by decide) (by decide) ml (by decide)
  have hS2 : relS MV n (X1_copy_w1 (S.2.2.2.2 2) (X1_prepare_w1 P 20 meter)) (X1_copy_w2 (S.2.2.2.2 3) (X1_prepare_w2 Q 20 100)) (X8_lay_w2 sA meter 310 100 290) := relS_copy hS (hf 1 (by decide)).1 (hf 1 (by decide)).2 (fun _ _ => rfl)
  have e4 : X1_copy_w2 (S.2.2.2.2 3) (X1_prepare_w2 Q 20 100) 4 = 0 := rfl
  have ehit : hitR MV (nI i) S.2.2.2.2 0 = X3_hw_run MV (nI i) 0 60 0 (X1_copy_w1 (S.2.2.2.2 2) (X1_prepare_w1 P 20 meter), X1_copy_w2 (S.2.2.2.2 3) (X1_prepare_w2 Q 20 100), 0) := by
    unfold hitR
    rw [show 2 * 0 + 3 = 3 from rfl, show 2 * 0 + 1 = 1 from rfl, show 2 * 0 + 2 = 2 from rfl, show 2 * 0 = 0 from rfl, p0, p1, e4]
  have hfst := rel_first (isF := 1) (g := upd (upd g 15 0) 16 0) hT hV hC hi 59 hS2 rfl rfl ⟨rfl, rfl⟩
  have hloss := loss_run hT hV hC hD hi 60 0 0 _ _ _ 0 hS2 ⟨⟨0, by omega, rfl⟩, 0, by omega, rfl⟩ ⟨⟨0, by omega, rfl⟩, 0, by omega, rfl⟩ (Or.inl rfl) (by omega)
  obtain ⟨s9, hkeep⟩ := hw_keep (c := 0) hT hV hC hi 60 0 _ _ _ 0 hS2
  rw [show 59 + 1 = 60 from rfl] at hfst
  rw [← ehit] at hfst hloss hkeep
  have e17 : X8_lay_w2 sA meter 310 100 290 17 = 0 := rfl
  have hok : okM (nI i) := vp_in_nI (by omega) (by decide)
  have o1 := okS_hit (tb := tb) (isF := 1) (c := 0) hok 60 0 (upd (upd g 15 0) 16 0) (X8_lay_w2 sA meter 310 100 290) 0 okS_lay
  have og : ∀ k, k ≠ 11 → (X8_hit_run tb 1 (nI i) 0 60 0 (upd (upd g 15 0) 16 0, X8_lay_w2 sA meter 310 100 290, 0)).2.1 k = upd (upd g 15 0) 16 0 k := fun k hk => hit_g hk 60 0 (upd (upd g 15 0) 16 0) (X8_lay_w2 sA meter 310 100 290) 0
  unfold X8_search_w0 X8_search_w8
  rw [e17]
  clear ehit e4 hS hS2 e17
  generalize X8_hit_run tb 1 (nI i) 0 60 0 (upd (upd g 15 0) 16 0, X8_lay_w2 sA meter 310 100 290, 0) = H at hfst o1 og ⊢
  have cm : ¬ nI m ≤ nI 0 := by
    rw [nI_leI (by omega) (by omega)]
    omega
  have cg : ahG MV (nI n) (nI m) 4 0 (nI i) S = if (hitR MV (nI i) S.2.2.2.2 0).1 = 0 then ahN 0 S (hitR MV (nI i) S.2.2.2.2 0) else ahL (ahG MV (nI n) (nI m) 3 1) (nI n) 6 0 (ahK 0 (nI i) S (hitR MV (nI i) S.2.2.2.2 0)) := by
    show ahG MV (nI n) (nI m) (3 + 1) 0 (nI i) S = _
    rw [ahG, if_neg cm]
  rw [cg]
  generalize hitR MV (nI i) S.2.2.2.2 0 = r at hfst hloss hkeep ⊢
  clear cg
  have g15' : H.2.1 15 = 0 := (og 15 (by decide)).trans (by rw [upd_n _ _ (by decide), upd_s])
  have g16' : H.2.1 16 = 0 := (og 16 (by decide)).trans (upd_s _ _ _)
  have gk : ∀ k, k ≠ 11 → k ≠ 15 → k ≠ 16 → H.2.1 k = g k := fun k a b c => (og k a).trans (by rw [upd_n _ _ c, upd_n _ _ b])
  obtain ⟨er, hr⟩ := hfst
  by_cases c : r.1 = 0
  · have c2 : H.1 = 0 := er.symm.trans c
    rw [if_pos c, if_pos c2, if_pos c2]
    refine ⟨b0.trans g16'.symm, b1.trans g15'.symm, ⟨0, by decide, g15', fun k hk => by omega⟩, fun k hk => ?_, gk⟩
    show ¬ hfS (hfS S.2.2.2.2 2 r.2.1) 3 r.2.2 (2 * k) 15 = 0 ∧ hfS (hfS S.2.2.2.2 2 r.2.1) 3 r.2.2 (2 * k + 1) 15 = 0
    by_cases c1 : k = 1
    · subst c1
      rw [show 2 * 1 = 2 from rfl, show 2 + 1 = 3 from rfl, hfS_n _ _ (by decide), hfS_s, hfS_s]
      exact ⟨hkeep.2.2.2.2.1, hkeep.2.2.2.2.2⟩
    · rw [hfS_n _ _ (by omega), hfS_n _ _ (by omega), hfS_n _ _ (by omega), hfS_n _ _ (by omega)]
      exact hf k hk
  · have c2 : ¬ H.1 = 0 := fun q => c (er.trans q)
    obtain ⟨L, l1, l2, el⟩ := hloss c
    rw [if_neg c, if_neg c2, if_neg c2]
    have hRM := RM_first (kp := kp) (rw := rw) (br := br) (i := i) (hr c) b0 b1 hf ((gk 1 (by decide) (by decide) (by decide)).trans hg1) g15' l1 (by omega) el
    obtain ⟨k, g1, s1, kp1, rw1, br1, hrun, hRM1⟩ := sea_T hT hV hC h6 hm4 (m - 1) 1 (by omega) (Nat.le_refl _) n 0 (by omega) _ _ H.2.2 _ _ _ hRM
    have hin : seaI n m 0 (X8_noteRow_w0 H.2.1 H.2.2 1) (X8_keepState_w4 H.2.2 kp 1) (upd rw 0 (nI i)) 1 0 := sea_init hm1 (by rw [note_g (by decide) (by decide), gk 1 (by decide) (by decide) (by decide)]; exact hg1) (note_15 (many := 1) (by decide) ⟨0, by decide, g15'⟩) (sea_keep1 o1)
    have hdone := sea_done (tb := tb) h6 ⟨rfl, hm1, hm4⟩ 65536 0 (X8_noteRow_w0 H.2.1 H.2.2 1) H.2.2 (X8_keepState_w4 H.2.2 kp 1) (upd rw 0 (nI i)) (X8_noteRow_w8 H.2.1 H.2.2 (upd rw 0 (nI i)) br 1) 1 0 (by omega) hin
    have ex : (X8_noteRow_w0 H.2.1 H.2.2 1, H.2.2, X8_keepState_w4 H.2.2 kp 1, upd rw 0 (nI i), X8_noteRow_w8 H.2.1 H.2.2 (upd rw 0 (nI i)) br 1, (1 : Int32), (0 : Int32)) = (X8_noteRow_w0 H.2.1 H.2.2 (nI 1), H.2.2, X8_keepState_w4 H.2.2 kp (nI 1), upd rw 0 (nI i), X8_noteRow_w8 H.2.1 H.2.2 (upd rw 0 (nI i)) br (nI 1), nI 1, nI 0) := rfl
    have hgk : ∀ k, k ≠ 11 → k ≠ 15 → k ≠ 16 → (X8_sea_run tb (nI m) 65536 0 (X8_noteRow_w0 H.2.1 H.2.2 1, H.2.2, X8_keepState_w4 H.2.2 kp 1, upd rw 0 (nI i), X8_noteRow_w8 H.2.1 H.2.2 (upd rw 0 (nI i)) br 1, 1, 0)).1 k = g k := fun k a b c => (sea_g a b c 65536 0 _).trans ((note_g b c).trans (gk k a b c))
    rw [ex] at hdone hgk ⊢
    have key := sea_at hrun hdone (by decide)
    rw [key] at hgk ⊢
    rw [show 4 - 1 = 3 from rfl, show 6 - 0 = 6 from rfl] at hRM1
    obtain ⟨hg, hbl, hbh, ⟨b, hb1, hb4, hb, hbs⟩, hrow, hk, hfl⟩ := hRM1
    exact ⟨hbl, hbh, ⟨b, hb4, hb, hbs⟩, hfl, hgk⟩
theorem within4 {v : Int32} (c : X7_needWithin_x 4 1 v = 0) : ∃ m, 1 ≤ m ∧ m ≤ 4 ∧ v = nI m := by
  have lo := nW_lo c
  have hi := nW_hi c
  have l0 : ¬ v < 0 := fun q => lo (Int32.lt_of_lt_of_le q (by decide))
  obtain ⟨m, hm, e⟩ := nI_of2 (M := 4) (n := 4) rfl l0 hi
  refine ⟨m, ?_, hm, e⟩
  rcases Nat.eq_zero_or_pos m with q | q
  · subst q
    exact absurd (show v < 1 from e ▸ by decide) lo
  · exact q
/-- the search's own cells in the class, behind it -/
def mostC (cf MV : Nat → Nat → Int32) (cnt hits meter move : Int32) : Nat → Nat → Int32 := hfS (hfS (hfS (hfS (hfS (hfS (hfS (hfS (hfS (hfS (hfS (hfS cf 8 (X7_most_w5 MV (cf 10) (cf 12) (cf 14) (cf 16) (cf 18) (cf 11) (cf 13) (cf 15) (cf 17) (cf 19) (cf 9) cnt hits meter move (cf 8))) 9 (X7_most_w6 MV (cf 10) (cf 12) (cf 14) (cf 16) (cf 18) (cf 11) (cf 13) (cf 15) (cf 17) (cf 19) (cf 9) cnt hits meter move (cf 8))) 10 (X7_most_w8 (cf 10) meter)) 11 (X7_most_w9 (cf 11))) 12 (X7_most_w11 MV (cf 10) (cf 12) (cf 11) (cf 13) hits meter move)) 13 (X7_most_w12 MV (cf 10) (cf 12) (cf 11) (cf 13) hits meter move)) 14 (X7_most_w14 MV (cf 10) (cf 12) (cf 14) (cf 16) (cf 18) (cf 11) (cf 13) (cf 15) (cf 17) (cf 19) (cf 9) cnt hits meter move (cf 8))) 15 (X7_most_w15 MV (cf 10) (cf 12) (cf 14) (cf 16) (cf 18) (cf 11) (cf 13) (cf 15) (cf 17) (cf 19) (cf 9) cnt hits meter move (cf 8))) 16 (X7_most_w17 MV (cf 10) (cf 12) (cf 14) (cf 16) (cf 18) (cf 11) (cf 13) (cf 15) (cf 17) (cf 19) (cf 9) cnt hits meter move (cf 8))) 17 (X7_most_w18 MV (cf 10) (cf 12) (cf 14) (cf 16) (cf 18) (cf 11) (cf 13) (cf 15) (cf 17) (cf 19) (cf 9) cnt hits meter move (cf 8))) 18 (X7_most_w20 MV (cf 10) (cf 12) (cf 14) (cf 16) (cf 18) (cf 11) (cf 13) (cf 15) (cf 17) (cf 19) (cf 9) cnt hits meter move (cf 8))) 19 (X7_most_w21 MV (cf 10) (cf 12) (cf 14) (cf 16) (cf 18) (cf 11) (cf 13) (cf 15) (cf 17) (cf 19) (cf 9) cnt hits meter move (cf 8))
def mostH (cf MV : Nat → Nat → Int32) (cnt hits meter move : Int32) : Int32 := X3_addHit0_0_6 MV (X3_clearRows_w3 (cf 10) meter) (cf 12) (cf 14) (cf 16) (cf 18) (X3_clearRows_w4 (cf 11)) (cf 13) (cf 15) (cf 17) (cf 19) 0 0 (cf 9) cnt hits move (cf 8)
def mostL (cf MV : Nat → Nat → Int32) (cnt hits meter move : Int32) : Int32 := X3_addHit0_0_0 MV (X3_clearRows_w3 (cf 10) meter) (cf 12) (cf 14) (cf 16) (cf 18) (X3_clearRows_w4 (cf 11)) (cf 13) (cf 15) (cf 17) (cf 19) 0 0 (cf 9) cnt hits move (cf 8)
theorem most_pure {MV cf : Nat → Nat → Int32} {tb g sA kp rw br : Nat → Int32} {n m i : Nat} {meter : Int32} (h : movOK MV tb n) (hm1 : 1 ≤ m) (hm4 : m ≤ 4) (hi : i < n) (ml : meter ≤ 100) (hg1 : g 1 = nI n) (hfl : flagOK cf) :
    mostL cf MV (nI n) (nI m) meter (nI i) = X8_search_w0 g tb sA kp rw br meter (nI m) (nI i) 16 ∧ mostH cf MV (nI n) (nI m) meter (nI i) = X8_search_w0 g tb sA kp rw br meter (nI m) (nI i) 15 ∧ (∃ b, b ≤ 4 ∧ X8_search_w0 g tb sA kp rw br meter (nI m) (nI i) 15 = nI b ∧ ∀ k, k < b → mostC cf MV (nI n) (nI m) meter (nI i) 9 k = X8_search_w8 g tb sA kp rw br meter (nI m) (nI i) k) ∧ flagOK (mostC cf MV (nI n) (nI m) meter (nI i)) ∧ ∀ k, k ≠ 11 → k ≠ 15 → k ≠ 16 → X8_search_w0 g tb sA kp rw br meter (nI m) (nI i) k = g k := by
  obtain ⟨h6, hV, hC, hD, -⟩ := h
  have hT := h6.t
  obtain ⟨f0, f1, f2, f3⟩ := hfl
  have S0 : ∃ S : aS, S = (0, 0, cf 8, cf 9, fun k => if k = 0 then X1_prepare_w1 (cf 10) 20 meter else if k = 1 then X1_prepare_w2 (cf 11) 20 100 else cf (10 + k)) := ⟨_, rfl⟩
  obtain ⟨S, eS⟩ := S0
  have q0 : S.2.2.2.2 0 = X1_prepare_w1 (cf 10) 20 meter := by rw [eS]; rfl
  have q1 : S.2.2.2.2 1 = X1_prepare_w2 (cf 11) 20 100 := by rw [eS]; rfl
  have q2 : S.2.2.2.2 2 = cf 12 := by rw [eS]; rfl
  have q3 : S.2.2.2.2 3 = cf 13 := by rw [eS]; rfl
  have q4 : S.2.2.2.2 4 = cf 14 := by rw [eS]; rfl
  have q5 : S.2.2.2.2 5 = cf 15 := by rw [eS]; rfl
  have q6 : S.2.2.2.2 6 = cf 16 := by rw [eS]; rfl
  have q7 : S.2.2.2.2 7 = cf 17 := by rw [eS]; rfl
  have q8 : S.2.2.2.2 8 = cf 18 := by rw [eS]; rfl
  have q9 : S.2.2.2.2 9 = cf 19 := by rw [eS]; rfl
  have r0 : S.1 = 0 := by rw [eS]
  have r1 : S.2.1 = 0 := by rw [eS]
  have r2 : S.2.2.1 = cf 8 := by rw [eS]
  have r3 : S.2.2.2.1 = cf 9 := by rw [eS]
  have hf : ∀ k, k ≤ 4 → ¬ S.2.2.2.2 (2 * k) 15 = 0 ∧ S.2.2.2.2 (2 * k + 1) 15 = 0 := by
    intro k hk
    rcases (show k = 0 ∨ k = 1 ∨ k = 2 ∨ k = 3 ∨ k = 4 by omega) with rfl | rfl | rfl | rfl | rfl
    · rw [show 2 * 0 = 0 from rfl, show 0 + 1 = 1 from rfl, q0, q1]; exact f3 0 (by decide)
    · rw [show 2 * 1 = 2 from rfl, show 2 + 1 = 3 from rfl, q2, q3]; exact f3 1 (by decide)
    · rw [show 2 * 2 = 4 from rfl, show 4 + 1 = 5 from rfl, q4, q5]; exact f3 2 (by decide)
    · rw [show 2 * 3 = 6 from rfl, show 6 + 1 = 7 from rfl, q6, q7]; exact f3 3 (by decide)
    · rw [show 2 * 4 = 8 from rfl, show 8 + 1 = 9 from rfl, q8, q9]; exact f3 4 (by decide)
  have hc := most_core (g := g) (sA := sA) (kp := kp) (rw := rw) (br := br) hT hV hC hD hm1 hm4 hi ml hg1 r0 r1 q0 q1 hf
  have q0' : S.2.2.2.2 0 = X3_clearRows_w3 (cf 10) meter := q0
  have q1' : S.2.2.2.2 1 = X3_clearRows_w4 (cf 11) := q1
  rw [ah0_eq S, q0', q1', q2, q3, q4, q5, q6, q7, q8, q9, r0, r1, r2, r3] at hc
  dsimp only at hc
  obtain ⟨a, b, c, d, e⟩ := hc
  have m9 : mostC cf MV (nI n) (nI m) meter (nI i) 9 = X7_most_w6 MV (cf 10) (cf 12) (cf 14) (cf 16) (cf 18) (cf 11) (cf 13) (cf 15) (cf 17) (cf 19) (cf 9) (nI n) (nI m) meter (nI i) (cf 8) := by
    unfold mostC
    repeat rw [hfS_n _ _ (by decide)]
    rw [hfS_s]
  rw [m9]
  clear m9
  refine ⟨a, b, c, ⟨f0, f1, f2, fun k hk => ?_⟩, e⟩
  rcases (show k = 0 ∨ k = 1 ∨ k = 2 ∨ k = 3 ∨ k = 4 by omega) with rfl | rfl | rfl | rfl | rfl
  · show ¬ mostC cf MV (nI n) (nI m) meter (nI i) 10 15 = 0 ∧ mostC cf MV (nI n) (nI m) meter (nI i) 11 15 = 0
    unfold mostC
    repeat rw [hfS_n _ _ (by decide)]
    rw [hfS_s]
    repeat rw [hfS_n _ _ (by decide)]
    rw [hfS_s]
    exact f3 0 (by decide)
  · show ¬ mostC cf MV (nI n) (nI m) meter (nI i) 12 15 = 0 ∧ mostC cf MV (nI n) (nI m) meter (nI i) 13 15 = 0
    unfold mostC
    repeat rw [hfS_n _ _ (by decide)]
    rw [hfS_s]
    repeat rw [hfS_n _ _ (by decide)]
    rw [hfS_s]
    have dk := d 1 (by decide)
    rw [show 2 * 1 = 2 from rfl, show 2 + 1 = 3 from rfl] at dk
    repeat rw [hfS_n _ _ (by decide)] at dk
    rw [hfS_s] at dk
    repeat rw [hfS_n _ _ (by decide)] at dk
    rw [hfS_s] at dk
    exact dk
  · show ¬ mostC cf MV (nI n) (nI m) meter (nI i) 14 15 = 0 ∧ mostC cf MV (nI n) (nI m) meter (nI i) 15 15 = 0
    unfold mostC
    repeat rw [hfS_n _ _ (by decide)]
    rw [hfS_s]
    repeat rw [hfS_n _ _ (by decide)]
    rw [hfS_s]
    have dk := d 2 (by decide)
    rw [show 2 * 2 = 4 from rfl, show 4 + 1 = 5 from rfl] at dk
    repeat rw [hfS_n _ _ (by decide)] at dk
    rw [hfS_s] at dk
    repeat rw [hfS_n _ _ (by decide)] at dk
    rw [hfS_s] at dk
    exact dk
  · show ¬ mostC cf MV (nI n) (nI m) meter (nI i) 16 15 = 0 ∧ mostC cf MV (nI n) (nI m) meter (nI i) 17 15 = 0
    unfold mostC
    repeat rw [hfS_n _ _ (by decide)]
    rw [hfS_s]
    repeat rw [hfS_n _ _ (by decide)]
    rw [hfS_s]
    have dk := d 3 (by decide)
    rw [show 2 * 3 = 6 from rfl, show 6 + 1 = 7 from rfl] at dk
    repeat rw [hfS_n _ _ (by decide)] at dk
    rw [hfS_s] at dk
    repeat rw [hfS_n _ _ (by decide)] at dk
    rw [hfS_s] at dk
    exact dk
  · show ¬ mostC cf MV (nI n) (nI m) meter (nI i) 18 15 = 0 ∧ mostC cf MV (nI n) (nI m) meter (nI i) 19 15 = 0
    unfold mostC
    repeat rw [hfS_n _ _ (by decide)]
    rw [hfS_s]
    repeat rw [hfS_n _ _ (by decide)]
    rw [hfS_s]
    have dk := d 4 (by decide)
    rw [show 2 * 4 = 8 from rfl, show 8 + 1 = 9 from rfl] at dk
    repeat rw [hfS_n _ _ (by decide)] at dk
    rw [hfS_s] at dk
    repeat rw [hfS_n _ _ (by decide)] at dk
    rw [hfS_s] at dk
    exact dk
def mostM (g : Nat → Int32) (mf : Nat → Nat → Int32) (hits meter move : Int32) : Nat → Nat → Int32 := hfS (hfS (hfS (hfS mf 1 (X8_most_w2 g (mf 0) (mf 1) (mf 3) (mf 6) (mf 7) hits meter move)) 3 (X8_most_w4 g (mf 0) (mf 1) (mf 3) (mf 6) (mf 7) hits meter move)) 6 (X8_most_w7 g (mf 0) (mf 1) (mf 3) (mf 6) (mf 7) hits meter move)) 7 (X8_most_w8 g (mf 0) (mf 1) (mf 3) (mf 6) (mf 7) hits meter move)
theorem op_most {t : Nat} {ci g : Nat → Int32} {cf MV MVR mf : Nat → Nat → Int32} (h : INV t ci cf MV MVR g mf) (move hits meter : Int32) :
    X8_most_w0 g (mf 0) (mf 1) (mf 3) (mf 6) (mf 7) hits meter move 12 = (if X7_most_x (ci 1) hits meter move = 0 then 0 else (if X7_most_x (ci 1) hits meter move = 1 then 1 else 2)) ∧ (X7_most_x (ci 1) hits meter move = 0 → mostL cf MV (ci 1) hits meter move = X8_most_r g (mf 0) (mf 1) (mf 3) (mf 6) (mf 7) hits meter move ∧ INV (t + 1) (upd (upd ci 10 (mostL cf MV (ci 1) hits meter move)) 11 (mostH cf MV (ci 1) hits meter move)) (mostC cf MV (ci 1) hits meter move) MV MVR (X8_most_w0 g (mf 0) (mf 1) (mf 3) (mf 6) (mf 7) hits meter move) (mostM g mf hits meter move)) ∧ INV (t + 1) ci cf MV MVR (X8_most_w0 g (mf 0) (mf 1) (mf 3) (mf 6) (mf 7) hits meter move) (mostM g mf hits meter move) := by
  obtain ⟨n, nR, fr, tbR, ⟨e1, g1, hmv⟩, -, -, -, hfl, -⟩ := id h
  have h6 : n ≤ 6 := hmv.1.1
  have kk : ∀ {ci1 g1 : Nat → Int32} {cf1 : Nat → Nat → Int32}, (∀ k, k < 10 → ci1 k = ci k) → cf1 0 = cf 0 → cf1 1 = cf 1 → cf1 6 = cf 6 → cf1 7 = cf 7 → flagOK cf1 → g1 1 = g 1 → g1 7 = g 7 → g1 8 = g 8 → g1 9 = g 9 → g1 10 = g 10 → INV (t + 1) ci1 cf1 MV MVR g1 (mostM g mf hits meter move) := fun hc a b c d hf x1 x7 x8 x9 x10 => h.keep hc a b c d hf rfl rfl rfl rfl x1 x7 x8 x9 x10
  generalize mostM g mf hits meter move = mf9 at kk ⊢
  unfold X8_most_w0 X7_most_x X8_most_r
  rw [e1, g1]
  by_cases a : X7_needMove_x (nI n) move = 0
  · have a1 : ¬ X8_in_r (nI n - 1) 0 move = 0 := fun q => (mv_iff h6).mp q a
    by_cases b : X7_needWithin_x 4 1 hits = 0
    · have b1 : ¬ X8_in_r 4 1 hits = 0 := fun q => in_iff.mp q b
      by_cases c : X7_needWithin_x 100 0 meter = 0
      · have c1 : ¬ X8_in_r 100 0 meter = 0 := fun q => in_iff.mp q c
        obtain ⟨i, hi, rfl⟩ := mv_is h6 a
        obtain ⟨m, hm1, hm4, rfl⟩ := within4 b
        simp only [if_pos a, if_pos b, if_pos c, if_neg a1, if_neg b1, if_neg c1, ↓reduceIte]
        obtain ⟨p1, p2, -, p4, p5⟩ := most_pure (cf := cf) (g := upd g 12 0) (sA := mf 1) (kp := mf 3) (rw := mf 6) (br := mf 7) hmv hm1 hm4 hi (nW_hi c) g1 hfl
        have gk : ∀ k, k ≠ 11 → k ≠ 15 → k ≠ 16 → k ≠ 12 → X8_search_w0 (upd g 12 0) (mf 0) (mf 1) (mf 3) (mf 6) (mf 7) meter (nI m) (nI i) k = g k := fun k x y z w => (p5 k x y z).trans (upd_n _ _ w)
        refine ⟨(p5 12 (by decide) (by decide) (by decide)).trans c12, fun _ => ⟨p1, kk (fun k hk => ?_) rfl rfl rfl rfl p4 ?_ ?_ ?_ ?_ ?_⟩, kk (fun _ _ => rfl) rfl rfl rfl rfl hfl ?_ ?_ ?_ ?_ ?_⟩
        · rw [upd_n _ _ (by omega), upd_n _ _ (by omega)]
        all_goals exact gk _ (by decide) (by decide) (by decide) (by decide)
      · have c1 : X8_in_r 100 0 meter = 0 := in_iff.mpr c
        have c2 := (nW_or 100 0 meter).resolve_left c
        simp only [if_pos a, if_pos b, if_neg c, if_neg a1, if_neg b1, if_pos c1, c12, c2, if_neg e10x, if_neg e20x, if_neg e30x]
        exact ⟨by decide, fun q => absurd q (by decide), kk (fun _ _ => rfl) rfl rfl rfl rfl hfl rfl rfl rfl rfl rfl⟩
    · have b1 : X8_in_r 4 1 hits = 0 := in_iff.mpr b
      have b2 := (nW_or 4 1 hits).resolve_left b
      simp only [if_pos a, if_neg b, if_neg a1, if_pos b1, c12, b2, if_neg e10x, if_neg e20x, if_neg e30x]
      exact ⟨by decide, fun q => absurd q (by decide), kk (fun _ _ => rfl) rfl rfl rfl rfl hfl rfl rfl rfl rfl rfl⟩
  · have a1 : X8_in_r (nI n - 1) 0 move = 0 := (mv_iff h6).mpr a
    have a2 := (nM_or (nI n) move).resolve_left a
    simp only [if_neg a, if_pos a1, c12, a2, if_neg e10x, if_neg e20x, if_neg e30x]
    exact ⟨by decide, fun q => absurd q (by decide), kk (fun _ _ => rfl) rfl rfl rfl rfl hfl rfl rfl rfl rfl rfl⟩
def mostN (g : Nat → Int32) (mf : Nat → Nat → Int32) (hits meter move place : Int32) : Nat → Nat → Int32 := hfS (hfS (hfS (hfS mf 1 (X8_mostAt_w2 g (mf 0) (mf 1) (mf 3) (mf 6) (mf 7) hits meter move place)) 3 (X8_mostAt_w4 g (mf 0) (mf 1) (mf 3) (mf 6) (mf 7) hits meter move place)) 6 (X8_mostAt_w7 g (mf 0) (mf 1) (mf 3) (mf 6) (mf 7) hits meter move place)) 7 (X8_mostAt_w8 g (mf 0) (mf 1) (mf 3) (mf 6) (mf 7) hits meter move place)
theorem op_mostAt {t : Nat} {ci g : Nat → Int32} {cf MV MVR mf : Nat → Nat → Int32} (h : INV t ci cf MV MVR g mf) (move hits meter place : Int32) :
    X8_mostAt_w0 g (mf 0) (mf 1) (mf 3) (mf 6) (mf 7) hits meter move place 12 = (if X7_mostAt_x (ci 1) hits meter move place = 0 then 0 else (if X7_mostAt_x (ci 1) hits meter move place = 1 then 1 else 2)) ∧ (X7_mostAt_x (ci 1) hits meter move place = 0 → X3_bestAt_r (mostH cf MV (ci 1) hits meter move) (mostC cf MV (ci 1) hits meter move 9) place = X8_mostAt_r g (mf 0) (mf 1) (mf 3) (mf 6) (mf 7) hits meter move place ∧ INV (t + 1) (upd (upd ci 10 (mostL cf MV (ci 1) hits meter move)) 11 (mostH cf MV (ci 1) hits meter move)) (mostC cf MV (ci 1) hits meter move) MV MVR (X8_mostAt_w0 g (mf 0) (mf 1) (mf 3) (mf 6) (mf 7) hits meter move place) (mostN g mf hits meter move place)) ∧ INV (t + 1) ci cf MV MVR (X8_mostAt_w0 g (mf 0) (mf 1) (mf 3) (mf 6) (mf 7) hits meter move place) (mostN g mf hits meter move place) := by
  obtain ⟨n, nR, fr, tbR, ⟨e1, g1, hmv⟩, -, -, -, hfl, -⟩ := id h
  have h6 : n ≤ 6 := hmv.1.1
  have kk : ∀ {ci1 g1 : Nat → Int32} {cf1 : Nat → Nat → Int32}, (∀ k, k < 10 → ci1 k = ci k) → cf1 0 = cf 0 → cf1 1 = cf 1 → cf1 6 = cf 6 → cf1 7 = cf 7 → flagOK cf1 → g1 1 = g 1 → g1 7 = g 7 → g1 8 = g 8 → g1 9 = g 9 → g1 10 = g 10 → INV (t + 1) ci1 cf1 MV MVR g1 (mostN g mf hits meter move place) := fun hc a b c d hf x1 x7 x8 x9 x10 => h.keep hc a b c d hf rfl rfl rfl rfl x1 x7 x8 x9 x10
  generalize mostN g mf hits meter move place = mf9 at kk ⊢
  unfold X8_mostAt_w0 X7_mostAt_x X8_mostAt_r
  rw [e1, g1]
  by_cases a : X7_needMove_x (nI n) move = 0
  · have a1 : ¬ X8_in_r (nI n - 1) 0 move = 0 := fun q => (mv_iff h6).mp q a
    by_cases p : 0 ≤ place
    · by_cases b : X7_needWithin_x 4 1 hits = 0
      · have b1 : ¬ X8_in_r 4 1 hits = 0 := fun q => in_iff.mp q b
        by_cases c : X7_needWithin_x 100 0 meter = 0
        · have c1 : ¬ X8_in_r 100 0 meter = 0 := fun q => in_iff.mp q c
          obtain ⟨i, hi, rfl⟩ := mv_is h6 a
          obtain ⟨m, hm1, hm4, rfl⟩ := within4 b
          simp only [if_pos a, if_pos p, if_pos b, if_pos c, if_neg a1, if_neg b1, if_neg c1, ↓reduceIte]
          obtain ⟨p1, p2, ⟨bb, hb4, eb, hbs⟩, p4, p5⟩ := most_pure (cf := cf) (g := upd g 12 0) (sA := mf 1) (kp := mf 3) (rw := mf 6) (br := mf 7) hmv hm1 hm4 hi (nW_hi c) g1 hfl
          have gk : ∀ k, k ≠ 11 → k ≠ 15 → k ≠ 16 → k ≠ 12 → X8_search_w0 (upd g 12 0) (mf 0) (mf 1) (mf 3) (mf 6) (mf 7) meter (nI m) (nI i) k = g k := fun k x y z w => (p5 k x y z).trans (upd_n _ _ w)
          refine ⟨(p5 12 (by decide) (by decide) (by decide)).trans c12, fun _ => ⟨?_, kk (fun k hk => ?_) rfl rfl rfl rfl p4 ?_ ?_ ?_ ?_ ?_⟩, kk (fun _ _ => rfl) rfl rfl rfl rfl hfl ?_ ?_ ?_ ?_ ?_⟩
          · have p0 : ¬ place < 0 := Int32.not_lt.mpr p
            unfold X3_bestAt_r
            rw [if_neg p0, p2, eb]
            by_cases cb : nI bb ≤ place
            · rw [if_pos cb, if_pos cb]
            · rw [if_neg cb, if_neg cb]
              obtain ⟨k, hk, rfl⟩ := nI_of p0
              have hkb : k < bb := by
                rcases Nat.lt_or_ge k bb with q | q
                · exact q
                · exact absurd ((nI_leI (by omega) hk).mpr q) cb
              have c4 : ¬ (4 : Int32) ≤ nI k := by
                intro q
                have := (nI_leI (a := 4) (b := k) (by decide) hk).mp q
                omega
              rw [if_neg c4, nI_clamp hk]
              exact hbs k hkb
          · rw [upd_n _ _ (by omega), upd_n _ _ (by omega)]
          all_goals exact gk _ (by decide) (by decide) (by decide) (by decide)
        · have c1 : X8_in_r 100 0 meter = 0 := in_iff.mpr c
          have c2 := (nW_or 100 0 meter).resolve_left c
          simp only [if_pos a, if_pos p, if_pos b, if_neg c, if_neg a1, if_neg b1, if_pos c1, c12, c2, if_neg e10x, if_neg e20x, if_neg e30x]
          exact ⟨by decide, fun q => absurd q (by decide), kk (fun _ _ => rfl) rfl rfl rfl rfl hfl rfl rfl rfl rfl rfl⟩
      · have b1 : X8_in_r 4 1 hits = 0 := in_iff.mpr b
        have b2 := (nW_or 4 1 hits).resolve_left b
        simp only [if_pos a, if_pos p, if_neg b, if_neg a1, if_pos b1, c12, b2, if_neg e10x, if_neg e20x, if_neg e30x]
        exact ⟨by decide, fun q => absurd q (by decide), kk (fun _ _ => rfl) rfl rfl rfl rfl hfl rfl rfl rfl rfl rfl⟩
    · simp only [if_pos a, if_neg p, if_neg a1, c12]
      exact ⟨by decide, fun q => absurd q (by decide), kk (fun _ _ => rfl) rfl rfl rfl rfl hfl rfl rfl rfl rfl rfl⟩
  · have a1 : X8_in_r (nI n - 1) 0 move = 0 := (mv_iff h6).mpr a
    have a2 := (nM_or (nI n) move).resolve_left a
    simp only [if_neg a, if_pos a1, c12, a2, if_neg e10x, if_neg e20x, if_neg e30x]
    exact ⟨by decide, fun q => absurd q (by decide), kk (fun _ _ => rfl) rfl rfl rfl rfl hfl rfl rfl rfl rfl rfl⟩
