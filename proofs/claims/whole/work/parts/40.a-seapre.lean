/-! ahead of the search of rows: what a hit keeps, kept states, the search's own invariant -/
theorem okS_hit {tb : Nat → Int32} {isF c move : Int32} (hm : okM move) (n : Nat) : ∀ (j : Nat) (g s : Nat → Int32) (hb : Int32), okS s → okS (X8_hit_run tb isF move c n j (g, s, hb)).2.2 := by
  induction n with
  | zero =>
    intro j g s hb h
    rw [X8_hit_run]
    exact h
  | succ n ih =>
    intro j g s hb h
    have h44 : okI (X8_hits_j44 hb isF j move) := by
      unfold X8_hits_j44
      exact okI_if (okI_if (okI_mv hm) (okI_if (okI_mv hm) (Or.inl (by decide)))) (Or.inl (by decide))
    have hS := okS_fr (tb := tb) h h44 (Or.inl (by decide) : okI 0)
    rw [X8_hit_run_s]
    generalize X8_frame_w2 tb s (X8_hits_j44 hb isF j move) 0 = s1 at hS ⊢
    generalize X8_frame_w0 g tb s (X8_hits_j44 hb isF j move) 0 = g1
    generalize X8_hits_j65 tb g hb isF j move s = hb1
    by_cases k : s1 17 = c
    · rw [if_pos k]
      exact ih _ _ _ _ hS
    · rw [if_neg k]
      exact hS
theorem fr_g {g tb s : Nat → Int32} {one two : Int32} {k : Nat} (hk : k ≠ 11) : X8_frame_w0 g tb s one two k = g k := by
  unfold X8_frame_w0
  exact upd_n _ _ hk
theorem hit_g {tb : Nat → Int32} {isF c move : Int32} {k : Nat} (hk : k ≠ 11) (n : Nat) : ∀ (j : Nat) (g s : Nat → Int32) (hb : Int32), (X8_hit_run tb isF move c n j (g, s, hb)).2.1 k = g k := by
  induction n with
  | zero =>
    intro j g s hb
    rw [X8_hit_run]
  | succ n ih =>
    intro j g s hb
    rw [X8_hit_run_s]
    have e := fr_g (g := g) (tb := tb) (s := s) (one := X8_hits_j44 hb isF j move) (two := 0) hk
    generalize X8_frame_w2 tb s (X8_hits_j44 hb isF j move) 0 = s1
    generalize X8_frame_w0 g tb s (X8_hits_j44 hb isF j move) 0 = g1 at e ⊢
    generalize X8_hits_j65 tb g hb isF j move s = hb1
    by_cases q : s1 17 = c
    · rw [if_pos q, ih]
      exact e
    · rw [if_neg q]
      exact e
/-- a row of n numbers written from b on -/
def updR (f : Nat → Int32) (b : Nat) (s : Nat → Int32) : Nat → (Nat → Int32)
  | 0 => f
  | n + 1 => upd (updR f b s n) (b + n) (s n)
theorem updR_at (f : Nat → Int32) (b : Nat) (s : Nat → Int32) (q : Nat) : ∀ n, updR f b s n q = if b ≤ q ∧ q < b + n then s (q - b) else f q
  | 0 => by rw [updR, if_neg (by omega)]
  | n + 1 => by
    rw [updR]
    by_cases e : q = b + n
    · subst e
      rw [upd_s, if_pos (by omega), Nat.add_sub_cancel_left]
    · rw [upd_n _ _ e, updR_at f b s q n]
      by_cases c : b ≤ q ∧ q < b + n
      · rw [if_pos c, if_pos (by omega)]
      · rw [if_neg c, if_neg (by omega)]
theorem key22 {d k : Nat} (hd : d < 5) (hk : k < 22) : ((22 * nI d) + nI k).toNatClampNeg = 22 * d + k := by
  rw [show (22 : Int32) = nI 22 from rfl, pk_mul, nI_add, nI_clamp (by omega)]
theorem keep_row {sA kp : Nat → Int32} {d : Nat} (hd : d < 5) : X8_keepState_w4 sA kp (nI d) = updR kp (22 * d) sA 22 := by
  unfold X8_keepState_w4
  have k0 : ((22 * nI d) + 0).toNatClampNeg = 22 * d + 0 := key22 hd (by decide)
  have k1 : ((22 * nI d) + 1).toNatClampNeg = 22 * d + 1 := key22 hd (by decide)
  have k2 : ((22 * nI d) + 2).toNatClampNeg = 22 * d + 2 := key22 hd (by decide)
  have k3 : ((22 * nI d) + 3).toNatClampNeg = 22 * d + 3 := key22 hd (by decide)
  have k4 : ((22 * nI d) + 4).toNatClampNeg = 22 * d + 4 := key22 hd (by decide)
  have k5 : ((22 * nI d) + 5).toNatClampNeg = 22 * d + 5 := key22 hd (by decide)
  have k6 : ((22 * nI d) + 6).toNatClampNeg = 22 * d + 6 := key22 hd (by decide)
  have k7 : ((22 * nI d) + 7).toNatClampNeg = 22 * d + 7 := key22 hd (by decide)
  have k8 : ((22 * nI d) + 8).toNatClampNeg = 22 * d + 8 := key22 hd (by decide)
  have k9 : ((22 * nI d) + 9).toNatClampNeg = 22 * d + 9 := key22 hd (by decide)
  have k10 : ((22 * nI d) + 10).toNatClampNeg = 22 * d + 10 := key22 hd (by decide)
  have k11 : ((22 * nI d) + 11).toNatClampNeg = 22 * d + 11 := key22 hd (by decide)
  have k12 : ((22 * nI d) + 12).toNatClampNeg = 22 * d + 12 := key22 hd (by decide)
  have k13 : ((22 * nI d) + 13).toNatClampNeg = 22 * d + 13 := key22 hd (by decide)
  have k14 : ((22 * nI d) + 14).toNatClampNeg = 22 * d + 14 := key22 hd (by decide)
  have k15 : ((22 * nI d) + 15).toNatClampNeg = 22 * d + 15 := key22 hd (by decide)
  have k16 : ((22 * nI d) + 16).toNatClampNeg = 22 * d + 16 := key22 hd (by decide)
  have k17 : ((22 * nI d) + 17).toNatClampNeg = 22 * d + 17 := key22 hd (by decide)
  have k18 : ((22 * nI d) + 18).toNatClampNeg = 22 * d + 18 := key22 hd (by decide)
  have k19 : ((22 * nI d) + 19).toNatClampNeg = 22 * d + 19 := key22 hd (by decide)
  have k20 : ((22 * nI d) + 20).toNatClampNeg = 22 * d + 20 := key22 hd (by decide)
  have k21 : ((22 * nI d) + 21).toNatClampNeg = 22 * d + 21 := key22 hd (by decide)
  rw [k0, k1, k2, k3, k4, k5, k6, k7, k8, k9, k10, k11, k12, k13, k14, k15, k16, k17, k18, k19, k20, k21]
  rfl
theorem fetch_row {sA kp : Nat → Int32} {d : Nat} (hd : d < 5) : X8_fetch_w2 sA kp (nI d) = updR sA 0 (fun q => kp (22 * d + q)) 22 := by
  unfold X8_fetch_w2
  have k0 : ((22 * nI d) + 0).toNatClampNeg = 22 * d + 0 := key22 hd (by decide)
  have k1 : ((22 * nI d) + 1).toNatClampNeg = 22 * d + 1 := key22 hd (by decide)
  have k2 : ((22 * nI d) + 2).toNatClampNeg = 22 * d + 2 := key22 hd (by decide)
  have k3 : ((22 * nI d) + 3).toNatClampNeg = 22 * d + 3 := key22 hd (by decide)
  have k4 : ((22 * nI d) + 4).toNatClampNeg = 22 * d + 4 := key22 hd (by decide)
  have k5 : ((22 * nI d) + 5).toNatClampNeg = 22 * d + 5 := key22 hd (by decide)
  have k6 : ((22 * nI d) + 6).toNatClampNeg = 22 * d + 6 := key22 hd (by decide)
  have k7 : ((22 * nI d) + 7).toNatClampNeg = 22 * d + 7 := key22 hd (by decide)
  have k8 : ((22 * nI d) + 8).toNatClampNeg = 22 * d + 8 := key22 hd (by decide)
  have k9 : ((22 * nI d) + 9).toNatClampNeg = 22 * d + 9 := key22 hd (by decide)
  have k10 : ((22 * nI d) + 10).toNatClampNeg = 22 * d + 10 := key22 hd (by decide)
  have k11 : ((22 * nI d) + 11).toNatClampNeg = 22 * d + 11 := key22 hd (by decide)
  have k12 : ((22 * nI d) + 12).toNatClampNeg = 22 * d + 12 := key22 hd (by decide)
  have k13 : ((22 * nI d) + 13).toNatClampNeg = 22 * d + 13 := key22 hd (by decide)
  have k14 : ((22 * nI d) + 14).toNatClampNeg = 22 * d + 14 := key22 hd (by decide)
  have k15 : ((22 * nI d) + 15).toNatClampNeg = 22 * d + 15 := key22 hd (by decide)
  have k16 : ((22 * nI d) + 16).toNatClampNeg = 22 * d + 16 := key22 hd (by decide)
  have k17 : ((22 * nI d) + 17).toNatClampNeg = 22 * d + 17 := key22 hd (by decide)
  have k18 : ((22 * nI d) + 18).toNatClampNeg = 22 * d + 18 := key22 hd (by decide)
  have k19 : ((22 * nI d) + 19).toNatClampNeg = 22 * d + 19 := key22 hd (by decide)
  have k20 : ((22 * nI d) + 20).toNatClampNeg = 22 * d + 20 := key22 hd (by decide)
  have k21 : ((22 * nI d) + 21).toNatClampNeg = 22 * d + 21 := key22 hd (by decide)
  rw [k0, k1, k2, k3, k4, k5, k6, k7, k8, k9, k10, k11, k12, k13, k14, k15, k16, k17, k18, k19, k20, k21]
  rfl
theorem fetch_at {sA kp : Nat → Int32} {d k : Nat} (hd : d < 5) (hk : k < 22) : X8_fetch_w2 sA kp (nI d) k = kp (22 * d + k) := by
  rw [fetch_row hd, updR_at, if_pos (by omega)]
  rfl
theorem keep_same {sA kp : Nat → Int32} {d k : Nat} (hd : d < 5) (hk : k < 22) : X8_keepState_w4 sA kp (nI d) (22 * d + k) = sA k := by
  rw [keep_row hd, updR_at, if_pos (by omega), Nat.add_sub_cancel_left]
theorem keep_other {sA kp : Nat → Int32} {d e k : Nat} (hd : d < 5) (hk : k < 22) (h : e ≠ d) : X8_keepState_w4 sA kp (nI d) (22 * e + k) = kp (22 * e + k) := by
  rw [keep_row hd, updR_at, if_neg (by omega)]
theorem note_g {g s : Nat → Int32} {many : Int32} {k : Nat} (h15 : k ≠ 15) (h16 : k ≠ 16) : X8_noteRow_w0 g s many k = g k := by
  unfold X8_noteRow_w0
  split
  · rw [upd_n _ _ h15, upd_n _ _ h16]
  · split
    · rfl
    · rw [upd_n _ _ h15, upd_n _ _ h16]
/-- how much of the search is left, for its end -/
def seaV (d n : Nat) (rw : Nat → Int32) : Nat := if d = 0 then 0 else if d = 1 then (7 - n) * 4096 else if d = 2 then (6 - (rw 1).toNatClampNeg) * 4096 + (7 - n) * 256 else if d = 3 then (6 - (rw 1).toNatClampNeg) * 4096 + (6 - (rw 2).toNatClampNeg) * 256 + (7 - n) * 16 else (6 - (rw 1).toNatClampNeg) * 4096 + (6 - (rw 2).toNatClampNeg) * 256 + (6 - (rw 3).toNatClampNeg) * 16 + (7 - n)
def seaI (cnt m : Nat) (j : Nat) (g9 kp9 rw9 : Nat → Int32) (dp nx : Int32) : Prop :=
  ∃ d n : Nat, dp = nI d ∧ nx = nI n ∧ d ≤ m ∧ n ≤ cnt ∧ g9 1 = nI cnt ∧ (∀ k, 1 ≤ k → k < d → ∃ r, r < cnt ∧ rw9 k = nI r) ∧ (∀ k, 1 ≤ k → k ≤ d → okS (fun q => kp9 (22 * k + q))) ∧ seaV d n rw9 + j < 65536 ∧ ∃ b, b ≤ 4 ∧ g9 15 = nI b
theorem note_15 {g s : Nat → Int32} {many : Nat} (hm : many ≤ 4) (h : ∃ b, b ≤ 4 ∧ g 15 = nI b) : ∃ b, b ≤ 4 ∧ X8_noteRow_w0 g s (nI many) 15 = nI b := by
  unfold X8_noteRow_w0
  split
  · exact ⟨many, hm, upd_s _ _ _⟩
  · split
    · exact h
    · exact ⟨many, hm, upd_s _ _ _⟩
theorem sea_init {cnt mm : Nat} {g9 kp9 rw9 : Nat → Int32} (h1 : 1 ≤ mm) (hg : g9 1 = nI cnt) (hb : ∃ b, b ≤ 4 ∧ g9 15 = nI b) (hk : okS (fun q => kp9 (22 * 1 + q))) : seaI cnt mm 0 g9 kp9 rw9 1 0 := by
  refine ⟨1, 0, rfl, rfl, h1, Nat.zero_le _, hg, fun k _ _ => by omega, fun k _ _ => ?_, ?_, hb⟩
  · have e : k = 1 := by omega
    subst e
    exact hk
  · show seaV 1 0 rw9 + 0 < 65536
    have e : seaV 1 0 rw9 = (7 - 0) * 4096 := rfl
    rw [e]
    decide
theorem sea_keep1 {s kp : Nat → Int32} (h : okS s) : okS (fun q => X8_keepState_w4 s kp 1 (22 * 1 + q)) := okS_congr h (keep_same (d := 1) (by decide) (by decide)) (keep_same (d := 1) (by decide) (by decide)) (keep_same (d := 1) (by decide) (by decide)) (keep_same (d := 1) (by decide) (by decide)) (keep_same (d := 1) (by decide) (by decide)) (keep_same (d := 1) (by decide) (by decide))
theorem sea_end {cnt m : Nat} {g9 kp9 rw9 : Nat → Int32} {dp nx : Int32} (h : seaI cnt m 65536 g9 kp9 rw9 dp nx) : False := by
  obtain ⟨d, n, -, -, -, -, -, -, -, hv, -⟩ := h
  omega
theorem sea_pos {d : Nat} (c : ¬ nI d ≤ 0) : 1 ≤ d := by
  rcases Nat.eq_zero_or_pos d with h | h
  · subst h
    exact absurd (show nI 0 ≤ 0 from Int32.le_refl _) c
  · exact h
theorem sea_d5 {cnt m j : Nat} {g9 kp9 rw9 : Nat → Int32} {dp nx : Int32} (hm : m ≤ 4) (h : seaI cnt m j g9 kp9 rw9 dp nx) : vp_in dp 5 := by
  obtain ⟨d, n, rfl, -, hd, -⟩ := h
  exact vp_in_nI (by omega) (by decide)
theorem sea_lt {cnt m j : Nat} {g9 kp9 rw9 : Nat → Int32} {dp nx most : Int32} (hm : most = nI m ∧ 1 ≤ m ∧ m ≤ 4) (h : seaI cnt m j g9 kp9 rw9 dp nx) (c : ¬ dp = most) : ∃ d, dp = nI d ∧ d < m := by
  obtain ⟨d, n, rfl, -, hd, -⟩ := h
  refine ⟨d, rfl, ?_⟩
  rcases Nat.lt_or_ge d m with q | q
  · exact q
  · exact absurd (by rw [hm.1, Nat.le_antisymm hd q]) c
theorem sea_d6 {cnt m j : Nat} {g9 kp9 rw9 : Nat → Int32} {dp nx most : Int32} (hm : most = nI m ∧ 1 ≤ m ∧ m ≤ 4) (h : seaI cnt m j g9 kp9 rw9 dp nx) (c : ¬ dp = most) : vp_in (dp + 1) 5 := by
  obtain ⟨d, rfl, hd⟩ := sea_lt hm h c
  rw [show (1 : Int32) = nI 1 from rfl, nI_add]
  exact vp_in_nI (by omega) (by decide)
theorem sea_d4 {cnt m j : Nat} {g9 kp9 rw9 : Nat → Int32} {dp nx most : Int32} (hm : most = nI m ∧ 1 ≤ m ∧ m ≤ 4) (h : seaI cnt m j g9 kp9 rw9 dp nx) (c : ¬ dp = most) : vp_in dp 4 := by
  obtain ⟨d, rfl, hd⟩ := sea_lt hm h c
  exact vp_in_nI (by omega) (by decide)
theorem dec_nI {d : Nat} (h : 1 ≤ d) : nI d + (-1) = nI (d - 1) := by
  rw [← Int32.sub_eq_add_neg]
  exact pk_sub h
theorem sea_d3 {cnt m j : Nat} {g9 kp9 rw9 : Nat → Int32} {dp nx : Int32} (hm : m ≤ 4) (h : seaI cnt m j g9 kp9 rw9 dp nx) (c : ¬ dp ≤ 0) : vp_in (dp + (-1)) 4 := by
  obtain ⟨d, n, rfl, -, hd, -⟩ := h
  have := sea_pos c
  rw [dec_nI this]
  exact vp_in_nI (by omega) (by decide)
theorem sea_mv {cnt m j : Nat} {g9 kp9 rw9 : Nat → Int32} {dp nx : Int32} (h6 : cnt ≤ 6) (h : seaI cnt m j g9 kp9 rw9 dp nx) (c : ¬ nx = g9 1) : okM nx := by
  obtain ⟨d, n, -, rfl, -, hn, hg, -⟩ := h
  rw [hg] at c
  have : n ≠ cnt := fun q => c (by rw [q])
  exact vp_in_nI (by omega) (by decide)
theorem sea_fetch {cnt m j : Nat} {g9 sA9 kp9 rw9 : Nat → Int32} {dp nx : Int32} (hm : m ≤ 4) (h : seaI cnt m j g9 kp9 rw9 dp nx) (c : ¬ dp ≤ 0) : okS (X8_fetch_w2 sA9 kp9 dp) := by
  obtain ⟨d, n, rfl, -, hd, -, -, -, hk, -⟩ := h
  have h1 := sea_pos c
  have h5 : d < 5 := by omega
  exact okS_congr (hk d h1 (Nat.le_refl _)) (fetch_at h5 (by decide)) (fetch_at h5 (by decide)) (fetch_at h5 (by decide)) (fetch_at h5 (by decide)) (fetch_at h5 (by decide)) (fetch_at h5 (by decide))
theorem hcn_of {x : Int32} (h : vp_in x 7) : x = nI x.toNatClampNeg ∧ x.toNatClampNeg ≤ 6 := by
  obtain ⟨j, hj, rfl⟩ := vp_in_of h (by decide)
  rw [nI_clamp (by omega)]
  exact ⟨rfl, by omega⟩
theorem hmm_of {x : Int32} (c : ¬ X8_in_r 4 1 x = 0) : x = nI x.toNatClampNeg ∧ 1 ≤ x.toNatClampNeg ∧ x.toNatClampNeg ≤ 4 := by
  have h1 := in_lo c
  have h2 := Int32.not_lt.mp (in_hi c)
  have h0 : ¬ x < 0 := fun q => h1 (Int32.lt_trans q (by decide))
  obtain ⟨j, hj, rfl⟩ := nI_of2 (M := 4) (n := 4) rfl h0 h2
  rw [nI_clamp (by omega)]
  refine ⟨rfl, ?_, hj⟩
  rcases Nat.eq_zero_or_pos j with q | q
  · subst q
    exact absurd (show nI 0 < 1 by decide) h1
  · exact q
theorem sea_pl {x p : Int32} (h : ∃ b, b ≤ 4 ∧ x = nI b) (c : ¬ p < 0) (c2 : ¬ x ≤ p) : vp_in p 4 := by
  obtain ⟨b, hb, rfl⟩ := h
  obtain ⟨j, hj, rfl⟩ := nI_of c
  have : ¬ b ≤ j := fun q => c2 ((nI_leI (by omega) hj).mpr q)
  exact vp_in_nI (by omega) (by decide)
