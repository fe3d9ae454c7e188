/-! pure: what a frame leaves of two figures does not rest on what belongs to one frame alone (fields 11 to 14) -/
def zq (S : Nat → Prop) (F F' : Nat → Int32) : Prop := ∀ k, S k → F k = F' k
abbrev zqA (k : Nat) : Prop := k < 16 ∧ k ≠ 11 ∧ k ≠ 12 ∧ k ≠ 13 ∧ k ≠ 14
abbrev zqB (k : Nat) : Prop := k < 16 ∧ k ≠ 13 ∧ k ≠ 14
abbrev zqC (k : Nat) : Prop := k < 16
theorem zq.up {S : Nat → Prop} {F F' : Nat → Int32} (h : zq S F F') (i : Nat) (v : Int32) : zq S (upd F i v) (upd F' i v) := by
  intro k hk
  unfold upd
  split
  · rfl
  · exact h k hk
theorem zq.ba {F F' : Nat → Int32} (h : zq zqB F F') : zq zqA F F' := fun k hk => h k ⟨hk.1, hk.2.2.2.1, hk.2.2.2.2⟩
theorem zq.up12 {F F' : Nat → Int32} (h : zq zqA F F') (x y : Int32) : zq zqB (upd (upd F 11 x) 12 y) (upd (upd F' 11 x) 12 y) := by
  intro k hk
  unfold upd
  split
  · rfl
  · rename_i c12
    split
    · rfl
    · rename_i c11
      exact h k ⟨hk.1, c11, c12, hk.2.1, hk.2.2⟩
theorem zq_take {F F' : Nat → Int32} (h : zq zqA F F') (x : Int32) : zq zqB (X2_take_w0 F x) (X2_take_w0 F' x) := by
  unfold X2_take_w0
  split
  · exact h.up12 _ _
  · exact ((h.up12 _ _).up _ _).up _ _
theorem zq_begin {MV : Nat → Nat → Int32} {F F' : Nat → Int32} (h : zq zqB F F') : zq zqB (X2_beginKept_w0 F MV) (X2_beginKept_w0 F' MV) := by
  have e9 := h 9 (by decide)
  have e2 := h 2 (by decide)
  have e3 := h 3 (by decide)
  have e7 := h 7 (by decide)
  have e5 := h 5 (by decide)
  have ef : X2_isFreeForKept_r F MV = X2_isFreeForKept_r F' MV := by
    unfold X2_isFreeForKept_r X2_isFreeForKept_j31
    rw [e3, e7, e5, e9]
  unfold X2_beginKept_w0
  rw [e9, e2, ef]
  split
  · exact h
  · split
    · exact h
    · split
      · exact h
      · unfold X2_drop_w0
        exact (((((((h.up _ _).up _ _).up _ _).up _ _).up _ _).up _ _).up _ _).up _ _
theorem zq_go {F F' : Nat → Int32} (h : zq zqB F F') : zq zqB (X2_walk_w0 F) (X2_walk_w0 F') := by
  have e0 := h 0 (by decide)
  have e3 := h 3 (by decide)
  have e11 := h 11 (by decide)
  have e15 := h 15 (by decide)
  unfold X2_walk_w0 X2_walk_j33 X2_walk_j73
  rw [e0, e3, e11, e15]
  split
  · split
    · exact h.up _ _
    · split
      · exact h.up _ _
      · exact h
  · exact h
theorem zq_walk {F F' G G' : Nat → Int32} (hF : zq zqB F F') (hG : zq zqB G G') : zq zqB (X1_walk_w1 F G) (X1_walk_w1 F' G') ∧ zq zqB (X1_walk_w2 F G) (X1_walk_w2 F' G') := by
  have a := zq_go hF
  have b := zq_go hG
  have a0 := a 0 (by decide)
  have b0 := b 0 (by decide)
  have c : zq zqB (X1_walk_j58 F G) (X1_walk_j58 F' G') := by
    unfold X1_walk_j58 X1_apart_r
    rw [a0, b0]
    split
    · exact a
    · exact a.up _ _
  have d : zq zqB (X1_walk_j58_1 F G) (X1_walk_j58_1 F' G') := by
    unfold X1_walk_j58_1 X1_apart_r
    rw [a0, b0]
    split
    · exact b
    · exact b.up _ _
  have c0 := c 0 (by decide)
  have d0 := d 0 (by decide)
  have f : zq zqB (X1_walk_j95 F G) (X1_walk_j95 F' G') := by
    unfold X1_walk_j95
    rw [c0]
    split
    · exact c
    · exact c.up _ _
  have g : zq zqB (X1_walk_j95_1 F G) (X1_walk_j95_1 F' G') := by
    unfold X1_walk_j95_1
    rw [c0, d0]
    split
    · exact d
    · exact d.up _ _
  have f0 := f 0 (by decide)
  have g0 := g 0 (by decide)
  unfold X1_walk_w1 X1_walk_w2
  rw [f0, g0]
  constructor
  · split
    · exact f
    · exact f.up _ _
  · split
    · exact g
    · exact g.up _ _
theorem zq_rem {F F' : Nat → Int32} (h : zq zqB F F') : zq zqC (X2_rememberAheadOfHits_w0 F) (X2_rememberAheadOfHits_w0 F') := by
  have e3 := h 3 (by decide)
  have e4 := h 4 (by decide)
  intro k hk
  unfold X2_rememberAheadOfHits_w0
  rw [e3, e4]
  unfold upd
  split
  · rfl
  · rename_i c14
    split
    · rfl
    · rename_i c13
      exact h k ⟨hk, c13, c14⟩
theorem zq_touch {S : Nat → Prop} {F F' : Nat → Int32} (h : zq S F F') (s2 : S 2) (g : Int32) : zq S (X2_touch_w0 F g) (X2_touch_w0 F' g) := by
  have e2 := h 2 s2
  unfold X2_touch_w0 X2_touch_j28
  rw [e2]
  exact (h.up _ _).up _ _
theorem zq_goBack {S : Nat → Prop} {F F' : Nat → Int32} (h : zq S F F') (s0 : S 0) (s15 : S 15) (x : Int32) : zq S (X2_goBack_w0 F x) (X2_goBack_w0 F' x) ∧ X2_goBack_r F x = X2_goBack_r F' x := by
  have e0 := h 0 s0
  have e15 := h 15 s15
  unfold X2_goBack_w0 X2_goBack_r X2_goBack_j52 X2_goBack_j33 X2_goBack_j22
  rw [e0, e15]
  exact ⟨h.up _ _, rfl⟩
theorem zq_hit {F F' : Nat → Int32} {MV : Nat → Nat → Int32} {i : Nat} (h : zq zqC F F') : zq zqC (X1_land_j30 F MV i) (X1_land_j30 F' MV i) := by
  have e1 := h 1 (by decide)
  have e11 := h 11 (by decide)
  have e13 := h 13 (by decide)
  have e14 := h 14 (by decide)
  have eb : X2_blocks_r F (MV i) = X2_blocks_r F' (MV i) := by
    unfold X2_blocks_r
    rw [e11, e13]
  have e33 : X2_suffer_j33 F = X2_suffer_j33 F' := by
    unfold X2_suffer_j33
    rw [e13, e14]
  have e100 : X2_suffer_j100_1 F MV i = X2_suffer_j100_1 F' MV i := by
    unfold X2_suffer_j100_1 X2_suffer_j56 X2_suffer_j13
    rw [e33, e13]
  have e132 : X2_suffer_j132 F MV i = X2_suffer_j132 F' MV i := by
    unfold X2_suffer_j132 X2_suffer_j100 X2_suffer_j13
    rw [e33, e13]
  unfold X1_land_j30
  rw [eb]
  split
  · unfold X2_suffer_w0 X2_leaveMove_w0
    rw [e33, e100, e132, e1]
    exact ((((((h.up _ _).up _ _).up _ _).up _ _).up _ _).up _ _).up _ _
  · unfold X2_block_w0
    rw [e1]
    exact ((h.up _ _).up _ _).up _ _
theorem zq_land0 {F F' G G' : Nat → Int32} {MV : Nat → Nat → Int32} {i : Nat} (hF : zq zqC F F') (hG : zq zqC G G') : zq zqC (X1_land_w0 F G MV i) (X1_land_w0 F' G' MV i) := by
  unfold X1_land_w0
  rw [(zq_goBack (zq_hit (MV := MV) (i := i) hG) (by decide) (by decide) _).2]
  exact (zq_goBack (zq_touch hF (by decide) _) (by decide) (by decide) _).1
theorem zq_land1 {G G' : Nat → Int32} {MV : Nat → Nat → Int32} {i : Nat} (hG : zq zqC G G') : zq zqC (X1_land_w1 G MV i) (X1_land_w1 G' MV i) := by
  unfold X1_land_w1
  exact (zq_goBack (zq_hit hG) (by decide) (by decide) _).1
theorem zq.cb {F F' : Nat → Int32} (h : zq zqC F F') : zq zqB F F' := fun k hk => h k hk.1
theorem zq_part {F F' : Nat → Int32} (h : zq zqB F F') : zq zqB (X2_goBack_w0 (X2_touch_w0 F 0) 20) (X2_goBack_w0 (X2_touch_w0 F' 0) 20) := (zq_goBack (zq_touch h (by decide) _) (by decide) (by decide) _).1
theorem zq_strike {F F' G G' : Nat → Int32} {MV : Nat → Nat → Int32} (hF : zq zqB F F') (hG : zq zqB G G') : zq zqB (X1_strike_w1 F G MV) (X1_strike_w1 F' G' MV) ∧ zq zqB (X1_strike_w2 F G MV) (X1_strike_w2 F' G' MV) := by
  have f0 := hF 0 (by decide)
  have f3 := hF 3 (by decide)
  have f5 := hF 5 (by decide)
  have f6 := hF 6 (by decide)
  have f7 := hF 7 (by decide)
  have g0 := hG 0 (by decide)
  have g3 := hG 3 (by decide)
  have g5 := hG 5 (by decide)
  have g6 := hG 6 (by decide)
  have g7 := hG 7 (by decide)
  have rL : ∀ mv, X1_reachesL_r F G mv = X1_reachesL_r F' G' mv := by
    intro mv
    unfold X1_reachesL_r X1_reachesL_j32 X1_reachesL_j62 X1_apart_r
    rw [f0, f3, f6, f7, g0, g3]
  have rR : ∀ mv, X1_reachesR_r F G mv = X1_reachesR_r F' G' mv := by
    intro mv
    unfold X1_reachesR_r X1_reachesR_j32 X1_reachesR_j62 X1_apart_r
    rw [f0, f3, g6, g7, g0, g3]
  have mF := zq_rem hF
  have mG := zq_rem hG
  unfold X1_strike_w1 X1_strike_w2 X1_part_w1 X1_part_w2
  rw [rL, rR, f5, g5]
  constructor
  · split
    · split
      · exact mF.cb
      · exact (zq_land1 mF).cb
    · split
      · exact (zq_land0 mF mG).cb
      · split
        · split
          · exact zq_part hF
          · exact (zq_land1 (zq_land0 mF mG)).cb
        · exact (zq_land1 (zq_land0 mF mG)).cb
  · split
    · split
      · exact mG.cb
      · exact (zq_land0 mG mF).cb
    · split
      · exact (zq_land1 mG).cb
      · split
        · split
          · exact zq_part hG
          · exact (zq_land0 (zq_land1 mG) (zq_land0 mF mG)).cb
        · exact (zq_land0 (zq_land1 mG) (zq_land0 mF mG)).cb
theorem zq_stand {F F' : Nat → Int32} (h : zq zqB F F') : zq zqB (X2_stand_w0 F) (X2_stand_w0 F') := by
  unfold X2_stand_w0 X2_leaveMove_w0
  exact ((((h.up _ _).up _ _).up _ _).up _ _).up _ _
theorem zq_end {F F' : Nat → Int32} {MV : Nat → Nat → Int32} (h : zq zqB F F') : zq zqB (X2_endFrame_w0 F MV) (X2_endFrame_w0 F' MV) := by
  have e3 := h 3 (by decide)
  have e5 := h 5 (by decide)
  have e6 := h 6 (by decide)
  have e7 := h 7 (by decide)
  have e8 := h 8 (by decide)
  have a : zq zqB (X2_endFrameOfMove_j28 F) (X2_endFrameOfMove_j28 F') := by
    unfold X2_endFrameOfMove_j28
    rw [e6, e7]
    split
    · exact h.up _ _
    · exact (h.up _ _).up _ _
  have a6 := a 6 (by decide)
  have b : ∀ x, zq zqB (X2_endFrameOfMove_w0 F x) (X2_endFrameOfMove_w0 F' x) := by
    intro x
    unfold X2_endFrameOfMove_w0
    rw [a6]
    split
    · exact a
    · exact zq_stand a
  have c : zq zqB (X2_endFrame_j54 F MV) (X2_endFrame_j54 F' MV) := by
    unfold X2_endFrame_j54
    rw [e3, e5, e8]
    split
    · exact b _
    · split
      · exact h
      · split
        · exact h.up _ _
        · exact zq_stand (h.up _ _)
  have c3 := c 3 (by decide)
  have d : zq zqB (X2_endFrame_j67 F MV) (X2_endFrame_j67 F' MV) := by
    unfold X2_endFrame_j67
    rw [c3]
    split
    · exact c
    · exact c.up _ _
  have d10 := d 10 (by decide)
  unfold X2_endFrame_w0 X2_drop_w0
  rw [d10]
  split
  · exact d.up _ _
  · exact ((d.up _ _).up _ _).up _ _
theorem zq_frame {F F' G G' : Nat → Int32} (MV : Nat → Nat → Int32) (one two : Int32) (hF : zq zqA F F') (hG : zq zqA G G') : zq zqB (X1_playFrame_w1 F G MV one two) (X1_playFrame_w1 F' G' MV one two) ∧ zq zqB (X1_playFrame_w2 F G MV one two) (X1_playFrame_w2 F' G' MV one two) := by
  obtain ⟨a, b⟩ := zq_walk (zq_begin (MV := MV) (zq_take hF one)) (zq_begin (MV := MV) (zq_take hG two))
  obtain ⟨c, d⟩ := zq_strike (MV := MV) a b
  unfold X1_playFrame_w1 X1_playFrame_w2
  exact ⟨zq_end c, zq_end d⟩
theorem zq_prepare (P P' : Nat → Int32) (m p : Int32) (h : P 15 = P' 15) : zq zqA (X2_prepare_w0 P m p) (X2_prepare_w0 P' m p) := by
  intro k hk
  obtain ⟨h0, h11, h12, h13, h14⟩ := hk
  unfold X2_prepare_w0 X2_drop_w0 X2_stand_w0 X2_leaveMove_w0
  match k, h0 with
  | 0, _ => rfl
  | 1, _ => rfl
  | 2, _ => rfl
  | 3, _ => rfl
  | 4, _ => rfl
  | 5, _ => rfl
  | 6, _ => rfl
  | 7, _ => rfl
  | 8, _ => rfl
  | 9, _ => rfl
  | 10, _ => rfl
  | 11, _ => exact absurd rfl h11
  | 12, _ => exact absurd rfl h12
  | 13, _ => exact absurd rfl h13
  | 14, _ => exact absurd rfl h14
  | 15, _ => exact h
  | n + 16, q => exact absurd q (by omega)
theorem zq_copy (P F : Nat → Int32) (h : P 15 = F 15) : zq zqA (X2_copy_w0 P F) F := by
  intro k hk
  obtain ⟨h0, h11, h12, h13, h14⟩ := hk
  unfold X2_copy_w0
  match k, h0 with
  | 0, _ => rfl
  | 1, _ => rfl
  | 2, _ => rfl
  | 3, _ => rfl
  | 4, _ => rfl
  | 5, _ => rfl
  | 6, _ => rfl
  | 7, _ => rfl
  | 8, _ => rfl
  | 9, _ => rfl
  | 10, _ => rfl
  | 11, _ => exact absurd rfl h11
  | 12, _ => exact absurd rfl h12
  | 13, _ => exact absurd rfl h13
  | 14, _ => exact absurd rfl h14
  | 15, _ => exact h
  | n + 16, q => exact absurd q (by omega)
/-! the two figures after k frames of a tape -/
def rep (MV : Nat → Nat → Int32) (on tw : Nat → Int32) (F G : Nat → Int32) : Nat → (Nat → Int32) × (Nat → Int32)
  | 0 => (F, G)
  | k + 1 => (X1_playFrame_w1 (rep MV on tw F G k).1 (rep MV on tw F G k).2 MV (on k) (tw k), X1_playFrame_w2 (rep MV on tw F G k).1 (rep MV on tw F G k).2 MV (on k) (tw k))
theorem rep_s {MV : Nat → Nat → Int32} {on tw F G : Nat → Int32} (k : Nat) : rep MV on tw F G (k + 1) = (X1_playFrame_w1 (rep MV on tw F G k).1 (rep MV on tw F G k).2 MV (on k) (tw k), X1_playFrame_w2 (rep MV on tw F G k).1 (rep MV on tw F G k).2 MV (on k) (tw k)) := rfl
theorem rep_s1 {MV : Nat → Nat → Int32} {on tw F G : Nat → Int32} (k : Nat) : (rep MV on tw F G (k + 1)).1 = X1_playFrame_w1 (rep MV on tw F G k).1 (rep MV on tw F G k).2 MV (on k) (tw k) := by
  rw [rep_s]
theorem rep_s2 {MV : Nat → Nat → Int32} {on tw F G : Nat → Int32} (k : Nat) : (rep MV on tw F G (k + 1)).2 = X1_playFrame_w2 (rep MV on tw F G k).1 (rep MV on tw F G k).2 MV (on k) (tw k) := by
  rw [rep_s]
theorem rep_congr {MV : Nat → Nat → Int32} {on tw on1 tw1 F G : Nat → Int32} (k : Nat) : (∀ m, m < k → on1 m = on m ∧ tw1 m = tw m) → rep MV on1 tw1 F G k = rep MV on tw F G k := by
  induction k with
  | zero => intro _; rw [rep, rep]
  | succ k ih =>
    intro h
    rw [rep_s, rep_s, ih (fun m hm => h m (by omega)), (h k (by omega)).1, (h k (by omega)).2]
theorem zq_rep {MV : Nat → Nat → Int32} {on tw F G F' G' : Nat → Int32} (hF : zq zqA F F') (hG : zq zqA G G') (k : Nat) : zq zqA (rep MV on tw F G k).1 (rep MV on tw F' G' k).1 ∧ zq zqA (rep MV on tw F G k).2 (rep MV on tw F' G' k).2 := by
  induction k with
  | zero => rw [rep, rep]; exact ⟨hF, hG⟩
  | succ k ih =>
    rw [rep_s1, rep_s1, rep_s2, rep_s2]
    obtain ⟨a, b⟩ := zq_frame MV (on k) (tw k) ih.1 ih.2
    exact ⟨a.ba, b.ba⟩
/-- the tape played into a duel up to a frame -/
theorem pin_eq {MV : Nat → Nat → Int32} {on tw F G : Nat → Int32} {fr up : Nat} (h1 : up ≤ fr) (h2 : fr ≤ 600) (n : Nat) : ∀ j, j ≤ up → up - j ≤ n → X6_pin_run MV on tw (nI fr) (nI up) n j (rep MV on tw F G j) = rep MV on tw F G up := by
  induction n with
  | zero =>
    intro j hj hn
    have e : j = up := by omega
    subst e
    generalize rep MV on tw F G j = x
    obtain ⟨a, b⟩ := x
    rw [X6_pin_run]
  | succ n ih =>
    intro j hj hn
    by_cases c : up ≤ j
    · have e : j = up := by omega
      subst e
      generalize rep MV on tw F G j = x
      obtain ⟨a, b⟩ := x
      rw [X6_pin_run_s, if_pos (Int32.le_refl _)]
    · have ihj := ih (j + 1) (by omega) (by omega)
      rw [rep_s] at ihj
      generalize rep MV on tw F G j = x at ihj ⊢
      obtain ⟨a, b⟩ := x
      rw [X6_pin_run_s, if_neg (by rw [nI_leI (by omega) (by omega)]; exact c), if_neg (by rw [nI_leI (by omega) (by omega)]; omega), nI_clamp (by omega)]
      exact ihj
theorem zq_tell {F F' : Nat → Int32} (h : zq zqA F F') (w : Int32) : X2_tell_r F w = X2_tell_r F' w := by
  unfold X2_tell_r
  rw [h 0 (by decide), h 1 (by decide), h 2 (by decide), h 3 (by decide), h 4 (by decide), h 5 (by decide), h 6 (by decide), h 8 (by decide)]
