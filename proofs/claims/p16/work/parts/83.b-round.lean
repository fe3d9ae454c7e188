/-! pure: an object's state between two calls, and what the rounds' calls answer -/
def mkZ (n : Nat) (u : zS) : Prop := u.1 0 = 0 ∧ u.1 1 = nI n ∧ mvB n u.2.2.1 ∧ (∀ i k, u.2.2.1 i (11 + k) = 0 ∨ u.2.2.1 i (11 + k) = 1) ∧ flagZ u.2.1 ∧ u.1 7 = 0
def rdZ (n fr T : Nat) (u : zS) : Prop := (1 ≤ n ∧ u.1 1 = nI n ∧ mvB n u.2.2.1 ∧ ∀ i k, u.2.2.1 i (11 + k) = 0 ∨ u.2.2.1 i (11 + k) = 1) ∧ flagZ u.2.1 ∧ (∃ b, 1 ≤ b ∧ b ≤ T ∧ u.1 7 = nI b) ∧ mvB n u.2.2.2 ∧ tapeZ (u.1 4) (u.1 5) (u.1 6) ∧ ∃ LG, PZ u.2.2.2 n (u.1 4) (u.1 5) (u.1 6) fr LG (u.1 0) (u.1 3) (u.1 8) (u.1 9) (u.2.1 0) (u.2.1 1) (u.2.1 6) (u.2.1 7)
def cnP : Nat → Int32 := fun k => if k = 15 then 1 else 0
def cnQ : Nat → Int32 := fun _ => 0
def repZ (u : zS) (k : Nat) : (Nat → Int32) × (Nat → Int32) := rep u.2.2.2 (u.2.1 6) (u.2.1 7) (X1_prepare_w1 cnP (u.1 4) (u.1 5)) (X1_prepare_w2 cnQ (u.1 4) (u.1 6)) k
def tellZ (u : zS) (k : Nat) (f w : Int32) : Int32 := if f = 0 then X2_tell_r (repZ u k).1 w else X2_tell_r (repZ u k).2 w
def ofZ (u : zS) (f w : Int32) : Int32 := X7_of_r (u.2.1 0) (u.2.1 1) f (u.1 8) (u.1 9) w
/-- the same but for what only a replay uses -/
def simZ (u v : zS) : Prop := v.1 = u.1 ∧ (∀ k, k = 0 ∨ k = 1 ∨ k = 6 ∨ k = 7 → v.2.1 k = u.2.1 k) ∧ v.2.2 = u.2.2
theorem simZ.rf {u : zS} : simZ u u := ⟨rfl, fun _ _ => rfl, rfl⟩
theorem simZ.tr {u v w : zS} (h : simZ u v) (g : simZ v w) : simZ u w := ⟨g.1.trans h.1, fun k hk => (g.2.1 k hk).trans (h.2.1 k hk), g.2.2.trans h.2.2⟩
theorem simZ.of {u v : zS} (h : simZ u v) (f w : Int32) : ofZ v f w = ofZ u f w := by
  unfold ofZ
  rw [h.1, h.2.1 0 (Or.inl rfl), h.2.1 1 (Or.inr (Or.inl rfl))]
theorem simZ.rp {u v : zS} (h : simZ u v) (k : Nat) : repZ v k = repZ u k := by
  unfold repZ
  rw [h.1, h.2.2, h.2.1 6 (Or.inr (Or.inr (Or.inl rfl))), h.2.1 7 (Or.inr (Or.inr (Or.inr rfl)))]
theorem simZ.tl {u v : zS} (h : simZ u v) (k : Nat) (f w : Int32) : tellZ v k f w = tellZ u k f w := by
  unfold tellZ
  rw [h.rp]
theorem simZ.rd {u v : zS} {n fr T : Nat} (h : simZ u v) (g : rdZ n fr T u) (hf : flagZ v.2.1) : rdZ n fr T v := by
  obtain ⟨a, b, c, d, e, f⟩ := g
  unfold rdZ
  rw [h.1, h.2.2, h.2.1 0 (Or.inl rfl), h.2.1 1 (Or.inr (Or.inl rfl)), h.2.1 6 (Or.inr (Or.inr (Or.inl rfl))), h.2.1 7 (Or.inr (Or.inr (Or.inr rfl)))]
  exact ⟨a, hf, c, d, e, f⟩
theorem nW_0 {g l v : Int32} {a b x : Nat} (eg : g = nI b) (el : l = nI a) (ev : v = nI x) (h1 : a ≤ x) (h2 : x ≤ b) (hb : b < 2 ^ 31) : X7_needWithin_x g l v = 0 := by
  subst eg el ev
  unfold X7_needWithin_x
  rw [if_neg (nI_nlt h1 (by omega)), if_pos (nI_le h2 hb)]
theorem nF_0 {f : Int32} (hf : f = 0 ∨ f = 1) : X7_needFigure_x f = 0 := by
  rcases hf with rfl | rfl <;> decide
theorem ofx_0 {f : Int32} {w : Nat} (hf : f = 0 ∨ f = 1) (hw : w ≤ 7) : X7_of_x f (nI w) = 0 := by
  unfold X7_of_x
  rw [nF_0 hf, nW_0 (g := 7) (l := 0) (b := 7) (a := 0) (x := w) rfl rfl rfl (by omega) hw (by decide)]
  rfl
theorem fig_facts {t n L : Nat} {F : Nat → Int32} (ht : t ≤ 2000) (h : fgB t n F) (hl : lfB t L F) (h4 : ¬ F 3 = 2 → F 4 = 0) (hn : n ≤ 6) : (0 ≤ F 2 ∧ F 2 ≤ 100) ∧ F 1 ≤ 1000 ∧ (F 3 = 0 ∨ F 3 = 1 ∨ F 3 = 2 ∨ F 3 = 3) ∧ (F 3 = 1 → ¬ F 5 = -1) ∧ (¬ F 3 = 1 → F 5 = -1) ∧ 0 ≤ X2_tell_r F 5 ∧ (F 3 = 0 → X2_tell_r F 5 = 0) ∧ (¬ F 3 = 2 → F 4 = 0) := by
  have e5 : X2_tell_r F 5 = if F 3 = 1 then F 6 else F 8 := rfl
  obtain ⟨hd, hk, m, hm, em⟩ := id h
  obtain ⟨-, hL, e1⟩ := hl
  refine ⟨⟨by rw [em]; exact nI_pos' (by omega), by rw [em]; exact nI_le (b := 100) hm (by decide)⟩, ?_, ?_, ?_, h.out.2, ?_, ?_, h4⟩
  · rw [e1, zi_le, show ((1000 : Int32) - nI L).toInt = (1000 : Nat) - (L : Int) from pk_sub_toInt (a := 1000) (by decide) (by omega), show (1000 : Int32).toInt = 1000 from rfl]
    omega
  · rcases hd with ⟨a, -⟩ | ⟨a, -⟩ | ⟨a, -⟩
    · exact Or.inr (Or.inl a)
    · exact Or.inl a
    · exact Or.inr (Or.inr a)
  · intro q z
    obtain ⟨i, hi, ei⟩ := h.out.1 q
    rw [ei] at z
    have z2 := congrArg Int32.toInt z
    rw [nI_toInt (by omega), show (-1 : Int32).toInt = -1 from rfl] at z2
    omega
  · rw [e5]
    rcases hd with ⟨a, -, k, hk, ek⟩ | ⟨a, -, c⟩ | ⟨a, -, k, hk, ek⟩
    · rw [if_pos a, ek]; exact nI_pos' (by omega)
    · rw [if_neg (by rw [a]; decide), c]; decide
    · rw [if_neg (fun q => by rw [q] at a; rcases a with a | a <;> exact absurd a (by decide)), ek]; exact nI_pos' (by omega)
  · intro q
    rw [e5, if_neg (by rw [q]; decide)]
    rcases hd with ⟨a, -⟩ | ⟨a, -, c⟩ | ⟨a, -⟩
    · rw [q] at a; exact absurd a (by decide)
    · exact c
    · rw [q] at a; rcases a with a | a <;> exact absurd a (by decide)
theorem win_facts {lw rw go : Int32} (h : winZ lw rw go) : (0 ≤ lw ∧ lw ≤ 2) ∧ (0 ≤ rw ∧ rw ≤ 2) ∧ (X0_wonBy_r lw rw = -1 → lw < 2 ∧ rw < 2) ∧ (lw < 2 → rw < 2 → X0_wonBy_r lw rw = -1) := by
  rcases h with ⟨a, b⟩ | ⟨a, b, -⟩ | ⟨a, b, -⟩
  · rcases a with rfl | rfl <;> rcases b with rfl | rfl <;> decide
  · subst a
    rcases b with rfl | rfl <;> decide
  · subst b
    rcases a with rfl | rfl <;> decide
theorem of_facts {n fr T : Nat} {u : zS} (h : rdZ n fr T u) {f : Int32} (hf : f = 0 ∨ f = 1) : (0 ≤ ofZ u f 2 ∧ ofZ u f 2 ≤ 100) ∧ ofZ u f 1 ≤ 1000 ∧ (ofZ u f 3 = 0 ∨ ofZ u f 3 = 1 ∨ ofZ u f 3 = 2 ∨ ofZ u f 3 = 3) ∧ (ofZ u f 3 = 1 → ¬ ofZ u f 4 = -1) ∧ (¬ ofZ u f 3 = 1 → ofZ u f 4 = -1) ∧ 0 ≤ ofZ u f 5 ∧ (ofZ u f 3 = 0 → ofZ u f 5 = 0) ∧ (¬ ofZ u f 3 = 2 → ofZ u f 6 = 0) ∧ 0 ≤ ofZ u f 7 ∧ ofZ u f 7 ≤ 2 := by
  obtain ⟨-, -, -, hM, -, LG, -, ⟨-, hfr, -⟩, hw, -, -, LF, hB⟩ := h
  obtain ⟨bF, bG, -, lF, lG, -, -, cF, cG⟩ := hB
  obtain ⟨w1, w2, -⟩ := win_facts hw
  rcases hf with rfl | rfl
  · obtain ⟨a, b, c, d, e, f, g, i⟩ := fig_facts (by omega) bF lF cF hM.1
    exact ⟨a, b, c, d, e, f, g, i, w1⟩
  · obtain ⟨a, b, c, d, e, f, g, i⟩ := fig_facts (by omega) bG lG cG hM.1
    exact ⟨a, b, c, d, e, f, g, i, w2⟩
theorem pl_facts {n fr T : Nat} {u : zS} (h : rdZ n fr T u) : 0 ≤ ofZ u 0 0 ∧ ofZ u 1 0 ≤ 600 ∧ 20 ≤ ofZ u 1 0 - ofZ u 0 0 ∧ ofZ u 0 0 ≤ 580 ∧ 20 ≤ ofZ u 1 0 := by
  obtain ⟨-, -, -, -, -, LG, -, -, -, -, -, LF, -, -, ⟨p0, p1, p2⟩, -⟩ := h
  have e0 : (0 : Int32).toInt = 0 := rfl
  have e20 : (20 : Int32).toInt = 20 := rfl
  have e580 : (580 : Int32).toInt = 580 := rfl
  have e600 : (600 : Int32).toInt = 600 := rfl
  have es : (u.2.1 1 0 - u.2.1 0 0).toInt = (u.2.1 1 0).toInt - (u.2.1 0 0).toInt := zi_sub (by omega) (by omega)
  show 0 ≤ u.2.1 0 0 ∧ u.2.1 1 0 ≤ 600 ∧ 20 ≤ u.2.1 1 0 - u.2.1 0 0 ∧ u.2.1 0 0 ≤ 580 ∧ 20 ≤ u.2.1 1 0
  rw [zi_le, zi_le, zi_le, zi_le, zi_le, es, e0, e20, e580, e600]
  omega
theorem won_facts {n fr T : Nat} {u : zS} (h : rdZ n fr T u) : (X0_wonBy_r (u.1 8) (u.1 9) = -1 → ofZ u 0 7 < 2 ∧ ofZ u 1 7 < 2) ∧ (ofZ u 0 7 < 2 → ofZ u 1 7 < 2 → X0_wonBy_r (u.1 8) (u.1 9) = -1) := by
  obtain ⟨-, -, -, -, -, LG, -, -, hw, -⟩ := h
  exact (win_facts hw).2.2
theorem go_facts {n fr T : Nat} {u : zS} (h : rdZ n fr T u) : (u.1 0 = 0 ∨ u.1 0 = 1) ∧ u.1 3 = nI fr ∧ fr ≤ 600 := by
  obtain ⟨-, -, -, -, -, LG, a, ⟨b, c, -⟩, -⟩ := h
  exact ⟨a, b, c⟩
theorem tell_cn {u : zS} {P Q : Nat → Int32} (p : P 15 = 1) (q : Q 15 = 0) (k : Nat) (w : Int32) : X2_tell_r (rep u.2.2.2 (u.2.1 6) (u.2.1 7) (X1_prepare_w1 P (u.1 4) (u.1 5)) (X1_prepare_w2 Q (u.1 4) (u.1 6)) k).1 w = X2_tell_r (repZ u k).1 w ∧ X2_tell_r (rep u.2.2.2 (u.2.1 6) (u.2.1 7) (X1_prepare_w1 P (u.1 4) (u.1 5)) (X1_prepare_w2 Q (u.1 4) (u.1 6)) k).2 w = X2_tell_r (repZ u k).2 w := by
  obtain ⟨a, b⟩ := zq_rep (MV := u.2.2.2) (on := u.2.1 6) (tw := u.2.1 7) (F := X1_prepare_w1 P (u.1 4) (u.1 5)) (F' := X1_prepare_w1 cnP (u.1 4) (u.1 5)) (G := X1_prepare_w2 Q (u.1 4) (u.1 6)) (G' := X1_prepare_w2 cnQ (u.1 4) (u.1 6)) (zq_prepare _ _ _ _ p) (zq_prepare _ _ _ _ q) k
  exact ⟨zq_tell a w, zq_tell b w⟩
theorem tell_of {n fr T : Nat} {u : zS} (h : rdZ n fr T u) {f : Int32} {w : Nat} (hw : w ≤ 6) : tellZ u fr f (nI w) = ofZ u f (nI w) := by
  obtain ⟨-, -, -, -, -, LG, -, -, -, ⟨P, Q, p, q, eF, eG⟩, -⟩ := h
  obtain ⟨a, b⟩ := tell_cn (u := u) p q fr (nI w)
  unfold ofZ X7_of_r tellZ
  rw [if_neg (fun z : nI w = 7 => by have := (nI_eq (a := w) (b := 7) (by omega) (by decide)).mp z; omega), eF, eG, a, b]
theorem again_Z {n fr T k w : Nat} {u : zS} {f : Int32} (h : rdZ n fr T u) (hT : T ≤ 1000) (hk : k ≤ fr) (hf : f = 0 ∨ f = 1) (hw : w ≤ 6) : X7_again_x (u.1 7) f (u.1 3) (nI k) (nI w) = 0 ∧ X7_again_r (u.2.1 2) (u.2.1 3) u.2.2.2 (u.1 4) f (u.1 3) (nI k) (u.1 5) (u.2.1 6) (u.1 6) (u.2.1 7) (nI w) = tellZ u k f (nI w) ∧ ∀ v1 v2, X7_again_w3 (u.2.1 2) (u.2.1 3) u.2.2.2 (u.1 4) (u.1 3) (nI k) (u.1 5) (u.2.1 6) (u.1 6) (u.2.1 7) = v1 → X7_again_w4 (u.2.1 2) (u.2.1 3) u.2.2.2 (u.1 4) (u.1 3) (nI k) (u.1 5) (u.2.1 6) (u.1 6) (u.2.1 7) = v2 → rdZ n fr T (u.1, hfS (hfS u.2.1 2 v1) 3 v2, u.2.2.1, u.2.2.2) ∧ simZ u (u.1, hfS (hfS u.2.1 2 v1) 3 v2, u.2.2.1, u.2.2.2) := by
  obtain ⟨-, hfl, ⟨b, hb1, hb2, eb⟩, hM, ⟨a, x, y, ea, ha, hb, he, ex, hx, ey, hy⟩, LG, -, ⟨e3, hfr, -⟩, -, -, hin, -⟩ := id h
  have hp : X6_pin_run u.2.2.2 (u.2.1 6) (u.2.1 7) (u.1 3) (nI k) 600 0 (X6_prepare_w2 (u.2.1 2) (u.1 4) (u.1 5), X6_prepare_w3 (u.2.1 3) (u.1 4) (u.1 6)) = rep u.2.2.2 (u.2.1 6) (u.2.1 7) (X1_prepare_w1 (u.2.1 2) (u.1 4) (u.1 5)) (X1_prepare_w2 (u.2.1 3) (u.1 4) (u.1 6)) k := by
    rw [e3]
    exact pin_eq (F := X1_prepare_w1 (u.2.1 2) (u.1 4) (u.1 5)) (G := X1_prepare_w2 (u.2.1 3) (u.1 4) (u.1 6)) hk hfr 600 0 (Nat.zero_le _) (by omega)
  obtain ⟨L1, L2, -, -, hd⟩ := rep_B hM (prep_B (n := n) (P := u.2.1 2) (Q := u.2.1 3) ea ha hb he ex hx ey hy hfl.2.1.1 hfl.2.1.2) k (by omega) (fun m hm => hin m (by omega))
  refine ⟨?_, ?_, ?_⟩
  · unfold X7_again_x
    rw [eb, e3, if_neg (nI_ne0 (by omega) (by omega)), if_neg (nI_pos (by omega)), if_pos (nI_le hk (by omega)), if_pos (nF_0 hf), if_pos (nW_0 (g := 6) (l := 0) (b := 6) (a := 0) (x := w) rfl rfl rfl (by omega) hw (by decide))]
  · unfold X7_again_r tellZ
    rw [hp]
    obtain ⟨c, d⟩ := tell_cn (u := u) hfl.2.1.1 hfl.2.1.2 k (nI w)
    rw [c, d]
  · intro v1 v2 e1 e2
    unfold X7_again_w3 at e1
    unfold X7_again_w4 at e2
    rw [hp] at e1 e2
    have hs : simZ u (u.1, hfS (hfS u.2.1 2 v1) 3 v2, u.2.2.1, u.2.2.2) := by
      refine ⟨rfl, fun k hk => ?_, rfl⟩
      show hfS (hfS u.2.1 2 v1) 3 v2 k = u.2.1 k
      rw [hfS_n _ _ (by omega), hfS_n _ _ (by omega)]
    refine ⟨hs.rd h ?_, hs⟩
    exact ⟨hfl.1, ⟨(congrArg (fun g => g 15) e1.symm).trans hd.2.2.2.2.2.1, (congrArg (fun g => g 15) e2.symm).trans hd.2.2.2.2.2.2.1⟩, hfl.2.2⟩
