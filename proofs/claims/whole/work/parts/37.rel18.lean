/-- the class's two figures after k frames of a tape -/
def rep (MV : Nat → Nat → Int32) (on tw : Nat → Int32) (F G : Nat → Int32) : Nat → (Nat → Int32) × (Nat → Int32)
  | 0 => (F, G)
  | k + 1 => (X1_playFrame_w1 (rep MV on tw F G k).1 (rep MV on tw F G k).2 MV (on k) (tw k), X1_playFrame_w2 (rep MV on tw F G k).1 (rep MV on tw F G k).2 MV (on k) (tw k))
/-- the model's row after k frames of a tape -/
def mrep (tb : Nat → Int32) (on tw : Nat → Int32) (s : Nat → Int32) : Nat → (Nat → Int32)
  | 0 => s
  | k + 1 => X8_frame_w2 tb (mrep tb on tw s k) (on k) (tw k)
theorem rep_s {MV : Nat → Nat → Int32} {on tw F G : Nat → Int32} (k : Nat) : rep MV on tw F G (k + 1) = (X1_playFrame_w1 (rep MV on tw F G k).1 (rep MV on tw F G k).2 MV (on k) (tw k), X1_playFrame_w2 (rep MV on tw F G k).1 (rep MV on tw F G k).2 MV (on k) (tw k)) := rfl
theorem rep_s1 {MV : Nat → Nat → Int32} {on tw F G : Nat → Int32} (k : Nat) : (rep MV on tw F G (k + 1)).1 = X1_playFrame_w1 (rep MV on tw F G k).1 (rep MV on tw F G k).2 MV (on k) (tw k) := by
  rw [rep_s]
theorem rep_s2 {MV : Nat → Nat → Int32} {on tw F G : Nat → Int32} (k : Nat) : (rep MV on tw F G (k + 1)).2 = X1_playFrame_w2 (rep MV on tw F G k).1 (rep MV on tw F G k).2 MV (on k) (tw k) := by
  rw [rep_s]
theorem mrep_s {tb on tw s : Nat → Int32} (k : Nat) : mrep tb on tw s (k + 1) = X8_frame_w2 tb (mrep tb on tw s k) (on k) (tw k) := rfl
theorem rep_congr {MV : Nat → Nat → Int32} {on tw on1 tw1 F G : Nat → Int32} (k : Nat) : (∀ m, m < k → on1 m = on m ∧ tw1 m = tw m) → rep MV on1 tw1 F G k = rep MV on tw F G k := by
  induction k with
  | zero => intro _; rw [rep, rep]
  | succ k ih =>
    intro h
    rw [rep_s, rep_s, ih (fun m hm => h m (by omega)), (h k (by omega)).1, (h k (by omega)).2]
theorem mrep_congr {tb on tw on1 tw1 s : Nat → Int32} (k : Nat) : (∀ m, m < k → on1 m = on m ∧ tw1 m = tw m) → mrep tb on1 tw1 s k = mrep tb on tw s k := by
  induction k with
  | zero => intro _; rw [mrep, mrep]
  | succ k ih =>
    intro h
    rw [mrep_s, mrep_s, ih (fun m hm => h m (by omega)), (h k (by omega)).1, (h k (by omega)).2]
/-- a replay agrees with the model, frame by frame -/
theorem relS_rep {MV : Nat → Nat → Int32} {tb on tw F G s : Nat → Int32} {cnt : Nat} (hT : relT MV tb cnt) (hV : relV MV cnt) (hC : relC MV cnt) (h : relS MV cnt F G s) (k : Nat) : (∀ m, m < k → okIn cnt (on m) ∧ okIn cnt (tw m)) → relS MV cnt (rep MV on tw F G k).1 (rep MV on tw F G k).2 (mrep tb on tw s k) := by
  induction k with
  | zero => intro _; rw [rep, mrep]; exact h
  | succ k ih =>
    intro hin
    rw [rep_s1, rep_s2, mrep_s]
    exact relS_frame hT hV hC (ih (fun m hm => hin m (by omega))) (hin k (by omega)).1 (hin k (by omega)).2
/-- a life's bound, frame by frame -/
theorem life_rep {MV : Nat → Nat → Int32} {tb on tw F G s : Nat → Int32} {cnt : Nat} (hT : relT MV tb cnt) (hV : relV MV cnt) (hC : relC MV cnt) (hD : relD MV cnt) (h : relS MV cnt F G s) (hF : lifeI 0 F) (hG : lifeI 0 G) (k : Nat) : k ≤ 2000 → (∀ m, m < k → okIn cnt (on m) ∧ okIn cnt (tw m)) → lifeI k (rep MV on tw F G k).1 ∧ lifeI k (rep MV on tw F G k).2 := by
  induction k with
  | zero => intro _ _; rw [rep]; exact ⟨hF, hG⟩
  | succ k ih =>
    intro hk hin
    obtain ⟨a, b⟩ := ih (by omega) (fun m hm => hin m (by omega))
    rw [rep_s1, rep_s2]
    obtain ⟨c, d, -⟩ := life_frame hT hV hC hD (relS_rep hT hV hC h k (fun m hm => hin m (by omega))) (hin k (by omega)).1 (hin k (by omega)).2 a b (by omega)
    exact ⟨c, d⟩
/-- the tape played into a duel up to a frame -/
theorem pin_eq {MV : Nat → Nat → Int32} {on tw F G : Nat → Int32} {fr up : Nat} (h1 : up ≤ fr) (h2 : fr ≤ 600) (n : Nat) : ∀ j, j ≤ up → up - j ≤ n → X6_pin_run MV on tw (nI fr) (nI up) n j (rep MV on tw F G j) = rep MV on tw F G up := by
  induction n with
  | zero =>
    intro j hj hn
    have e : j = up := by omega
    subst e
    generalize rep MV on tw F G j = x
    obtain ⟨a, b⟩ := x
    rw [X6_pin_run]
  | succ n ih =>
    intro j hj hn
    by_cases c : up ≤ j
    · have e : j = up := by omega
      subst e
      generalize rep MV on tw F G j = x
      obtain ⟨a, b⟩ := x
      rw [X6_pin_run_s, if_pos (Int32.le_refl _)]
    · have ihj := ih (j + 1) (by omega) (by omega)
      rw [rep_s] at ihj
      generalize rep MV on tw F G j = x at ihj ⊢
      obtain ⟨a, b⟩ := x
      rw [X6_pin_run_s, if_neg (by rw [nI_leI (by omega) (by omega)]; exact c), if_neg (by rw [nI_leI (by omega) (by omega)]; omega), nI_clamp (by omega)]
      exact ihj
