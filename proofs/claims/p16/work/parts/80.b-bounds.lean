/-! pure: bounds that hold of two figures, frame by frame -/
theorem zi_add {a b : Int32} (h1 : -2147483648 ≤ a.toInt + b.toInt) (h2 : a.toInt + b.toInt < 2147483648) : (a + b).toInt = a.toInt + b.toInt := by
  rw [Int32.toInt_add]
  exact Int.bmod_eq_of_le (by omega) (by omega)
theorem zi_sub {a b : Int32} (h1 : -2147483648 ≤ a.toInt - b.toInt) (h2 : a.toInt - b.toInt < 2147483648) : (a - b).toInt = a.toInt - b.toInt := by
  rw [Int32.toInt_sub]
  exact Int.bmod_eq_of_le (by omega) (by omega)
theorem zi_half {a : Int32} (h : 0 ≤ a.toInt) : (a / 2).toInt = a.toInt / 2 := by
  rw [Int32.toInt_div_of_ne_right a 2 (by decide)]
  exact Int.tdiv_eq_ediv_of_nonneg h
theorem zi_le {a b : Int32} : a ≤ b ↔ a.toInt ≤ b.toInt := Int32.le_iff_toInt_le
theorem zi_lt {a b : Int32} : a < b ↔ a.toInt < b.toInt := Int32.lt_iff_toInt_lt
theorem zi_nat {x : Int32} {m : Nat} (h0 : 0 ≤ x.toInt) (h1 : x.toInt ≤ m) : ∃ j : Nat, j ≤ m ∧ x = nI j := by
  have c : ¬ x < 0 := by
    rw [zi_lt]
    have e : (0 : Int32).toInt = 0 := rfl
    omega
  obtain ⟨j, hj, rfl⟩ := nI_of c
  rw [nI_toInt hj] at h1
  exact ⟨j, by omega, rfl⟩
/-- a number of one of the moves -/
def isMv (cnt : Nat) (x : Int32) : Prop := ∃ i, i < cnt ∧ x = nI i
theorem mi_nI {i : Nat} (h : i < 6) : mi (nI i) = i := by
  unfold mi
  rw [if_neg (nI_pos (by omega)), if_neg (show ¬ (6 : Int32) ≤ nI i from nI_ge (b := 6) h (by decide)), nI_clamp (by omega)]
/-- at most 6 moves, their damages and traits in their ranges -/
def mvB (n : Nat) (MV : Nat → Nat → Int32) : Prop := n ≤ 6 ∧ (∀ i, i < n → ∃ d, 1 ≤ d ∧ d ≤ 200 ∧ MV i 5 = nI d) ∧ ∀ i, i < n → ∀ k, k < 5 → ∃ v, v ≤ 60 ∧ MV i (6 + k) = nI v
/-- an input that a round takes -/
def inB (n : Nat) (x : Int32) : Prop := x < 10 ∨ isMv n (x - 10)
def dsB (t n : Nat) (F : Nat → Int32) : Prop := (F 3 = 1 ∧ isMv n (F 5) ∧ ∃ k, k ≤ t ∧ F 6 = nI k) ∨ (F 3 = 0 ∧ F 5 = -1 ∧ F 8 = 0) ∨ ((F 3 = 2 ∨ F 3 = 3) ∧ F 5 = -1 ∧ ∃ k, k ≤ 64 ∧ F 8 = nI k)
def kpB (n : Nat) (F : Nat → Int32) : Prop := F 9 = -1 ∨ isMv n (F 9)
def mtB (F : Nat → Int32) : Prop := ∃ m, m ≤ 100 ∧ F 2 = nI m
def fgB (t n : Nat) (F : Nat → Int32) : Prop := dsB t n F ∧ kpB n F ∧ mtB F
/-- life: what t frames can have cost, L; who was hit in a row has lost something -/
def lfB (t L : Nat) (F : Nat → Int32) : Prop := (∃ c, c ≤ t ∧ F 4 = nI c ∧ (1 ≤ c → 1 ≤ L)) ∧ L ≤ 240 * t ∧ F 1 = 1000 - nI L
def plB (F G : Nat → Int32) : Prop := 0 ≤ (F 0).toInt ∧ (F 0).toInt + 20 ≤ (G 0).toInt ∧ (G 0).toInt ≤ 600
theorem fgB.congr {t n : Nat} {F F1 : Nat → Int32} (h : fgB t n F) (h2 : F1 2 = F 2) (h3 : F1 3 = F 3) (h5 : F1 5 = F 5) (h6 : F1 6 = F 6) (h8 : F1 8 = F 8) (h9 : F1 9 = F 9) : fgB t n F1 := by
  unfold fgB dsB kpB mtB at *
  rw [h2, h3, h5, h6, h8, h9]
  exact h
theorem lfB.congr {t L u : Nat} {F F1 : Nat → Int32} (h : lfB t L F) (hu : t ≤ u) (h1 : F1 1 = F 1) (h4 : F1 4 = F 4 ∨ F1 4 = 0) : lfB u L F1 := by
  obtain ⟨⟨c, hc, ec, hL⟩, hL2, e1⟩ := h
  refine ⟨?_, by omega, h1.trans e1⟩
  rcases h4 with h4 | h4
  · exact ⟨c, by omega, h4.trans ec, hL⟩
  · exact ⟨0, by omega, h4, fun q => absurd q (by decide)⟩
theorem fgB.out {t n : Nat} {F : Nat → Int32} (h : fgB t n F) : (F 3 = 1 → isMv n (F 5)) ∧ (¬ F 3 = 1 → F 5 = -1) := by
  rcases h.1 with ⟨a, b, -⟩ | ⟨a, b, -⟩ | ⟨a, b, -⟩
  · exact ⟨fun _ => b, fun q => absurd a q⟩
  · exact ⟨fun q => by rw [a] at q; exact absurd q (by decide), fun _ => b⟩
  · exact ⟨fun q => by rw [q] at a; rcases a with a | a <;> exact absurd a (by decide), fun _ => b⟩
theorem fg_take {t n : Nat} {F : Nat → Int32} {x : Int32} (h : fgB t n F) (hx : inB n x) : fgB t n (X2_take_w0 F x) := by
  unfold X2_take_w0
  split
  · exact h.congr rfl rfl rfl rfl rfl rfl
  · rename_i c
    obtain ⟨d, k, m⟩ := h
    exact ⟨d, Or.inr (hx.resolve_left c), m⟩
theorem take_k {H : Nat → Int32} {x : Int32} {k : Nat} (hk : k ∉ [9, 10, 11, 12]) : X2_take_w0 H x k = H k := by
  simp only [List.mem_cons, List.not_mem_nil, or_false, not_or] at hk
  obtain ⟨k9, k10, k11, k12⟩ := hk
  unfold X2_take_w0
  split
  · rw [upd_n _ _ k12, upd_n _ _ k11]
  · rw [upd_n _ _ k10, upd_n _ _ k9, upd_n _ _ k12, upd_n _ _ k11]
theorem begin_at {F : Nat → Int32} {MV : Nat → Nat → Int32} {k : Nat} (h : k ∈ [0, 1, 4, 8, 11, 15]) : X2_beginKept_w0 F MV k = F k := by
  have hk : k ≠ 2 ∧ k ≠ 3 ∧ k ≠ 5 ∧ k ≠ 6 ∧ k ≠ 7 ∧ k ≠ 9 ∧ k ≠ 10 ∧ k ≠ 12 := by
    revert h; simp only [List.mem_cons, List.not_mem_nil, or_false]; omega
  obtain ⟨k2, k3, k5, k6, k7, k9, k10, k12⟩ := hk
  unfold X2_beginKept_w0
  repeat' split
  all_goals first | rfl | simp [X2_drop_w0, upd, k2, k3, k5, k6, k7, k9, k10, k12]
theorem trait_B {n : Nat} {MV : Nat → Nat → Int32} (hM : mvB n MV) {x : Int32} (hx : isMv n x) : ∃ i, i < n ∧ mi x = i ∧ (∃ d, 1 ≤ d ∧ d ≤ 200 ∧ MV i 5 = nI d) ∧ (∃ v, v ≤ 60 ∧ X4_trait_r (MV i) 0 = nI v) ∧ (∃ v, v ≤ 60 ∧ X4_trait_r (MV i) 1 = nI v) ∧ (∃ v, v ≤ 60 ∧ X4_trait_r (MV i) 2 = nI v) ∧ (∃ v, v ≤ 60 ∧ X4_trait_r (MV i) 3 = nI v) ∧ (∃ v, v ≤ 60 ∧ X4_trait_r (MV i) 4 = nI v) := by
  obtain ⟨i, hi, rfl⟩ := hx
  have h6 := hM.1
  exact ⟨i, hi, mi_nI (by omega), hM.2.1 i hi, hM.2.2 i hi 0 (by decide), hM.2.2 i hi 1 (by decide), hM.2.2 i hi 2 (by decide), hM.2.2 i hi 3 (by decide), hM.2.2 i hi 4 (by decide)⟩
theorem fg_begin {t n : Nat} {F : Nat → Int32} {MV : Nat → Nat → Int32} (hM : mvB n MV) (h : fgB t n F) : fgB t n (X2_beginKept_w0 F MV) := by
  obtain ⟨d, k, m⟩ := id h
  unfold X2_beginKept_w0
  split
  · exact h
  · rename_i c9
    have hk := k.resolve_left c9
    split
    · exact h
    · rename_i cm
      split
      · exact h
      · obtain ⟨i, hi, ei, -, -, -, -, ⟨v, hv, ev⟩, -⟩ := trait_B hM hk
        obtain ⟨q, hq, eq⟩ := m
        rw [ei, ev, eq] at cm
        have cm2 : v ≤ q := (nI_leI (by omega) (by omega)).mp (Int32.not_lt.mp cm)
        refine ⟨Or.inl ⟨rfl, hk, 0, by omega, rfl⟩, Or.inl rfl, q - v, by omega, ?_⟩
        show F 2 - X4_trait_r (MV (mi (F 9))) 3 = nI (q - v)
        rw [ei, ev, eq, pk_sub cm2]
theorem x2walk_at {F : Nat → Int32} {k : Nat} (h : k ≠ 0) : X2_walk_w0 F k = F k := by
  unfold X2_walk_w0
  repeat' split
  all_goals simp [upd, h]
theorem walk1_at {F G : Nat → Int32} {k : Nat} (h : k ≠ 0) : X1_walk_w1 F G k = F k := by
  have e58 : X1_walk_j58 F G k = F k := by unfold X1_walk_j58; split <;> simp [upd, h, x2walk_at h]
  have e95 : X1_walk_j95 F G k = F k := by unfold X1_walk_j95; split <;> simp [upd, h, e58]
  unfold X1_walk_w1
  split <;> simp [upd, h, e95]
theorem walk2_at {F G : Nat → Int32} {k : Nat} (h : k ≠ 0) : X1_walk_w2 F G k = G k := by
  have e58 : X1_walk_j58_1 F G k = G k := by unfold X1_walk_j58_1; split <;> simp [upd, h, x2walk_at h]
  have e95 : X1_walk_j95_1 F G k = G k := by unfold X1_walk_j95_1; split <;> simp [upd, h, e58]
  unfold X1_walk_w2
  split <;> simp [upd, h, e95]
theorem goL_B {F : Nat → Int32} (f15 : ¬ F 15 = 0) (h0 : 0 ≤ (F 0).toInt) (h1 : (F 0).toInt ≤ 600) : (F 0).toInt - 3 ≤ (X2_walk_w0 F 0).toInt ∧ (X2_walk_w0 F 0).toInt ≤ (F 0).toInt + 4 := by
  have e4 : (4 : Int32).toInt = 4 := rfl
  have e3 : (-3 : Int32).toInt = -3 := rfl
  unfold X2_walk_w0 X2_walk_j33 X2_walk_j73
  rw [if_neg f15, if_neg f15]
  split
  · split
    · rw [upd_s, zi_add (by omega) (by omega), e4]
      omega
    · split
      · rw [upd_s, zi_add (by omega) (by omega), e3]
        omega
      · omega
  · omega
theorem goR_B {F : Nat → Int32} (f15 : F 15 = 0) (h0 : 0 ≤ (F 0).toInt) (h1 : (F 0).toInt ≤ 600) : (F 0).toInt - 4 ≤ (X2_walk_w0 F 0).toInt ∧ (X2_walk_w0 F 0).toInt ≤ (F 0).toInt + 3 := by
  have e4 : (-4 : Int32).toInt = -4 := rfl
  have e3 : (3 : Int32).toInt = 3 := rfl
  unfold X2_walk_w0 X2_walk_j33 X2_walk_j73
  rw [if_pos f15, if_pos f15]
  split
  · split
    · rw [upd_s, zi_add (by omega) (by omega), e4]
      omega
    · split
      · rw [upd_s, zi_add (by omega) (by omega), e3]
        omega
      · omega
  · omega
theorem pl_walk {F G : Nat → Int32} (f15 : ¬ F 15 = 0) (g15 : G 15 = 0) (h : plB F G) : plB (X1_walk_w1 F G) (X1_walk_w2 F G) := by
  obtain ⟨h0, h20, h600⟩ := h
  obtain ⟨a1, a2⟩ := goL_B f15 h0 (by omega)
  obtain ⟨b1, b2⟩ := goR_B (F := G) g15 (by omega) h600
  have e20 : (20 : Int32).toInt = 20 := rfl
  have e0 : (0 : Int32).toInt = 0 := rfl
  have e600 : (600 : Int32).toInt = 600 := rfl
  have e580 : (580 : Int32).toInt = 580 := rfl
  have eap : (X2_walk_w0 G 0 - X2_walk_w0 F 0).toInt = (X2_walk_w0 G 0).toInt - (X2_walk_w0 F 0).toInt := zi_sub (by omega) (by omega)
  have ems : (20 - (X2_walk_w0 G 0 - X2_walk_w0 F 0)).toInt = 20 - ((X2_walk_w0 G 0).toInt - (X2_walk_w0 F 0).toInt) := by rw [zi_sub (by rw [eap]; omega) (by rw [eap]; omega), eap, e20]
  have j58 : -20 ≤ (X1_walk_j58 F G 0).toInt ∧ (X1_walk_j58 F G 0).toInt + 20 ≤ (X1_walk_j58_1 F G 0).toInt ∧ (X1_walk_j58_1 F G 0).toInt ≤ 640 := by
    unfold X1_walk_j58 X1_walk_j58_1 X1_apart_r
    generalize X2_walk_w0 F = A at a1 a2 eap ems ⊢
    generalize X2_walk_w0 G = B at b1 b2 eap ems ⊢
    by_cases c : 20 - (B 0 - A 0) ≤ 0
    · rw [if_pos c, if_pos c]
      rw [zi_le, ems, e0] at c
      omega
    · rw [if_neg c, if_neg c, upd_s, upd_s]
      rw [zi_le, ems, e0] at c
      generalize hm : 20 - (B 0 - A 0) = m at ems ⊢
      have eh : (m / 2).toInt = m.toInt / 2 := zi_half (by omega)
      have er : (m - m / 2).toInt = m.toInt - m.toInt / 2 := by rw [zi_sub (by rw [eh]; omega) (by rw [eh]; omega), eh]
      rw [zi_sub (by rw [eh]; omega) (by rw [eh]; omega), zi_add (by rw [er]; omega) (by rw [er]; omega), eh, er]
      omega
  generalize hx : X1_walk_j58 F G = A at j58
  generalize hy : X1_walk_j58_1 F G = B at j58
  have j95 : 0 ≤ (X1_walk_j95 F G 0).toInt ∧ (X1_walk_j95 F G 0).toInt + 20 ≤ (X1_walk_j95_1 F G 0).toInt ∧ (X1_walk_j95_1 F G 0).toInt ≤ 640 := by
    unfold X1_walk_j95 X1_walk_j95_1
    rw [hx, hy]
    by_cases c : 0 ≤ A 0
    · rw [if_pos c, if_pos c]
      rw [zi_le, e0] at c
      omega
    · rw [if_neg c, if_neg c, upd_s, upd_s, e0]
      by_cases d : B 0 < 20
      · rw [if_pos d, e20]
        omega
      · rw [if_neg d]
        rw [zi_lt, e20] at d
        omega
  generalize hx2 : X1_walk_j95 F G = C at j95
  generalize hy2 : X1_walk_j95_1 F G = D at j95
  unfold plB X1_walk_w1 X1_walk_w2
  rw [hx2, hy2]
  by_cases c : D 0 ≤ 600
  · rw [if_pos c, if_pos c]
    rw [zi_le, e600] at c
    omega
  · rw [if_neg c, if_neg c, upd_s, upd_s, e600]
    by_cases d : 580 < C 0
    · rw [if_pos d, e580]
      omega
    · rw [if_neg d]
      rw [zi_lt, e580] at d
      omega
