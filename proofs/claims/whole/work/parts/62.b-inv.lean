/-! what holds between the class's state and the model's, between two calls -/
def relT6 (MV : Nat → Nat → Int32) (tb : Nat → Int32) (n : Nat) : Prop := n ≤ 6 ∧ (∀ i, i < n → ∀ k, k < 11 → X8_ofMove_r tb (nI i) (nI k) = MV i k) ∧ (∀ i, i < n → ∀ j, j < 6 → ((((X8_ofMove_r tb (nI i) 11) >>> ((nI j) &&& 31)) &&& 1) = 1 ↔ ¬ MV i (11 + j) = 0)) ∧ (∀ i, n ≤ i → i < 6 → ∀ j, j < 6 → MV i (11 + j) = 0)
theorem relT6.t {MV : Nat → Nat → Int32} {tb : Nat → Int32} {n : Nat} (h : relT6 MV tb n) : relT MV tb n := ⟨h.1, h.2.1, fun i hi j hj => h.2.2.1 i hi j (by have := h.1; omega)⟩
def movOK (MV : Nat → Nat → Int32) (tb : Nat → Int32) (n : Nat) : Prop := relT6 MV tb n ∧ relV MV n ∧ relC MV n ∧ relD MV n ∧ ∀ i k, MV i (11 + k) = 0 ∨ MV i (11 + k) = 1
def winOK (lw rw win go : Int32) : Prop := ((lw = 0 ∨ lw = 1) ∧ (rw = 0 ∨ rw = 1) ∧ win = -1) ∨ (lw = 2 ∧ (rw = 0 ∨ rw = 1) ∧ win = 0 ∧ go = 0) ∨ ((lw = 0 ∨ lw = 1) ∧ rw = 2 ∧ win = 1 ∧ go = 0)
def lay0 (ap lm rm : Int32) : Nat → Int32 := X8_lay_w2 (fun _ => 0) lm (300 + ap / 2) rm (300 - ap / 2)
def tapeOK (MVR : Nat → Nat → Int32) (tbR : Nat → Int32) (nR : Nat) (on tw : Nat → Int32) (ap lm rm : Int32) (fr : Nat) (td : Nat → Int32) : Prop := relT MVR tbR nR ∧ relV MVR nR ∧ relC MVR nR ∧ relD MVR nR ∧ lm ≤ 100 ∧ rm ≤ 100 ∧ (∀ m, m < fr → okIn nR (on m) ∧ okIn nR (tw m)) ∧ (∀ k, k ≤ fr → ∀ w, w < 7 → td (14 * k + w) = mrep tbR on tw (lay0 ap lm rm) k w ∧ td (14 * k + 7 + w) = mrep tbR on tw (lay0 ap lm rm) k (11 + w))
def duelOK (MVR : Nat → Nat → Int32) (on tw : Nat → Int32) (ap lm rm : Int32) (fr : Nat) (F G : Nat → Int32) : Prop := ∃ P Q : Nat → Int32, ¬ P 15 = 0 ∧ Q 15 = 0 ∧ F = (rep MVR on tw (X1_prepare_w1 P ap lm) (X1_prepare_w2 Q ap rm) fr).1 ∧ G = (rep MVR on tw (X1_prepare_w1 P ap lm) (X1_prepare_w2 Q ap rm) fr).2
def flagOK (cf : Nat → Nat → Int32) : Prop := (¬ cf 0 15 = 0 ∧ cf 1 15 = 0) ∧ (¬ cf 2 15 = 0 ∧ cf 3 15 = 0) ∧ (¬ cf 4 15 = 0 ∧ cf 5 15 = 0) ∧ ∀ k, k ≤ 4 → ¬ cf (10 + 2 * k) 15 = 0 ∧ cf (11 + 2 * k) 15 = 0
def tellOK (F G rd : Nat → Int32) : Prop := ∀ w, w < 7 → X2_tell_r F (nI w) = rd w ∧ X2_tell_r G (nI w) = rd (11 + w)
def INV (t : Nat) (ci : Nat → Int32) (cf MV MVR : Nat → Nat → Int32) (g : Nat → Int32) (mf : Nat → Nat → Int32) : Prop := ∃ (n nR fr : Nat) (tbR : Nat → Int32),
  (ci 1 = nI n ∧ g 1 = nI n ∧ movOK MV (mf 0) n) ∧ (ci 0 = g 9 ∧ (g 9 = 0 ∨ g 9 = 1)) ∧
  ((∃ b, b ≤ t ∧ ci 7 = nI b) ∧ ci 7 = g 8 ∧ ci 8 = mf 5 0 ∧ ci 9 = mf 5 1 ∧ winOK (ci 8) (ci 9) (g 10) (g 9)) ∧
  (ci 3 = nI fr ∧ fr ≤ 600 ∧ ((¬ ci 7 = 0 ∧ g 7 = nI fr) ∨ (ci 7 = 0 ∧ g 7 = -1 ∧ g 9 = 0))) ∧
  flagOK cf ∧ tellOK (cf 0) (cf 1) (mf 2) ∧ (cf 0 2 ≤ 100 ∧ cf 1 2 ≤ 100) ∧
  (¬ ci 7 = 0 → ci 2 = nI nR ∧ tapeOK MVR tbR nR (cf 6) (cf 7) (ci 4) (ci 5) (ci 6) fr (mf 4)) ∧
  (¬ g 9 = 0 → tbR = mf 0 ∧ nR = n ∧ fr < 600 ∧ duelOK MVR (cf 6) (cf 7) (ci 4) (ci 5) (ci 6) fr (cf 0) (cf 1) ∧ relS MVR n (cf 0) (cf 1) (mf 2))
/-- what only scratch has changed in -/
theorem INV.keep {t : Nat} {ci ci1 g g1 : Nat → Int32} {cf cf1 MV MVR mf mf1 : Nat → Nat → Int32} (h : INV t ci cf MV MVR g mf) (hc : ∀ k, k < 10 → ci1 k = ci k) (h0 : cf1 0 = cf 0) (h1 : cf1 1 = cf 1) (h6 : cf1 6 = cf 6) (h7 : cf1 7 = cf 7) (hf : flagOK cf1) (m0 : mf1 0 = mf 0) (m2 : mf1 2 = mf 2) (m4 : mf1 4 = mf 4) (m5 : mf1 5 = mf 5) (g1_1 : g1 1 = g 1) (g1_7 : g1 7 = g 7) (g1_8 : g1 8 = g 8) (g1_9 : g1 9 = g 9) (g1_10 : g1 10 = g 10) : INV (t + 1) ci1 cf1 MV MVR g1 mf1 := by
  obtain ⟨n, nR, fr, tbR, a, b, ⟨⟨bb, hb, eb⟩, c⟩, d, e, f, i, j, k⟩ := h
  refine ⟨n, nR, fr, tbR, ?_, ?_, ⟨⟨bb, by omega, ?_⟩, ?_⟩, ?_, hf, ?_, ?_, ?_, ?_⟩
  · rw [hc 1 (by decide), g1_1, m0]; exact a
  · rw [hc 0 (by decide), g1_9]; exact b
  · rw [hc 7 (by decide)]; exact eb
  · rw [hc 7 (by decide), hc 8 (by decide), hc 9 (by decide), g1_8, g1_9, g1_10, m5]; exact c
  · rw [hc 3 (by decide), hc 7 (by decide), g1_7, g1_9]; exact d
  · rw [h0, h1, m2]; exact f
  · rw [h0, h1]; exact i
  · rw [hc 7 (by decide), hc 2 (by decide), hc 4 (by decide), hc 5 (by decide), hc 6 (by decide), h6, h7, m4]; exact j
  · rw [g1_9, m0, hc 4 (by decide), hc 5 (by decide), hc 6 (by decide), h0, h1, h6, h7, m2]; exact k
theorem INV.g12 {t : Nat} {ci g : Nat → Int32} {cf MV MVR mf : Nat → Nat → Int32} (h : INV t ci cf MV MVR g mf) (v : Int32) : INV (t + 1) ci cf MV MVR (upd g 12 v) mf := by
  have hf : flagOK cf := by
    obtain ⟨n, nR, fr, tbR, a, b, c, d, e, -⟩ := h
    exact e
  exact h.keep (fun _ _ => rfl) rfl rfl rfl rfl hf rfl rfl rfl rfl rfl rfl rfl rfl rfl
theorem in_1 {hi lo v : Int32} : X8_in_r hi lo v = if X7_needWithin_x hi lo v = 0 then 1 else 0 := by
  unfold X8_in_r X7_needWithin_x
  by_cases c : v < lo
  · rw [if_pos c, if_pos c]; rfl
  · rw [if_neg c, if_neg c]
    by_cases c2 : hi < v
    · rw [if_pos c2, if_neg (Int32.not_le.mpr c2)]; rfl
    · rw [if_neg c2, if_pos (Int32.not_lt.mp c2)]; rfl
theorem in_iff {hi lo v : Int32} : X8_in_r hi lo v = 0 ↔ ¬ X7_needWithin_x hi lo v = 0 := by
  rw [in_1]
  by_cases c : X7_needWithin_x hi lo v = 0
  · rw [if_pos c]; exact ⟨fun q => absurd q (by decide), fun q => absurd c q⟩
  · rw [if_neg c]; exact ⟨fun _ => c, fun _ => rfl⟩
/-- a move's number: both ask the same -/
theorem mv_iff {n : Nat} {x : Int32} (h6 : n ≤ 6) : X8_in_r (nI n - 1) 0 x = 0 ↔ ¬ X7_needMove_x (nI n) x = 0 := by
  unfold X8_in_r X7_needMove_x X5_has_r
  by_cases c : x < 0
  · rw [if_pos c, if_pos c, if_pos rfl]; exact ⟨fun _ => by decide, fun _ => rfl⟩
  · rw [if_neg c, if_neg c]
    obtain ⟨j, hj, rfl⟩ := nI_of c
    have e : nI n - 1 < nI j ↔ nI n ≤ nI j := by
      rw [nI_leI (by omega) hj, Int32.lt_iff_toInt_lt, nI_toInt hj]
      have e1 : (nI n - 1).toInt = (n : Int) - 1 := pk_sub_toInt (a := n) (b := 1) (by omega) (by decide)
      rw [e1]
      omega
    by_cases c2 : nI n ≤ nI j
    · rw [if_pos (e.mpr c2), if_pos c2, if_pos rfl]; exact ⟨fun _ => by decide, fun _ => rfl⟩
    · rw [if_neg (fun q => c2 (e.mp q)), if_neg c2, if_neg (by decide)]; exact ⟨fun q => absurd q (by decide), fun q => absurd rfl q⟩
theorem mv_is {n : Nat} {x : Int32} (h6 : n ≤ 6) (h : X7_needMove_x (nI n) x = 0) : ∃ i, i < n ∧ x = nI i := by
  unfold X7_needMove_x X5_has_r at h
  by_cases c : x < 0
  · rw [if_pos c, if_pos rfl] at h
    exact absurd h (by decide)
  · rw [if_neg c] at h
    obtain ⟨j, hj, rfl⟩ := nI_of c
    by_cases c2 : nI n ≤ nI j
    · rw [if_pos c2, if_pos rfl] at h
      exact absurd h (by decide)
    · refine ⟨j, ?_, rfl⟩
      rcases Nat.lt_or_ge j n with q | q
      · exact q
      · exact absurd ((nI_leI (by omega) hj).mpr q) c2
theorem within_is {h v : Int32} {m : Nat} (hm : h.toInt = (m : Int)) (c : X7_needWithin_x h 0 v = 0) : ∃ i, i ≤ m ∧ v = nI i := by
  obtain ⟨j, hj, e⟩ := nI_of2 hm (nW_lo c) (nW_hi c)
  exact ⟨j, hj, e⟩
