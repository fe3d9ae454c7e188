theorem within_1 {hi v : Int32} {m : Nat} (hm : hi.toInt = (m : Int)) (c : X7_needWithin_x hi 1 v = 0) : ∃ i, 1 ≤ i ∧ i ≤ m ∧ v = nI i := by
  have h1 := nW_lo c
  have h0 : ¬ v < 0 := fun q => h1 (Int32.lt_trans q (by decide))
  obtain ⟨j, hj, rfl⟩ := nI_of2 hm h0 (nW_hi c)
  refine ⟨j, ?_, hj, rfl⟩
  rcases Nat.eq_zero_or_pos j with q | q
  · subst q
    exact absurd (show nI 0 < 1 by decide) h1
  · exact q
/-- the numbers of a new move -/
def newM (p0 p1 p2 p3 p4 p5 : Int32) : Nat → Int32 := fun k => if k = 0 then p0 else if k = 1 then p1 else if k = 2 then p2 else if k = 3 then p3 else if k = 4 then p4 else if k = 5 then p5 else if k = 6 then 20 else if k = 7 then 12 else if k = 8 then 10 else if k = 9 then 0 else if k = 10 then 5 else 0
theorem key12 {n k : Nat} (hn : n < 6) (hk : k < 12) : ((12 * nI n) + nI k).toNatClampNeg = 12 * n + k := by
  rw [show (12 : Int32) = nI 12 from rfl, pk_mul, nI_add, nI_clamp (by omega)]
theorem move_row {tb : Nat → Int32} {n : Nat} {p0 p1 p2 p3 p4 p5 : Int32} (hn : n < 6) : (upd (upd (upd (upd (upd (upd (upd (upd (upd (upd (upd (upd tb (12 * (nI n)).toNatClampNeg p0) ((12 * (nI n)) + 1).toNatClampNeg p1) ((12 * (nI n)) + 2).toNatClampNeg p2) ((12 * (nI n)) + 3).toNatClampNeg p3) ((12 * (nI n)) + 4).toNatClampNeg p4) ((12 * (nI n)) + 5).toNatClampNeg p5) ((12 * (nI n)) + 6).toNatClampNeg 20) ((12 * (nI n)) + 7).toNatClampNeg 12) ((12 * (nI n)) + 8).toNatClampNeg 10) ((12 * (nI n)) + 9).toNatClampNeg 0) ((12 * (nI n)) + 10).toNatClampNeg 5) ((12 * (nI n)) + 11).toNatClampNeg 0) = updR tb (12 * n) (newM p0 p1 p2 p3 p4 p5) 12 := by
  have k0 : (12 * nI n).toNatClampNeg = 12 * n + 0 := by
    rw [show (12 : Int32) = nI 12 from rfl, pk_mul, nI_clamp (by omega)]
    rfl
  have k1 : ((12 * nI n) + 1).toNatClampNeg = 12 * n + 1 := key12 hn (by decide)
  have k2 : ((12 * nI n) + 2).toNatClampNeg = 12 * n + 2 := key12 hn (by decide)
  have k3 : ((12 * nI n) + 3).toNatClampNeg = 12 * n + 3 := key12 hn (by decide)
  have k4 : ((12 * nI n) + 4).toNatClampNeg = 12 * n + 4 := key12 hn (by decide)
  have k5 : ((12 * nI n) + 5).toNatClampNeg = 12 * n + 5 := key12 hn (by decide)
  have k6 : ((12 * nI n) + 6).toNatClampNeg = 12 * n + 6 := key12 hn (by decide)
  have k7 : ((12 * nI n) + 7).toNatClampNeg = 12 * n + 7 := key12 hn (by decide)
  have k8 : ((12 * nI n) + 8).toNatClampNeg = 12 * n + 8 := key12 hn (by decide)
  have k9 : ((12 * nI n) + 9).toNatClampNeg = 12 * n + 9 := key12 hn (by decide)
  have k10 : ((12 * nI n) + 10).toNatClampNeg = 12 * n + 10 := key12 hn (by decide)
  have k11 : ((12 * nI n) + 11).toNatClampNeg = 12 * n + 11 := key12 hn (by decide)
  rw [k0, k1, k2, k3, k4, k5, k6, k7, k8, k9, k10, k11]
  rfl
theorem make_at {tr : Nat → Int32} {p0 p1 p2 p3 p4 p5 : Int32} {k : Nat} (hk : k < 5) : X4_make_w1 tr k = newM p0 p1 p2 p3 p4 p5 (6 + k) := by
  rcases (show k = 0 ∨ k = 1 ∨ k = 2 ∨ k = 3 ∨ k = 4 by omega) with rfl | rfl | rfl | rfl | rfl <;> rfl
theorem movOK_new {MV : Nat → Nat → Int32} {tb : Nat → Int32} {n : Nat} {p0 p1 p2 p3 p4 p5 : Int32} {inn tr : Nat → Int32} (h : movOK MV tb n) (hn : n < 6) (hin : ∀ k, inn k = MV n (11 + k)) (htr : ∀ k, k < 5 → tr k = newM p0 p1 p2 p3 p4 p5 (6 + k)) (h0 : ∃ i, 1 ≤ i ∧ i ≤ 30 ∧ p0 = nI i) (h1 : ∃ i, 1 ≤ i ∧ i ≤ 10 ∧ p1 = nI i) (h2 : ∃ i, 1 ≤ i ∧ i ≤ 40 ∧ p2 = nI i) (h5 : ∃ i, 1 ≤ i ∧ i ≤ 200 ∧ p5 = nI i) : movOK (mvS MV n (rowM p0 p1 p2 p3 p4 p5 tr inn)) (updR tb (12 * n) (newM p0 p1 p2 p3 p4 p5) 12) (n + 1) := by
  obtain ⟨⟨hn6, hA, hB, hZ⟩, hV, hC, hD, hb⟩ := h
  have eM : ∀ a, ¬ a = n → mvS MV n (rowM p0 p1 p2 p3 p4 p5 tr inn) a = MV a := fun a c => by unfold mvS; rw [if_neg c]
  have eN : mvS MV n (rowM p0 p1 p2 p3 p4 p5 tr inn) n = rowM p0 p1 p2 p3 p4 p5 tr inn := by unfold mvS; rw [if_pos rfl]
  have eo : ∀ q, q < 12 * n → updR tb (12 * n) (newM p0 p1 p2 p3 p4 p5) 12 q = tb q := fun q hq => by rw [updR_at, if_neg (by omega)]
  have en : ∀ q, q < 12 → updR tb (12 * n) (newM p0 p1 p2 p3 p4 p5) 12 (12 * n + q) = newM p0 p1 p2 p3 p4 p5 q := fun q hq => by rw [updR_at, if_pos (by omega), Nat.add_sub_cancel_left]
  have er : ∀ k, k < 11 → rowM p0 p1 p2 p3 p4 p5 tr inn k = newM p0 p1 p2 p3 p4 p5 k := by
    intro k hk
    by_cases c : k < 6
    · rcases (show k = 0 ∨ k = 1 ∨ k = 2 ∨ k = 3 ∨ k = 4 ∨ k = 5 by omega) with rfl | rfl | rfl | rfl | rfl | rfl <;> rfl
    · have e : k = 6 + (k - 6) := by omega
      rw [e, rowM_t (by omega)]
      exact htr _ (by omega)
  refine ⟨⟨by omega, ?_, ?_, ?_⟩, ?_, ?_, ?_, ?_⟩
  · intro a ha b hb9
    rw [ofMove_n (by omega) (by omega)]
    by_cases c : a = n
    · subst c
      rw [en b (by omega), eN, er b hb9]
    · rw [eo _ (by omega), eM a c, ← hA a (by omega) b hb9, ofMove_n (by omega) (by omega)]
  · intro a ha b hb9
    rw [show (11 : Int32) = nI 11 from rfl, ofMove_n (by omega) (by omega), bit_iff (by omega)]
    by_cases c : a = n
    · subst c
      rw [en 11 (by decide), eN, rowM_i, hin, hZ a (Nat.le_refl _) hn b hb9]
      refine ⟨fun q => absurd q ?_, fun q => absurd rfl q⟩
      show ¬ bt 0 b = true
      rw [b_0]
      decide
    · rw [eo _ (by omega), eM a c]
      have hBa := hB a (by omega) b hb9
      rw [show (11 : Int32) = nI 11 from rfl, ofMove_n (by omega) (by omega), bit_iff (by omega)] at hBa
      exact hBa
  · intro a ha ha6 b hb9
    rw [eM a (by omega)]
    exact hZ a (by omega) ha6 b hb9
  · intro a ha
    by_cases c : a = n
    · subst c
      rw [eN]
      exact ⟨h0, h1, h2⟩
    · rw [eM a c]
      exact hV a (by omega)
  · intro a ha
    by_cases c : a = n
    · subst c
      rw [eN, er 9 (by decide)]
      exact ⟨0, by decide, rfl⟩
    · rw [eM a c]
      exact hC a (by omega)
  · intro a ha
    by_cases c : a = n
    · subst c
      rw [eN]
      exact h5
    · rw [eM a c]
      exact hD a (by omega)
  · intro a b
    by_cases c : a = n
    · subst c
      rw [eN, rowM_i, hin]
      exact hb a b
    · rw [eM a c]
      exact hb a b
theorem j69_iff {p0 p1 p2 p3 p4 p5 : Int32} : X8_move_j69 p0 p1 p2 p3 p4 p5 = 0 ↔ ¬ (X7_needWithin_x 30 1 p0 = 0 ∧ X7_needWithin_x 10 1 p1 = 0 ∧ X7_needWithin_x 40 1 p2 = 0 ∧ X7_needWithin_x 150 1 p3 = 0 ∧ X7_needWithin_x 3 0 p4 = 0 ∧ X7_needWithin_x 200 1 p5 = 0) := by
  unfold X8_move_j69
  by_cases c0 : X7_needWithin_x 30 1 p0 = 0
  · rw [if_neg (fun q => in_iff.mp q c0)]
    by_cases c1 : X7_needWithin_x 10 1 p1 = 0
    · rw [if_neg (fun q => in_iff.mp q c1)]
      by_cases c2 : X7_needWithin_x 40 1 p2 = 0
      · rw [if_neg (fun q => in_iff.mp q c2)]
        by_cases c3 : X7_needWithin_x 150 1 p3 = 0
        · rw [if_neg (fun q => in_iff.mp q c3)]
          by_cases c4 : X7_needWithin_x 3 0 p4 = 0
          · rw [if_neg (fun q => in_iff.mp q c4)]
            by_cases c5 : X7_needWithin_x 200 1 p5 = 0
            · rw [if_neg (fun q => in_iff.mp q c5)]
              exact ⟨fun q => absurd q (by decide), fun q => absurd ⟨c0, c1, c2, c3, c4, c5⟩ q⟩
            · rw [if_pos (in_iff.mpr c5)]
              exact ⟨fun _ q => c5 q.2.2.2.2.2, fun _ => rfl⟩
          · rw [if_pos (in_iff.mpr c4)]
            exact ⟨fun _ q => c4 q.2.2.2.2.1, fun _ => rfl⟩
        · rw [if_pos (in_iff.mpr c3)]
          exact ⟨fun _ q => c3 q.2.2.2.1, fun _ => rfl⟩
      · rw [if_pos (in_iff.mpr c2)]
        exact ⟨fun _ q => c2 q.2.2.1, fun _ => rfl⟩
    · rw [if_pos (in_iff.mpr c1)]
      exact ⟨fun _ q => c1 q.2.1, fun _ => rfl⟩
  · rw [if_pos (in_iff.mpr c0)]
    exact ⟨fun _ q => c0 q.1, fun _ => rfl⟩
theorem move_x1 {n go p0 p1 p2 p3 p4 p5 : Int32} (h : ¬ (X7_needWithin_x 30 1 p0 = 0 ∧ X7_needWithin_x 10 1 p1 = 0 ∧ X7_needWithin_x 40 1 p2 = 0 ∧ X7_needWithin_x 150 1 p3 = 0 ∧ X7_needWithin_x 3 0 p4 = 0 ∧ X7_needWithin_x 200 1 p5 = 0)) : X7_move_x n go p0 p1 p2 p3 p4 p5 = 2 := by
  unfold X7_move_x
  by_cases c0 : X7_needWithin_x 30 1 p0 = 0
  · rw [if_pos c0]
    by_cases c1 : X7_needWithin_x 10 1 p1 = 0
    · rw [if_pos c1]
      by_cases c2 : X7_needWithin_x 40 1 p2 = 0
      · rw [if_pos c2]
        by_cases c3 : X7_needWithin_x 150 1 p3 = 0
        · rw [if_pos c3]
          by_cases c4 : X7_needWithin_x 3 0 p4 = 0
          · rw [if_pos c4]
            by_cases c5 : X7_needWithin_x 200 1 p5 = 0
            · exact absurd ⟨c0, c1, c2, c3, c4, c5⟩ h
            · rw [if_neg c5]
              exact (nW_or 200 1 p5).resolve_left c5
          · rw [if_neg c4]
            exact (nW_or 3 0 p4).resolve_left c4
        · rw [if_neg c3]
          exact (nW_or 150 1 p3).resolve_left c3
      · rw [if_neg c2]
        exact (nW_or 40 1 p2).resolve_left c2
    · rw [if_neg c1]
      exact (nW_or 10 1 p1).resolve_left c1
  · rw [if_neg c0]
    exact (nW_or 30 1 p0).resolve_left c0
theorem move_x0 {n go p0 p1 p2 p3 p4 p5 : Int32} (h : X7_needWithin_x 30 1 p0 = 0 ∧ X7_needWithin_x 10 1 p1 = 0 ∧ X7_needWithin_x 40 1 p2 = 0 ∧ X7_needWithin_x 150 1 p3 = 0 ∧ X7_needWithin_x 3 0 p4 = 0 ∧ X7_needWithin_x 200 1 p5 = 0) : X7_move_x n go p0 p1 p2 p3 p4 p5 = if X7_needNoRound_x go = 0 then (if n < 6 then 0 else 3) else X7_needNoRound_x go := by
  obtain ⟨c0, c1, c2, c3, c4, c5⟩ := h
  unfold X7_move_x
  rw [if_pos c0, if_pos c1, if_pos c2, if_pos c3, if_pos c4, if_pos c5]
theorem op_move {t : Nat} {ci g : Nat → Int32} {cf MV MVR mf : Nat → Nat → Int32} (h : INV t ci cf MV MVR g mf) (p0 p1 p2 p3 p4 p5 : Int32) :
    X8_move_w0 g p0 p1 p2 p3 p4 p5 12 = (if X7_move_x (ci 1) (ci 0) p0 p1 p2 p3 p4 p5 = 0 then 0 else (if X7_move_x (ci 1) (ci 0) p0 p1 p2 p3 p4 p5 = 2 then 1 else 2)) ∧ (X7_move_x (ci 1) (ci 0) p0 p1 p2 p3 p4 p5 = 0 → ci 1 = X8_move_r g p0 p1 p2 p3 p4 p5 ∧ INV (t + 1) (upd ci 1 (ci 1 + 1)) cf (mvS MV (mi (ci 1)) (rowM p0 p1 p2 p3 p4 p5 (X4_make_w1 (fun k => (MV (mi (ci 1))) (6 + k))) (fun k => (MV (mi (ci 1))) (11 + k)))) MVR (X8_move_w0 g p0 p1 p2 p3 p4 p5) (hfS mf 0 (X8_move_w1 g (mf 0) p0 p1 p2 p3 p4 p5))) ∧ (¬ X7_move_x (ci 1) (ci 0) p0 p1 p2 p3 p4 p5 = 0 → INV (t + 1) ci cf MV MVR (X8_move_w0 g p0 p1 p2 p3 p4 p5) (hfS mf 0 (X8_move_w1 g (mf 0) p0 p1 p2 p3 p4 p5))) := by
  obtain ⟨n, nR, fr, tbR, ⟨e1, eg, hM⟩, ⟨e0, -⟩, -⟩ := id h
  have h6 := hM.1.1
  unfold X8_move_w0 X8_move_r X8_move_w1
  rw [eg, e1, e0]
  by_cases a : X7_needWithin_x 30 1 p0 = 0 ∧ X7_needWithin_x 10 1 p1 = 0 ∧ X7_needWithin_x 40 1 p2 = 0 ∧ X7_needWithin_x 150 1 p3 = 0 ∧ X7_needWithin_x 3 0 p4 = 0 ∧ X7_needWithin_x 200 1 p5 = 0
  · have a1 : ¬ X8_move_j69 p0 p1 p2 p3 p4 p5 = 0 := fun q => j69_iff.mp q a
    rw [move_x0 a]
    by_cases e : X7_needNoRound_x (g 9) = 0
    · have e2 := nR_is e
      by_cases c : n = 6
      · have c1 : nI n = 6 := by rw [c]; rfl
        have c2 : ¬ nI n < 6 := by rw [c1]; decide
        simp only [if_neg a1, if_pos e, if_pos c1, if_neg c2, c12]
        refine ⟨by decide, fun q => absurd q (by decide), fun _ => ?_⟩
        rw [hfS_id]
        exact h.g12 2
      · have hn : n < 6 := by omega
        have c1 : ¬ nI n = 6 := by
          intro q
          have := congrArg Int32.toNatClampNeg q
          rw [nI_clamp (by omega), show (6 : Int32).toNatClampNeg = 6 from rfl] at this
          omega
        have c2 : nI n < 6 := (nI_ltI (a := n) (b := 6) (by omega) (by decide)).mpr hn
        simp only [if_neg a1, if_pos e, if_pos e2, if_neg c1, if_pos c2, ↓reduceIte]
        have ei : mi (nI n) = n := mi_nI hn
        refine ⟨?_, fun _ => ⟨?_, ?_⟩, fun q => absurd trivial q⟩
        · exact c12 (g := g) (v := 0)
        · exact (Int32.add_sub_cancel _ _).symm
        · rw [ei, nI_s]
          refine h.moves (n1 := n + 1) e2 ?_ (upd_s _ _ _) (fun k _ hk => upd_n _ _ hk) rfl rfl rfl (upd_s _ _ _) rfl rfl rfl rfl
          show movOK _ (upd (upd (upd (upd (upd (upd (upd (upd (upd (upd (upd (upd (mf 0) (12 * (nI n)).toNatClampNeg p0) ((12 * (nI n)) + 1).toNatClampNeg p1) ((12 * (nI n)) + 2).toNatClampNeg p2) ((12 * (nI n)) + 3).toNatClampNeg p3) ((12 * (nI n)) + 4).toNatClampNeg p4) ((12 * (nI n)) + 5).toNatClampNeg p5) ((12 * (nI n)) + 6).toNatClampNeg 20) ((12 * (nI n)) + 7).toNatClampNeg 12) ((12 * (nI n)) + 8).toNatClampNeg 10) ((12 * (nI n)) + 9).toNatClampNeg 0) ((12 * (nI n)) + 10).toNatClampNeg 5) ((12 * (nI n)) + 11).toNatClampNeg 0) (n + 1)
          rw [move_row hn]
          exact movOK_new hM hn (fun _ => rfl) (fun k hk => make_at hk) (within_1 rfl a.1) (within_1 rfl a.2.1) (within_1 rfl a.2.2.1) (within_1 rfl a.2.2.2.2.2)
    · have e2 := nR_not e
      have e3 := (nR_or (g 9)).resolve_left e
      have hc : (if nI n = 6 then upd g 12 2 else if g 9 = 0 then upd (upd g 12 0) 1 (nI n + 1) else upd g 12 2) = upd g 12 2 := by
        rw [if_neg e2]
        split <;> rfl
      have hc2 : (if nI n = 6 then mf 0 else if g 9 = 0 then (upd (upd (upd (upd (upd (upd (upd (upd (upd (upd (upd (upd (mf 0) (12 * (nI n)).toNatClampNeg p0) ((12 * (nI n)) + 1).toNatClampNeg p1) ((12 * (nI n)) + 2).toNatClampNeg p2) ((12 * (nI n)) + 3).toNatClampNeg p3) ((12 * (nI n)) + 4).toNatClampNeg p4) ((12 * (nI n)) + 5).toNatClampNeg p5) ((12 * (nI n)) + 6).toNatClampNeg 20) ((12 * (nI n)) + 7).toNatClampNeg 12) ((12 * (nI n)) + 8).toNatClampNeg 10) ((12 * (nI n)) + 9).toNatClampNeg 0) ((12 * (nI n)) + 10).toNatClampNeg 5) ((12 * (nI n)) + 11).toNatClampNeg 0) else mf 0) = mf 0 := by
        rw [if_neg e2]
        split <;> rfl
      simp only [if_neg a1, if_neg e, e3, hc, hc2, c12, if_neg e10x, if_neg e20x, if_neg e30x]
      refine ⟨by decide, fun q => absurd q (by decide), fun _ => ?_⟩
      rw [hfS_id]
      exact h.g12 2
  · have a1 : X8_move_j69 p0 p1 p2 p3 p4 p5 = 0 := j69_iff.mpr a
    rw [move_x1 a]
    simp only [if_pos a1, c12]
    refine ⟨by decide, fun q => absurd q (by decide), fun _ => ?_⟩
    rw [hfS_id]
    exact h.g12 1
