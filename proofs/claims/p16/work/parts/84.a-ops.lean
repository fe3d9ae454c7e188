/-! the public methods over an object's state: what each answers, and the state behind it -/
abbrev oM (l : Launch) (y : MethodName) (ws : List Cond) (rm : Room) (av : List Value) (dC : Nat → ClassId) (dI : Nat → Nat → Nat) (cY : Nat → ClassId) (Q AD AE HQ : Nat → Nat) (u : zS) (post : Int32 → zS → Prop) (mc ms sz : Nat) : Prop := Met l y ws rm (va_Pc av (xPre (dC, dI) (tyL cY) (obW cY Q AD AE HQ u) sz)) (va_Qi post (fun v t => wPost (dC, dI) (obW cY Q AD AE HQ v) (va_A (obW cY Q AD AE HQ u) sz) () t) (va_A (obW cY Q AD AE HQ u) sz)) mc ms (va_A (obW cY Q AD AE HQ u) sz)
theorem o_of (l : Launch) (dC : Nat → ClassId) (dI : Nat → Nat → Nat) (cY : Nat → ClassId) (Q AD AE HQ : Nat → Nat) (u : zS) (f w : Int32) (hst : l.stackTraces = false) (hX : X7_of_x f w = 0) (sz : Nat) : oM l yX7_of wsX7_of ({ frames := 7, cells := 2, slots := 12, locals := 106 } : Room) [.ref (Q 0), .int f, .int w] dC dI cY Q AD AE HQ u (fun r v => r = ofZ u f w ∧ v = u) 2 12 sz := by
  obtain ⟨ci, cf, MV, MVR⟩ := u
  exact zm_mono (m_of l dC dI cY Q AD AE HQ ci cf MV MVR f w hst hX sz) (fun r v h => h)
theorem o_goesOn (l : Launch) (dC : Nat → ClassId) (dI : Nat → Nat → Nat) (cY : Nat → ClassId) (Q AD AE HQ : Nat → Nat) (u : zS) (hgo : u.1 0 = 0 ∨ u.1 0 = 1) (sz : Nat) : oM l yX7_goesOn wsX7_goesOn ({ frames := 0, cells := 0, slots := 0, locals := 0 } : Room) [.ref (Q 0)] dC dI cY Q AD AE HQ u (fun r v => r = u.1 0 ∧ v = u) 0 0 sz := by
  obtain ⟨ci, cf, MV, MVR⟩ := u
  exact zm_mono (m_goesOn l dC dI cY Q AD AE HQ ci cf MV MVR hgo sz) (fun r v h => ⟨h.1.1, h.2⟩)
theorem o_winner (l : Launch) (dC : Nat → ClassId) (dI : Nat → Nat → Nat) (cY : Nat → ClassId) (Q AD AE HQ : Nat → Nat) (u : zS) (sz : Nat) : oM l yX7_winner wsX7_winner ({ frames := 1, cells := 0, slots := 0, locals := 20 } : Room) [.ref (Q 0)] dC dI cY Q AD AE HQ u (fun r v => r = X0_wonBy_r (u.1 8) (u.1 9) ∧ v = u) 0 0 sz := by
  obtain ⟨ci, cf, MV, MVR⟩ := u
  exact zm_mono (m_winner l dC dI cY Q AD AE HQ ci cf MV MVR sz) (fun r v h => h)
theorem o_again (l : Launch) (dC : Nat → ClassId) (dI : Nat → Nat → Nat) (cY : Nat → ClassId) (Q AD AE HQ : Nat → Nat) {n fr T k w : Nat} {u : zS} {f : Int32} (h : rdZ n fr T u) (hT : T ≤ 1000) (hk : k ≤ fr) (hf : f = 0 ∨ f = 1) (hw : w ≤ 6) (hst : l.stackTraces = false) (sz : Nat) : oM l yX7_again wsX7_again ({ frames := 7, cells := 2, slots := 12, locals := 137 } : Room) [.ref (Q 0), .int (nI k), .int f, .int (nI w)] dC dI cY Q AD AE HQ u (fun r v => r = tellZ u k f (nI w) ∧ rdZ n fr T v ∧ simZ u v) 2 12 sz := by
  obtain ⟨a, b, c⟩ := again_Z h hT hk hf hw
  obtain ⟨ci, cf, MV, MVR⟩ := u
  refine zm_mono (m_again l dC dI cY Q AD AE HQ ci cf MV MVR (nI k) f (nI w) hst a sz) (fun r v hh => ?_)
  obtain ⟨er, v1, e1, v2, e2, rfl⟩ := hh
  exact ⟨er.trans b, c v1 v2 e1 e2⟩
theorem o_play (l : Launch) (dC : Nat → ClassId) (dI : Nat → Nat → Nat) (cY : Nat → ClassId) (Q AD AE HQ : Nat → Nat) {n fr T N : Nat} {u : zS} {one two : Int32} (h : rdZ n fr T u) (h0 : ¬ u.1 0 = 0) (hN1 : 1 ≤ N) (hN : N ≤ 60) (x1 : X7_needInput_x (nI n) one = 0 ∧ inB n one) (x2 : X7_needInput_x (nI n) two = 0 ∧ inB n two) (hst : l.stackTraces = false) (sz : Nat) : oM l yX7_play wsX7_play ({ frames := 7, cells := 4, slots := 24, locals := 114 } : Room) [.ref (Q 0), .int (nI N), .int one, .int two] dC dI cY Q AD AE HQ u (fun r v => ∃ fr1 : Nat, r = nI fr1 ∧ fr < fr1 ∧ fr1 ≤ fr + N ∧ rdZ n fr1 T v ∧ (fr1 = fr + N ∨ v.1 0 = 0) ∧ ofZ v 1 1 ≤ ofZ u 1 1 ∧ ∀ k, k ≤ fr → repZ v k = repZ u k) 4 24 sz := by
  obtain ⟨a, b⟩ := play_Z h h0 hN1 hN x1.1 x2.1 x1.2 x2.2
  have hfr := go_facts h
  obtain ⟨ci, cf, MV, MVR⟩ := u
  have hfr : vp_in (ci 3) 601 := by
    rw [show ci 3 = nI fr from hfr.2.1]
    exact vp_in_nI (by have := hfr.2.2; omega) (by decide)
  refine zm_mono (m_play l dC dI cY Q AD AE HQ ci cf MV MVR (nI N) one two hst hfr a sz) (fun r v hh => ?_)
  obtain ⟨er, v1, e1, v2, e2, v3, e3, v4, e4, v5, e5, v6, e6, v7, e7, v8, e8, rfl⟩ := hh
  obtain ⟨fr1, c1, c2, c3, c4, c5, c6, c7⟩ := b r v1 v2 v3 v4 v5 v6 v7 v8 er e1 e2 e3 e4 e5 e6 e7 e8
  exact ⟨fr1, c1, c2, c3, c4, c5, c6, c7⟩
theorem o_begin (l : Launch) (dC : Nat → ClassId) (dI : Nat → Nat → Nat) (cY : Nat → ClassId) (Q AD AE HQ : Nat → Nat) {n T a : Nat} {u : zS} (h : bgZ n T u) (hT : T ≤ 1000) (ha : 20 ≤ a) (hb : a ≤ 300) (he : a % 2 = 0) (hst : l.stackTraces = false) (sz : Nat) : oM l yX7_begin wsX7_begin ({ frames := 7, cells := 2, slots := 12, locals := 106 } : Room) [.ref (Q 0), .int (nI a)] dC dI cY Q AD AE HQ u (fun r v => (u.1 7 = 0 → r = 1) ∧ (∃ b, 1 ≤ b ∧ b ≤ T + 1 ∧ r = nI b) ∧ rdZ n 0 (T + 1) v ∧ v.1 0 = 1 ∧ ofZ v 0 1 = 1000 ∧ ofZ v 1 1 = 1000) 2 12 sz := by
  have hz := h.1.2.2.2
  obtain ⟨x, y, z, w⟩ := begin_Z h hT ha hb he
  obtain ⟨ci, cf, MV, MVR⟩ := u
  refine zm_mono (m_begin l dC dI cY Q AD AE HQ ci cf MV MVR (nI a) hst hz x sz) (fun r v hh => ?_)
  obtain ⟨er, v1, e1, v2, e2, v3, e3, v4, e4, v5, e5, v6, e6, v7, e7, rfl⟩ := hh
  obtain ⟨w1, w2, w3⟩ := w v1 v2 v3 v4 v5 v6 v7 e1 e2 e3 e4 e5 e6 e7
  refine ⟨fun q => er.trans (y q), ?_, w1, rfl, w2, w3⟩
  obtain ⟨b, b1, b2, eb⟩ := z
  exact ⟨b, b1, b2, er.trans eb⟩
theorem o_move (l : Launch) (dC : Nat → ClassId) (dI : Nat → Nat → Nat) (cY : Nat → ClassId) (Q AD AE HQ : Nat → Nat) {n a0 a1 a2 a3 a4 a5 : Nat} {u : zS} (h : mkZ n u) (hn : n < 6) (l0 : 1 ≤ a0) (g0 : a0 ≤ 30) (l1 : 1 ≤ a1) (g1 : a1 ≤ 10) (l2 : 1 ≤ a2) (g2 : a2 ≤ 40) (l3 : 1 ≤ a3) (g3 : a3 ≤ 150) (g4 : a4 ≤ 3) (l5 : 1 ≤ a5) (g5 : a5 ≤ 200) (hst : l.stackTraces = false) (sz : Nat) : oM l yX7_move wsX7_move ({ frames := 7, cells := 8, slots := 48, locals := 106 } : Room) [.ref (Q 0), .int (nI a0), .int (nI a1), .int (nI a2), .int (nI a3), .int (nI a4), .int (nI a5)] dC dI cY Q AD AE HQ u (fun r v => r = nI n ∧ mkZ (n + 1) v) 8 48 sz := by
  have e1 := h.2.1
  obtain ⟨a, b⟩ := move_Z h hn l0 g0 l1 g1 l2 g2 l3 g3 g4 l5 g5
  obtain ⟨ci, cf, MV, MVR⟩ := u
  refine zm_mono (m_move l dC dI cY Q AD AE HQ ci cf MV MVR (nI a0) (nI a1) (nI a2) (nI a3) (nI a4) (nI a5) hst a sz) (fun r v hh => ?_)
  obtain ⟨er, v1, q1, v2, q2, rfl⟩ := hh
  exact ⟨er.trans e1, b v1 v2 q1 q2⟩
theorem o_patch (l : Launch) (dC : Nat → ClassId) (dI : Nat → Nat → Nat) (cY : Nat → ClassId) (Q AD AE HQ : Nat → Nat) {n m w v : Nat} {u : zS} (h : mkZ n u) (hm : m < n) (hw : w ≤ 4) (hv : v ≤ 60) (hst : l.stackTraces = false) (sz : Nat) : oM l yX7_patch wsX7_patch ({ frames := 7, cells := 4, slots := 24, locals := 106 } : Room) [.ref (Q 0), .int (nI m), .int (nI w), .int (nI v)] dC dI cY Q AD AE HQ u (fun _ v => mkZ n v) 4 24 sz := by
  obtain ⟨a, b⟩ := patch_Z h hm hw hv
  obtain ⟨ci, cf, MV, MVR⟩ := u
  refine zm_mono (m_patch l dC dI cY Q AD AE HQ ci cf MV MVR (nI m) (nI w) (nI v) hst a sz) (fun r v hh => ?_)
  obtain ⟨-, v1, q1, rfl⟩ := hh
  exact b v1 q1
theorem o_cancel (l : Launch) (dC : Nat → ClassId) (dI : Nat → Nat → Nat) (cY : Nat → ClassId) (Q AD AE HQ : Nat → Nat) {n m j : Nat} {u : zS} (h : mkZ n u) (hm : m < n) (hj : j < n) (hst : l.stackTraces = false) (sz : Nat) : oM l yX7_cancel wsX7_cancel ({ frames := 7, cells := 3, slots := 18, locals := 105 } : Room) [.ref (Q 0), .int (nI m), .int (nI j), .int 1] dC dI cY Q AD AE HQ u (fun _ v => mkZ n v) 3 18 sz := by
  obtain ⟨a, b⟩ := cancel_Z h hm hj
  obtain ⟨ci, cf, MV, MVR⟩ := u
  refine zm_mono (m_cancel l dC dI cY Q AD AE HQ ci cf MV MVR (nI m) (nI j) 1 hst (Or.inr rfl) a sz) (fun r v hh => ?_)
  obtain ⟨-, v1, q1, rfl⟩ := hh
  exact b v1 q1
theorem o_punish (l : Launch) (dC : Nat → ClassId) (dI : Nat → Nat → Nat) (cY : Nat → ClassId) (Q AD AE HQ : Nat → Nat) {n m b : Nat} {u : zS} (h : lbZ n u) (hm : m < n) (hb : b < n) (hst : l.stackTraces = false) (sz : Nat) : oM l yX7_punish wsX7_punish ({ frames := 7, cells := 2, slots := 12, locals := 141 } : Room) [.ref (Q 0), .int (nI m), .int (nI b)] dC dI cY Q AD AE HQ u (fun r v => 0 ≤ r ∧ lbZ n v) 2 12 sz := by
  obtain ⟨x, y, z⟩ := punish_Z h hm hb
  obtain ⟨ci, cf, MV, MVR⟩ := u
  refine zm_mono (m_punish l dC dI cY Q AD AE HQ ci cf MV MVR (nI m) (nI b) hst x sz) (fun r v hh => ?_)
  obtain ⟨er, v1, q1, v2, q2, rfl⟩ := hh
  exact ⟨by rw [er]; exact y, z v1 v2 q1 q2⟩
/-- what most answers, and its first move -/
def msZ (MV : Nat → Nat → Int32) (mv hits r : Int32) : Prop := ((hwZ MV mv).1 = 0 → r = 0) ∧ (¬ (hwZ MV mv).1 = 0 → lossZ MV mv ≤ r ∧ (hits = 1 → r = lossZ MV mv) ∧ ¬ lossZ MV mv = 0)
theorem o_most (l : Launch) (dC : Nat → ClassId) (dI : Nat → Nat → Nat) (cY : Nat → ClassId) (Q AD AE HQ : Nat → Nat) {n m : Nat} {u : zS} {hits : Int32} (h : lbZ n u) (hm : m < n) (hh : hits = 1 ∨ hits = 2) (hst : l.stackTraces = false) (sz : Nat) : oM l yX7_most wsX7_most ({ frames := 11, cells := 3, slots := 18, locals := 263 } : Room) [.ref (Q 0), .int (nI m), .int hits, .int 50] dC dI cY Q AD AE HQ u (fun r v => msZ u.2.2.1 (nI m) hits r ∧ lbZ n v ∧ v.2.2.1 = u.2.2.1) 3 18 sz := by
  obtain ⟨x, -, y, z⟩ := most_Z h hm hh
  have hF := lab_flags h hm hh
  have hc6 : u.1 1 ≤ 6 := by rw [h.2.1]; exact nI_le (b := 6) h.2.2.1.1 (by decide)
  obtain ⟨ci, cf, MV, MVR⟩ := u
  refine zm_mono (m_most l dC dI cY Q AD AE HQ ci cf MV MVR (nI m) hits 50 hst hc6 x sz) (fun r v q => ?_)
  obtain ⟨er, v1, -, v2, -, cf1, -, -, -, -, k4, k5, -, -, k10, k11, k12, k13, rfl⟩ := q
  refine ⟨⟨fun c => er.trans (y c).1, fun c => ?_⟩, hF v1 v2 cf1 k4 k5 k10 k11 k12 k13, rfl⟩
  obtain ⟨z1, z2, -, z4⟩ := z c
  exact ⟨by rw [er]; exact z1, fun e => er.trans (z2 e), z4⟩
theorem o_mostAt (l : Launch) (dC : Nat → ClassId) (dI : Nat → Nat → Nat) (cY : Nat → ClassId) (Q AD AE HQ : Nat → Nat) {n m : Nat} {u : zS} {hits : Int32} (h : lbZ n u) (hm : m < n) (hh : hits = 1 ∨ hits = 2) (hst : l.stackTraces = false) (sz : Nat) : oM l yX7_mostAt wsX7_mostAt ({ frames := 11, cells := 3, slots := 18, locals := 263 } : Room) [.ref (Q 0), .int (nI m), .int hits, .int 50, .int 0] dC dI cY Q AD AE HQ u (fun r v => ((hwZ u.2.2.1 (nI m)).1 = 0 → r = -1) ∧ (¬ (hwZ u.2.2.1 (nI m)).1 = 0 → r = nI m) ∧ lbZ n v ∧ v.2.2.1 = u.2.2.1) 3 18 sz := by
  obtain ⟨-, x, y, z⟩ := most_Z h hm hh
  have hF := lab_flags h hm hh
  have hc6 : u.1 1 ≤ 6 := by rw [h.2.1]; exact nI_le (b := 6) h.2.2.1.1 (by decide)
  obtain ⟨ci, cf, MV, MVR⟩ := u
  refine zm_mono (m_mostAt l dC dI cY Q AD AE HQ ci cf MV MVR (nI m) hits 50 0 hst hc6 x sz) (fun r v q => ?_)
  obtain ⟨er, v1, -, v2, -, cf1, -, -, -, -, k4, k5, -, -, k10, k11, k12, k13, rfl⟩ := q
  exact ⟨fun c => er.trans (y c).2, fun c => er.trans (z c).2.2.1, hF v1 v2 cf1 k4 k5 k10 k11 k12 k13, rfl⟩
