abbrev vwCl : List vw_C := [(RX0, TX0, 3), (RX1, TX1, 3), (RX2, TX2, 16), (RX3, TX3, 7), (RX4, TX4, 8), (RX5, TX5, 3), (RX6, TX6, 6), (RX7, TX7, 8)]
/-! what a state is: the figures, the moves, the worlds of contracts; joins of branches -/
abbrev tyL (cY : Nat → ClassId) : List (ClassId × FieldType) := [(cY 0, .int), (cY 1, .boolean), (cY 2, .object "DuelFrames$Move"), (cY 3, .object "DuelFrames$Duel")]
abbrev figL (F : Nat → Int32) : List Value := [.int (F 0), .int (F 1), .int (F 2), .int (F 3), .int (F 4), .int (F 5), .int (F 6), .int (F 7), .int (F 8), .int (F 9), .int (F 10), .int (F 11), .int (F 12), .int (F 13), .int (F 14), .int (F 15)]
/-- the place of a move in the bank: 6 is the move that there is not -/
def mi (x : Int32) : Nat := if x < 0 then 6 else if 6 ≤ x then 6 else x.toNatClampNeg
theorem mi_lt (x : Int32) : mi x < 7 := by
  unfold mi
  split
  · decide
  · split
    · decide
    · rename_i h1 h2
      have h3 : ¬ (x.toInt < 0) := fun h => h1 (by rw [Int32.lt_iff_toInt_lt]; exact h)
      have h4 : x.toInt < 6 := by
        have : ¬ (6 : Int32).toInt ≤ x.toInt := fun h => h2 (by rw [Int32.le_iff_toInt_le]; exact h)
        have e : (6 : Int32).toInt = 6 := rfl
        omega
      show x.toInt.toNat < 7
      omega
theorem vin6x {x : Int32} (h1 : ¬ x < 0) (h2 : ¬ (6 : Int32) ≤ x) : vp_in x 6 := by
  have h3 : ¬ (x.toInt < 0) := fun h => h1 (by rw [Int32.lt_iff_toInt_lt]; exact h)
  have h4 : x.toInt < 6 := by
    have : ¬ (6 : Int32).toInt ≤ x.toInt := fun h => h2 (by rw [Int32.le_iff_toInt_le]; exact h)
    have e : (6 : Int32).toInt = 6 := rfl
    omega
  exact vp_in_iff.mpr ⟨by omega, by omega⟩
theorem vinr {x N : Int32} (n : Nat) (hN : N.toInt = (n : Int)) (h1 : ¬ x < 0) (h2 : ¬ N ≤ x) : vp_in x n := by
  have h3 : ¬ (x.toInt < 0) := fun h => h1 (by rw [Int32.lt_iff_toInt_lt]; exact h)
  have h4 : ¬ N.toInt ≤ x.toInt := fun h => h2 (by rw [Int32.le_iff_toInt_le]; exact h)
  exact vp_in_iff.mpr ⟨by omega, by omega⟩
theorem vin {i : Int32} {n : Nat} (h : (decide (i < 0) || decide (n ≤ i.toNatClampNeg)) = false) : vp_in i n := by
  unfold vp_in
  simp only [Bool.or_eq_false_iff, decide_eq_false_iff_not] at h
  exact fun q => q.elim h.1 h.2
/-- the moves of a list: objects, their traits, what they go into -/
abbrev mvC (h ht hi : Nat) (cY : Nat → ClassId) (mv : Nat → Int32) : va_W := [(h, .inr (4, [.int (mv 0), .int (mv 1), .int (mv 2), .int (mv 3), .int (mv 4), .int (mv 5), .ref ht, .ref hi])), (ht, .inl (cY 0, 5, .inl (fun k => mv (6 + k)))), (hi, .inl (cY 1, 6, .inl (fun k => mv (11 + k))))]
def bkM (AD : Nat → Nat) (cY : Nat → ClassId) (MV : Nat → Nat → Int32) : va_W :=
  ((List.range 7).map (fun i => (AD (2 + i), (.inr (4, [.int (MV i 0), .int (MV i 1), .int (MV i 2), .int (MV i 3), .int (MV i 4), .int (MV i 5), .ref (AD (9 + i)), .ref (AD (16 + i))]) : va_E)))
    ++ (List.range 7).map (fun i => (AD (9 + i), (.inl (cY 0, 5, .inl (fun k => MV i (6 + k))) : va_E))))
    ++ (List.range 7).map (fun i => (AD (16 + i), (.inl (cY 1, 6, .inl (fun k => MV i (11 + k))) : va_E)))
theorem bk_in (AD : Nat → Nat) (cY : Nat → ClassId) (MV : Nat → Nat → Int32) : ∀ (i : Nat), i < 7 → ∀ (k : Nat) (q : Nat × va_E), (mvC (AD (2 + i)) (AD (9 + i)) (AD (16 + i)) cY (MV i))[k]? = some q → ∃ j : Nat, (bkM AD cY MV)[j]? = some q := by
  intro i hi k q hk
  have hc : k = 0 ∨ k = 1 ∨ k = 2 := by
    have := (List.getElem?_eq_some_iff.mp hk).1
    simp at this
    omega
  rcases hc with rfl | rfl | rfl
  · refine ⟨i, ?_⟩
    rw [← hk]
    match i, hi with
    | 0, _ => rfl
    | 1, _ => rfl
    | 2, _ => rfl
    | 3, _ => rfl
    | 4, _ => rfl
    | 5, _ => rfl
    | 6, _ => rfl
  · refine ⟨7 + i, ?_⟩
    rw [← hk]
    match i, hi with
    | 0, _ => rfl
    | 1, _ => rfl
    | 2, _ => rfl
    | 3, _ => rfl
    | 4, _ => rfl
    | 5, _ => rfl
    | 6, _ => rfl
  · refine ⟨14 + i, ?_⟩
    rw [← hk]
    match i, hi with
    | 0, _ => rfl
    | 1, _ => rfl
    | 2, _ => rfl
    | 3, _ => rfl
    | 4, _ => rfl
    | 5, _ => rfl
    | 6, _ => rfl
theorem bk_move {D : va_G} {cl : List vw_C} {X : va_W} {AD : Nat → Nat} {cY : Nat → ClassId} {MV : Nat → Nat → Int32} {H : Heap} {i : Nat} (hP : va_P D cl (X ++ bkM AD cY MV) H) (hi : i < 7) : va_P D cl (mvC (AD (2 + i)) (AD (9 + i)) (AD (16 + i)) cY (MV i)) H := by
  intro k q hk
  obtain ⟨j, hj⟩ := bk_in AD cY MV i hi k q hk
  refine hP (X.length + j) q ?_
  rw [List.getElem?_append_right (Nat.le_add_right _ _), Nat.add_sub_cancel_left]
  exact hj
/-- the links of nest mates' private members, which no word list holds -/
def vN (U : State) : Prop := va_Nw (.methodLinkNest RX3 46 yX7_inputOf RX7) U ∧ va_Nw (.methodLinkNest RX7 196 yX3_addHit RX7) U ∧ va_Nw (.methodLinkNest RX5 21 yX4_init RX7) U ∧ va_Nw (.methodLinkNest RX7 33 yX6_init RX7) U ∧ va_Nw (.methodLinkNest RX7 40 yX0_init RX7) U
theorem vN.warm {s U : State} (hW : s.WarmedH U.vm) (h : vN s) : vN U := ⟨va_Nw.warmM hW h.1, va_Nw.warmM hW h.2.1, va_Nw.warmM hW h.2.2.1, va_Nw.warmM hW h.2.2.2.1, va_Nw.warmM hW h.2.2.2.2⟩
theorem vN.same {u U : State} (e : u.vm = U.vm) (h : vN u) : vN U := ⟨va_Nw.same rfl e h.1, va_Nw.same rfl e h.2.1, va_Nw.same rfl e h.2.2.1, va_Nw.same rfl e h.2.2.2.1, va_Nw.same rfl e h.2.2.2.2⟩
def rPre (D : va_G) (tys : List (ClassId × FieldType)) (ws : va_W) : State → Prop := fun U => va_P D vwCl ws U.heap ∧ va_K D vwCl tys U ∧ vN U
def wPre (D : va_G) (tys : List (ClassId × FieldType)) (ws : va_W) (sz : Nat) : State → Prop := fun U => U.heap.size = sz ∧ va_P D vwCl ws U.heap ∧ va_K D vwCl tys U ∧ vN U ∧ va_D (fun _ => True) ws
def wPost (D : va_G) (ws : va_W) (A : Nat → Prop) : Unit → State → Prop := fun _ t => va_P D vwCl ws t.heap ∧ va_D A ws
theorem rPre_of {D : va_G} {tys : List (ClassId × FieldType)} {ws : va_W} {s : State} {H : Heap} (hP : va_P D vwCl ws H) (hK : va_K D vwCl tys s) (hN : vN s) : ∀ U : State, U.heap = H → s.WarmedH U.vm → rPre D tys ws U := fun U hU hW => ⟨by rw [hU]; exact hP, va_K.moved hW.alike hK, hN.warm hW⟩
theorem wPre_of {D : va_G} {tys : List (ClassId × FieldType)} {ws : va_W} {s : State} {H : Heap} {A : Nat → Prop} (hP : va_P D vwCl ws H) (hK : va_K D vwCl tys s) (hN : vN s) (hD : va_D A ws) : ∀ U : State, U.heap = H → s.WarmedH U.vm → wPre D tys ws H.size U := fun U hU hW => ⟨by rw [hU], by rw [hU]; exact hP, va_K.moved hW.alike hK, hN.warm hW, hD.weaken (fun _ _ _ _ => trivial)⟩
theorem wPost_of {D : va_G} {ws : va_W} {t : State} {H : Heap} {A : Nat → Prop} (hP : va_P D vwCl ws H) (hD : va_D A ws) (ht : t.heap = H) : wPost D ws A () t := ⟨by rw [ht]; exact hP, hD⟩
theorem blindR {av : List Value} {D : va_G} {tys : List (ClassId × FieldType)} {ws : va_W} : FrameBlind (va_Pc av (rPre D tys ws)) := fun a U g mk q => by
  obtain ⟨q0, qP, qK, qN⟩ := q
  exact ⟨q0, qP, va_K.moved (u := U) (U := U.calling g mk a) (Vm.Alike.refl U.vm) qK, vN.same (u := U) (U := U.calling g mk a) rfl qN⟩
theorem blindW {av : List Value} {D : va_G} {tys : List (ClassId × FieldType)} {ws : va_W} {sz : Nat} : FrameBlind (va_Pc av (wPre D tys ws sz)) := fun a U g mk q => by
  obtain ⟨q0, q1, qP, qK, qN, qD⟩ := q
  exact ⟨q0, q1, qP, va_K.moved (u := U) (U := U.calling g mk a) (Vm.Alike.refl U.vm) qK, vN.same (u := U) (U := U.calling g mk a) rfl qN, qD⟩
theorem wJoin {A0 : Nat → Prop} {D : va_G} {ws wc wr w1 wn : va_W} {H H1 : Heap} {t : State} {u : Unit} (hP : va_P D vwCl ws H) (hD : va_D A0 ws) (isC isR : List Nat) (hC : isC.map (fun i => ws[i]?) = wc.map some) (hR : isR.map (fun i => ws[i]?) = wr.map some) (hn : va_nd isR = true) (hdis : ∀ i ∈ isR, i ∉ isC) (hk : ∀ q : Nat, q < H.size → ¬ va_A wc H.size q → H1[q]? = H[q]?) (hF : ∀ q, va_A wc H.size q → A0 q) (hB : wPost D w1 (va_A wc H.size) u t) (ht : t.heap = H1) (isN : List Nat) (hN : isN.map (fun i => (wr ++ w1)[i]?) = wn.map some) (hnN : va_nd isN = true) : va_P D vwCl wn H1 ∧ va_D A0 wn := by
  obtain ⟨hP1, hD1⟩ := hB
  rw [ht] at hP1
  obtain ⟨h1, h2⟩ := va_join hP hD isC isR hC hR hn hdis hk hF hP1 hD1
  refine ⟨h1.sub isN ?_, h2.sub isN hnN hN⟩
  have := congrArg (List.filterMap id) hN
  simpa [List.filterMap_map, Function.comp_def] using this
theorem wJoinQ {A0 : Nat → Prop} {D : va_G} {X cx wr w1 wn pl : va_W} {H H1 : Heap} {t : State} {u : Unit} (hP : va_P D vwCl (X ++ pl) H) (hD : va_D A0 (X ++ pl)) (isC isR : List Nat) (hC : isC.map (fun i => X[i]?) = cx.map some) (hR : isR.map (fun i => X[i]?) = wr.map some) (hn : va_nd isR = true) (hdis : ∀ i ∈ isR, i ∉ isC) (hk : ∀ q : Nat, q < H.size → ¬ va_A cx H.size q → H1[q]? = H[q]?) (hF : ∀ q, va_A cx H.size q → A0 q) (hB : wPost D w1 (va_A cx H.size) u t) (ht : t.heap = H1) (isN : List Nat) (hN : isN.map (fun i => (wr ++ w1)[i]?) = wn.map some) (hnN : va_nd isN = true) : va_P D vwCl (wn ++ pl) H1 ∧ va_D A0 (wn ++ pl) := by
  obtain ⟨hP1, hD1⟩ := hB
  rw [ht] at hP1
  obtain ⟨h1, h2⟩ := va_joinQ hP hD isC isR hC hR hn hdis hk hF hP1 hD1
  exact ⟨h1.part isN hN, h2.part isN hnN hN⟩
theorem wJoinP {A0 : Nat → Prop} {D : va_G} {X cx wr rx wn pl : va_W} {H H1 : Heap} {t : State} {u : Unit} (hP : va_P D vwCl (X ++ pl) H) (hD : va_D A0 (X ++ pl)) (isC isR : List Nat) (hC : isC.map (fun i => X[i]?) = cx.map some) (hR : isR.map (fun i => X[i]?) = wr.map some) (hn : va_nd isR = true) (hdis : ∀ i ∈ isR, i ∉ isC) (hk : ∀ q : Nat, q < H.size → ¬ va_A (cx ++ pl) H.size q → H1[q]? = H[q]?) (hF : ∀ q, va_A (cx ++ pl) H.size q → A0 q) (hB : wPost D (rx ++ pl) (va_A (cx ++ pl) H.size) u t) (ht : t.heap = H1) (isN : List Nat) (hN : isN.map (fun i => (wr ++ rx)[i]?) = wn.map some) (hnN : va_nd isN = true) : va_P D vwCl (wn ++ pl) H1 ∧ va_D A0 (wn ++ pl) := by
  obtain ⟨hP1, hD1⟩ := hB
  rw [ht] at hP1
  obtain ⟨h1, h2⟩ := va_joinP hP hD isC isR hC hR hn hdis hk hF hP1 hD1
  exact ⟨h1.part isN hN, h2.part isN hnN hN⟩
section JN
variable {p : Program} {l : Launch} {e : Env} {R : Room} {s : State} {m : MethodId} {args : Array Value} {below : List Frame} {meth : Method} {c : Code} {H : Heap} {locs : List Loc} {cells slots : Nat} {Q : State → Prop} {g : JFrame}
/-- branches that come together: one goal for what follows -/
theorem jnW {D : va_G} {ws : va_W} {lv : List (Nat × Value)} {st : List Value} {J n : Nat} {A : Nat → Prop} {H0 : Heap}
    (h : ∀ (H : Heap) (locs : List Loc) (ls : Array Slot), va_P D vwCl ws H → va_D A ws → va_S A H0 H locs → lv_has ls n lv → W p l e R s m args below meth c H locs cells slots Q (F0 m J ls st))
    (k : (∀ (H : Heap) (locs : List Loc) (ls : Array Slot), va_P D vwCl ws H → va_D A ws → va_S A H0 H locs → lv_has ls n lv → W p l e R s m args below meth c H locs cells slots Q (F0 m J ls st)) → W p l e R s m args below meth c H locs cells slots Q g) :
    W p l e R s m args below meth c H locs cells slots Q g := k h
theorem jnR {lv : List (Nat × Value)} {st : List Value} {J n : Nat}
    (h : ∀ (ls : Array Slot), lv_has ls n lv → W p l e R s m args below meth c H locs cells slots Q (F0 m J ls st))
    (k : (∀ (ls : Array Slot), lv_has ls n lv → W p l e R s m args below meth c H locs cells slots Q (F0 m J ls st)) → W p l e R s m args below meth c H locs cells slots Q g) :
    W p l e R s m args below meth c H locs cells slots Q g := k h
end JN
/-- a number of a move; the model's row of both figures speaks of moves that there are -/
def okM (x : Int32) : Prop := vp_in x 6
theorem zb_n {x : Int32} (h : x = 0 ∨ x = 1) : narrow .boolean (.int x) = .int x := by rcases h with rfl | rfl <;> rfl
theorem zb_f {x : Int32} (h : x = 0 ∨ x = 1) : fits .boolean (.int x) = true := by rcases h with rfl | rfl <;> rfl
theorem zb_v {x : Int32} (h : x = 0 ∨ x = 1) : vp_nar .boolean x = x := by rcases h with rfl | rfl <;> rfl
theorem sw_out {x : Int32} (h0 : ¬ x = 0) (h1 : ¬ x = 1) (h2 : ¬ x = 2) (h3 : ¬ x = 3) (h4 : ¬ x = 4) (h5 : ¬ x = 5) : x.toInt < 0 ∨ 5 < x.toInt := by
  have e : ∀ k : Int32, ¬ x = k → ¬ x.toInt = k.toInt := fun k h q => h (Int32.toInt_inj.mp q)
  have g0 := e 0 h0
  have g1 := e 1 h1
  have g2 := e 2 h2
  have g3 := e 3 h3
  have g4 := e 4 h4
  have g5 := e 5 h5
  have q0 : (0 : Int32).toInt = 0 := rfl
  have q1 : (1 : Int32).toInt = 1 := rfl
  have q2 : (2 : Int32).toInt = 2 := rfl
  have q3 : (3 : Int32).toInt = 3 := rfl
  have q4 : (4 : Int32).toInt = 4 := rfl
  have q5 : (5 : Int32).toInt = 5 := rfl
  omega
section LP
variable {p : Program} {l : Launch} {e : Env} {R : Room} {s : State} {m : MethodId} {args : Array Value} {below : List Frame} {meth : Method} {c : Code} {cells slots : Nat} {Q : State → Prop}
/-- a loop of at most N turns, by an invariant -/
theorem loopI {D : va_G} {σ : Type} (N : Nat) (ws : Nat → σ → va_W) (lv : Nat → σ → List (Nat × Value)) (J n : Nat) {A : Nat → Prop} {H0 : Heap} (inv : Nat → σ → Prop)
    (body : ∀ (j : Nat) (x : σ), j < N → inv j x → ∀ (H : Heap) (locs : List Loc) (ls : Array Slot), va_P D vwCl (ws j x) H → va_D A (ws j x) → va_S A H0 H locs → lv_has ls n (lv j x) →
      (∀ (y : σ), inv (j + 1) y → ∀ (H : Heap) (locs : List Loc) (ls : Array Slot), va_P D vwCl (ws (j + 1) y) H → va_D A (ws (j + 1) y) → va_S A H0 H locs → lv_has ls n (lv (j + 1) y) → W p l e R s m args below meth c H locs cells slots Q (F0 m J ls [])) →
      W p l e R s m args below meth c H locs cells slots Q (F0 m J ls []))
    (exit : ∀ (x : σ), inv N x → ∀ (H : Heap) (locs : List Loc) (ls : Array Slot), va_P D vwCl (ws N x) H → va_D A (ws N x) → va_S A H0 H locs → lv_has ls n (lv N x) → W p l e R s m args below meth c H locs cells slots Q (F0 m J ls []))
    (x0 : σ) (hi : inv 0 x0) {H : Heap} {locs : List Loc} {ls : Array Slot} (hP : va_P D vwCl (ws 0 x0) H) (hD : va_D A (ws 0 x0)) (hS : va_S A H0 H locs) (hl : lv_has ls n (lv 0 x0)) : W p l e R s m args below meth c H locs cells slots Q (F0 m J ls []) := by
  have key : ∀ (k j : Nat) (x : σ), j + k = N → inv j x → ∀ (H : Heap) (locs : List Loc) (ls : Array Slot), va_P D vwCl (ws j x) H → va_D A (ws j x) → va_S A H0 H locs → lv_has ls n (lv j x) → W p l e R s m args below meth c H locs cells slots Q (F0 m J ls []) := by
    intro k
    induction k with
    | zero =>
      intro j x hj
      have hj : j = N := hj
      subst hj
      exact exit x
    | succ k ih =>
      intro j x hj hi H locs ls hP hD hS hl
      exact body j x (by omega) hi H locs ls hP hD hS hl (fun y hy => ih (j + 1) y (by omega) hy)
  exact key N 0 x0 (by omega) hi H locs ls hP hD hS hl
end LP
