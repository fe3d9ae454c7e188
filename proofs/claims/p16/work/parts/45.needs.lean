def X7_needWithin_x (greatest : Int32) (least : Int32) (value : Int32) : Int32 := (if value < least then 2 else (if value ≤ greatest then 0 else 2))
set_option maxHeartbeats 4000000 in
set_option maxRecDepth 100000 in
theorem c_X7_needWithin (l : Launch) (dC : Nat → ClassId) (dI : Nat → Nat → Nat) (cY : Nat → ClassId) (value : Int32) (least : Int32) (greatest : Int32) (hst : l.stackTraces = false)  (sz : Nat) : vx_Met l yX7_needWithin wsX7_needWithin ({ frames := 6, cells := 1, slots := 6, locals := 84 } : Room) (va_Pc [.int value, .int least, .int greatest] (xPre (dC, dI) (tyL cY) [] sz)) (va_Qv (fun _ : Unit => (X7_needWithin_x greatest least value) = 0) (wPost (dC, dI) [] (va_A [] sz)) (va_A [] sz)) (vx_X (fun _ : Unit => ¬ (X7_needWithin_x greatest least value) = 0) (xPost (dC, dI) [] (va_A [] sz) (X7_needWithin_x greatest least value)) (va_A [] sz)) 1 6 (va_A [] sz) := by
  refine vx_ofW (cc := cX7_needWithin) (maxL := 3) (ret := none) (by decide) rfl ?_
  intro p e s m args below meth c s₁ B hml ht0 hv
  obtain ⟨rfl, hsz, hP, hK, hN, hD0, xn, xt, xz⟩ := hv
  have hx := B.exec
  have hb := B.bytes
  have hr := B.returns
  have hts := atoms_spec (ws := wsX7_needWithin) B.pre
  have hown : s.vm.findClass RX7 = some m.cls := findClass_of_methodNamed B.named
  have hlocks := B.notSynchronized
  subst hsz
  have hD := hD0.self (sz := s.heap.size)
  generalize hAe : va_A [] s.heap.size = A at hD xz ⊢
  have hA : ∀ q : Nat, s.heap.size ≤ q → A q := fun q h => by rw [← hAe]; exact Or.inr h
  have hS : va_S A s.heap s.heap [] := va_S.rf
  have hP : va_P (dC, dI) vwCl [] s.heap := hP
  have hl := lv_entry ([.int value, .int least, .int greatest]) (n := 3) (Nat.le_of_ble_eq_true rfl)
  rw [lg_entry_eq]
  generalize (lg_sl ([.int value, .int least, .int greatest]) ++ List.replicate (3 - (lg_sl ([.int value, .int least, .int greatest])).length) Slot.unset).toArray = ls at hl ⊢
  have hl : lv_has ls 3 [(0, .int value), (1, .int least), (2, .int greatest)] := hl
  refine lv_iload_n hx hb dX7_needWithin_0 rfl (lv_at hl 0 rfl) ?_
  refine lv_iload_n hx hb dX7_needWithin_1 rfl (lv_at hl 1 rfl) ?_
  refine lv_icmp_lt (tgt := 10) hx hb dX7_needWithin_2 (by decide) (fun c_1 => ?_) (fun c_1 => ?_)
  · have hx9 : (X7_needWithin_x greatest least value) = 2 := by rw [X7_needWithin_x, if_pos c_1]
    obtain ⟨sa9, hsa9⟩ := xt (224, "an argument is out of its range") (List.mem_of_getElem? (i := 9) rfl)
    exact vx_throwS (own := RX7) (cls := "java/lang/IllegalArgumentException") (text := "an argument is out of its range") (names := ["java/lang/RuntimeException", "java/lang/Exception"]) (ik := 104) (is := 224) (ic := 108) (mc := 1) (ms := 6) (sa := sa9) (A := A) hx hb hst hown (by decide +kernel) (by decide +kernel) (hts (.classLink RX7 104 "java/lang/IllegalArgumentException") (List.mem_of_getElem? (i := 1) rfl)) (hts (.initialized "java/lang/IllegalArgumentException") (List.mem_of_getElem? (i := 2) rfl)) hsa9 (xhat108 (fun w h => hts w (List.mem_cons_of_mem _ (List.mem_append_right _ h))) xn) xgood108 (xz.1) (xz.2) hS (by rw [hml]; exact hl.1) dX7_needWithin_10 dX7_needWithin_13 dX7_needWithin_14 dX7_needWithin_16 dX7_needWithin_19 (fun x h => by cases ht0 x h) (Nat.le_of_ble_eq_true rfl) (Nat.le_of_ble_eq_true rfl) (Nat.le_of_ble_eq_true rfl) (Nat.le_of_ble_eq_true rfl) hlocks (fun t9 hv9 hz9 hk9 => ⟨(), by rw [hx9]; decide, ⟨by rw [hx9]; rfl, hP.ext hk9, hD⟩, (hS.ext hz9 hk9).F rfl⟩) hS.2.2 (Nat.le_of_ble_eq_true rfl) (Nat.le_of_ble_eq_true rfl)
  · refine lv_iload_n hx hb dX7_needWithin_5 rfl (lv_at hl 0 rfl) ?_
    refine lv_iload_n hx hb dX7_needWithin_6 rfl (lv_at hl 2 rfl) ?_
    refine lv_icmp_le (tgt := 20) hx hb dX7_needWithin_7 (by decide) (fun c_2 => ?_) (fun c_2 => ?_)
    · have hx9 : (X7_needWithin_x greatest least value) = 0 := by rw [X7_needWithin_x, if_neg c_1, if_pos c_2]
      have hP9 : va_P (dC, dI) vwCl [] s.heap := hP
      have hD9 : va_D A [] := hD
      refine vx_ret ?_
      refine W.widen (k := 1) (n := 6) (Nat.le_of_ble_eq_true rfl) (Nat.le_of_ble_eq_true rfl) ?_
      exact W.vret hx hb hr (fun t ht hW => ⟨⟨(), rfl, hx9, wPost_of hP9 hD9 ht⟩, hS.F ht⟩) hS.2.2 dX7_needWithin_20
    · have hx9 : (X7_needWithin_x greatest least value) = 2 := by rw [X7_needWithin_x, if_neg c_1, if_neg c_2]
      obtain ⟨sa9, hsa9⟩ := xt (224, "an argument is out of its range") (List.mem_of_getElem? (i := 9) rfl)
      exact vx_throwS (own := RX7) (cls := "java/lang/IllegalArgumentException") (text := "an argument is out of its range") (names := ["java/lang/RuntimeException", "java/lang/Exception"]) (ik := 104) (is := 224) (ic := 108) (mc := 1) (ms := 6) (sa := sa9) (A := A) hx hb hst hown (by decide +kernel) (by decide +kernel) (hts (.classLink RX7 104 "java/lang/IllegalArgumentException") (List.mem_of_getElem? (i := 1) rfl)) (hts (.initialized "java/lang/IllegalArgumentException") (List.mem_of_getElem? (i := 2) rfl)) hsa9 (xhat108 (fun w h => hts w (List.mem_cons_of_mem _ (List.mem_append_right _ h))) xn) xgood108 (xz.1) (xz.2) hS (by rw [hml]; exact hl.1) dX7_needWithin_10 dX7_needWithin_13 dX7_needWithin_14 dX7_needWithin_16 dX7_needWithin_19 (fun x h => by cases ht0 x h) (Nat.le_of_ble_eq_true rfl) (Nat.le_of_ble_eq_true rfl) (Nat.le_of_ble_eq_true rfl) (Nat.le_of_ble_eq_true rfl) hlocks (fun t9 hv9 hz9 hk9 => ⟨(), by rw [hx9]; decide, ⟨by rw [hx9]; rfl, hP.ext hk9, hD⟩, (hS.ext hz9 hk9).F rfl⟩) hS.2.2 (Nat.le_of_ble_eq_true rfl) (Nat.le_of_ble_eq_true rfl)
def X7_needFigure_x (figure : Int32) : Int32 := (if figure = 0 then 0 else (if figure = 1 then 0 else 1))
set_option maxHeartbeats 4000000 in
set_option maxRecDepth 100000 in
theorem c_X7_needFigure (l : Launch) (dC : Nat → ClassId) (dI : Nat → Nat → Nat) (cY : Nat → ClassId) (figure : Int32) (hst : l.stackTraces = false)  (sz : Nat) : vx_Met l yX7_needFigure wsX7_needFigure ({ frames := 6, cells := 1, slots := 6, locals := 84 } : Room) (va_Pc [.int figure] (xPre (dC, dI) (tyL cY) [] sz)) (va_Qv (fun _ : Unit => (X7_needFigure_x figure) = 0) (wPost (dC, dI) [] (va_A [] sz)) (va_A [] sz)) (vx_X (fun _ : Unit => ¬ (X7_needFigure_x figure) = 0) (xPost (dC, dI) [] (va_A [] sz) (X7_needFigure_x figure)) (va_A [] sz)) 1 6 (va_A [] sz) := by
  refine vx_ofW (cc := cX7_needFigure) (maxL := 1) (ret := none) (by decide) rfl ?_
  intro p e s m args below meth c s₁ B hml ht0 hv
  obtain ⟨rfl, hsz, hP, hK, hN, hD0, xn, xt, xz⟩ := hv
  have hx := B.exec
  have hb := B.bytes
  have hr := B.returns
  have hts := atoms_spec (ws := wsX7_needFigure) B.pre
  have hown : s.vm.findClass RX7 = some m.cls := findClass_of_methodNamed B.named
  have hlocks := B.notSynchronized
  subst hsz
  have hD := hD0.self (sz := s.heap.size)
  generalize hAe : va_A [] s.heap.size = A at hD xz ⊢
  have hA : ∀ q : Nat, s.heap.size ≤ q → A q := fun q h => by rw [← hAe]; exact Or.inr h
  have hS : va_S A s.heap s.heap [] := va_S.rf
  have hP : va_P (dC, dI) vwCl [] s.heap := hP
  have hl := lv_entry ([.int figure]) (n := 1) (Nat.le_of_ble_eq_true rfl)
  rw [lg_entry_eq]
  generalize (lg_sl ([.int figure]) ++ List.replicate (1 - (lg_sl ([.int figure])).length) Slot.unset).toArray = ls at hl ⊢
  have hl : lv_has ls 1 [(0, .int figure)] := hl
  refine lv_iload_n hx hb dX7_needFigure_0 rfl (lv_at hl 0 rfl) ?_
  refine lv_if_eq (tgt := 19) hx hb dX7_needFigure_1 (by decide) (fun c_1 => ?_) (fun c_1 => ?_)
  · have hx9 : (X7_needFigure_x figure) = 0 := by rw [X7_needFigure_x, if_pos c_1]
    have hP9 : va_P (dC, dI) vwCl [] s.heap := hP
    have hD9 : va_D A [] := hD
    refine vx_ret ?_
    refine W.widen (k := 1) (n := 6) (Nat.le_of_ble_eq_true rfl) (Nat.le_of_ble_eq_true rfl) ?_
    exact W.vret hx hb hr (fun t ht hW => ⟨⟨(), rfl, hx9, wPost_of hP9 hD9 ht⟩, hS.F ht⟩) hS.2.2 dX7_needFigure_19
  · refine lv_iload_n hx hb dX7_needFigure_4 rfl (lv_at hl 0 rfl) ?_
    refine lv_iconst (v := 1) hx hb dX7_needFigure_5 (by decide) ?_
    refine lv_icmp_eq (tgt := 19) hx hb dX7_needFigure_6 (by decide) (fun c_2 => ?_) (fun c_2 => ?_)
    · have hx9 : (X7_needFigure_x figure) = 0 := by rw [X7_needFigure_x, if_neg c_1, if_pos c_2]
      have hP9 : va_P (dC, dI) vwCl [] s.heap := hP
      have hD9 : va_D A [] := hD
      refine vx_ret ?_
      refine W.widen (k := 1) (n := 6) (Nat.le_of_ble_eq_true rfl) (Nat.le_of_ble_eq_true rfl) ?_
      exact W.vret hx hb hr (fun t ht hW => ⟨⟨(), rfl, hx9, wPost_of hP9 hD9 ht⟩, hS.F ht⟩) hS.2.2 dX7_needFigure_19
    · have hx9 : (X7_needFigure_x figure) = 1 := by rw [X7_needFigure_x, if_neg c_1, if_neg c_2]
      obtain ⟨sa9, hsa9⟩ := xt (222, "no such figure") (List.mem_of_getElem? (i := 8) rfl)
      exact vx_throwS (own := RX7) (cls := "java/lang/IndexOutOfBoundsException") (text := "no such figure") (names := ["java/lang/RuntimeException", "java/lang/Exception"]) (ik := 170) (is := 222) (ic := 174) (mc := 1) (ms := 6) (sa := sa9) (A := A) hx hb hst hown (by decide +kernel) (by decide +kernel) (hts (.classLink RX7 170 "java/lang/IndexOutOfBoundsException") (List.mem_of_getElem? (i := 1) rfl)) (hts (.initialized "java/lang/IndexOutOfBoundsException") (List.mem_of_getElem? (i := 2) rfl)) hsa9 (xhat174 (fun w h => hts w (List.mem_cons_of_mem _ (List.mem_append_right _ h))) xn) xgood174 (xz.1) (xz.2) hS (by rw [hml]; exact hl.1) dX7_needFigure_9 dX7_needFigure_12 dX7_needFigure_13 dX7_needFigure_15 dX7_needFigure_18 (fun x h => by cases ht0 x h) (Nat.le_of_ble_eq_true rfl) (Nat.le_of_ble_eq_true rfl) (Nat.le_of_ble_eq_true rfl) (Nat.le_of_ble_eq_true rfl) hlocks (fun t9 hv9 hz9 hk9 => ⟨(), by rw [hx9]; decide, ⟨by rw [hx9]; rfl, hP.ext hk9, hD⟩, (hS.ext hz9 hk9).F rfl⟩) hS.2.2 (Nat.le_of_ble_eq_true rfl) (Nat.le_of_ble_eq_true rfl)
theorem inw_X7_needNoRound_X7 : ∀ w ∈ u_ws RX7 TX7 8, w ∈ wsX7_needNoRound := fun _ h => List.mem_cons_of_mem _ (List.mem_append_left _ (List.mem_append_right _ h))
def X7_needNoRound_x (go : Int32) : Int32 := (if go = 0 then 0 else 3)
set_option maxHeartbeats 4000000 in
set_option maxRecDepth 100000 in
theorem c_X7_needNoRound (l : Launch) (dC : Nat → ClassId) (dI : Nat → Nat → Nat) (cY : Nat → ClassId) (x0 : Nat) (qM : Nat) (qd : Nat) (qr_ : Nat) (qT : Nat) (qb : Nat) (qL : Nat) (go : Int32) (qN : Nat) (hst : l.stackTraces = false)  (sz : Nat) : vx_Met l yX7_needNoRound wsX7_needNoRound ({ frames := 6, cells := 1, slots := 6, locals := 84 } : Room) (va_Pc [.ref x0] (xPre (dC, dI) (tyL cY) [(x0, .inr (7, [.ref qN, .ref qM, .ref qd, .ref qr_, .ref qT, .ref qb, .ref qL, .int go]))] sz)) (va_Qv (fun _ : Unit => (X7_needNoRound_x go) = 0) (wPost (dC, dI) [(x0, .inr (7, [.ref qN, .ref qM, .ref qd, .ref qr_, .ref qT, .ref qb, .ref qL, .int go]))] (va_A [(x0, .inr (7, [.ref qN, .ref qM, .ref qd, .ref qr_, .ref qT, .ref qb, .ref qL, .int go]))] sz)) (va_A [(x0, .inr (7, [.ref qN, .ref qM, .ref qd, .ref qr_, .ref qT, .ref qb, .ref qL, .int go]))] sz)) (vx_X (fun _ : Unit => ¬ (X7_needNoRound_x go) = 0) (xPost (dC, dI) [(x0, .inr (7, [.ref qN, .ref qM, .ref qd, .ref qr_, .ref qT, .ref qb, .ref qL, .int go]))] (va_A [(x0, .inr (7, [.ref qN, .ref qM, .ref qd, .ref qr_, .ref qT, .ref qb, .ref qL, .int go]))] sz) (X7_needNoRound_x go)) (va_A [(x0, .inr (7, [.ref qN, .ref qM, .ref qd, .ref qr_, .ref qT, .ref qb, .ref qL, .int go]))] sz)) 1 6 (va_A [(x0, .inr (7, [.ref qN, .ref qM, .ref qd, .ref qr_, .ref qT, .ref qb, .ref qL, .int go]))] sz) := by
  refine vx_ofW (cc := cX7_needNoRound) (maxL := 1) (ret := none) (by decide) rfl ?_
  intro p e s m args below meth c s₁ B hml ht0 hv
  obtain ⟨rfl, hsz, hP, hK, hN, hD0, xn, xt, xz⟩ := hv
  have hx := B.exec
  have hb := B.bytes
  have hr := B.returns
  have hts := atoms_spec (ws := wsX7_needNoRound) B.pre
  have hown : s.vm.findClass RX7 = some m.cls := findClass_of_methodNamed B.named
  have hlocks := B.notSynchronized
  subst hsz
  have hD := hD0.self (sz := s.heap.size)
  generalize hAe : va_A [(x0, .inr (7, [.ref qN, .ref qM, .ref qd, .ref qr_, .ref qT, .ref qb, .ref qL, .int go]))] s.heap.size = A at hD xz ⊢
  have hA : ∀ q : Nat, s.heap.size ≤ q → A q := fun q h => by rw [← hAe]; exact Or.inr h
  have hS : va_S A s.heap s.heap [] := va_S.rf
  have hP : va_P (dC, dI) vwCl [(x0, .inr (7, [.ref qN, .ref qM, .ref qd, .ref qr_, .ref qT, .ref qb, .ref qL, .int go]))] s.heap := hP
  have hl := lv_entry ([.ref x0]) (n := 1) (Nat.le_of_ble_eq_true rfl)
  rw [lg_entry_eq]
  generalize (lg_sl ([.ref x0]) ++ List.replicate (1 - (lg_sl ([.ref x0])).length) Slot.unset).toArray = ls at hl ⊢
  have hl : lv_has ls 1 [(0, .ref x0)] := hl
  refine lv_aload_n hx hb dX7_needNoRound_0 rfl (lv_at hl 0 rfl) ?_
  refine va_get (D := (dC, dI)) (ci := 7) (v := .int go) (C := RX7) (T := TX7) (N := 8) hx hb hts inw_X7_needNoRound_X7 hown hK hP 0 rfl rfl 7 (by decide) (hts (.fieldLink RX7 52 "DuelFrames" "roundGoesOn" "Z") (List.mem_of_getElem? (i := 3) rfl)) (fun _ h9 => h9) rfl dX7_needNoRound_1 ?_
  refine lv_if_eq (tgt := 17) hx hb dX7_needNoRound_4 (by decide) (fun c_1 => ?_) (fun c_1 => ?_)
  · have hx9 : (X7_needNoRound_x go) = 0 := by rw [X7_needNoRound_x, if_pos c_1]
    have hP9 : va_P (dC, dI) vwCl [(x0, .inr (7, [.ref qN, .ref qM, .ref qd, .ref qr_, .ref qT, .ref qb, .ref qL, .int go]))] s.heap := hP
    have hD9 : va_D A [(x0, .inr (7, [.ref qN, .ref qM, .ref qd, .ref qr_, .ref qT, .ref qb, .ref qL, .int go]))] := hD
    refine vx_ret ?_
    refine W.widen (k := 1) (n := 6) (Nat.le_of_ble_eq_true rfl) (Nat.le_of_ble_eq_true rfl) ?_
    exact W.vret hx hb hr (fun t ht hW => ⟨⟨(), rfl, hx9, wPost_of hP9 hD9 ht⟩, hS.F ht⟩) hS.2.2 dX7_needNoRound_17
  · have hx9 : (X7_needNoRound_x go) = 3 := by rw [X7_needNoRound_x, if_neg c_1]
    obtain ⟨sa9, hsa9⟩ := xt (220, "a round goes on") (List.mem_of_getElem? (i := 7) rfl)
    exact vx_throwS (own := RX7) (cls := "java/lang/IllegalStateException") (text := "a round goes on") (names := ["java/lang/RuntimeException", "java/lang/Exception"]) (ik := 67) (is := 220) (ic := 71) (mc := 1) (ms := 6) (sa := sa9) (A := A) hx hb hst hown (by decide +kernel) (by decide +kernel) (hts (.classLink RX7 67 "java/lang/IllegalStateException") (List.mem_of_getElem? (i := 1) rfl)) (hts (.initialized "java/lang/IllegalStateException") (List.mem_of_getElem? (i := 2) rfl)) hsa9 (xhat71 (fun w h => hts w (List.mem_cons_of_mem _ (List.mem_append_right _ h))) xn) xgood71 (xz.1) (xz.2) hS (by rw [hml]; exact hl.1) dX7_needNoRound_7 dX7_needNoRound_10 dX7_needNoRound_11 dX7_needNoRound_13 dX7_needNoRound_16 (fun x h => by cases ht0 x h) (Nat.le_of_ble_eq_true rfl) (Nat.le_of_ble_eq_true rfl) (Nat.le_of_ble_eq_true rfl) (Nat.le_of_ble_eq_true rfl) hlocks (fun t9 hv9 hz9 hk9 => ⟨(), by rw [hx9]; decide, ⟨by rw [hx9]; rfl, hP.ext hk9, hD⟩, (hS.ext hz9 hk9).F rfl⟩) hS.2.2 (Nat.le_of_ble_eq_true rfl) (Nat.le_of_ble_eq_true rfl)
theorem inw_X7_needMove_X7 : ∀ w ∈ u_ws RX7 TX7 8, w ∈ wsX7_needMove := fun _ h => List.mem_cons_of_mem _ (List.mem_append_left _ (List.mem_append_left _ (List.mem_append_right _ h)))
def X7_needMove_x (cnt : Int32) (move : Int32) : Int32 := (if (X5_has_r cnt move) = 0 then 1 else 0)
set_option maxHeartbeats 4000000 in
set_option maxRecDepth 100000 in
theorem c_X7_needMove (l : Launch) (dC : Nat → ClassId) (dI : Nat → Nat → Nat) (cY : Nat → ClassId) (x0 : Nat) (qM : Nat) (qd : Nat) (qr_ : Nat) (qT : Nat) (qb : Nat) (qL : Nat) (go : Int32) (AD : Nat → Nat) (cnt : Int32) (move : Int32) (hst : l.stackTraces = false)  (sz : Nat) : vx_Met l yX7_needMove wsX7_needMove ({ frames := 6, cells := 1, slots := 6, locals := 84 } : Room) (va_Pc [.ref x0, .int move] (xPre (dC, dI) (tyL cY) [(x0, .inr (7, [.ref (AD 0), .ref qM, .ref qd, .ref qr_, .ref qT, .ref qb, .ref qL, .int go])), (AD 0, .inr (5, [.int cnt, .ref (AD 1), .ref (AD 8)]))] sz)) (va_Qv (fun _ : Unit => (X7_needMove_x cnt move) = 0) (wPost (dC, dI) [(x0, .inr (7, [.ref (AD 0), .ref qM, .ref qd, .ref qr_, .ref qT, .ref qb, .ref qL, .int go])), (AD 0, .inr (5, [.int cnt, .ref (AD 1), .ref (AD 8)]))] (va_A [(x0, .inr (7, [.ref (AD 0), .ref qM, .ref qd, .ref qr_, .ref qT, .ref qb, .ref qL, .int go])), (AD 0, .inr (5, [.int cnt, .ref (AD 1), .ref (AD 8)]))] sz)) (va_A [(x0, .inr (7, [.ref (AD 0), .ref qM, .ref qd, .ref qr_, .ref qT, .ref qb, .ref qL, .int go])), (AD 0, .inr (5, [.int cnt, .ref (AD 1), .ref (AD 8)]))] sz)) (vx_X (fun _ : Unit => ¬ (X7_needMove_x cnt move) = 0) (xPost (dC, dI) [(x0, .inr (7, [.ref (AD 0), .ref qM, .ref qd, .ref qr_, .ref qT, .ref qb, .ref qL, .int go])), (AD 0, .inr (5, [.int cnt, .ref (AD 1), .ref (AD 8)]))] (va_A [(x0, .inr (7, [.ref (AD 0), .ref qM, .ref qd, .ref qr_, .ref qT, .ref qb, .ref qL, .int go])), (AD 0, .inr (5, [.int cnt, .ref (AD 1), .ref (AD 8)]))] sz) (X7_needMove_x cnt move)) (va_A [(x0, .inr (7, [.ref (AD 0), .ref qM, .ref qd, .ref qr_, .ref qT, .ref qb, .ref qL, .int go])), (AD 0, .inr (5, [.int cnt, .ref (AD 1), .ref (AD 8)]))] sz)) 1 6 (va_A [(x0, .inr (7, [.ref (AD 0), .ref qM, .ref qd, .ref qr_, .ref qT, .ref qb, .ref qL, .int go])), (AD 0, .inr (5, [.int cnt, .ref (AD 1), .ref (AD 8)]))] sz) := by
  refine vx_ofW (cc := cX7_needMove) (maxL := 2) (ret := none) (by decide) rfl ?_
  intro p e s m args below meth c s₁ B hml ht0 hv
  obtain ⟨rfl, hsz, hP, hK, hN, hD0, xn, xt, xz⟩ := hv
  have hx := B.exec
  have hb := B.bytes
  have hr := B.returns
  have hts := atoms_spec (ws := wsX7_needMove) B.pre
  have hown : s.vm.findClass RX7 = some m.cls := findClass_of_methodNamed B.named
  have hlocks := B.notSynchronized
  subst hsz
  have hD := hD0.self (sz := s.heap.size)
  generalize hAe : va_A [(x0, .inr (7, [.ref (AD 0), .ref qM, .ref qd, .ref qr_, .ref qT, .ref qb, .ref qL, .int go])), (AD 0, .inr (5, [.int cnt, .ref (AD 1), .ref (AD 8)]))] s.heap.size = A at hD xz ⊢
  have hA : ∀ q : Nat, s.heap.size ≤ q → A q := fun q h => by rw [← hAe]; exact Or.inr h
  have hS : va_S A s.heap s.heap [] := va_S.rf
  have hP : va_P (dC, dI) vwCl [(x0, .inr (7, [.ref (AD 0), .ref qM, .ref qd, .ref qr_, .ref qT, .ref qb, .ref qL, .int go])), (AD 0, .inr (5, [.int cnt, .ref (AD 1), .ref (AD 8)]))] s.heap := hP
  have hl := lv_entry ([.ref x0, .int move]) (n := 2) (Nat.le_of_ble_eq_true rfl)
  rw [lg_entry_eq]
  generalize (lg_sl ([.ref x0, .int move]) ++ List.replicate (2 - (lg_sl ([.ref x0, .int move])).length) Slot.unset).toArray = ls at hl ⊢
  have hl : lv_has ls 2 [(0, .ref x0), (1, .int move)] := hl
  refine lv_aload_n hx hb dX7_needMove_0 rfl (lv_at hl 0 rfl) ?_
  refine va_get (D := (dC, dI)) (ci := 7) (v := .ref (AD 0)) (C := RX7) (T := TX7) (N := 8) hx hb hts inw_X7_needMove_X7 hown hK hP 0 rfl rfl 0 (by decide) (hts (.fieldLink RX7 10 "DuelFrames" "moves" "LDuelFrames$MoveList;") (List.mem_of_getElem? (i := 3) rfl)) (fun _ h9 => h9) rfl dX7_needMove_1 ?_
  refine lv_iload_n hx hb dX7_needMove_4 rfl (lv_at hl 1 rfl) ?_
  have hPc := hP.sub (ws' := [(AD 0, .inr (5, [.int cnt, .ref (AD 1), .ref (AD 8)]))]) [1] rfl
  refine vp_callSi (W.runV (As := [.int move]) (rest := []) ⟨hx, hb, hml, hown, hts⟩ (c_X5_has l dC dI cY AD cnt move) (cwV 1 hts gX7_needMove_X5_has rfl rfl rfl (by decide +kernel) ⟨Nat.le_of_ble_eq_true rfl, Nat.le_of_ble_eq_true rfl⟩) ⟨blindR, va_recv hK hPc (ci := 5) (q0 := 0) rfl rfl, fun U hU hW => ⟨rfl, rPre_of hPc hK hN U hU hW⟩⟩ rfl rfl hl.1 rfl (lv_room (Nat.le_of_ble_eq_true rfl)) dX7_needMove_5 ⟨Nat.le_of_ble_eq_true rfl, Nat.le_of_ble_eq_true rfl⟩) (fun r_1 hw => ?_)
  obtain ⟨hw, hb_2⟩ := hw
  subst hw
  refine lv_if_ne (tgt := 21) hx hb dX7_needMove_8 (by decide) (fun c_3 => ?_) (fun c_3 => ?_)
  · have hx9 : (X7_needMove_x cnt move) = 0 := by rw [X7_needMove_x, if_neg c_3]
    have hP9 : va_P (dC, dI) vwCl [(x0, .inr (7, [.ref (AD 0), .ref qM, .ref qd, .ref qr_, .ref qT, .ref qb, .ref qL, .int go])), (AD 0, .inr (5, [.int cnt, .ref (AD 1), .ref (AD 8)]))] s.heap := hP
    have hD9 : va_D A [(x0, .inr (7, [.ref (AD 0), .ref qM, .ref qd, .ref qr_, .ref qT, .ref qb, .ref qL, .int go])), (AD 0, .inr (5, [.int cnt, .ref (AD 1), .ref (AD 8)]))] := hD
    refine vx_ret ?_
    refine W.widen (k := 1) (n := 6) (Nat.le_of_ble_eq_true rfl) (Nat.le_of_ble_eq_true rfl) ?_
    exact W.vret hx hb hr (fun t ht hW => ⟨⟨(), rfl, hx9, wPost_of hP9 hD9 ht⟩, hS.F ht⟩) hS.2.2 dX7_needMove_21
  · have hx9 : (X7_needMove_x cnt move) = 1 := by rw [X7_needMove_x, if_pos c_3]
    obtain ⟨sa9, hsa9⟩ := xt (216, "no such move") (List.mem_of_getElem? (i := 5) rfl)
    exact vx_throwS (own := RX7) (cls := "java/lang/IndexOutOfBoundsException") (text := "no such move") (names := ["java/lang/RuntimeException", "java/lang/Exception"]) (ik := 170) (is := 216) (ic := 174) (mc := 1) (ms := 6) (sa := sa9) (A := A) hx hb hst hown (by decide +kernel) (by decide +kernel) (hts (.classLink RX7 170 "java/lang/IndexOutOfBoundsException") (List.mem_of_getElem? (i := 1) rfl)) (hts (.initialized "java/lang/IndexOutOfBoundsException") (List.mem_of_getElem? (i := 2) rfl)) hsa9 (xhat174 (fun w h => hts w (List.mem_cons_of_mem _ (List.mem_append_right _ h))) xn) xgood174 (xz.1) (xz.2) hS (by rw [hml]; exact hl.1) dX7_needMove_11 dX7_needMove_14 dX7_needMove_15 dX7_needMove_17 dX7_needMove_20 (fun x h => by cases ht0 x h) (Nat.le_of_ble_eq_true rfl) (Nat.le_of_ble_eq_true rfl) (Nat.le_of_ble_eq_true rfl) (Nat.le_of_ble_eq_true rfl) hlocks (fun t9 hv9 hz9 hk9 => ⟨(), by rw [hx9]; decide, ⟨by rw [hx9]; rfl, hP.ext hk9, hD⟩, (hS.ext hz9 hk9).F rfl⟩) hS.2.2 (Nat.le_of_ble_eq_true rfl) (Nat.le_of_ble_eq_true rfl)
def X7_needInput_j14 (input : Int32) : Int32 := (if input < 0 then 0 else (if 4 < input then 0 else 1))
theorem inw_X7_needInput_X7 : ∀ w ∈ u_ws RX7 TX7 8, w ∈ wsX7_needInput := fun _ h => List.mem_cons_of_mem _ (List.mem_append_left _ (List.mem_append_left _ (List.mem_append_right _ h)))
def X7_needInput_j40 (cnt : Int32) (input : Int32) : Int32 := (if input < 10 then 0 else (if (X5_has_r cnt (input - 10)) = 0 then 0 else 1))
def X7_needInput_x (cnt : Int32) (input : Int32) : Int32 := (if (X7_needInput_j14 input) = 0 then (if (X7_needInput_j40 cnt input) = 0 then 2 else 0) else 0)
set_option maxHeartbeats 4000000 in
set_option maxRecDepth 100000 in
theorem c_X7_needInput (l : Launch) (dC : Nat → ClassId) (dI : Nat → Nat → Nat) (cY : Nat → ClassId) (x0 : Nat) (qM : Nat) (qd : Nat) (qr_ : Nat) (qT : Nat) (qb : Nat) (qL : Nat) (go : Int32) (AD : Nat → Nat) (cnt : Int32) (input : Int32) (hst : l.stackTraces = false)  (sz : Nat) : vx_Met l yX7_needInput wsX7_needInput ({ frames := 6, cells := 1, slots := 6, locals := 84 } : Room) (va_Pc [.ref x0, .int input] (xPre (dC, dI) (tyL cY) [(x0, .inr (7, [.ref (AD 0), .ref qM, .ref qd, .ref qr_, .ref qT, .ref qb, .ref qL, .int go])), (AD 0, .inr (5, [.int cnt, .ref (AD 1), .ref (AD 8)]))] sz)) (va_Qv (fun _ : Unit => (X7_needInput_x cnt input) = 0) (wPost (dC, dI) [(x0, .inr (7, [.ref (AD 0), .ref qM, .ref qd, .ref qr_, .ref qT, .ref qb, .ref qL, .int go])), (AD 0, .inr (5, [.int cnt, .ref (AD 1), .ref (AD 8)]))] (va_A [(x0, .inr (7, [.ref (AD 0), .ref qM, .ref qd, .ref qr_, .ref qT, .ref qb, .ref qL, .int go])), (AD 0, .inr (5, [.int cnt, .ref (AD 1), .ref (AD 8)]))] sz)) (va_A [(x0, .inr (7, [.ref (AD 0), .ref qM, .ref qd, .ref qr_, .ref qT, .ref qb, .ref qL, .int go])), (AD 0, .inr (5, [.int cnt, .ref (AD 1), .ref (AD 8)]))] sz)) (vx_X (fun _ : Unit => ¬ (X7_needInput_x cnt input) = 0) (xPost (dC, dI) [(x0, .inr (7, [.ref (AD 0), .ref qM, .ref qd, .ref qr_, .ref qT, .ref qb, .ref qL, .int go])), (AD 0, .inr (5, [.int cnt, .ref (AD 1), .ref (AD 8)]))] (va_A [(x0, .inr (7, [.ref (AD 0), .ref qM, .ref qd, .ref qr_, .ref qT, .ref qb, .ref qL, .int go])), (AD 0, .inr (5, [.int cnt, .ref (AD 1), .ref (AD 8)]))] sz) (X7_needInput_x cnt input)) (va_A [(x0, .inr (7, [.ref (AD 0), .ref qM, .ref qd, .ref qr_, .ref qT, .ref qb, .ref qL, .int go])), (AD 0, .inr (5, [.int cnt, .ref (AD 1), .ref (AD 8)]))] sz)) 1 6 (va_A [(x0, .inr (7, [.ref (AD 0), .ref qM, .ref qd, .ref qr_, .ref qT, .ref qb, .ref qL, .int go])), (AD 0, .inr (5, [.int cnt, .ref (AD 1), .ref (AD 8)]))] sz) := by
  refine vx_ofW (cc := cX7_needInput) (maxL := 4) (ret := none) (by decide) rfl ?_
  intro p e s m args below meth c s₁ B hml ht0 hv
  obtain ⟨rfl, hsz, hP, hK, hN, hD0, xn, xt, xz⟩ := hv
  have hx := B.exec
  have hb := B.bytes
  have hr := B.returns
  have hts := atoms_spec (ws := wsX7_needInput) B.pre
  have hown : s.vm.findClass RX7 = some m.cls := findClass_of_methodNamed B.named
  have hlocks := B.notSynchronized
  subst hsz
  have hD := hD0.self (sz := s.heap.size)
  generalize hAe : va_A [(x0, .inr (7, [.ref (AD 0), .ref qM, .ref qd, .ref qr_, .ref qT, .ref qb, .ref qL, .int go])), (AD 0, .inr (5, [.int cnt, .ref (AD 1), .ref (AD 8)]))] s.heap.size = A at hD xz ⊢
  have hA : ∀ q : Nat, s.heap.size ≤ q → A q := fun q h => by rw [← hAe]; exact Or.inr h
  have hS : va_S A s.heap s.heap [] := va_S.rf
  have hP : va_P (dC, dI) vwCl [(x0, .inr (7, [.ref (AD 0), .ref qM, .ref qd, .ref qr_, .ref qT, .ref qb, .ref qL, .int go])), (AD 0, .inr (5, [.int cnt, .ref (AD 1), .ref (AD 8)]))] s.heap := hP
  have hl := lv_entry ([.ref x0, .int input]) (n := 4) (Nat.le_of_ble_eq_true rfl)
  rw [lg_entry_eq]
  generalize (lg_sl ([.ref x0, .int input]) ++ List.replicate (4 - (lg_sl ([.ref x0, .int input])).length) Slot.unset).toArray = ls at hl ⊢
  have hl : lv_has ls 4 [(0, .ref x0), (1, .int input)] := hl
  refine lv_iload_n hx hb dX7_needInput_0 rfl (lv_at hl 1 rfl) ?_
  refine jnW (D := (dC, dI)) (ws := [(x0, .inr (7, [.ref (AD 0), .ref qM, .ref qd, .ref qr_, .ref qT, .ref qb, .ref qL, .int go])), (AD 0, .inr (5, [.int cnt, .ref (AD 1), .ref (AD 8)]))]) (lv := [(0, .ref x0), (1, .int input)]) (st := [.int (X7_needInput_j14 input)]) (J := 14) (n := 4) (A := A) (H0 := s.heap) ?_ ?_
  · intro H locs ls hP hD hS hl
    refine lv_istore_n (lv' := [(2, .int (X7_needInput_j14 input)), (0, .ref x0), (1, .int input)]) hx hb dX7_needInput_14 rfl hl (by decide) rfl (fun ls hl => ?_)
    refine lv_iload_n hx hb dX7_needInput_15 rfl (lv_at hl 2 rfl) ?_
    refine lv_bipush (v := 10) hx hb dX7_needInput_16 (by decide) ?_
    refine jnW (D := (dC, dI)) (ws := [(x0, .inr (7, [.ref (AD 0), .ref qM, .ref qd, .ref qr_, .ref qT, .ref qb, .ref qL, .int go])), (AD 0, .inr (5, [.int cnt, .ref (AD 1), .ref (AD 8)]))]) (lv := [(2, .int (X7_needInput_j14 input))]) (st := [.int (X7_needInput_j40 cnt input)]) (J := 40) (n := 4) (A := A) (H0 := s.heap) ?_ ?_
    · intro H locs ls hP hD hS hl
      refine lv_istore_n (lv' := [(3, .int (X7_needInput_j40 cnt input)), (2, .int (X7_needInput_j14 input))]) hx hb dX7_needInput_40 rfl hl (by decide) rfl (fun ls hl => ?_)
      refine lv_iload_n hx hb dX7_needInput_41 rfl (lv_at hl 1 rfl) ?_
      refine lv_if_ne (tgt := 59) hx hb dX7_needInput_42 (by decide) (fun c_5 => ?_) (fun c_5 => ?_)
      · have hx9 : (X7_needInput_x cnt input) = 0 := by rw [X7_needInput_x, if_neg c_5]
        have hP9 : va_P (dC, dI) vwCl [(x0, .inr (7, [.ref (AD 0), .ref qM, .ref qd, .ref qr_, .ref qT, .ref qb, .ref qL, .int go])), (AD 0, .inr (5, [.int cnt, .ref (AD 1), .ref (AD 8)]))] H := hP
        have hD9 : va_D A [(x0, .inr (7, [.ref (AD 0), .ref qM, .ref qd, .ref qr_, .ref qT, .ref qb, .ref qL, .int go])), (AD 0, .inr (5, [.int cnt, .ref (AD 1), .ref (AD 8)]))] := hD
        refine vx_ret ?_
        refine W.widen (k := 1) (n := 6) (Nat.le_of_ble_eq_true rfl) (Nat.le_of_ble_eq_true rfl) ?_
        exact W.vret hx hb hr (fun t ht hW => ⟨⟨(), rfl, hx9, wPost_of hP9 hD9 ht⟩, hS.F ht⟩) hS.2.2 dX7_needInput_59
      · refine lv_iload_n hx hb dX7_needInput_45 rfl (lv_at hl 0 rfl) ?_
        refine lv_if_ne (tgt := 59) hx hb dX7_needInput_46 (by decide) (fun c_6 => ?_) (fun c_6 => ?_)
        · have hx9 : (X7_needInput_x cnt input) = 0 := by rw [X7_needInput_x, if_pos c_5, if_neg c_6]
          have hP9 : va_P (dC, dI) vwCl [(x0, .inr (7, [.ref (AD 0), .ref qM, .ref qd, .ref qr_, .ref qT, .ref qb, .ref qL, .int go])), (AD 0, .inr (5, [.int cnt, .ref (AD 1), .ref (AD 8)]))] H := hP
          have hD9 : va_D A [(x0, .inr (7, [.ref (AD 0), .ref qM, .ref qd, .ref qr_, .ref qT, .ref qb, .ref qL, .int go])), (AD 0, .inr (5, [.int cnt, .ref (AD 1), .ref (AD 8)]))] := hD
          refine vx_ret ?_
          refine W.widen (k := 1) (n := 6) (Nat.le_of_ble_eq_true rfl) (Nat.le_of_ble_eq_true rfl) ?_
          exact W.vret hx hb hr (fun t ht hW => ⟨⟨(), rfl, hx9, wPost_of hP9 hD9 ht⟩, hS.F ht⟩) hS.2.2 dX7_needInput_59
        · have hx9 : (X7_needInput_x cnt input) = 2 := by rw [X7_needInput_x, if_pos c_5, if_pos c_6]
          obtain ⟨sa9, hsa9⟩ := xt (218, "no such input") (List.mem_of_getElem? (i := 6) rfl)
          exact vx_throwS (own := RX7) (cls := "java/lang/IllegalArgumentException") (text := "no such input") (names := ["java/lang/RuntimeException", "java/lang/Exception"]) (ik := 104) (is := 218) (ic := 108) (mc := 1) (ms := 6) (sa := sa9) (A := A) hx hb hst hown (by decide +kernel) (by decide +kernel) (hts (.classLink RX7 104 "java/lang/IllegalArgumentException") (List.mem_of_getElem? (i := 1) rfl)) (hts (.initialized "java/lang/IllegalArgumentException") (List.mem_of_getElem? (i := 2) rfl)) hsa9 (xhat108 (fun w h => hts w (List.mem_cons_of_mem _ (List.mem_append_right _ h))) xn) xgood108 (xz.1) (xz.2) hS (by rw [hml]; exact hl.1) dX7_needInput_49 dX7_needInput_52 dX7_needInput_53 dX7_needInput_55 dX7_needInput_58 (fun x h => by cases ht0 x h) (Nat.le_of_ble_eq_true rfl) (Nat.le_of_ble_eq_true rfl) (Nat.le_of_ble_eq_true rfl) (Nat.le_of_ble_eq_true rfl) hlocks (fun t9 hv9 hz9 hk9 => ⟨(), by rw [hx9]; decide, ⟨by rw [hx9]; rfl, hP.ext hk9, hD⟩, (hS.ext hz9 hk9).F rfl⟩) hS.2.2 (Nat.le_of_ble_eq_true rfl) (Nat.le_of_ble_eq_true rfl)
    · intro jn_4
      refine lv_icmp_lt (tgt := 39) hx hb dX7_needInput_18 (by decide) (fun c_3 => ?_) (fun c_3 => ?_)
      · refine lv_iconst (v := 0) hx hb dX7_needInput_39 (by decide) ?_
        have e_7 : (X7_needInput_j40 cnt input) = 0 := by rw [X7_needInput_j40]; simp only [eq_true c_3, ↓reduceIte]
        refine W.eq (g2 := F0 m 40 ls [.int (X7_needInput_j40 cnt input)]) (by simp only [e_7]) ?_
        exact jn_4 _ _ _ (by (try simp only [e_7]); exact hP) (by (try simp only [e_7]); exact hD) hS (by (try simp only [e_7]); exact (lv_sub hl [0] rfl))
      · refine lv_aload_n hx hb dX7_needInput_21 rfl (lv_at hl 1 rfl) ?_
        refine va_get (D := (dC, dI)) (ci := 7) (v := .ref (AD 0)) (C := RX7) (T := TX7) (N := 8) hx hb hts inw_X7_needInput_X7 hown hK hP 0 rfl rfl 0 (by decide) (hts (.fieldLink RX7 10 "DuelFrames" "moves" "LDuelFrames$MoveList;") (List.mem_of_getElem? (i := 3) rfl)) (fun _ h9 => h9) rfl dX7_needInput_22 ?_
        refine lv_iload_n hx hb dX7_needInput_25 rfl (lv_at hl 2 rfl) ?_
        refine lv_bipush (v := 10) hx hb dX7_needInput_26 (by decide) ?_
        refine lv_isub hx hb dX7_needInput_28 ?_
        have hPc := hP.sub (ws' := [(AD 0, .inr (5, [.int cnt, .ref (AD 1), .ref (AD 8)]))]) [1] rfl
        refine vp_callSi (W.runV (As := [.int (input - 10)]) (rest := []) ⟨hx, hb, hml, hown, hts⟩ (c_X5_has l dC dI cY AD cnt (input - 10)) (cwV 1 hts gX7_needInput_X5_has rfl rfl rfl (by decide +kernel) ⟨Nat.le_of_ble_eq_true rfl, Nat.le_of_ble_eq_true rfl⟩) ⟨blindR, va_recv hK hPc (ci := 5) (q0 := 0) rfl rfl, fun U hU hW => ⟨rfl, rPre_of hPc hK hN U hU hW⟩⟩ rfl rfl hl.1 rfl (lv_room (Nat.le_of_ble_eq_true rfl)) dX7_needInput_29 ⟨Nat.le_of_ble_eq_true rfl, Nat.le_of_ble_eq_true rfl⟩) (fun r_8 hw => ?_)
        obtain ⟨hw, hb_9⟩ := hw
        subst hw
        refine lv_if_eq (tgt := 39) hx hb dX7_needInput_32 (by decide) (fun c_10 => ?_) (fun c_10 => ?_)
        · refine lv_iconst (v := 0) hx hb dX7_needInput_39 (by decide) ?_
          have e_11 : (X7_needInput_j40 cnt input) = 0 := by rw [X7_needInput_j40]; simp only [eq_false c_3, eq_true c_10, ↓reduceIte]
          refine W.eq (g2 := F0 m 40 ls [.int (X7_needInput_j40 cnt input)]) (by simp only [e_11]) ?_
          exact jn_4 _ _ _ (by (try simp only [e_11]); exact hP) (by (try simp only [e_11]); exact hD) hS (by (try simp only [e_11]); exact (lv_sub hl [0] rfl))
        · refine lv_iconst (v := 1) hx hb dX7_needInput_35 (by decide) ?_
          refine lv_goto (tgt := 40) hx hb dX7_needInput_36 (by decide) ?_
          have e_12 : (X7_needInput_j40 cnt input) = 1 := by rw [X7_needInput_j40]; simp only [eq_false c_3, eq_false c_10, ↓reduceIte]
          refine W.eq (g2 := F0 m 40 ls [.int (X7_needInput_j40 cnt input)]) (by simp only [e_12]) ?_
          exact jn_4 _ _ _ (by (try simp only [e_12]); exact hP) (by (try simp only [e_12]); exact hD) hS (by (try simp only [e_12]); exact (lv_sub hl [0] rfl))
  · intro jn_2
    refine lv_if_lt (tgt := 13) hx hb dX7_needInput_1 (by decide) (fun c_1 => ?_) (fun c_1 => ?_)
    · refine lv_iconst (v := 0) hx hb dX7_needInput_13 (by decide) ?_
      have e_13 : (X7_needInput_j14 input) = 0 := by rw [X7_needInput_j14]; simp only [eq_true c_1, ↓reduceIte]
      refine W.eq (g2 := F0 m 14 ls [.int (X7_needInput_j14 input)]) (by simp only [e_13]) ?_
      exact jn_2 _ _ _ (by (try simp only [e_13]); exact hP) (by (try simp only [e_13]); exact hD) hS (by (try simp only [e_13]); exact (lv_sub hl [0, 1] rfl))
    · refine lv_iload_n hx hb dX7_needInput_4 rfl (lv_at hl 1 rfl) ?_
      refine lv_iconst (v := 4) hx hb dX7_needInput_5 (by decide) ?_
      refine lv_icmp_gt (tgt := 13) hx hb dX7_needInput_6 (by decide) (fun c_14 => ?_) (fun c_14 => ?_)
      · refine lv_iconst (v := 0) hx hb dX7_needInput_13 (by decide) ?_
        have e_15 : (X7_needInput_j14 input) = 0 := by rw [X7_needInput_j14]; simp only [eq_false c_1, eq_true c_14, ↓reduceIte]
        refine W.eq (g2 := F0 m 14 ls [.int (X7_needInput_j14 input)]) (by simp only [e_15]) ?_
        exact jn_2 _ _ _ (by (try simp only [e_15]); exact hP) (by (try simp only [e_15]); exact hD) hS (by (try simp only [e_15]); exact (lv_sub hl [0, 1] rfl))
      · refine lv_iconst (v := 1) hx hb dX7_needInput_9 (by decide) ?_
        refine lv_goto (tgt := 14) hx hb dX7_needInput_10 (by decide) ?_
        have e_16 : (X7_needInput_j14 input) = 1 := by rw [X7_needInput_j14]; simp only [eq_false c_1, eq_false c_14, ↓reduceIte]
        refine W.eq (g2 := F0 m 14 ls [.int (X7_needInput_j14 input)]) (by simp only [e_16]) ?_
        exact jn_2 _ _ _ (by (try simp only [e_16]); exact hP) (by (try simp only [e_16]); exact hD) hS (by (try simp only [e_16]); exact (lv_sub hl [0, 1] rfl))
