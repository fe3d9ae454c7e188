theorem inw_X6_clear_X6 : ∀ w ∈ u_ws RX6 TX6 6, w ∈ wsX6_clear := fun _ h => List.mem_cons_of_mem _ (List.mem_append_right _ h)
set_option maxHeartbeats 4000000 in
set_option maxRecDepth 100000 in
theorem c_X6_clear (l : Launch) (dC : Nat → ClassId) (dI : Nat → Nat → Nat) (cY : Nat → ClassId) (qT : Nat) (qOn : Nat) (qTw : Nat) (fr : Int32) (ap : Int32) (lm : Int32) (rm : Int32) (a1 : Int32) (a2 : Int32) (a3 : Int32)  (sz : Nat) : Met l yX6_clear wsX6_clear ({ frames := 0, cells := 0, slots := 0, locals := 0 } : Room) (va_Pc [.ref qT, .int a1, .int a2, .int a3] (wPre (dC, dI) (tyL cY) [(qT, .inr (6, [.int fr, .int ap, .int lm, .int rm, .ref qOn, .ref qTw]))] sz)) (va_Qv (fun _ : Unit => True) (wPost (dC, dI) [(qT, .inr (6, [.int 0, .int a1, .int a2, .int a3, .ref qOn, .ref qTw]))] (va_A [(qT, .inr (6, [.int fr, .int ap, .int lm, .int rm, .ref qOn, .ref qTw]))] sz)) (va_A [(qT, .inr (6, [.int fr, .int ap, .int lm, .int rm, .ref qOn, .ref qTw]))] sz)) 0 0 (va_A [(qT, .inr (6, [.int fr, .int ap, .int lm, .int rm, .ref qOn, .ref qTw]))] sz) := by
  refine Met.ofW (cc := cX6_clear) (maxL := 4) (ret := none) (by decide) rfl ?_
  intro p e s m args below meth c s₁ B hml hv
  obtain ⟨rfl, hsz, hP, hK, hN, hD0⟩ := hv
  have hx := B.exec
  have hb := B.bytes
  have hr := B.returns
  have hts := atoms_spec (ws := wsX6_clear) B.pre
  have hown : s.vm.findClass RX6 = some m.cls := findClass_of_methodNamed B.named
  have hlocks := B.notSynchronized
  subst hsz
  have hD := hD0.self (sz := s.heap.size)
  generalize hAe : va_A [(qT, .inr (6, [.int fr, .int ap, .int lm, .int rm, .ref qOn, .ref qTw]))] s.heap.size = A at hD ⊢
  have hA : ∀ q : Nat, s.heap.size ≤ q → A q := fun q h => by rw [← hAe]; exact Or.inr h
  have hS : va_S A s.heap s.heap [] := va_S.rf
  have hP : va_P (dC, dI) vwCl [(qT, .inr (6, [.int fr, .int ap, .int lm, .int rm, .ref qOn, .ref qTw]))] s.heap := hP
  have hl := lv_entry ([.ref qT, .int a1, .int a2, .int a3]) (n := 4) (Nat.le_of_ble_eq_true rfl)
  rw [lg_entry_eq]
  generalize (lg_sl ([.ref qT, .int a1, .int a2, .int a3]) ++ List.replicate (4 - (lg_sl ([.ref qT, .int a1, .int a2, .int a3])).length) Slot.unset).toArray = ls at hl ⊢
  have hl : lv_has ls 4 [(0, .ref qT), (1, .int a1), (2, .int a2), (3, .int a3)] := hl
  refine lv_aload_n hx hb dX6_clear_0 rfl (lv_at hl 0 rfl) ?_
  refine lv_iload_n hx hb dX6_clear_1 rfl (lv_at hl 1 rfl) ?_
  refine va_put (D := (dC, dI)) (ci := 6) (v := .int a1) (ty := .int) (C := RX6) (T := TX6) (N := 6) hx hb hts inw_X6_clear_X6 tyX6 tyX6_ok nmX6 hown hK hP hD hS 0 rfl rfl 1 (by decide) (hts (.fieldLink RX6 15 "DuelFrames$Tape" "apart" "I") (List.mem_of_getElem? (i := 1) rfl)) (fun _ h9 => h9) rfl (by decide +kernel) rfl rfl (Nat.le_of_ble_eq_true rfl) dX6_clear_2 (fun H locs hP1 hD1 hS1 => ?_)
  clear hP hD hS
  have hP : va_P (dC, dI) vwCl [(qT, .inr (6, [.int fr, .int a1, .int lm, .int rm, .ref qOn, .ref qTw]))] H := hP1
  have hD : va_D A [(qT, .inr (6, [.int fr, .int a1, .int lm, .int rm, .ref qOn, .ref qTw]))] := hD1
  have hS := hS1
  clear hP1 hD1 hS1
  refine lv_aload_n hx hb dX6_clear_5 rfl (lv_at hl 0 rfl) ?_
  refine lv_iload_n hx hb dX6_clear_6 rfl (lv_at hl 2 rfl) ?_
  refine va_put (D := (dC, dI)) (ci := 6) (v := .int a2) (ty := .int) (C := RX6) (T := TX6) (N := 6) hx hb hts inw_X6_clear_X6 tyX6 tyX6_ok nmX6 hown hK hP hD hS 0 rfl rfl 2 (by decide) (hts (.fieldLink RX6 18 "DuelFrames$Tape" "leftMeter" "I") (List.mem_of_getElem? (i := 2) rfl)) (fun _ h9 => h9) rfl (by decide +kernel) rfl rfl (Nat.le_of_ble_eq_true rfl) dX6_clear_7 (fun H locs hP1 hD1 hS1 => ?_)
  clear hP hD hS
  have hP : va_P (dC, dI) vwCl [(qT, .inr (6, [.int fr, .int a1, .int a2, .int rm, .ref qOn, .ref qTw]))] H := hP1
  have hD : va_D A [(qT, .inr (6, [.int fr, .int a1, .int a2, .int rm, .ref qOn, .ref qTw]))] := hD1
  have hS := hS1
  clear hP1 hD1 hS1
  refine lv_aload_n hx hb dX6_clear_10 rfl (lv_at hl 0 rfl) ?_
  refine lv_iload_n hx hb dX6_clear_11 rfl (lv_at hl 3 rfl) ?_
  refine va_put (D := (dC, dI)) (ci := 6) (v := .int a3) (ty := .int) (C := RX6) (T := TX6) (N := 6) hx hb hts inw_X6_clear_X6 tyX6 tyX6_ok nmX6 hown hK hP hD hS 0 rfl rfl 3 (by decide) (hts (.fieldLink RX6 21 "DuelFrames$Tape" "rightMeter" "I") (List.mem_of_getElem? (i := 3) rfl)) (fun _ h9 => h9) rfl (by decide +kernel) rfl rfl (Nat.le_of_ble_eq_true rfl) dX6_clear_12 (fun H locs hP1 hD1 hS1 => ?_)
  clear hP hD hS
  have hP : va_P (dC, dI) vwCl [(qT, .inr (6, [.int fr, .int a1, .int a2, .int a3, .ref qOn, .ref qTw]))] H := hP1
  have hD : va_D A [(qT, .inr (6, [.int fr, .int a1, .int a2, .int a3, .ref qOn, .ref qTw]))] := hD1
  have hS := hS1
  clear hP1 hD1 hS1
  refine lv_aload_n hx hb dX6_clear_15 rfl (lv_at hl 0 rfl) ?_
  refine lv_iconst (v := 0) hx hb dX6_clear_16 (by decide) ?_
  refine va_put (D := (dC, dI)) (ci := 6) (v := .int 0) (ty := .int) (C := RX6) (T := TX6) (N := 6) hx hb hts inw_X6_clear_X6 tyX6 tyX6_ok nmX6 hown hK hP hD hS 0 rfl rfl 0 (by decide) (hts (.fieldLink RX6 9 "DuelFrames$Tape" "frames" "I") (List.mem_of_getElem? (i := 4) rfl)) (fun _ h9 => h9) rfl (by decide +kernel) rfl rfl (Nat.le_of_ble_eq_true rfl) dX6_clear_17 (fun H locs hP1 hD1 hS1 => ?_)
  clear hP hD hS
  have hP : va_P (dC, dI) vwCl [(qT, .inr (6, [.int 0, .int a1, .int a2, .int a3, .ref qOn, .ref qTw]))] H := hP1
  have hD : va_D A [(qT, .inr (6, [.int 0, .int a1, .int a2, .int a3, .ref qOn, .ref qTw]))] := hD1
  have hS := hS1
  clear hP1 hD1 hS1
  have hP9 : va_P (dC, dI) vwCl [(qT, .inr (6, [.int 0, .int a1, .int a2, .int a3, .ref qOn, .ref qTw]))] H := hP
  have hD9 : va_D A [(qT, .inr (6, [.int 0, .int a1, .int a2, .int a3, .ref qOn, .ref qTw]))] := hD
  exact W.vret hx hb hr (fun t ht hW => ⟨⟨(), rfl, trivial, wPost_of hP9 hD9 ht⟩, hS.F ht⟩) hS.2.2 dX6_clear_20
theorem inw_X6_add_X6 : ∀ w ∈ u_ws RX6 TX6 6, w ∈ wsX6_add := fun _ h => List.mem_cons_of_mem _ (List.mem_append_right _ h)
def X6_add_0_0 (fr : Int32) : Int32 := (if 600 ≤ fr then fr else (fr + 1))
def X6_add_w1 (fr : Int32) (on : Nat → Int32) (one : Int32) : Nat → Int32 := (if 600 ≤ fr then on else (upd on fr.toNatClampNeg one))
def X6_add_w2 (fr : Int32) (tw : Nat → Int32) (two : Int32) : Nat → Int32 := (if 600 ≤ fr then tw else (upd tw fr.toNatClampNeg two))
set_option maxHeartbeats 4000000 in
set_option maxRecDepth 100000 in
theorem c_X6_add (l : Launch) (dC : Nat → ClassId) (dI : Nat → Nat → Nat) (cY : Nat → ClassId) (qT : Nat) (qOn : Nat) (qTw : Nat) (fr : Int32) (ap : Int32) (lm : Int32) (rm : Int32) (on : Nat → Int32) (tw : Nat → Int32) (one : Int32) (two : Int32) (hfr : vp_in fr 601) (sz : Nat) : Met l yX6_add wsX6_add ({ frames := 0, cells := 0, slots := 0, locals := 0 } : Room) (va_Pc [.ref qT, .int one, .int two] (wPre (dC, dI) (tyL cY) [(qT, .inr (6, [.int fr, .int ap, .int lm, .int rm, .ref qOn, .ref qTw])), (qOn, .inl (cY 0, 600, .inl on)), (qTw, .inl (cY 0, 600, .inl tw))] sz)) (va_Qv (fun _ : Unit => True) (wPost (dC, dI) [(qT, .inr (6, [.int (X6_add_0_0 fr), .int ap, .int lm, .int rm, .ref qOn, .ref qTw])), (qOn, .inl (cY 0, 600, .inl (X6_add_w1 fr on one))), (qTw, .inl (cY 0, 600, .inl (X6_add_w2 fr tw two)))] (va_A [(qT, .inr (6, [.int fr, .int ap, .int lm, .int rm, .ref qOn, .ref qTw])), (qOn, .inl (cY 0, 600, .inl on)), (qTw, .inl (cY 0, 600, .inl tw))] sz)) (va_A [(qT, .inr (6, [.int fr, .int ap, .int lm, .int rm, .ref qOn, .ref qTw])), (qOn, .inl (cY 0, 600, .inl on)), (qTw, .inl (cY 0, 600, .inl tw))] sz)) 0 0 (va_A [(qT, .inr (6, [.int fr, .int ap, .int lm, .int rm, .ref qOn, .ref qTw])), (qOn, .inl (cY 0, 600, .inl on)), (qTw, .inl (cY 0, 600, .inl tw))] sz) := by
  refine Met.ofW (cc := cX6_add) (maxL := 3) (ret := none) (by decide) rfl ?_
  intro p e s m args below meth c s₁ B hml hv
  obtain ⟨rfl, hsz, hP, hK, hN, hD0⟩ := hv
  have hx := B.exec
  have hb := B.bytes
  have hr := B.returns
  have hts := atoms_spec (ws := wsX6_add) B.pre
  have hown : s.vm.findClass RX6 = some m.cls := findClass_of_methodNamed B.named
  have hlocks := B.notSynchronized
  subst hsz
  have hD := hD0.self (sz := s.heap.size)
  generalize hAe : va_A [(qT, .inr (6, [.int fr, .int ap, .int lm, .int rm, .ref qOn, .ref qTw])), (qOn, .inl (cY 0, 600, .inl on)), (qTw, .inl (cY 0, 600, .inl tw))] s.heap.size = A at hD ⊢
  have hA : ∀ q : Nat, s.heap.size ≤ q → A q := fun q h => by rw [← hAe]; exact Or.inr h
  have hS : va_S A s.heap s.heap [] := va_S.rf
  have hP : va_P (dC, dI) vwCl [(qT, .inr (6, [.int fr, .int ap, .int lm, .int rm, .ref qOn, .ref qTw])), (qOn, .inl (cY 0, 600, .inl on)), (qTw, .inl (cY 0, 600, .inl tw))] s.heap := hP
  have hl := lv_entry ([.ref qT, .int one, .int two]) (n := 3) (Nat.le_of_ble_eq_true rfl)
  rw [lg_entry_eq]
  generalize (lg_sl ([.ref qT, .int one, .int two]) ++ List.replicate (3 - (lg_sl ([.ref qT, .int one, .int two])).length) Slot.unset).toArray = ls at hl ⊢
  have hl : lv_has ls 3 [(0, .ref qT), (1, .int one), (2, .int two)] := hl
  refine lv_aload_n hx hb dX6_add_0 rfl (lv_at hl 0 rfl) ?_
  refine va_get (D := (dC, dI)) (ci := 6) (v := .int fr) (C := RX6) (T := TX6) (N := 6) hx hb hts inw_X6_add_X6 hown hK hP 0 rfl rfl 0 (by decide) (hts (.fieldLink RX6 9 "DuelFrames$Tape" "frames" "I") (List.mem_of_getElem? (i := 1) rfl)) (fun _ h9 => h9) rfl dX6_add_1 ?_
  refine lv_sipush (v := 600) hx hb dX6_add_4 (by decide) ?_
  refine lv_icmp_ge (tgt := 40) hx hb dX6_add_7 (by decide) (fun c_1 => ?_) (fun c_1 => ?_)
  · have eo_2 : (X6_add_0_0 fr) = fr := by rw [X6_add_0_0]; simp only [eq_true c_1, ↓reduceIte]
    have eo_3 : (X6_add_w1 fr on one) = on := by rw [X6_add_w1]; simp only [eq_true c_1, ↓reduceIte]
    have eo_4 : (X6_add_w2 fr tw two) = tw := by rw [X6_add_w2]; simp only [eq_true c_1, ↓reduceIte]
    have hP9 : va_P (dC, dI) vwCl [(qT, .inr (6, [.int (X6_add_0_0 fr), .int ap, .int lm, .int rm, .ref qOn, .ref qTw])), (qOn, .inl (cY 0, 600, .inl (X6_add_w1 fr on one))), (qTw, .inl (cY 0, 600, .inl (X6_add_w2 fr tw two)))] s.heap := by simp only [eo_2, eo_3, eo_4]; exact hP
    have hD9 : va_D A [(qT, .inr (6, [.int (X6_add_0_0 fr), .int ap, .int lm, .int rm, .ref qOn, .ref qTw])), (qOn, .inl (cY 0, 600, .inl (X6_add_w1 fr on one))), (qTw, .inl (cY 0, 600, .inl (X6_add_w2 fr tw two)))] := by simp only [eo_2, eo_3, eo_4]; exact hD
    exact W.vret hx hb hr (fun t ht hW => ⟨⟨(), rfl, trivial, wPost_of hP9 hD9 ht⟩, hS.F ht⟩) hS.2.2 dX6_add_40
  · refine lv_aload_n hx hb dX6_add_10 rfl (lv_at hl 0 rfl) ?_
    refine va_get (D := (dC, dI)) (ci := 6) (v := .ref qOn) (C := RX6) (T := TX6) (N := 6) hx hb hts inw_X6_add_X6 hown hK hP 0 rfl rfl 4 (by decide) (hts (.fieldLink RX6 24 "DuelFrames$Tape" "ones" "[I") (List.mem_of_getElem? (i := 2) rfl)) (fun _ h9 => h9) rfl dX6_add_11 ?_
    refine lv_aload_n hx hb dX6_add_14 rfl (lv_at hl 0 rfl) ?_
    refine va_get (D := (dC, dI)) (ci := 6) (v := .int fr) (C := RX6) (T := TX6) (N := 6) hx hb hts inw_X6_add_X6 hown hK hP 0 rfl rfl 0 (by decide) (hts (.fieldLink RX6 9 "DuelFrames$Tape" "frames" "I") (List.mem_of_getElem? (i := 1) rfl)) (fun _ h9 => h9) rfl dX6_add_15 ?_
    refine lv_iload_n hx hb dX6_add_18 rfl (lv_at hl 1 rfl) ?_
    refine va_iast hx hb hK hP hD hS 1 0 rfl rfl (fr_in hfr c_1) dX6_add_19 (fun H locs hP1 hD1 hS1 => ?_)
    clear hP hD hS
    have hP : va_P (dC, dI) vwCl [(qT, .inr (6, [.int fr, .int ap, .int lm, .int rm, .ref qOn, .ref qTw])), (qOn, .inl (cY 0, 600, .inl (upd on fr.toNatClampNeg one))), (qTw, .inl (cY 0, 600, .inl tw))] H := hP1
    have hD : va_D A [(qT, .inr (6, [.int fr, .int ap, .int lm, .int rm, .ref qOn, .ref qTw])), (qOn, .inl (cY 0, 600, .inl (upd on fr.toNatClampNeg one))), (qTw, .inl (cY 0, 600, .inl tw))] := hD1
    have hS := hS1
    clear hP1 hD1 hS1
    refine lv_aload_n hx hb dX6_add_20 rfl (lv_at hl 0 rfl) ?_
    refine va_get (D := (dC, dI)) (ci := 6) (v := .ref qTw) (C := RX6) (T := TX6) (N := 6) hx hb hts inw_X6_add_X6 hown hK hP 0 rfl rfl 5 (by decide) (hts (.fieldLink RX6 28 "DuelFrames$Tape" "twos" "[I") (List.mem_of_getElem? (i := 3) rfl)) (fun _ h9 => h9) rfl dX6_add_21 ?_
    refine lv_aload_n hx hb dX6_add_24 rfl (lv_at hl 0 rfl) ?_
    refine va_get (D := (dC, dI)) (ci := 6) (v := .int fr) (C := RX6) (T := TX6) (N := 6) hx hb hts inw_X6_add_X6 hown hK hP 0 rfl rfl 0 (by decide) (hts (.fieldLink RX6 9 "DuelFrames$Tape" "frames" "I") (List.mem_of_getElem? (i := 1) rfl)) (fun _ h9 => h9) rfl dX6_add_25 ?_
    refine lv_iload_n hx hb dX6_add_28 rfl (lv_at hl 2 rfl) ?_
    refine va_iast hx hb hK hP hD hS 2 0 rfl rfl (fr_in hfr c_1) dX6_add_29 (fun H locs hP1 hD1 hS1 => ?_)
    clear hP hD hS
    have hP : va_P (dC, dI) vwCl [(qT, .inr (6, [.int fr, .int ap, .int lm, .int rm, .ref qOn, .ref qTw])), (qOn, .inl (cY 0, 600, .inl (upd on fr.toNatClampNeg one))), (qTw, .inl (cY 0, 600, .inl (upd tw fr.toNatClampNeg two)))] H := hP1
    have hD : va_D A [(qT, .inr (6, [.int fr, .int ap, .int lm, .int rm, .ref qOn, .ref qTw])), (qOn, .inl (cY 0, 600, .inl (upd on fr.toNatClampNeg one))), (qTw, .inl (cY 0, 600, .inl (upd tw fr.toNatClampNeg two)))] := hD1
    have hS := hS1
    clear hP1 hD1 hS1
    refine lv_aload_n hx hb dX6_add_30 rfl (lv_at hl 0 rfl) ?_
    refine lv_dup hx hb dX6_add_31 rfl ?_
    refine va_get (D := (dC, dI)) (ci := 6) (v := .int fr) (C := RX6) (T := TX6) (N := 6) hx hb hts inw_X6_add_X6 hown hK hP 0 rfl rfl 0 (by decide) (hts (.fieldLink RX6 9 "DuelFrames$Tape" "frames" "I") (List.mem_of_getElem? (i := 1) rfl)) (fun _ h9 => h9) rfl dX6_add_32 ?_
    refine lv_iconst (v := 1) hx hb dX6_add_35 (by decide) ?_
    refine lv_iadd hx hb dX6_add_36 ?_
    refine va_put (D := (dC, dI)) (ci := 6) (v := .int (fr + 1)) (ty := .int) (C := RX6) (T := TX6) (N := 6) hx hb hts inw_X6_add_X6 tyX6 tyX6_ok nmX6 hown hK hP hD hS 0 rfl rfl 0 (by decide) (hts (.fieldLink RX6 9 "DuelFrames$Tape" "frames" "I") (List.mem_of_getElem? (i := 1) rfl)) (fun _ h9 => h9) rfl (by decide +kernel) rfl rfl (Nat.le_of_ble_eq_true rfl) dX6_add_37 (fun H locs hP1 hD1 hS1 => ?_)
    clear hP hD hS
    have hP : va_P (dC, dI) vwCl [(qT, .inr (6, [.int (fr + 1), .int ap, .int lm, .int rm, .ref qOn, .ref qTw])), (qOn, .inl (cY 0, 600, .inl (upd on fr.toNatClampNeg one))), (qTw, .inl (cY 0, 600, .inl (upd tw fr.toNatClampNeg two)))] H := hP1
    have hD : va_D A [(qT, .inr (6, [.int (fr + 1), .int ap, .int lm, .int rm, .ref qOn, .ref qTw])), (qOn, .inl (cY 0, 600, .inl (upd on fr.toNatClampNeg one))), (qTw, .inl (cY 0, 600, .inl (upd tw fr.toNatClampNeg two)))] := hD1
    have hS := hS1
    clear hP1 hD1 hS1
    have eo_5 : (X6_add_0_0 fr) = (fr + 1) := by rw [X6_add_0_0]; simp only [eq_false c_1, ↓reduceIte]
    have eo_6 : (X6_add_w1 fr on one) = (upd on fr.toNatClampNeg one) := by rw [X6_add_w1]; simp only [eq_false c_1, ↓reduceIte]
    have eo_7 : (X6_add_w2 fr tw two) = (upd tw fr.toNatClampNeg two) := by rw [X6_add_w2]; simp only [eq_false c_1, ↓reduceIte]
    have hP9 : va_P (dC, dI) vwCl [(qT, .inr (6, [.int (X6_add_0_0 fr), .int ap, .int lm, .int rm, .ref qOn, .ref qTw])), (qOn, .inl (cY 0, 600, .inl (X6_add_w1 fr on one))), (qTw, .inl (cY 0, 600, .inl (X6_add_w2 fr tw two)))] H := by simp only [eo_5, eo_6, eo_7]; exact hP
    have hD9 : va_D A [(qT, .inr (6, [.int (X6_add_0_0 fr), .int ap, .int lm, .int rm, .ref qOn, .ref qTw])), (qOn, .inl (cY 0, 600, .inl (X6_add_w1 fr on one))), (qTw, .inl (cY 0, 600, .inl (X6_add_w2 fr tw two)))] := by simp only [eo_5, eo_6, eo_7]; exact hD
    exact W.vret hx hb hr (fun t ht hW => ⟨⟨(), rfl, trivial, wPost_of hP9 hD9 ht⟩, hS.F ht⟩) hS.2.2 dX6_add_40
theorem inw_X6_prepare_X6 : ∀ w ∈ u_ws RX6 TX6 6, w ∈ wsX6_prepare := fun _ h => List.mem_cons_of_mem _ (List.mem_append_left _ (List.mem_append_left _ (List.mem_append_right _ h)))
def X6_prepare_w2 (F : Nat → Int32) (ap : Int32) (lm : Int32) : Nat → Int32 := (X1_prepare_w1 F ap lm)
def X6_prepare_w3 (G : Nat → Int32) (ap : Int32) (rm : Int32) : Nat → Int32 := (X1_prepare_w2 G ap rm)
set_option maxHeartbeats 4000000 in
set_option maxRecDepth 100000 in
theorem c_X6_prepare (l : Launch) (dC : Nat → ClassId) (dI : Nat → Nat → Nat) (cY : Nat → ClassId) (qT : Nat) (qOn : Nat) (qTw : Nat) (fr : Int32) (ap : Int32) (lm : Int32) (rm : Int32) (qd : Nat) (qm : Nat) (ql : Nat) (qr : Nat) (F : Nat → Int32) (G : Nat → Int32)  (sz : Nat) : Met l yX6_prepare wsX6_prepare ({ frames := 4, cells := 0, slots := 0, locals := 85 } : Room) (va_Pc [.ref qT, .ref qd] (wPre (dC, dI) (tyL cY) [(qT, .inr (6, [.int fr, .int ap, .int lm, .int rm, .ref qOn, .ref qTw])), (qd, .inr (1, [.ref qm, .ref ql, .ref qr])), (ql, .inr (2, figL F)), (qr, .inr (2, figL G))] sz)) (va_Qv (fun _ : Unit => True) (wPost (dC, dI) [(qT, .inr (6, [.int fr, .int ap, .int lm, .int rm, .ref qOn, .ref qTw])), (qd, .inr (1, [.ref qm, .ref ql, .ref qr])), (ql, .inr (2, figL (X6_prepare_w2 F ap lm))), (qr, .inr (2, figL (X6_prepare_w3 G ap rm)))] (va_A [(qT, .inr (6, [.int fr, .int ap, .int lm, .int rm, .ref qOn, .ref qTw])), (qd, .inr (1, [.ref qm, .ref ql, .ref qr])), (ql, .inr (2, figL F)), (qr, .inr (2, figL G))] sz)) (va_A [(qT, .inr (6, [.int fr, .int ap, .int lm, .int rm, .ref qOn, .ref qTw])), (qd, .inr (1, [.ref qm, .ref ql, .ref qr])), (ql, .inr (2, figL F)), (qr, .inr (2, figL G))] sz)) 0 0 (va_A [(qT, .inr (6, [.int fr, .int ap, .int lm, .int rm, .ref qOn, .ref qTw])), (qd, .inr (1, [.ref qm, .ref ql, .ref qr])), (ql, .inr (2, figL F)), (qr, .inr (2, figL G))] sz) := by
  refine Met.ofW (cc := cX6_prepare) (maxL := 2) (ret := none) (by decide) rfl ?_
  intro p e s m args below meth c s₁ B hml hv
  obtain ⟨rfl, hsz, hP, hK, hN, hD0⟩ := hv
  have hx := B.exec
  have hb := B.bytes
  have hr := B.returns
  have hts := atoms_spec (ws := wsX6_prepare) B.pre
  have hown : s.vm.findClass RX6 = some m.cls := findClass_of_methodNamed B.named
  have hlocks := B.notSynchronized
  subst hsz
  have hD := hD0.self (sz := s.heap.size)
  generalize hAe : va_A [(qT, .inr (6, [.int fr, .int ap, .int lm, .int rm, .ref qOn, .ref qTw])), (qd, .inr (1, [.ref qm, .ref ql, .ref qr])), (ql, .inr (2, figL F)), (qr, .inr (2, figL G))] s.heap.size = A at hD ⊢
  have hA : ∀ q : Nat, s.heap.size ≤ q → A q := fun q h => by rw [← hAe]; exact Or.inr h
  have hS : va_S A s.heap s.heap [] := va_S.rf
  have hP : va_P (dC, dI) vwCl [(qT, .inr (6, [.int fr, .int ap, .int lm, .int rm, .ref qOn, .ref qTw])), (qd, .inr (1, [.ref qm, .ref ql, .ref qr])), (ql, .inr (2, figL F)), (qr, .inr (2, figL G))] s.heap := hP
  have hl := lv_entry ([.ref qT, .ref qd]) (n := 2) (Nat.le_of_ble_eq_true rfl)
  rw [lg_entry_eq]
  generalize (lg_sl ([.ref qT, .ref qd]) ++ List.replicate (2 - (lg_sl ([.ref qT, .ref qd])).length) Slot.unset).toArray = ls at hl ⊢
  have hl : lv_has ls 2 [(0, .ref qT), (1, .ref qd)] := hl
  refine lv_aload_n hx hb dX6_prepare_0 rfl (lv_at hl 1 rfl) ?_
  refine lv_aload_n hx hb dX6_prepare_1 rfl (lv_at hl 0 rfl) ?_
  refine va_get (D := (dC, dI)) (ci := 6) (v := .int ap) (C := RX6) (T := TX6) (N := 6) hx hb hts inw_X6_prepare_X6 hown hK hP 0 rfl rfl 1 (by decide) (hts (.fieldLink RX6 15 "DuelFrames$Tape" "apart" "I") (List.mem_of_getElem? (i := 1) rfl)) (fun _ h9 => h9) rfl dX6_prepare_2 ?_
  refine lv_aload_n hx hb dX6_prepare_5 rfl (lv_at hl 0 rfl) ?_
  refine va_get (D := (dC, dI)) (ci := 6) (v := .int lm) (C := RX6) (T := TX6) (N := 6) hx hb hts inw_X6_prepare_X6 hown hK hP 0 rfl rfl 2 (by decide) (hts (.fieldLink RX6 18 "DuelFrames$Tape" "leftMeter" "I") (List.mem_of_getElem? (i := 2) rfl)) (fun _ h9 => h9) rfl dX6_prepare_6 ?_
  refine lv_aload_n hx hb dX6_prepare_9 rfl (lv_at hl 0 rfl) ?_
  refine va_get (D := (dC, dI)) (ci := 6) (v := .int rm) (C := RX6) (T := TX6) (N := 6) hx hb hts inw_X6_prepare_X6 hown hK hP 0 rfl rfl 3 (by decide) (hts (.fieldLink RX6 21 "DuelFrames$Tape" "rightMeter" "I") (List.mem_of_getElem? (i := 3) rfl)) (fun _ h9 => h9) rfl dX6_prepare_10 ?_
  have hPc := hP.sub (ws' := [(qd, .inr (1, [.ref qm, .ref ql, .ref qr])), (ql, .inr (2, figL F)), (qr, .inr (2, figL G))]) [1, 2, 3] rfl
  have hDc := hD.sub (ws' := [(qd, .inr (1, [.ref qm, .ref ql, .ref qr])), (ql, .inr (2, figL F)), (qr, .inr (2, figL G))]) [1, 2, 3] (by decide) rfl
  have hFc := va_free (wc := [(qd, .inr (1, [.ref qm, .ref ql, .ref qr])), (ql, .inr (2, figL F)), (qr, .inr (2, figL G))]) hD hS hA [1, 2, 3] rfl
  refine va_callv (va_runV (As := [.int ap, .int lm, .int rm]) (rest := []) ⟨hx, hb, hml, hown, hts⟩ (c_X1_prepare l dC dI cY qd qm ql qr F G ap lm rm s.heap.size) (cwV 3 hts gX6_prepare_X1_prepare rfl rfl rfl (by decide +kernel) ⟨Nat.le_of_ble_eq_true rfl, Nat.le_of_ble_eq_true rfl⟩) ⟨blindW, va_recv hK hPc (ci := 1) (q0 := 0) rfl rfl, fun U hU hW => ⟨rfl, wPre_of hPc hK hN hDc U hU hW⟩⟩ rfl rfl hl.1 rfl (lv_room (Nat.le_of_ble_eq_true rfl)) dX6_prepare_13 ⟨Nat.zero_le _, Nat.zero_le _⟩) hS (fun q _ h => hFc q h) hFc (fun u t H1 locs ht hvm hw hB hz1 hk1 hS1 => ?_)
  have hJ := wJoin (wr := [(qT, .inr (6, [.int fr, .int ap, .int lm, .int rm, .ref qOn, .ref qTw]))]) (w1 := [(qd, .inr (1, [.ref qm, .ref ql, .ref qr])), (ql, .inr (2, figL (X1_prepare_w1 F ap lm))), (qr, .inr (2, figL (X1_prepare_w2 G ap rm)))]) (wn := [(qT, .inr (6, [.int fr, .int ap, .int lm, .int rm, .ref qOn, .ref qTw])), (qd, .inr (1, [.ref qm, .ref ql, .ref qr])), (ql, .inr (2, figL (X1_prepare_w1 F ap lm))), (qr, .inr (2, figL (X1_prepare_w2 G ap rm)))]) hP hD [1, 2, 3] [0] rfl rfl (by decide) (by decide) hk1 hFc hB ht [0, 1, 2, 3] rfl (by decide)
  clear hB hk1 hFc hPc hDc hP hD hS hz1 hvm ht t
  obtain ⟨hP1, hD1⟩ := hJ
  generalize H1 = H at hP1 hS1 ⊢
  have hP : va_P (dC, dI) vwCl [(qT, .inr (6, [.int fr, .int ap, .int lm, .int rm, .ref qOn, .ref qTw])), (qd, .inr (1, [.ref qm, .ref ql, .ref qr])), (ql, .inr (2, figL (X1_prepare_w1 F ap lm))), (qr, .inr (2, figL (X1_prepare_w2 G ap rm)))] H := hP1
  have hD : va_D A [(qT, .inr (6, [.int fr, .int ap, .int lm, .int rm, .ref qOn, .ref qTw])), (qd, .inr (1, [.ref qm, .ref ql, .ref qr])), (ql, .inr (2, figL (X1_prepare_w1 F ap lm))), (qr, .inr (2, figL (X1_prepare_w2 G ap rm)))] := hD1
  have hS := hS1
  clear hP1 hD1 hS1
  obtain ⟨z_2, ez_2⟩ : ∃ z, z = (X1_prepare_w1 F ap lm) := ⟨_, rfl⟩
  rw [← ez_2] at hP hD
  obtain ⟨z_3, ez_3⟩ : ∃ z, z = (X1_prepare_w2 G ap rm) := ⟨_, rfl⟩
  rw [← ez_3] at hP hD
  have eo_4 : (X6_prepare_w2 F ap lm) = z_2 := by rw [X6_prepare_w2]; (try simp only [← ez_2, ← ez_3])
  have eo_5 : (X6_prepare_w3 G ap rm) = z_3 := by rw [X6_prepare_w3]; (try simp only [← ez_2, ← ez_3])
  have hP9 : va_P (dC, dI) vwCl [(qT, .inr (6, [.int fr, .int ap, .int lm, .int rm, .ref qOn, .ref qTw])), (qd, .inr (1, [.ref qm, .ref ql, .ref qr])), (ql, .inr (2, figL (X6_prepare_w2 F ap lm))), (qr, .inr (2, figL (X6_prepare_w3 G ap rm)))] H := by simp only [eo_4, eo_5]; exact hP
  have hD9 : va_D A [(qT, .inr (6, [.int fr, .int ap, .int lm, .int rm, .ref qOn, .ref qTw])), (qd, .inr (1, [.ref qm, .ref ql, .ref qr])), (ql, .inr (2, figL (X6_prepare_w2 F ap lm))), (qr, .inr (2, figL (X6_prepare_w3 G ap rm)))] := by simp only [eo_4, eo_5]; exact hD
  exact W.vret hx hb hr (fun t ht hW => ⟨⟨(), rfl, trivial, wPost_of hP9 hD9 ht⟩, hS.F ht⟩) hS.2.2 dX6_prepare_16
theorem inw_X6_playInto_X6 : ∀ w ∈ u_ws RX6 TX6 6, w ∈ wsX6_playInto := fun _ h => List.mem_cons_of_mem _ (List.mem_append_left _ (List.mem_append_left _ (List.mem_append_left _ (List.mem_append_left _ (List.mem_append_right _ h)))))
def X6_pin_run (MV : Nat → Nat → Int32) (on : Nat → Int32) (tw : Nat → Int32) (fr : Int32) (upTo : Int32) : Nat → Nat → (Nat → Int32) × (Nat → Int32) → (Nat → Int32) × (Nat → Int32)
  | 0, _, (F9, G9) => (F9, G9)
  | n + 1, j, (F9, G9) => if upTo ≤ (nI j) then (F9, G9) else if fr ≤ (nI j) then (F9, G9) else X6_pin_run MV on tw fr upTo n (j + 1) ((X1_playFrame_w1 F9 G9 MV (on (nI j).toNatClampNeg) (tw (nI j).toNatClampNeg)), (X1_playFrame_w2 F9 G9 MV (on (nI j).toNatClampNeg) (tw (nI j).toNatClampNeg)))
theorem X6_pin_run_s (MV : Nat → Nat → Int32) (on : Nat → Int32) (tw : Nat → Int32) (fr : Int32) (upTo : Int32) (n j : Nat) (F9 : Nat → Int32) (G9 : Nat → Int32) : X6_pin_run MV on tw fr upTo (n + 1) j (F9, G9) = if upTo ≤ (nI j) then (F9, G9) else if fr ≤ (nI j) then (F9, G9) else X6_pin_run MV on tw fr upTo n (j + 1) ((X1_playFrame_w1 F9 G9 MV (on (nI j).toNatClampNeg) (tw (nI j).toNatClampNeg)), (X1_playFrame_w2 F9 G9 MV (on (nI j).toNatClampNeg) (tw (nI j).toNatClampNeg))) := rfl
set_option maxHeartbeats 4000000 in
set_option maxRecDepth 100000 in
theorem c_X6_playInto (l : Launch) (dC : Nat → ClassId) (dI : Nat → Nat → Nat) (cY : Nat → ClassId) (qT : Nat) (qOn : Nat) (qTw : Nat) (fr : Int32) (ap : Int32) (lm : Int32) (rm : Int32) (on : Nat → Int32) (tw : Nat → Int32) (qd : Nat) (ql : Nat) (qr : Nat) (F : Nat → Int32) (G : Nat → Int32) (AD : Nat → Nat) (cnt : Int32) (MV : Nat → Nat → Int32) (upTo : Int32)  (sz : Nat) : Met l yX6_playInto wsX6_playInto ({ frames := 5, cells := 0, slots := 0, locals := 114 } : Room) (va_Pc [.ref qT, .ref qd, .int upTo] (wPre (dC, dI) (tyL cY) ([(qT, .inr (6, [.int fr, .int ap, .int lm, .int rm, .ref qOn, .ref qTw])), (qOn, .inl (cY 0, 600, .inl on)), (qTw, .inl (cY 0, 600, .inl tw)), (qd, .inr (1, [.ref (AD 0), .ref ql, .ref qr])), (ql, .inr (2, figL F)), (qr, .inr (2, figL G)), (AD 0, .inr (5, [.int cnt, .ref (AD 1), .ref (AD 8)])), (AD 1, .inl (cY 2, 6, .inr (.inr (.inr (.inr (fun j => some (AD (2 + j))))))))] ++ bkM AD cY MV) sz)) (va_Qv (fun _ : Unit => True) (wPost (dC, dI) ([(qT, .inr (6, [.int fr, .int ap, .int lm, .int rm, .ref qOn, .ref qTw])), (qOn, .inl (cY 0, 600, .inl on)), (qTw, .inl (cY 0, 600, .inl tw)), (qd, .inr (1, [.ref (AD 0), .ref ql, .ref qr])), (ql, .inr (2, figL (X6_pin_run MV on tw fr upTo 600 0 ((X6_prepare_w2 F ap lm), (X6_prepare_w3 G ap rm))).1)), (qr, .inr (2, figL (X6_pin_run MV on tw fr upTo 600 0 ((X6_prepare_w2 F ap lm), (X6_prepare_w3 G ap rm))).2)), (AD 0, .inr (5, [.int cnt, .ref (AD 1), .ref (AD 8)])), (AD 1, .inl (cY 2, 6, .inr (.inr (.inr (.inr (fun j => some (AD (2 + j))))))))] ++ bkM AD cY MV) (va_A ([(qT, .inr (6, [.int fr, .int ap, .int lm, .int rm, .ref qOn, .ref qTw])), (qOn, .inl (cY 0, 600, .inl on)), (qTw, .inl (cY 0, 600, .inl tw)), (qd, .inr (1, [.ref (AD 0), .ref ql, .ref qr])), (ql, .inr (2, figL F)), (qr, .inr (2, figL G)), (AD 0, .inr (5, [.int cnt, .ref (AD 1), .ref (AD 8)])), (AD 1, .inl (cY 2, 6, .inr (.inr (.inr (.inr (fun j => some (AD (2 + j))))))))] ++ bkM AD cY MV) sz)) (va_A ([(qT, .inr (6, [.int fr, .int ap, .int lm, .int rm, .ref qOn, .ref qTw])), (qOn, .inl (cY 0, 600, .inl on)), (qTw, .inl (cY 0, 600, .inl tw)), (qd, .inr (1, [.ref (AD 0), .ref ql, .ref qr])), (ql, .inr (2, figL F)), (qr, .inr (2, figL G)), (AD 0, .inr (5, [.int cnt, .ref (AD 1), .ref (AD 8)])), (AD 1, .inl (cY 2, 6, .inr (.inr (.inr (.inr (fun j => some (AD (2 + j))))))))] ++ bkM AD cY MV) sz)) 0 0 (va_A ([(qT, .inr (6, [.int fr, .int ap, .int lm, .int rm, .ref qOn, .ref qTw])), (qOn, .inl (cY 0, 600, .inl on)), (qTw, .inl (cY 0, 600, .inl tw)), (qd, .inr (1, [.ref (AD 0), .ref ql, .ref qr])), (ql, .inr (2, figL F)), (qr, .inr (2, figL G)), (AD 0, .inr (5, [.int cnt, .ref (AD 1), .ref (AD 8)])), (AD 1, .inl (cY 2, 6, .inr (.inr (.inr (.inr (fun j => some (AD (2 + j))))))))] ++ bkM AD cY MV) sz) := by
  refine Met.ofW (cc := cX6_playInto) (maxL := 4) (ret := none) (by decide) rfl ?_
  intro p e s m args below meth c s₁ B hml hv
  obtain ⟨rfl, hsz, hP, hK, hN, hD0⟩ := hv
  have hx := B.exec
  have hb := B.bytes
  have hr := B.returns
  have hts := atoms_spec (ws := wsX6_playInto) B.pre
  have hown : s.vm.findClass RX6 = some m.cls := findClass_of_methodNamed B.named
  have hlocks := B.notSynchronized
  subst hsz
  have hD := hD0.self (sz := s.heap.size)
  generalize hAe : va_A ([(qT, .inr (6, [.int fr, .int ap, .int lm, .int rm, .ref qOn, .ref qTw])), (qOn, .inl (cY 0, 600, .inl on)), (qTw, .inl (cY 0, 600, .inl tw)), (qd, .inr (1, [.ref (AD 0), .ref ql, .ref qr])), (ql, .inr (2, figL F)), (qr, .inr (2, figL G)), (AD 0, .inr (5, [.int cnt, .ref (AD 1), .ref (AD 8)])), (AD 1, .inl (cY 2, 6, .inr (.inr (.inr (.inr (fun j => some (AD (2 + j))))))))] ++ bkM AD cY MV) s.heap.size = A at hD ⊢
  have hA : ∀ q : Nat, s.heap.size ≤ q → A q := fun q h => by rw [← hAe]; exact Or.inr h
  have hS : va_S A s.heap s.heap [] := va_S.rf
  have hP : va_P (dC, dI) vwCl ([(qT, .inr (6, [.int fr, .int ap, .int lm, .int rm, .ref qOn, .ref qTw])), (qOn, .inl (cY 0, 600, .inl on)), (qTw, .inl (cY 0, 600, .inl tw)), (qd, .inr (1, [.ref (AD 0), .ref ql, .ref qr])), (ql, .inr (2, figL F)), (qr, .inr (2, figL G)), (AD 0, .inr (5, [.int cnt, .ref (AD 1), .ref (AD 8)])), (AD 1, .inl (cY 2, 6, .inr (.inr (.inr (.inr (fun j => some (AD (2 + j))))))))] ++ bkM AD cY MV) s.heap := hP
  have hl := lv_entry ([.ref qT, .ref qd, .int upTo]) (n := 4) (Nat.le_of_ble_eq_true rfl)
  rw [lg_entry_eq]
  generalize (lg_sl ([.ref qT, .ref qd, .int upTo]) ++ List.replicate (4 - (lg_sl ([.ref qT, .ref qd, .int upTo])).length) Slot.unset).toArray = ls at hl ⊢
  have hl : lv_has ls 4 [(0, .ref qT), (1, .ref qd), (2, .int upTo)] := hl
  refine lv_aload_n hx hb dX6_playInto_0 rfl (lv_at hl 0 rfl) ?_
  refine lv_aload_n hx hb dX6_playInto_1 rfl (lv_at hl 1 rfl) ?_
  have hPc := hP.sub (ws' := [(qT, .inr (6, [.int fr, .int ap, .int lm, .int rm, .ref qOn, .ref qTw])), (qd, .inr (1, [.ref (AD 0), .ref ql, .ref qr])), (ql, .inr (2, figL F)), (qr, .inr (2, figL G))]) [0, 3, 4, 5] rfl
  have hDc := hD.sub (ws' := [(qT, .inr (6, [.int fr, .int ap, .int lm, .int rm, .ref qOn, .ref qTw])), (qd, .inr (1, [.ref (AD 0), .ref ql, .ref qr])), (ql, .inr (2, figL F)), (qr, .inr (2, figL G))]) [0, 3, 4, 5] (by decide) rfl
  have hFc := va_free (wc := [(qT, .inr (6, [.int fr, .int ap, .int lm, .int rm, .ref qOn, .ref qTw])), (qd, .inr (1, [.ref (AD 0), .ref ql, .ref qr])), (ql, .inr (2, figL F)), (qr, .inr (2, figL G))]) hD hS hA [0, 3, 4, 5] rfl
  refine va_callv (va_runV (As := [.ref qd]) (rest := []) ⟨hx, hb, hml, hown, hts⟩ (c_X6_prepare l dC dI cY qT qOn qTw fr ap lm rm qd (AD 0) ql qr F G s.heap.size) (cwV 1 hts gX6_playInto_X6_prepare rfl rfl rfl (by decide +kernel) ⟨Nat.le_of_ble_eq_true rfl, Nat.le_of_ble_eq_true rfl⟩) ⟨blindW, va_recv hK hPc (ci := 6) (q0 := 0) rfl rfl, fun U hU hW => ⟨rfl, wPre_of hPc hK hN hDc U hU hW⟩⟩ rfl rfl hl.1 rfl (lv_room (Nat.le_of_ble_eq_true rfl)) dX6_playInto_2 ⟨Nat.zero_le _, Nat.zero_le _⟩) hS (fun q _ h => hFc q h) hFc (fun u t H1 locs ht hvm hw hB hz1 hk1 hS1 => ?_)
  have hJ := wJoinQ (wr := [(qOn, .inl (cY 0, 600, .inl on)), (qTw, .inl (cY 0, 600, .inl tw)), (AD 0, .inr (5, [.int cnt, .ref (AD 1), .ref (AD 8)])), (AD 1, .inl (cY 2, 6, .inr (.inr (.inr (.inr (fun j => some (AD (2 + j))))))))]) (w1 := [(qT, .inr (6, [.int fr, .int ap, .int lm, .int rm, .ref qOn, .ref qTw])), (qd, .inr (1, [.ref (AD 0), .ref ql, .ref qr])), (ql, .inr (2, figL (X6_prepare_w2 F ap lm))), (qr, .inr (2, figL (X6_prepare_w3 G ap rm)))]) (wn := [(qT, .inr (6, [.int fr, .int ap, .int lm, .int rm, .ref qOn, .ref qTw])), (qOn, .inl (cY 0, 600, .inl on)), (qTw, .inl (cY 0, 600, .inl tw)), (qd, .inr (1, [.ref (AD 0), .ref ql, .ref qr])), (ql, .inr (2, figL (X6_prepare_w2 F ap lm))), (qr, .inr (2, figL (X6_prepare_w3 G ap rm))), (AD 0, .inr (5, [.int cnt, .ref (AD 1), .ref (AD 8)])), (AD 1, .inl (cY 2, 6, .inr (.inr (.inr (.inr (fun j => some (AD (2 + j))))))))]) hP hD [0, 3, 4, 5] [1, 2, 6, 7] rfl rfl (by decide) (by decide) hk1 hFc hB ht [4, 0, 1, 5, 6, 7, 2, 3] rfl (by decide)
  clear hB hk1 hFc hPc hDc hP hD hS hz1 hvm ht t
  obtain ⟨hP1, hD1⟩ := hJ
  generalize H1 = H at hP1 hS1 ⊢
  have hP : va_P (dC, dI) vwCl ([(qT, .inr (6, [.int fr, .int ap, .int lm, .int rm, .ref qOn, .ref qTw])), (qOn, .inl (cY 0, 600, .inl on)), (qTw, .inl (cY 0, 600, .inl tw)), (qd, .inr (1, [.ref (AD 0), .ref ql, .ref qr])), (ql, .inr (2, figL (X6_prepare_w2 F ap lm))), (qr, .inr (2, figL (X6_prepare_w3 G ap rm))), (AD 0, .inr (5, [.int cnt, .ref (AD 1), .ref (AD 8)])), (AD 1, .inl (cY 2, 6, .inr (.inr (.inr (.inr (fun j => some (AD (2 + j))))))))] ++ bkM AD cY MV) H := hP1
  have hD : va_D A ([(qT, .inr (6, [.int fr, .int ap, .int lm, .int rm, .ref qOn, .ref qTw])), (qOn, .inl (cY 0, 600, .inl on)), (qTw, .inl (cY 0, 600, .inl tw)), (qd, .inr (1, [.ref (AD 0), .ref ql, .ref qr])), (ql, .inr (2, figL (X6_prepare_w2 F ap lm))), (qr, .inr (2, figL (X6_prepare_w3 G ap rm))), (AD 0, .inr (5, [.int cnt, .ref (AD 1), .ref (AD 8)])), (AD 1, .inl (cY 2, 6, .inr (.inr (.inr (.inr (fun j => some (AD (2 + j))))))))] ++ bkM AD cY MV) := hD1
  have hS := hS1
  clear hP1 hD1 hS1
  obtain ⟨z_2, ez_2⟩ : ∃ z, z = (X6_prepare_w2 F ap lm) := ⟨_, rfl⟩
  rw [← ez_2] at hP hD
  obtain ⟨z_3, ez_3⟩ : ∃ z, z = (X6_prepare_w3 G ap rm) := ⟨_, rfl⟩
  rw [← ez_3] at hP hD
  refine lv_iconst (v := 0) hx hb dX6_playInto_5 (by decide) ?_
  refine lv_istore_n (lv' := [(3, .int 0), (0, .ref qT), (1, .ref qd), (2, .int upTo)]) hx hb dX6_playInto_6 rfl hl (by decide) rfl (fun ls hl => ?_)
  refine loopI (D := (dC, dI)) (σ := (Nat → Int32) × (Nat → Int32)) 600 (fun j x => ([(qT, .inr (6, [.int fr, .int ap, .int lm, .int rm, .ref qOn, .ref qTw])), (qOn, .inl (cY 0, 600, .inl on)), (qTw, .inl (cY 0, 600, .inl tw)), (qd, .inr (1, [.ref (AD 0), .ref ql, .ref qr])), (ql, .inr (2, figL x.1)), (qr, .inr (2, figL x.2)), (AD 0, .inr (5, [.int cnt, .ref (AD 1), .ref (AD 8)])), (AD 1, .inl (cY 2, 6, .inr (.inr (.inr (.inr (fun j => some (AD (2 + j))))))))] ++ bkM AD cY MV)) (fun j x => [(0, .ref qT), (1, .ref qd), (2, .int upTo), (3, .int (nI j))]) 7 4 (A := A) (H0 := s.heap) (fun j x => X6_pin_run MV on tw fr upTo 600 0 (z_2, z_3) = X6_pin_run MV on tw fr upTo (600 - j) j x ∧ True) ?_ ?_ (z_2, z_3) ⟨rfl, trivial⟩ hP hD hS (lv_sub hl [1, 2, 3, 0] rfl)
  · rintro j ⟨F9, G9⟩ hj hi H locs ls hP hD hS hl hk
    have hP : va_P (dC, dI) vwCl ([(qT, .inr (6, [.int fr, .int ap, .int lm, .int rm, .ref qOn, .ref qTw])), (qOn, .inl (cY 0, 600, .inl on)), (qTw, .inl (cY 0, 600, .inl tw)), (qd, .inr (1, [.ref (AD 0), .ref ql, .ref qr])), (ql, .inr (2, figL F9)), (qr, .inr (2, figL G9)), (AD 0, .inr (5, [.int cnt, .ref (AD 1), .ref (AD 8)])), (AD 1, .inl (cY 2, 6, .inr (.inr (.inr (.inr (fun j => some (AD (2 + j))))))))] ++ bkM AD cY MV) H := hP
    have hD : va_D A ([(qT, .inr (6, [.int fr, .int ap, .int lm, .int rm, .ref qOn, .ref qTw])), (qOn, .inl (cY 0, 600, .inl on)), (qTw, .inl (cY 0, 600, .inl tw)), (qd, .inr (1, [.ref (AD 0), .ref ql, .ref qr])), (ql, .inr (2, figL F9)), (qr, .inr (2, figL G9)), (AD 0, .inr (5, [.int cnt, .ref (AD 1), .ref (AD 8)])), (AD 1, .inl (cY 2, 6, .inr (.inr (.inr (.inr (fun j => some (AD (2 + j))))))))] ++ bkM AD cY MV) := hD
    have hl : lv_has ls 4 [(0, .ref qT), (1, .ref qd), (2, .int upTo), (3, .int (nI j))] := hl
    (try dsimp only at hi)
    have hs9 := hi.2
    refine lv_iload_n hx hb dX6_playInto_7 rfl (lv_at hl 3 rfl) ?_
    refine lv_iload_n hx hb dX6_playInto_8 rfl (lv_at hl 2 rfl) ?_
    refine lv_icmp_ge (tgt := 49) hx hb dX6_playInto_9 (by decide) (fun c_4 => ?_) (fun c_4 => ?_)
    · have hr9 : X6_pin_run MV on tw fr upTo 600 0 (z_2, z_3) = (F9, G9) := by rw [hi.1, show 600 - j = (600 - (j + 1)) + 1 by omega, X6_pin_run_s]; simp only [← ez_2, ← ez_3, eq_true c_4, ↓reduceIte]
      have eo_5 : (X6_pin_run MV on tw fr upTo 600 0 ((X6_prepare_w2 F ap lm), (X6_prepare_w3 G ap rm))).1 = F9 := by (try simp only [← ez_2, ← ez_3]); have h9 := congrArg (fun z => z.1) hr9; dsimp only at h9; exact h9
      have eo_6 : (X6_pin_run MV on tw fr upTo 600 0 ((X6_prepare_w2 F ap lm), (X6_prepare_w3 G ap rm))).2 = G9 := by (try simp only [← ez_2, ← ez_3]); have h9 := congrArg (fun z => z.2) hr9; dsimp only at h9; exact h9
      have hP9 : va_P (dC, dI) vwCl ([(qT, .inr (6, [.int fr, .int ap, .int lm, .int rm, .ref qOn, .ref qTw])), (qOn, .inl (cY 0, 600, .inl on)), (qTw, .inl (cY 0, 600, .inl tw)), (qd, .inr (1, [.ref (AD 0), .ref ql, .ref qr])), (ql, .inr (2, figL (X6_pin_run MV on tw fr upTo 600 0 ((X6_prepare_w2 F ap lm), (X6_prepare_w3 G ap rm))).1)), (qr, .inr (2, figL (X6_pin_run MV on tw fr upTo 600 0 ((X6_prepare_w2 F ap lm), (X6_prepare_w3 G ap rm))).2)), (AD 0, .inr (5, [.int cnt, .ref (AD 1), .ref (AD 8)])), (AD 1, .inl (cY 2, 6, .inr (.inr (.inr (.inr (fun j => some (AD (2 + j))))))))] ++ bkM AD cY MV) H := by simp only [eo_5, eo_6]; exact hP
      have hD9 : va_D A ([(qT, .inr (6, [.int fr, .int ap, .int lm, .int rm, .ref qOn, .ref qTw])), (qOn, .inl (cY 0, 600, .inl on)), (qTw, .inl (cY 0, 600, .inl tw)), (qd, .inr (1, [.ref (AD 0), .ref ql, .ref qr])), (ql, .inr (2, figL (X6_pin_run MV on tw fr upTo 600 0 ((X6_prepare_w2 F ap lm), (X6_prepare_w3 G ap rm))).1)), (qr, .inr (2, figL (X6_pin_run MV on tw fr upTo 600 0 ((X6_prepare_w2 F ap lm), (X6_prepare_w3 G ap rm))).2)), (AD 0, .inr (5, [.int cnt, .ref (AD 1), .ref (AD 8)])), (AD 1, .inl (cY 2, 6, .inr (.inr (.inr (.inr (fun j => some (AD (2 + j))))))))] ++ bkM AD cY MV) := by simp only [eo_5, eo_6]; exact hD
      exact W.vret hx hb hr (fun t ht hW => ⟨⟨(), rfl, trivial, wPost_of hP9 hD9 ht⟩, hS.F ht⟩) hS.2.2 dX6_playInto_49
    · refine lv_iload_n hx hb dX6_playInto_12 rfl (lv_at hl 3 rfl) ?_
      refine lv_aload_n hx hb dX6_playInto_13 rfl (lv_at hl 0 rfl) ?_
      refine va_get (D := (dC, dI)) (ci := 6) (v := .int fr) (C := RX6) (T := TX6) (N := 6) hx hb hts inw_X6_playInto_X6 hown hK hP 0 rfl rfl 0 (by decide) (hts (.fieldLink RX6 9 "DuelFrames$Tape" "frames" "I") (List.mem_of_getElem? (i := 1) rfl)) (fun _ h9 => h9) rfl dX6_playInto_14 ?_
      refine lv_icmp_ge (tgt := 49) hx hb dX6_playInto_17 (by decide) (fun c_7 => ?_) (fun c_7 => ?_)
      · have hr9 : X6_pin_run MV on tw fr upTo 600 0 (z_2, z_3) = (F9, G9) := by rw [hi.1, show 600 - j = (600 - (j + 1)) + 1 by omega, X6_pin_run_s]; simp only [← ez_2, ← ez_3, eq_false c_4, eq_true c_7, ↓reduceIte]
        have eo_8 : (X6_pin_run MV on tw fr upTo 600 0 ((X6_prepare_w2 F ap lm), (X6_prepare_w3 G ap rm))).1 = F9 := by (try simp only [← ez_2, ← ez_3]); have h9 := congrArg (fun z => z.1) hr9; dsimp only at h9; exact h9
        have eo_9 : (X6_pin_run MV on tw fr upTo 600 0 ((X6_prepare_w2 F ap lm), (X6_prepare_w3 G ap rm))).2 = G9 := by (try simp only [← ez_2, ← ez_3]); have h9 := congrArg (fun z => z.2) hr9; dsimp only at h9; exact h9
        have hP9 : va_P (dC, dI) vwCl ([(qT, .inr (6, [.int fr, .int ap, .int lm, .int rm, .ref qOn, .ref qTw])), (qOn, .inl (cY 0, 600, .inl on)), (qTw, .inl (cY 0, 600, .inl tw)), (qd, .inr (1, [.ref (AD 0), .ref ql, .ref qr])), (ql, .inr (2, figL (X6_pin_run MV on tw fr upTo 600 0 ((X6_prepare_w2 F ap lm), (X6_prepare_w3 G ap rm))).1)), (qr, .inr (2, figL (X6_pin_run MV on tw fr upTo 600 0 ((X6_prepare_w2 F ap lm), (X6_prepare_w3 G ap rm))).2)), (AD 0, .inr (5, [.int cnt, .ref (AD 1), .ref (AD 8)])), (AD 1, .inl (cY 2, 6, .inr (.inr (.inr (.inr (fun j => some (AD (2 + j))))))))] ++ bkM AD cY MV) H := by simp only [eo_8, eo_9]; exact hP
        have hD9 : va_D A ([(qT, .inr (6, [.int fr, .int ap, .int lm, .int rm, .ref qOn, .ref qTw])), (qOn, .inl (cY 0, 600, .inl on)), (qTw, .inl (cY 0, 600, .inl tw)), (qd, .inr (1, [.ref (AD 0), .ref ql, .ref qr])), (ql, .inr (2, figL (X6_pin_run MV on tw fr upTo 600 0 ((X6_prepare_w2 F ap lm), (X6_prepare_w3 G ap rm))).1)), (qr, .inr (2, figL (X6_pin_run MV on tw fr upTo 600 0 ((X6_prepare_w2 F ap lm), (X6_prepare_w3 G ap rm))).2)), (AD 0, .inr (5, [.int cnt, .ref (AD 1), .ref (AD 8)])), (AD 1, .inl (cY 2, 6, .inr (.inr (.inr (.inr (fun j => some (AD (2 + j))))))))] ++ bkM AD cY MV) := by simp only [eo_8, eo_9]; exact hD
        exact W.vret hx hb hr (fun t ht hW => ⟨⟨(), rfl, trivial, wPost_of hP9 hD9 ht⟩, hS.F ht⟩) hS.2.2 dX6_playInto_49
      · refine lv_iload_n hx hb dX6_playInto_20 rfl (lv_at hl 3 rfl) ?_
        refine lv_sipush (v := 600) hx hb dX6_playInto_21 (by decide) ?_
        refine lv_icmp_ge (tgt := 49) hx hb dX6_playInto_24 (by decide) (fun c_10 => ?_) (fun c_10 => ?_)
        · exact absurd c_10 (nI_ge (b := 600) hj (by decide))
        refine lv_aload_n hx hb dX6_playInto_27 rfl (lv_at hl 1 rfl) ?_
        refine lv_aload_n hx hb dX6_playInto_28 rfl (lv_at hl 0 rfl) ?_
        refine va_get (D := (dC, dI)) (ci := 6) (v := .ref qOn) (C := RX6) (T := TX6) (N := 6) hx hb hts inw_X6_playInto_X6 hown hK hP 0 rfl rfl 4 (by decide) (hts (.fieldLink RX6 24 "DuelFrames$Tape" "ones" "[I") (List.mem_of_getElem? (i := 2) rfl)) (fun _ h9 => h9) rfl dX6_playInto_29 ?_
        refine lv_iload_n hx hb dX6_playInto_32 rfl (lv_at hl 3 rfl) ?_
        refine va_iald hx hb hK hP 1 0 rfl rfl (by (try simp only [ez_3, ez_2]); exact (vp_in_nI hj (by decide))) dX6_playInto_33 ?_
        refine lv_topi (fun x_11 ex_11 => ?_)
        obtain rfl : x_11 = (on (nI j).toNatClampNeg) := ex_11
        refine lv_aload_n hx hb dX6_playInto_34 rfl (lv_at hl 0 rfl) ?_
        refine va_get (D := (dC, dI)) (ci := 6) (v := .ref qTw) (C := RX6) (T := TX6) (N := 6) hx hb hts inw_X6_playInto_X6 hown hK hP 0 rfl rfl 5 (by decide) (hts (.fieldLink RX6 28 "DuelFrames$Tape" "twos" "[I") (List.mem_of_getElem? (i := 3) rfl)) (fun _ h9 => h9) rfl dX6_playInto_35 ?_
        refine lv_iload_n hx hb dX6_playInto_38 rfl (lv_at hl 3 rfl) ?_
        refine va_iald hx hb hK hP 2 0 rfl rfl (by (try simp only [ez_3, ez_2]); exact (vp_in_nI hj (by decide))) dX6_playInto_39 ?_
        refine lv_topi (fun x_12 ex_12 => ?_)
        obtain rfl : x_12 = (tw (nI j).toNatClampNeg) := ex_12
        have hPc := hP.part (cx := [(qd, .inr (1, [.ref (AD 0), .ref ql, .ref qr])), (ql, .inr (2, figL F9)), (qr, .inr (2, figL G9)), (AD 0, .inr (5, [.int cnt, .ref (AD 1), .ref (AD 8)])), (AD 1, .inl (cY 2, 6, .inr (.inr (.inr (.inr (fun j => some (AD (2 + j))))))))]) [3, 4, 5, 6, 7] rfl
        have hDc := hD.part (cx := [(qd, .inr (1, [.ref (AD 0), .ref ql, .ref qr])), (ql, .inr (2, figL F9)), (qr, .inr (2, figL G9)), (AD 0, .inr (5, [.int cnt, .ref (AD 1), .ref (AD 8)])), (AD 1, .inl (cY 2, 6, .inr (.inr (.inr (.inr (fun j => some (AD (2 + j))))))))]) [3, 4, 5, 6, 7] (by decide) rfl
        have hFc := va_freeP (cx := [(qd, .inr (1, [.ref (AD 0), .ref ql, .ref qr])), (ql, .inr (2, figL F9)), (qr, .inr (2, figL G9)), (AD 0, .inr (5, [.int cnt, .ref (AD 1), .ref (AD 8)])), (AD 1, .inl (cY 2, 6, .inr (.inr (.inr (.inr (fun j => some (AD (2 + j))))))))]) (pl := bkM AD cY MV) hD hS hA [3, 4, 5, 6, 7] rfl
        refine va_callv (va_runV (As := [.int (on (nI j).toNatClampNeg), .int (tw (nI j).toNatClampNeg)]) (rest := []) ⟨hx, hb, hml, hown, hts⟩ (c_X1_playFrame l dC dI cY qd ql qr F9 G9 AD cnt MV (on (nI j).toNatClampNeg) (tw (nI j).toNatClampNeg) H.size) (cwV 2 hts gX6_playInto_X1_playFrame rfl rfl rfl (by decide +kernel) ⟨Nat.le_of_ble_eq_true rfl, Nat.le_of_ble_eq_true rfl⟩) ⟨blindW, va_recv hK hPc (ci := 1) (q0 := 0) rfl rfl, fun U hU hW => ⟨rfl, wPre_of hPc hK hN hDc U hU hW⟩⟩ rfl rfl hl.1 rfl (lv_room (Nat.le_of_ble_eq_true rfl)) dX6_playInto_40 ⟨Nat.zero_le _, Nat.zero_le _⟩) hS (fun q _ h => hFc q h) hFc (fun u t H1 locs ht hvm hw hB hz1 hk1 hS1 => ?_)
        have hJ := wJoinP (wr := [(qT, .inr (6, [.int fr, .int ap, .int lm, .int rm, .ref qOn, .ref qTw])), (qOn, .inl (cY 0, 600, .inl on)), (qTw, .inl (cY 0, 600, .inl tw))]) (rx := [(qd, .inr (1, [.ref (AD 0), .ref ql, .ref qr])), (ql, .inr (2, figL (X1_playFrame_w1 F9 G9 MV (on (nI j).toNatClampNeg) (tw (nI j).toNatClampNeg)))), (qr, .inr (2, figL (X1_playFrame_w2 F9 G9 MV (on (nI j).toNatClampNeg) (tw (nI j).toNatClampNeg)))), (AD 0, .inr (5, [.int cnt, .ref (AD 1), .ref (AD 8)])), (AD 1, .inl (cY 2, 6, .inr (.inr (.inr (.inr (fun j => some (AD (2 + j))))))))]) (wn := [(qT, .inr (6, [.int fr, .int ap, .int lm, .int rm, .ref qOn, .ref qTw])), (qOn, .inl (cY 0, 600, .inl on)), (qTw, .inl (cY 0, 600, .inl tw)), (qd, .inr (1, [.ref (AD 0), .ref ql, .ref qr])), (ql, .inr (2, figL (X1_playFrame_w1 F9 G9 MV (on (nI j).toNatClampNeg) (tw (nI j).toNatClampNeg)))), (qr, .inr (2, figL (X1_playFrame_w2 F9 G9 MV (on (nI j).toNatClampNeg) (tw (nI j).toNatClampNeg)))), (AD 0, .inr (5, [.int cnt, .ref (AD 1), .ref (AD 8)])), (AD 1, .inl (cY 2, 6, .inr (.inr (.inr (.inr (fun j => some (AD (2 + j))))))))]) hP hD [3, 4, 5, 6, 7] [0, 1, 2] rfl rfl (by decide) (by decide) hk1 hFc hB ht [0, 1, 2, 3, 4, 5, 6, 7] rfl (by decide)
        clear hB hk1 hFc hPc hDc hP hD hS hz1 hvm ht t
        obtain ⟨hP1, hD1⟩ := hJ
        generalize H1 = H at hP1 hS1 ⊢
        have hP : va_P (dC, dI) vwCl ([(qT, .inr (6, [.int fr, .int ap, .int lm, .int rm, .ref qOn, .ref qTw])), (qOn, .inl (cY 0, 600, .inl on)), (qTw, .inl (cY 0, 600, .inl tw)), (qd, .inr (1, [.ref (AD 0), .ref ql, .ref qr])), (ql, .inr (2, figL (X1_playFrame_w1 F9 G9 MV (on (nI j).toNatClampNeg) (tw (nI j).toNatClampNeg)))), (qr, .inr (2, figL (X1_playFrame_w2 F9 G9 MV (on (nI j).toNatClampNeg) (tw (nI j).toNatClampNeg)))), (AD 0, .inr (5, [.int cnt, .ref (AD 1), .ref (AD 8)])), (AD 1, .inl (cY 2, 6, .inr (.inr (.inr (.inr (fun j => some (AD (2 + j))))))))] ++ bkM AD cY MV) H := hP1
        have hD : va_D A ([(qT, .inr (6, [.int fr, .int ap, .int lm, .int rm, .ref qOn, .ref qTw])), (qOn, .inl (cY 0, 600, .inl on)), (qTw, .inl (cY 0, 600, .inl tw)), (qd, .inr (1, [.ref (AD 0), .ref ql, .ref qr])), (ql, .inr (2, figL (X1_playFrame_w1 F9 G9 MV (on (nI j).toNatClampNeg) (tw (nI j).toNatClampNeg)))), (qr, .inr (2, figL (X1_playFrame_w2 F9 G9 MV (on (nI j).toNatClampNeg) (tw (nI j).toNatClampNeg)))), (AD 0, .inr (5, [.int cnt, .ref (AD 1), .ref (AD 8)])), (AD 1, .inl (cY 2, 6, .inr (.inr (.inr (.inr (fun j => some (AD (2 + j))))))))] ++ bkM AD cY MV) := hD1
        have hS := hS1
        clear hP1 hD1 hS1
        obtain ⟨z_14, ez_14⟩ : ∃ z, z = (X1_playFrame_w1 F9 G9 MV (on (nI j).toNatClampNeg) (tw (nI j).toNatClampNeg)) := ⟨_, rfl⟩
        rw [← ez_14] at hP hD
        obtain ⟨z_15, ez_15⟩ : ∃ z, z = (X1_playFrame_w2 F9 G9 MV (on (nI j).toNatClampNeg) (tw (nI j).toNatClampNeg)) := ⟨_, rfl⟩
        rw [← ez_15] at hP hD
        refine lv_iinc (v := ((nI j) + 1)) (lv' := [(3, .int ((nI j) + 1)), (0, .ref qT), (1, .ref qd), (2, .int upTo)]) hx hb dX6_playInto_43 hl (k := 3) rfl (by first | rfl | decide) (by decide) rfl (fun ls hl => ?_)
        refine lv_goto (tgt := 7) hx hb dX6_playInto_46 (by decide) ?_
        have hP9 : va_P (dC, dI) vwCl ([(qT, .inr (6, [.int fr, .int ap, .int lm, .int rm, .ref qOn, .ref qTw])), (qOn, .inl (cY 0, 600, .inl on)), (qTw, .inl (cY 0, 600, .inl tw)), (qd, .inr (1, [.ref (AD 0), .ref ql, .ref qr])), (ql, .inr (2, figL z_14)), (qr, .inr (2, figL z_15)), (AD 0, .inr (5, [.int cnt, .ref (AD 1), .ref (AD 8)])), (AD 1, .inl (cY 2, 6, .inr (.inr (.inr (.inr (fun j => some (AD (2 + j))))))))] ++ bkM AD cY MV) H := by exact hP
        have hD9 : va_D A ([(qT, .inr (6, [.int fr, .int ap, .int lm, .int rm, .ref qOn, .ref qTw])), (qOn, .inl (cY 0, 600, .inl on)), (qTw, .inl (cY 0, 600, .inl tw)), (qd, .inr (1, [.ref (AD 0), .ref ql, .ref qr])), (ql, .inr (2, figL z_14)), (qr, .inr (2, figL z_15)), (AD 0, .inr (5, [.int cnt, .ref (AD 1), .ref (AD 8)])), (AD 1, .inl (cY 2, 6, .inr (.inr (.inr (.inr (fun j => some (AD (2 + j))))))))] ++ bkM AD cY MV) := by exact hD
        have hl9 : lv_has ls 4 [(0, .ref qT), (1, .ref qd), (2, .int upTo), (3, .int (nI (j + 1)))] := by rw [show nI (j + 1) = nI j + 1 from nI_succ _]; exact lv_sub hl [1, 2, 3, 0] rfl
        replace hk := hk (z_14, z_15)
        (try dsimp only at hk)
        exact hk ⟨by rw [hi.1, show 600 - j = (600 - (j + 1)) + 1 by omega, X6_pin_run_s]; simp only [← ez_2, ← ez_3, ← ez_14, ← ez_15, eq_false c_4, eq_false c_7, ↓reduceIte], trivial⟩ _ _ _ hP9 hD9 hS hl9
  · rintro ⟨F9, G9⟩ hi H locs ls hP hD hS hl
    (try dsimp only at hi)
    have hP : va_P (dC, dI) vwCl ([(qT, .inr (6, [.int fr, .int ap, .int lm, .int rm, .ref qOn, .ref qTw])), (qOn, .inl (cY 0, 600, .inl on)), (qTw, .inl (cY 0, 600, .inl tw)), (qd, .inr (1, [.ref (AD 0), .ref ql, .ref qr])), (ql, .inr (2, figL F9)), (qr, .inr (2, figL G9)), (AD 0, .inr (5, [.int cnt, .ref (AD 1), .ref (AD 8)])), (AD 1, .inl (cY 2, 6, .inr (.inr (.inr (.inr (fun j => some (AD (2 + j))))))))] ++ bkM AD cY MV) H := hP
    have hD : va_D A ([(qT, .inr (6, [.int fr, .int ap, .int lm, .int rm, .ref qOn, .ref qTw])), (qOn, .inl (cY 0, 600, .inl on)), (qTw, .inl (cY 0, 600, .inl tw)), (qd, .inr (1, [.ref (AD 0), .ref ql, .ref qr])), (ql, .inr (2, figL F9)), (qr, .inr (2, figL G9)), (AD 0, .inr (5, [.int cnt, .ref (AD 1), .ref (AD 8)])), (AD 1, .inl (cY 2, 6, .inr (.inr (.inr (.inr (fun j => some (AD (2 + j))))))))] ++ bkM AD cY MV) := hD
    have hl : lv_has ls 4 [(0, .ref qT), (1, .ref qd), (2, .int upTo), (3, .int 600)] := hl
    refine lv_iload_n hx hb dX6_playInto_7 rfl (lv_at hl 3 rfl) ?_
    refine lv_iload_n hx hb dX6_playInto_8 rfl (lv_at hl 2 rfl) ?_
    refine lv_icmp_ge (tgt := 49) hx hb dX6_playInto_9 (by decide) (fun c_16 => ?_) (fun c_16 => ?_)
    · have hr9 : X6_pin_run MV on tw fr upTo 600 0 (z_2, z_3) = (F9, G9) := hi.1
      have eo_17 : (X6_pin_run MV on tw fr upTo 600 0 ((X6_prepare_w2 F ap lm), (X6_prepare_w3 G ap rm))).1 = F9 := by (try simp only [← ez_2, ← ez_3]); have h9 := congrArg (fun z => z.1) hr9; dsimp only at h9; exact h9
      have eo_18 : (X6_pin_run MV on tw fr upTo 600 0 ((X6_prepare_w2 F ap lm), (X6_prepare_w3 G ap rm))).2 = G9 := by (try simp only [← ez_2, ← ez_3]); have h9 := congrArg (fun z => z.2) hr9; dsimp only at h9; exact h9
      have hP9 : va_P (dC, dI) vwCl ([(qT, .inr (6, [.int fr, .int ap, .int lm, .int rm, .ref qOn, .ref qTw])), (qOn, .inl (cY 0, 600, .inl on)), (qTw, .inl (cY 0, 600, .inl tw)), (qd, .inr (1, [.ref (AD 0), .ref ql, .ref qr])), (ql, .inr (2, figL (X6_pin_run MV on tw fr upTo 600 0 ((X6_prepare_w2 F ap lm), (X6_prepare_w3 G ap rm))).1)), (qr, .inr (2, figL (X6_pin_run MV on tw fr upTo 600 0 ((X6_prepare_w2 F ap lm), (X6_prepare_w3 G ap rm))).2)), (AD 0, .inr (5, [.int cnt, .ref (AD 1), .ref (AD 8)])), (AD 1, .inl (cY 2, 6, .inr (.inr (.inr (.inr (fun j => some (AD (2 + j))))))))] ++ bkM AD cY MV) H := by simp only [eo_17, eo_18]; exact hP
      have hD9 : va_D A ([(qT, .inr (6, [.int fr, .int ap, .int lm, .int rm, .ref qOn, .ref qTw])), (qOn, .inl (cY 0, 600, .inl on)), (qTw, .inl (cY 0, 600, .inl tw)), (qd, .inr (1, [.ref (AD 0), .ref ql, .ref qr])), (ql, .inr (2, figL (X6_pin_run MV on tw fr upTo 600 0 ((X6_prepare_w2 F ap lm), (X6_prepare_w3 G ap rm))).1)), (qr, .inr (2, figL (X6_pin_run MV on tw fr upTo 600 0 ((X6_prepare_w2 F ap lm), (X6_prepare_w3 G ap rm))).2)), (AD 0, .inr (5, [.int cnt, .ref (AD 1), .ref (AD 8)])), (AD 1, .inl (cY 2, 6, .inr (.inr (.inr (.inr (fun j => some (AD (2 + j))))))))] ++ bkM AD cY MV) := by simp only [eo_17, eo_18]; exact hD
      exact W.vret hx hb hr (fun t ht hW => ⟨⟨(), rfl, trivial, wPost_of hP9 hD9 ht⟩, hS.F ht⟩) hS.2.2 dX6_playInto_49
    · refine lv_iload_n hx hb dX6_playInto_12 rfl (lv_at hl 3 rfl) ?_
      refine lv_aload_n hx hb dX6_playInto_13 rfl (lv_at hl 0 rfl) ?_
      refine va_get (D := (dC, dI)) (ci := 6) (v := .int fr) (C := RX6) (T := TX6) (N := 6) hx hb hts inw_X6_playInto_X6 hown hK hP 0 rfl rfl 0 (by decide) (hts (.fieldLink RX6 9 "DuelFrames$Tape" "frames" "I") (List.mem_of_getElem? (i := 1) rfl)) (fun _ h9 => h9) rfl dX6_playInto_14 ?_
      refine lv_icmp_ge (tgt := 49) hx hb dX6_playInto_17 (by decide) (fun c_19 => ?_) (fun c_19 => ?_)
      · have hr9 : X6_pin_run MV on tw fr upTo 600 0 (z_2, z_3) = (F9, G9) := hi.1
        have eo_20 : (X6_pin_run MV on tw fr upTo 600 0 ((X6_prepare_w2 F ap lm), (X6_prepare_w3 G ap rm))).1 = F9 := by (try simp only [← ez_2, ← ez_3]); have h9 := congrArg (fun z => z.1) hr9; dsimp only at h9; exact h9
        have eo_21 : (X6_pin_run MV on tw fr upTo 600 0 ((X6_prepare_w2 F ap lm), (X6_prepare_w3 G ap rm))).2 = G9 := by (try simp only [← ez_2, ← ez_3]); have h9 := congrArg (fun z => z.2) hr9; dsimp only at h9; exact h9
        have hP9 : va_P (dC, dI) vwCl ([(qT, .inr (6, [.int fr, .int ap, .int lm, .int rm, .ref qOn, .ref qTw])), (qOn, .inl (cY 0, 600, .inl on)), (qTw, .inl (cY 0, 600, .inl tw)), (qd, .inr (1, [.ref (AD 0), .ref ql, .ref qr])), (ql, .inr (2, figL (X6_pin_run MV on tw fr upTo 600 0 ((X6_prepare_w2 F ap lm), (X6_prepare_w3 G ap rm))).1)), (qr, .inr (2, figL (X6_pin_run MV on tw fr upTo 600 0 ((X6_prepare_w2 F ap lm), (X6_prepare_w3 G ap rm))).2)), (AD 0, .inr (5, [.int cnt, .ref (AD 1), .ref (AD 8)])), (AD 1, .inl (cY 2, 6, .inr (.inr (.inr (.inr (fun j => some (AD (2 + j))))))))] ++ bkM AD cY MV) H := by simp only [eo_20, eo_21]; exact hP
        have hD9 : va_D A ([(qT, .inr (6, [.int fr, .int ap, .int lm, .int rm, .ref qOn, .ref qTw])), (qOn, .inl (cY 0, 600, .inl on)), (qTw, .inl (cY 0, 600, .inl tw)), (qd, .inr (1, [.ref (AD 0), .ref ql, .ref qr])), (ql, .inr (2, figL (X6_pin_run MV on tw fr upTo 600 0 ((X6_prepare_w2 F ap lm), (X6_prepare_w3 G ap rm))).1)), (qr, .inr (2, figL (X6_pin_run MV on tw fr upTo 600 0 ((X6_prepare_w2 F ap lm), (X6_prepare_w3 G ap rm))).2)), (AD 0, .inr (5, [.int cnt, .ref (AD 1), .ref (AD 8)])), (AD 1, .inl (cY 2, 6, .inr (.inr (.inr (.inr (fun j => some (AD (2 + j))))))))] ++ bkM AD cY MV) := by simp only [eo_20, eo_21]; exact hD
        exact W.vret hx hb hr (fun t ht hW => ⟨⟨(), rfl, trivial, wPost_of hP9 hD9 ht⟩, hS.F ht⟩) hS.2.2 dX6_playInto_49
      · refine lv_iload_n hx hb dX6_playInto_20 rfl (lv_at hl 3 rfl) ?_
        refine lv_sipush (v := 600) hx hb dX6_playInto_21 (by decide) ?_
        refine lv_icmp_ge (tgt := 49) hx hb dX6_playInto_24 (by decide) (fun c_22 => ?_) (fun c_22 => ?_)
        rotate_left
        · exact absurd (by decide) c_22
        have hr9 : X6_pin_run MV on tw fr upTo 600 0 (z_2, z_3) = (F9, G9) := hi.1
        have eo_23 : (X6_pin_run MV on tw fr upTo 600 0 ((X6_prepare_w2 F ap lm), (X6_prepare_w3 G ap rm))).1 = F9 := by (try simp only [← ez_2, ← ez_3]); have h9 := congrArg (fun z => z.1) hr9; dsimp only at h9; exact h9
        have eo_24 : (X6_pin_run MV on tw fr upTo 600 0 ((X6_prepare_w2 F ap lm), (X6_prepare_w3 G ap rm))).2 = G9 := by (try simp only [← ez_2, ← ez_3]); have h9 := congrArg (fun z => z.2) hr9; dsimp only at h9; exact h9
        have hP9 : va_P (dC, dI) vwCl ([(qT, .inr (6, [.int fr, .int ap, .int lm, .int rm, .ref qOn, .ref qTw])), (qOn, .inl (cY 0, 600, .inl on)), (qTw, .inl (cY 0, 600, .inl tw)), (qd, .inr (1, [.ref (AD 0), .ref ql, .ref qr])), (ql, .inr (2, figL (X6_pin_run MV on tw fr upTo 600 0 ((X6_prepare_w2 F ap lm), (X6_prepare_w3 G ap rm))).1)), (qr, .inr (2, figL (X6_pin_run MV on tw fr upTo 600 0 ((X6_prepare_w2 F ap lm), (X6_prepare_w3 G ap rm))).2)), (AD 0, .inr (5, [.int cnt, .ref (AD 1), .ref (AD 8)])), (AD 1, .inl (cY 2, 6, .inr (.inr (.inr (.inr (fun j => some (AD (2 + j))))))))] ++ bkM AD cY MV) H := by simp only [eo_23, eo_24]; exact hP
        have hD9 : va_D A ([(qT, .inr (6, [.int fr, .int ap, .int lm, .int rm, .ref qOn, .ref qTw])), (qOn, .inl (cY 0, 600, .inl on)), (qTw, .inl (cY 0, 600, .inl tw)), (qd, .inr (1, [.ref (AD 0), .ref ql, .ref qr])), (ql, .inr (2, figL (X6_pin_run MV on tw fr upTo 600 0 ((X6_prepare_w2 F ap lm), (X6_prepare_w3 G ap rm))).1)), (qr, .inr (2, figL (X6_pin_run MV on tw fr upTo 600 0 ((X6_prepare_w2 F ap lm), (X6_prepare_w3 G ap rm))).2)), (AD 0, .inr (5, [.int cnt, .ref (AD 1), .ref (AD 8)])), (AD 1, .inl (cY 2, 6, .inr (.inr (.inr (.inr (fun j => some (AD (2 + j))))))))] ++ bkM AD cY MV) := by simp only [eo_23, eo_24]; exact hD
        exact W.vret hx hb hr (fun t ht hW => ⟨⟨(), rfl, trivial, wPost_of hP9 hD9 ht⟩, hS.F ht⟩) hS.2.2 dX6_playInto_49
def X7_inputOf_r (move : Int32) : Int32 := (10 + move)
set_option maxHeartbeats 4000000 in
set_option maxRecDepth 100000 in
theorem c_X7_inputOf (l : Launch) (dC : Nat → ClassId) (dI : Nat → Nat → Nat) (cY : Nat → ClassId) (move : Int32)  (sz : Nat) : Met l yX7_inputOf wsX7_inputOf ({ frames := 0, cells := 0, slots := 0, locals := 0 } : Room) (va_Pc [.int move] (wPre (dC, dI) (tyL cY) [] sz)) (va_Qi (fun (r : Int32) (_ : Unit) => r = (X7_inputOf_r move)) (wPost (dC, dI) [] (va_A [] sz)) (va_A [] sz)) 0 0 (va_A [] sz) := by
  refine Met.ofW (cc := cX7_inputOf) (maxL := 1) (ret := (some .int)) (by decide) rfl ?_
  intro p e s m args below meth c s₁ B hml hv
  obtain ⟨rfl, hsz, hP, hK, hN, hD0⟩ := hv
  have hx := B.exec
  have hb := B.bytes
  have hr := B.returns
  have hts := atoms_spec (ws := wsX7_inputOf) B.pre
  have hown : s.vm.findClass RX7 = some m.cls := findClass_of_methodNamed B.named
  have hlocks := B.notSynchronized
  subst hsz
  have hD := hD0.self (sz := s.heap.size)
  generalize hAe : va_A [] s.heap.size = A at hD ⊢
  have hA : ∀ q : Nat, s.heap.size ≤ q → A q := fun q h => by rw [← hAe]; exact Or.inr h
  have hS : va_S A s.heap s.heap [] := va_S.rf
  have hP : va_P (dC, dI) vwCl [] s.heap := hP
  have hl := lv_entry ([.int move]) (n := 1) (Nat.le_of_ble_eq_true rfl)
  rw [lg_entry_eq]
  generalize (lg_sl ([.int move]) ++ List.replicate (1 - (lg_sl ([.int move])).length) Slot.unset).toArray = ls at hl ⊢
  have hl : lv_has ls 1 [(0, .int move)] := hl
  refine lv_bipush (v := 10) hx hb dX7_inputOf_0 (by decide) ?_
  refine lv_iload_n hx hb dX7_inputOf_2 rfl (lv_at hl 0 rfl) ?_
  refine lv_iadd hx hb dX7_inputOf_3 ?_
  have eo_1 : (X7_inputOf_r move) = (10 + move) := by rw [X7_inputOf_r]
  have hP9 : va_P (dC, dI) vwCl [] s.heap := hP
  have hD9 : va_D A [] := hD
  exact W.iret (v := (10 + move)) hx hb hr (fun t ht hW => ⟨⟨_, (), rfl, eo_1.symm, wPost_of hP9 hD9 ht⟩, hS.F ht⟩) hS.2.2 dX7_inputOf_4
theorem inw_X3_inputToBlock_X3 : ∀ w ∈ u_ws RX3 TX3 7, w ∈ wsX3_inputToBlock := fun _ h => List.mem_cons_of_mem _ (List.mem_append_left _ (List.mem_append_left _ (List.mem_append_right _ h)))
theorem inw_X3_inputToBlock_X4 : ∀ w ∈ u_ws RX4 TX4 8, w ∈ wsX3_inputToBlock := fun _ h => List.mem_cons_of_mem _ (List.mem_append_left _ (List.mem_append_right _ h))
def X3_inputToBlock_r (MV : Nat → Nat → Int32) (frame : Int32) (move : Int32) : Int32 := (if ((MV (mi move)) 0) < frame then (if ((MV (mi move)) 4) = 1 then 4 else 2) else 0)
set_option maxHeartbeats 4000000 in
set_option maxRecDepth 100000 in
theorem c_X3_inputToBlock (l : Launch) (dC : Nat → ClassId) (dI : Nat → Nat → Nat) (cY : Nat → ClassId) (qL : Nat) (qB : Nat) (qR : Nat) (qS : Nat) (bl : Int32) (bh : Int32) (qd : Nat) (AD : Nat → Nat) (cnt : Int32) (MV : Nat → Nat → Int32) (move : Int32) (frame : Int32)  : Met l yX3_inputToBlock wsX3_inputToBlock ({ frames := 1, cells := 0, slots := 0, locals := 21 } : Room) (va_Pc [.ref qL, .int move, .int frame] (rPre (dC, dI) (tyL cY) ([(qL, .inr (3, [.int bl, .ref (AD 0), .ref qd, .ref qB, .ref qR, .ref qS, .int bh])), (AD 0, .inr (5, [.int cnt, .ref (AD 1), .ref (AD 8)])), (AD 1, .inl (cY 2, 6, .inr (.inr (.inr (.inr (fun j => some (AD (2 + j))))))))] ++ bkM AD cY MV))) (vp_Si (fun r => r = (X3_inputToBlock_r MV frame move))) 0 0 (fun _ => False) := by
  refine Met.ofW (cc := cX3_inputToBlock) (maxL := 3) (ret := (some .int)) (by decide) rfl ?_
  intro p e s m args below meth c s₁ B hml hv
  obtain ⟨rfl, hP, hK, hN⟩ := hv
  have hx := B.exec
  have hb := B.bytes
  have hr := B.returns
  have hts := atoms_spec (ws := wsX3_inputToBlock) B.pre
  have hown : s.vm.findClass RX3 = some m.cls := findClass_of_methodNamed B.named
  have hlocks := B.notSynchronized
  have hP : va_P (dC, dI) vwCl ([(qL, .inr (3, [.int bl, .ref (AD 0), .ref qd, .ref qB, .ref qR, .ref qS, .int bh])), (AD 0, .inr (5, [.int cnt, .ref (AD 1), .ref (AD 8)])), (AD 1, .inl (cY 2, 6, .inr (.inr (.inr (.inr (fun j => some (AD (2 + j))))))))] ++ bkM AD cY MV) s.heap := hP
  have hl := lv_entry ([.ref qL, .int move, .int frame]) (n := 3) (Nat.le_of_ble_eq_true rfl)
  rw [lg_entry_eq]
  generalize (lg_sl ([.ref qL, .int move, .int frame]) ++ List.replicate (3 - (lg_sl ([.ref qL, .int move, .int frame])).length) Slot.unset).toArray = ls at hl ⊢
  have hl : lv_has ls 3 [(0, .ref qL), (1, .int move), (2, .int frame)] := hl
  refine lv_iload_n hx hb dX3_inputToBlock_0 rfl (lv_at hl 2 rfl) ?_
  refine lv_aload_n hx hb dX3_inputToBlock_1 rfl (lv_at hl 0 rfl) ?_
  refine va_get (D := (dC, dI)) (ci := 3) (v := .ref (AD 0)) (C := RX3) (T := TX3) (N := 7) hx hb hts inw_X3_inputToBlock_X3 hown hK hP 0 rfl rfl 1 (by decide) (hts (.fieldLink RX3 31 "DuelFrames$Lab" "moves" "LDuelFrames$MoveList;") (List.mem_of_getElem? (i := 1) rfl)) (fun _ h9 => h9) rfl dX3_inputToBlock_2 ?_
  refine lv_iload_n hx hb dX3_inputToBlock_5 rfl (lv_at hl 1 rfl) ?_
  have hPc := hP.sub (ws' := [(AD 0, .inr (5, [.int cnt, .ref (AD 1), .ref (AD 8)])), (AD 1, .inl (cY 2, 6, .inr (.inr (.inr (.inr (fun j => some (AD (2 + j))))))))]) [1, 2] rfl
  refine va_csr (W.runV (As := [.int move]) (rest := [.int frame]) ⟨hx, hb, hml, hown, hts⟩ (c_X5_at l dC dI cY AD cnt move) (cwV 1 hts gX3_inputToBlock_X5_at rfl rfl rfl (by decide +kernel) ⟨Nat.le_of_ble_eq_true rfl, Nat.le_of_ble_eq_true rfl⟩) ⟨blindR, va_recv hK hPc (ci := 5) (q0 := 0) rfl rfl, fun U hU hW => ⟨rfl, rPre_of hPc hK hN U hU hW⟩⟩ rfl rfl hl.1 rfl (lv_room (Nat.le_of_ble_eq_true rfl)) dX3_inputToBlock_6 ⟨Nat.zero_le _, Nat.zero_le _⟩) (fun r hw => ?_)
  subst hw
  have hPm := bk_move hP (mi_lt move)
  refine va_get (D := (dC, dI)) (ci := 4) (v := .int ((MV (mi move)) 0)) (C := RX4) (T := TX4) (N := 8) hx hb hts inw_X3_inputToBlock_X4 hown hK hPm 0 rfl rfl 0 (by decide) (hts (.fieldLink RX3 76 "DuelFrames$Move" "startup" "I") (List.mem_of_getElem? (i := 2) rfl)) (fun _ h9 => h9) rfl dX3_inputToBlock_9 ?_
  refine lv_icmp_gt (tgt := 17) hx hb dX3_inputToBlock_12 (by decide) (fun c_1 => ?_) (fun c_1 => ?_)
  · refine lv_aload_n hx hb dX3_inputToBlock_17 rfl (lv_at hl 0 rfl) ?_
    refine va_get (D := (dC, dI)) (ci := 3) (v := .ref (AD 0)) (C := RX3) (T := TX3) (N := 7) hx hb hts inw_X3_inputToBlock_X3 hown hK hP 0 rfl rfl 1 (by decide) (hts (.fieldLink RX3 31 "DuelFrames$Lab" "moves" "LDuelFrames$MoveList;") (List.mem_of_getElem? (i := 1) rfl)) (fun _ h9 => h9) rfl dX3_inputToBlock_18 ?_
    refine lv_iload_n hx hb dX3_inputToBlock_21 rfl (lv_at hl 1 rfl) ?_
    have hPc := hP.sub (ws' := [(AD 0, .inr (5, [.int cnt, .ref (AD 1), .ref (AD 8)])), (AD 1, .inl (cY 2, 6, .inr (.inr (.inr (.inr (fun j => some (AD (2 + j))))))))]) [1, 2] rfl
    refine va_csr (W.runV (As := [.int move]) (rest := []) ⟨hx, hb, hml, hown, hts⟩ (c_X5_at l dC dI cY AD cnt move) (cwV 1 hts gX3_inputToBlock_X5_at rfl rfl rfl (by decide +kernel) ⟨Nat.le_of_ble_eq_true rfl, Nat.le_of_ble_eq_true rfl⟩) ⟨blindR, va_recv hK hPc (ci := 5) (q0 := 0) rfl rfl, fun U hU hW => ⟨rfl, rPre_of hPc hK hN U hU hW⟩⟩ rfl rfl hl.1 rfl (lv_room (Nat.le_of_ble_eq_true rfl)) dX3_inputToBlock_22 ⟨Nat.zero_le _, Nat.zero_le _⟩) (fun r hw => ?_)
    subst hw
    have hPm := bk_move hP (mi_lt move)
    refine va_get (D := (dC, dI)) (ci := 4) (v := .int ((MV (mi move)) 4)) (C := RX4) (T := TX4) (N := 8) hx hb hts inw_X3_inputToBlock_X4 hown hK hPm 0 rfl rfl 4 (by decide) (hts (.fieldLink RX3 81 "DuelFrames$Move" "kind" "I") (List.mem_of_getElem? (i := 3) rfl)) (fun _ h9 => h9) rfl dX3_inputToBlock_25 ?_
    refine lv_iconst (v := 1) hx hb dX3_inputToBlock_28 (by decide) ?_
    refine lv_icmp_ne (tgt := 36) hx hb dX3_inputToBlock_29 (by decide) (fun c_2 => ?_) (fun c_2 => ?_)
    · refine lv_iconst (v := 2) hx hb dX3_inputToBlock_36 (by decide) ?_
      have eo_3 : (X3_inputToBlock_r MV frame move) = 2 := by rw [X3_inputToBlock_r]; simp only [eq_true c_1, eq_false c_2, ↓reduceIte]
      exact W.iret (v := 2) hx hb hr (fun t ht _ => ⟨_, rfl, eo_3.symm, ht⟩) (fun _ h => absurd h List.not_mem_nil) dX3_inputToBlock_37
    · refine lv_iconst (v := 4) hx hb dX3_inputToBlock_32 (by decide) ?_
      refine lv_goto (tgt := 37) hx hb dX3_inputToBlock_33 (by decide) ?_
      have eo_4 : (X3_inputToBlock_r MV frame move) = 4 := by rw [X3_inputToBlock_r]; simp only [eq_true c_1, eq_true c_2, ↓reduceIte]
      exact W.iret (v := 4) hx hb hr (fun t ht _ => ⟨_, rfl, eo_4.symm, ht⟩) (fun _ h => absurd h List.not_mem_nil) dX3_inputToBlock_37
  · refine lv_iconst (v := 0) hx hb dX3_inputToBlock_15 (by decide) ?_
    have eo_5 : (X3_inputToBlock_r MV frame move) = 0 := by rw [X3_inputToBlock_r]; simp only [eq_false c_1, ↓reduceIte]
    exact W.iret (v := 0) hx hb hr (fun t ht _ => ⟨_, rfl, eo_5.symm, ht⟩) (fun _ h => absurd h List.not_mem_nil) dX3_inputToBlock_16
theorem inw_X3_lossOfPunished_X3 : ∀ w ∈ u_ws RX3 TX3 7, w ∈ wsX3_lossOfPunished := fun _ h => List.mem_cons_of_mem _ (List.mem_append_left _ (List.mem_append_left _ (List.mem_append_left _ (List.mem_append_left _ (List.mem_append_right _ h)))))
def X3_lossOfPunished_j46 (MV : Nat → Nat → Int32) (hpu : Int32) (j : Nat) (move : Int32) : Int32 := (if hpu = 0 then (X3_inputToBlock_r MV (nI (j + 1)) move) else 0)
theorem inw_X3_lossOfPunished_X1 : ∀ w ∈ u_ws RX1 TX1 3, w ∈ wsX3_lossOfPunished := fun _ h => List.mem_cons_of_mem _ (List.mem_append_left _ (List.mem_append_left _ (List.mem_append_left _ (List.mem_append_right _ h))))
theorem inw_X3_lossOfPunished_X2 : ∀ w ∈ u_ws RX2 TX2 16, w ∈ wsX3_lossOfPunished := fun _ h => List.mem_cons_of_mem _ (List.mem_append_left _ (List.mem_append_left _ (List.mem_append_right _ h)))
def X3_lossOfPunished_j80 (MV : Nat → Nat → Int32) (G9 : Nat → Int32) (by_ : Int32) (hbl : Int32) (hpu : Int32) (j : Nat) (move : Int32) : Int32 := (if hbl = 0 then (X3_lossOfPunished_j46 MV hpu j move) else (if hpu = 0 then (if (G9 3) = 0 then (X7_inputOf_r by_) else (X3_lossOfPunished_j46 MV hpu j move)) else (X3_lossOfPunished_j46 MV hpu j move)))
def X3_lossOfPunished_j80_1 (G9 : Nat → Int32) (hbl : Int32) (hpu : Int32) : Int32 := (if hbl = 0 then hpu else (if hpu = 0 then (if (G9 3) = 0 then 1 else hpu) else hpu))
def X3_lossOfPunished_j98 (guard : Int32) (j : Nat) (move : Int32) : Int32 := (if (nI (j + 1)) = 1 then (X7_inputOf_r move) else guard)
def X3_lossOfPunished_j127 (MV : Nat → Nat → Int32) (F9 : Nat → Int32) (G9 : Nat → Int32) (by_ : Int32) (guard : Int32) (hbl : Int32) (hpu : Int32) (j : Nat) (move : Int32) : Int32 := (if hbl = 0 then (if ((X1_playFrame_w2 F9 G9 MV (X3_lossOfPunished_j98 guard j move) (X3_lossOfPunished_j80 MV G9 by_ hbl hpu j move)) 3) = 3 then 1 else 0) else 1)
def X3_lop_step (MV : Nat → Nat → Int32) (by_ : Int32) (guard : Int32) (move : Int32) (j : Nat) (x : (Nat → Int32) × (Nat → Int32) × Int32 × Int32) : (Nat → Int32) × (Nat → Int32) × Int32 × Int32 := ((X1_playFrame_w1 x.1 x.2.1 MV (X3_lossOfPunished_j98 guard j move) (X3_lossOfPunished_j80 MV x.2.1 by_ x.2.2.1 x.2.2.2 j move)), (X1_playFrame_w2 x.1 x.2.1 MV (X3_lossOfPunished_j98 guard j move) (X3_lossOfPunished_j80 MV x.2.1 by_ x.2.2.1 x.2.2.2 j move)), (X3_lossOfPunished_j127 MV x.1 x.2.1 by_ guard x.2.2.1 x.2.2.2 j move), (X3_lossOfPunished_j80_1 x.2.1 x.2.2.1 x.2.2.2))
def X3_lop_it (MV : Nat → Nat → Int32) (by_ : Int32) (guard : Int32) (move : Int32) (x0 : (Nat → Int32) × (Nat → Int32) × Int32 × Int32) : Nat → (Nat → Int32) × (Nat → Int32) × Int32 × Int32
  | 0 => x0
  | n + 1 => X3_lop_step MV by_ guard move n (X3_lop_it MV by_ guard move x0 n)
def X3_lossOfPunished_w2 (F : Nat → Int32) (G : Nat → Int32) (MV : Nat → Nat → Int32) (by_ : Int32) (guard : Int32) (move : Int32) : Nat → Int32 := (X3_lop_it MV by_ guard move ((X1_prepare_w1 F 20 100), (X1_prepare_w2 G 20 100), 0, 0) 200).1
def X3_lossOfPunished_w3 (F : Nat → Int32) (G : Nat → Int32) (MV : Nat → Nat → Int32) (by_ : Int32) (guard : Int32) (move : Int32) : Nat → Int32 := (X3_lop_it MV by_ guard move ((X1_prepare_w1 F 20 100), (X1_prepare_w2 G 20 100), 0, 0) 200).2.1
def X3_lossOfPunished_r (F : Nat → Int32) (G : Nat → Int32) (MV : Nat → Nat → Int32) (by_ : Int32) (guard : Int32) (move : Int32) : Int32 := (1000 - ((X3_lop_it MV by_ guard move ((X1_prepare_w1 F 20 100), (X1_prepare_w2 G 20 100), 0, 0) 200).1 1))
set_option maxHeartbeats 4000000 in
set_option maxRecDepth 100000 in
theorem c_X3_lossOfPunished (l : Launch) (dC : Nat → ClassId) (dI : Nat → Nat → Nat) (cY : Nat → ClassId) (qL : Nat) (qB : Nat) (qR : Nat) (qS : Nat) (bl : Int32) (bh : Int32) (qd : Nat) (ql : Nat) (qr : Nat) (F : Nat → Int32) (G : Nat → Int32) (AD : Nat → Nat) (cnt : Int32) (MV : Nat → Nat → Int32) (move : Int32) (by_ : Int32) (guard : Int32)  (sz : Nat) : Met l yX3_lossOfPunished wsX3_lossOfPunished ({ frames := 5, cells := 0, slots := 0, locals := 114 } : Room) (va_Pc [.ref qL, .int move, .int by_, .int guard] (wPre (dC, dI) (tyL cY) ([(qL, .inr (3, [.int bl, .ref (AD 0), .ref qd, .ref qB, .ref qR, .ref qS, .int bh])), (qd, .inr (1, [.ref (AD 0), .ref ql, .ref qr])), (ql, .inr (2, figL F)), (qr, .inr (2, figL G)), (AD 0, .inr (5, [.int cnt, .ref (AD 1), .ref (AD 8)])), (AD 1, .inl (cY 2, 6, .inr (.inr (.inr (.inr (fun j => some (AD (2 + j))))))))] ++ bkM AD cY MV) sz)) (va_Qi (fun (r : Int32) (_ : Unit) => r = (X3_lossOfPunished_r F G MV by_ guard move)) (wPost (dC, dI) ([(qL, .inr (3, [.int bl, .ref (AD 0), .ref qd, .ref qB, .ref qR, .ref qS, .int bh])), (qd, .inr (1, [.ref (AD 0), .ref ql, .ref qr])), (ql, .inr (2, figL (X3_lossOfPunished_w2 F G MV by_ guard move))), (qr, .inr (2, figL (X3_lossOfPunished_w3 F G MV by_ guard move))), (AD 0, .inr (5, [.int cnt, .ref (AD 1), .ref (AD 8)])), (AD 1, .inl (cY 2, 6, .inr (.inr (.inr (.inr (fun j => some (AD (2 + j))))))))] ++ bkM AD cY MV) (va_A ([(qL, .inr (3, [.int bl, .ref (AD 0), .ref qd, .ref qB, .ref qR, .ref qS, .int bh])), (qd, .inr (1, [.ref (AD 0), .ref ql, .ref qr])), (ql, .inr (2, figL F)), (qr, .inr (2, figL G)), (AD 0, .inr (5, [.int cnt, .ref (AD 1), .ref (AD 8)])), (AD 1, .inl (cY 2, 6, .inr (.inr (.inr (.inr (fun j => some (AD (2 + j))))))))] ++ bkM AD cY MV) sz)) (va_A ([(qL, .inr (3, [.int bl, .ref (AD 0), .ref qd, .ref qB, .ref qR, .ref qS, .int bh])), (qd, .inr (1, [.ref (AD 0), .ref ql, .ref qr])), (ql, .inr (2, figL F)), (qr, .inr (2, figL G)), (AD 0, .inr (5, [.int cnt, .ref (AD 1), .ref (AD 8)])), (AD 1, .inl (cY 2, 6, .inr (.inr (.inr (.inr (fun j => some (AD (2 + j))))))))] ++ bkM AD cY MV) sz)) 0 0 (va_A ([(qL, .inr (3, [.int bl, .ref (AD 0), .ref qd, .ref qB, .ref qR, .ref qS, .int bh])), (qd, .inr (1, [.ref (AD 0), .ref ql, .ref qr])), (ql, .inr (2, figL F)), (qr, .inr (2, figL G)), (AD 0, .inr (5, [.int cnt, .ref (AD 1), .ref (AD 8)])), (AD 1, .inl (cY 2, 6, .inr (.inr (.inr (.inr (fun j => some (AD (2 + j))))))))] ++ bkM AD cY MV) sz) := by
  refine Met.ofW (cc := cX3_lossOfPunished) (maxL := 8) (ret := (some .int)) (by decide) rfl ?_
  intro p e s m args below meth c s₁ B hml hv
  obtain ⟨rfl, hsz, hP, hK, hN, hD0⟩ := hv
  have hx := B.exec
  have hb := B.bytes
  have hr := B.returns
  have hts := atoms_spec (ws := wsX3_lossOfPunished) B.pre
  have hown : s.vm.findClass RX3 = some m.cls := findClass_of_methodNamed B.named
  have hlocks := B.notSynchronized
  subst hsz
  have hD := hD0.self (sz := s.heap.size)
  generalize hAe : va_A ([(qL, .inr (3, [.int bl, .ref (AD 0), .ref qd, .ref qB, .ref qR, .ref qS, .int bh])), (qd, .inr (1, [.ref (AD 0), .ref ql, .ref qr])), (ql, .inr (2, figL F)), (qr, .inr (2, figL G)), (AD 0, .inr (5, [.int cnt, .ref (AD 1), .ref (AD 8)])), (AD 1, .inl (cY 2, 6, .inr (.inr (.inr (.inr (fun j => some (AD (2 + j))))))))] ++ bkM AD cY MV) s.heap.size = A at hD ⊢
  have hA : ∀ q : Nat, s.heap.size ≤ q → A q := fun q h => by rw [← hAe]; exact Or.inr h
  have hS : va_S A s.heap s.heap [] := va_S.rf
  have hP : va_P (dC, dI) vwCl ([(qL, .inr (3, [.int bl, .ref (AD 0), .ref qd, .ref qB, .ref qR, .ref qS, .int bh])), (qd, .inr (1, [.ref (AD 0), .ref ql, .ref qr])), (ql, .inr (2, figL F)), (qr, .inr (2, figL G)), (AD 0, .inr (5, [.int cnt, .ref (AD 1), .ref (AD 8)])), (AD 1, .inl (cY 2, 6, .inr (.inr (.inr (.inr (fun j => some (AD (2 + j))))))))] ++ bkM AD cY MV) s.heap := hP
  have hl := lv_entry ([.ref qL, .int move, .int by_, .int guard]) (n := 8) (Nat.le_of_ble_eq_true rfl)
  rw [lg_entry_eq]
  generalize (lg_sl ([.ref qL, .int move, .int by_, .int guard]) ++ List.replicate (8 - (lg_sl ([.ref qL, .int move, .int by_, .int guard])).length) Slot.unset).toArray = ls at hl ⊢
  have hl : lv_has ls 8 [(0, .ref qL), (1, .int move), (2, .int by_), (3, .int guard)] := hl
  refine lv_iconst (v := 0) hx hb dX3_lossOfPunished_0 (by decide) ?_
  refine lv_istore (lv' := [(4, .int 0), (0, .ref qL), (1, .int move), (2, .int by_), (3, .int guard)]) hx hb dX3_lossOfPunished_1 hl (by decide) rfl (fun ls hl => ?_)
  refine lv_iconst (v := 0) hx hb dX3_lossOfPunished_3 (by decide) ?_
  refine lv_istore (lv' := [(5, .int 0), (4, .int 0), (0, .ref qL), (1, .int move), (2, .int by_), (3, .int guard)]) hx hb dX3_lossOfPunished_4 hl (by decide) rfl (fun ls hl => ?_)
  refine lv_aload_n hx hb dX3_lossOfPunished_6 rfl (lv_at hl 2 rfl) ?_
  refine va_get (D := (dC, dI)) (ci := 3) (v := .ref qd) (C := RX3) (T := TX3) (N := 7) hx hb hts inw_X3_lossOfPunished_X3 hown hK hP 0 rfl rfl 2 (by decide) (hts (.fieldLink RX3 38 "DuelFrames$Lab" "trial" "LDuelFrames$Duel;") (List.mem_of_getElem? (i := 1) rfl)) (fun _ h9 => h9) rfl dX3_lossOfPunished_7 ?_
  refine lv_bipush (v := 20) hx hb dX3_lossOfPunished_10 (by decide) ?_
  refine lv_bipush (v := 100) hx hb dX3_lossOfPunished_12 (by decide) ?_
  refine lv_bipush (v := 100) hx hb dX3_lossOfPunished_14 (by decide) ?_
  have hPc := hP.sub (ws' := [(qd, .inr (1, [.ref (AD 0), .ref ql, .ref qr])), (ql, .inr (2, figL F)), (qr, .inr (2, figL G))]) [1, 2, 3] rfl
  have hDc := hD.sub (ws' := [(qd, .inr (1, [.ref (AD 0), .ref ql, .ref qr])), (ql, .inr (2, figL F)), (qr, .inr (2, figL G))]) [1, 2, 3] (by decide) rfl
  have hFc := va_free (wc := [(qd, .inr (1, [.ref (AD 0), .ref ql, .ref qr])), (ql, .inr (2, figL F)), (qr, .inr (2, figL G))]) hD hS hA [1, 2, 3] rfl
  refine va_callv (va_runV (As := [.int 20, .int 100, .int 100]) (rest := []) ⟨hx, hb, hml, hown, hts⟩ (c_X1_prepare l dC dI cY qd (AD 0) ql qr F G 20 100 100 s.heap.size) (cwV 3 hts gX3_lossOfPunished_X1_prepare rfl rfl rfl (by decide +kernel) ⟨Nat.le_of_ble_eq_true rfl, Nat.le_of_ble_eq_true rfl⟩) ⟨blindW, va_recv hK hPc (ci := 1) (q0 := 0) rfl rfl, fun U hU hW => ⟨rfl, wPre_of hPc hK hN hDc U hU hW⟩⟩ rfl rfl hl.1 rfl (lv_room (Nat.le_of_ble_eq_true rfl)) dX3_lossOfPunished_16 ⟨Nat.zero_le _, Nat.zero_le _⟩) hS (fun q _ h => hFc q h) hFc (fun u t H1 locs ht hvm hw hB hz1 hk1 hS1 => ?_)
  have hJ := wJoinQ (wr := [(qL, .inr (3, [.int bl, .ref (AD 0), .ref qd, .ref qB, .ref qR, .ref qS, .int bh])), (AD 0, .inr (5, [.int cnt, .ref (AD 1), .ref (AD 8)])), (AD 1, .inl (cY 2, 6, .inr (.inr (.inr (.inr (fun j => some (AD (2 + j))))))))]) (w1 := [(qd, .inr (1, [.ref (AD 0), .ref ql, .ref qr])), (ql, .inr (2, figL (X1_prepare_w1 F 20 100))), (qr, .inr (2, figL (X1_prepare_w2 G 20 100)))]) (wn := [(qL, .inr (3, [.int bl, .ref (AD 0), .ref qd, .ref qB, .ref qR, .ref qS, .int bh])), (qd, .inr (1, [.ref (AD 0), .ref ql, .ref qr])), (ql, .inr (2, figL (X1_prepare_w1 F 20 100))), (qr, .inr (2, figL (X1_prepare_w2 G 20 100))), (AD 0, .inr (5, [.int cnt, .ref (AD 1), .ref (AD 8)])), (AD 1, .inl (cY 2, 6, .inr (.inr (.inr (.inr (fun j => some (AD (2 + j))))))))]) hP hD [1, 2, 3] [0, 4, 5] rfl rfl (by decide) (by decide) hk1 hFc hB ht [0, 3, 4, 5, 1, 2] rfl (by decide)
  clear hB hk1 hFc hPc hDc hP hD hS hz1 hvm ht t
  obtain ⟨hP1, hD1⟩ := hJ
  generalize H1 = H at hP1 hS1 ⊢
  have hP : va_P (dC, dI) vwCl ([(qL, .inr (3, [.int bl, .ref (AD 0), .ref qd, .ref qB, .ref qR, .ref qS, .int bh])), (qd, .inr (1, [.ref (AD 0), .ref ql, .ref qr])), (ql, .inr (2, figL (X1_prepare_w1 F 20 100))), (qr, .inr (2, figL (X1_prepare_w2 G 20 100))), (AD 0, .inr (5, [.int cnt, .ref (AD 1), .ref (AD 8)])), (AD 1, .inl (cY 2, 6, .inr (.inr (.inr (.inr (fun j => some (AD (2 + j))))))))] ++ bkM AD cY MV) H := hP1
  have hD : va_D A ([(qL, .inr (3, [.int bl, .ref (AD 0), .ref qd, .ref qB, .ref qR, .ref qS, .int bh])), (qd, .inr (1, [.ref (AD 0), .ref ql, .ref qr])), (ql, .inr (2, figL (X1_prepare_w1 F 20 100))), (qr, .inr (2, figL (X1_prepare_w2 G 20 100))), (AD 0, .inr (5, [.int cnt, .ref (AD 1), .ref (AD 8)])), (AD 1, .inl (cY 2, 6, .inr (.inr (.inr (.inr (fun j => some (AD (2 + j))))))))] ++ bkM AD cY MV) := hD1
  have hS := hS1
  clear hP1 hD1 hS1
  obtain ⟨z_2, ez_2⟩ : ∃ z, z = (X1_prepare_w1 F 20 100) := ⟨_, rfl⟩
  rw [← ez_2] at hP hD
  obtain ⟨z_3, ez_3⟩ : ∃ z, z = (X1_prepare_w2 G 20 100) := ⟨_, rfl⟩
  rw [← ez_3] at hP hD
  refine lv_iconst (v := 1) hx hb dX3_lossOfPunished_19 (by decide) ?_
  refine lv_istore (lv' := [(6, .int 1), (5, .int 0), (4, .int 0), (0, .ref qL), (1, .int move), (2, .int by_), (3, .int guard)]) hx hb dX3_lossOfPunished_20 hl (by decide) rfl (fun ls hl => ?_)
  refine loopI (D := (dC, dI)) (σ := (Nat → Int32) × (Nat → Int32) × Int32 × Int32) 200 (fun j x => ([(qL, .inr (3, [.int bl, .ref (AD 0), .ref qd, .ref qB, .ref qR, .ref qS, .int bh])), (qd, .inr (1, [.ref (AD 0), .ref ql, .ref qr])), (ql, .inr (2, figL x.1)), (qr, .inr (2, figL x.2.1)), (AD 0, .inr (5, [.int cnt, .ref (AD 1), .ref (AD 8)])), (AD 1, .inl (cY 2, 6, .inr (.inr (.inr (.inr (fun j => some (AD (2 + j))))))))] ++ bkM AD cY MV)) (fun j x => [(0, .ref qL), (1, .int move), (2, .int by_), (3, .int guard), (4, .int x.2.2.1), (5, .int x.2.2.2), (6, .int (nI (j + 1)))]) 22 8 (A := A) (H0 := s.heap) (fun j x => x = (X3_lop_it MV by_ guard move (z_2, z_3, 0, 0) j)) ?_ ?_ (z_2, z_3, 0, 0) rfl hP hD hS (lv_sub hl [3, 4, 5, 6, 2, 1, 0] rfl)
  · rintro j ⟨F9, G9, hbl, hpu⟩ hj hi H locs ls hP hD hS hl hk
    have hP : va_P (dC, dI) vwCl ([(qL, .inr (3, [.int bl, .ref (AD 0), .ref qd, .ref qB, .ref qR, .ref qS, .int bh])), (qd, .inr (1, [.ref (AD 0), .ref ql, .ref qr])), (ql, .inr (2, figL F9)), (qr, .inr (2, figL G9)), (AD 0, .inr (5, [.int cnt, .ref (AD 1), .ref (AD 8)])), (AD 1, .inl (cY 2, 6, .inr (.inr (.inr (.inr (fun j => some (AD (2 + j))))))))] ++ bkM AD cY MV) H := hP
    have hD : va_D A ([(qL, .inr (3, [.int bl, .ref (AD 0), .ref qd, .ref qB, .ref qR, .ref qS, .int bh])), (qd, .inr (1, [.ref (AD 0), .ref ql, .ref qr])), (ql, .inr (2, figL F9)), (qr, .inr (2, figL G9)), (AD 0, .inr (5, [.int cnt, .ref (AD 1), .ref (AD 8)])), (AD 1, .inl (cY 2, 6, .inr (.inr (.inr (.inr (fun j => some (AD (2 + j))))))))] ++ bkM AD cY MV) := hD
    have hl : lv_has ls 8 [(0, .ref qL), (1, .int move), (2, .int by_), (3, .int guard), (4, .int hbl), (5, .int hpu), (6, .int (nI (j + 1)))] := hl
    (try dsimp only at hi)
    refine lv_iload hx hb dX3_lossOfPunished_22 (lv_at hl 6 rfl) ?_
    refine lv_sipush (v := 200) hx hb dX3_lossOfPunished_24 (by decide) ?_
    refine lv_icmp_gt (tgt := 135) hx hb dX3_lossOfPunished_27 (by decide) (fun c_4 => ?_) (fun c_4 => ?_)
    · exact absurd c_4 (nI_nlt (a := 200) hj (by decide))
    refine lv_iload hx hb dX3_lossOfPunished_30 (lv_at hl 5 rfl) ?_
    refine jnW (D := (dC, dI)) (ws := ([(qL, .inr (3, [.int bl, .ref (AD 0), .ref qd, .ref qB, .ref qR, .ref qS, .int bh])), (qd, .inr (1, [.ref (AD 0), .ref ql, .ref qr])), (ql, .inr (2, figL F9)), (qr, .inr (2, figL G9)), (AD 0, .inr (5, [.int cnt, .ref (AD 1), .ref (AD 8)])), (AD 1, .inl (cY 2, 6, .inr (.inr (.inr (.inr (fun j => some (AD (2 + j))))))))] ++ bkM AD cY MV)) (lv := [(0, .ref qL), (1, .int move), (2, .int by_), (3, .int guard), (4, .int hbl), (5, .int hpu), (6, .int (nI (j + 1)))]) (st := [.int (X3_lossOfPunished_j46 MV hpu j move)]) (J := 46) (n := 8) (A := A) (H0 := s.heap) ?_ ?_
    · intro H locs ls hP hD hS hl
      refine lv_istore (lv' := [(7, .int (X3_lossOfPunished_j46 MV hpu j move)), (0, .ref qL), (1, .int move), (2, .int by_), (3, .int guard), (4, .int hbl), (5, .int hpu), (6, .int (nI (j + 1)))]) hx hb dX3_lossOfPunished_46 hl (by decide) rfl (fun ls hl => ?_)
      refine lv_iload hx hb dX3_lossOfPunished_48 (lv_at hl 5 rfl) ?_
      refine jnW (D := (dC, dI)) (ws := ([(qL, .inr (3, [.int bl, .ref (AD 0), .ref qd, .ref qB, .ref qR, .ref qS, .int bh])), (qd, .inr (1, [.ref (AD 0), .ref ql, .ref qr])), (ql, .inr (2, figL F9)), (qr, .inr (2, figL G9)), (AD 0, .inr (5, [.int cnt, .ref (AD 1), .ref (AD 8)])), (AD 1, .inl (cY 2, 6, .inr (.inr (.inr (.inr (fun j => some (AD (2 + j))))))))] ++ bkM AD cY MV)) (lv := [(7, .int (X3_lossOfPunished_j80 MV G9 by_ hbl hpu j move)), (0, .ref qL), (1, .int move), (2, .int by_), (3, .int guard), (4, .int hbl), (5, .int (X3_lossOfPunished_j80_1 G9 hbl hpu)), (6, .int (nI (j + 1)))]) (st := []) (J := 80) (n := 8) (A := A) (H0 := s.heap) ?_ ?_
      · intro H locs ls hP hD hS hl
        refine lv_aload_n hx hb dX3_lossOfPunished_80 rfl (lv_at hl 1 rfl) ?_
        refine va_get (D := (dC, dI)) (ci := 3) (v := .ref qd) (C := RX3) (T := TX3) (N := 7) hx hb hts inw_X3_lossOfPunished_X3 hown hK hP 0 rfl rfl 2 (by decide) (hts (.fieldLink RX3 38 "DuelFrames$Lab" "trial" "LDuelFrames$Duel;") (List.mem_of_getElem? (i := 1) rfl)) (fun _ h9 => h9) rfl dX3_lossOfPunished_81 ?_
        refine lv_iload hx hb dX3_lossOfPunished_84 (lv_at hl 7 rfl) ?_
        refine lv_iconst (v := 1) hx hb dX3_lossOfPunished_86 (by decide) ?_
        refine jnW (D := (dC, dI)) (ws := ([(qL, .inr (3, [.int bl, .ref (AD 0), .ref qd, .ref qB, .ref qR, .ref qS, .int bh])), (qd, .inr (1, [.ref (AD 0), .ref ql, .ref qr])), (ql, .inr (2, figL F9)), (qr, .inr (2, figL G9)), (AD 0, .inr (5, [.int cnt, .ref (AD 1), .ref (AD 8)])), (AD 1, .inl (cY 2, 6, .inr (.inr (.inr (.inr (fun j => some (AD (2 + j))))))))] ++ bkM AD cY MV)) (lv := [(7, .int (X3_lossOfPunished_j80 MV G9 by_ hbl hpu j move)), (0, .ref qL), (1, .int move), (2, .int by_), (3, .int guard), (4, .int hbl), (5, .int (X3_lossOfPunished_j80_1 G9 hbl hpu)), (6, .int (nI (j + 1)))]) (st := [.int (X3_lossOfPunished_j98 guard j move), .ref qd]) (J := 98) (n := 8) (A := A) (H0 := s.heap) ?_ ?_
        · intro H locs ls hP hD hS hl
          refine lv_iload hx hb dX3_lossOfPunished_98 (lv_at hl 0 rfl) ?_
          have hPc := hP.part (cx := [(qd, .inr (1, [.ref (AD 0), .ref ql, .ref qr])), (ql, .inr (2, figL F9)), (qr, .inr (2, figL G9)), (AD 0, .inr (5, [.int cnt, .ref (AD 1), .ref (AD 8)])), (AD 1, .inl (cY 2, 6, .inr (.inr (.inr (.inr (fun j => some (AD (2 + j))))))))]) [1, 2, 3, 4, 5] rfl
          have hDc := hD.part (cx := [(qd, .inr (1, [.ref (AD 0), .ref ql, .ref qr])), (ql, .inr (2, figL F9)), (qr, .inr (2, figL G9)), (AD 0, .inr (5, [.int cnt, .ref (AD 1), .ref (AD 8)])), (AD 1, .inl (cY 2, 6, .inr (.inr (.inr (.inr (fun j => some (AD (2 + j))))))))]) [1, 2, 3, 4, 5] (by decide) rfl
          have hFc := va_freeP (cx := [(qd, .inr (1, [.ref (AD 0), .ref ql, .ref qr])), (ql, .inr (2, figL F9)), (qr, .inr (2, figL G9)), (AD 0, .inr (5, [.int cnt, .ref (AD 1), .ref (AD 8)])), (AD 1, .inl (cY 2, 6, .inr (.inr (.inr (.inr (fun j => some (AD (2 + j))))))))]) (pl := bkM AD cY MV) hD hS hA [1, 2, 3, 4, 5] rfl
          refine va_callv (va_runV (As := [.int (X3_lossOfPunished_j98 guard j move), .int (X3_lossOfPunished_j80 MV G9 by_ hbl hpu j move)]) (rest := []) ⟨hx, hb, hml, hown, hts⟩ (c_X1_playFrame l dC dI cY qd ql qr F9 G9 AD cnt MV (X3_lossOfPunished_j98 guard j move) (X3_lossOfPunished_j80 MV G9 by_ hbl hpu j move) H.size) (cwV 2 hts gX3_lossOfPunished_X1_playFrame rfl rfl rfl (by decide +kernel) ⟨Nat.le_of_ble_eq_true rfl, Nat.le_of_ble_eq_true rfl⟩) ⟨blindW, va_recv hK hPc (ci := 1) (q0 := 0) rfl rfl, fun U hU hW => ⟨rfl, wPre_of hPc hK hN hDc U hU hW⟩⟩ rfl rfl hl.1 rfl (lv_room (Nat.le_of_ble_eq_true rfl)) dX3_lossOfPunished_100 ⟨Nat.zero_le _, Nat.zero_le _⟩) hS (fun q _ h => hFc q h) hFc (fun u t H1 locs ht hvm hw hB hz1 hk1 hS1 => ?_)
          have hJ := wJoinP (wr := [(qL, .inr (3, [.int bl, .ref (AD 0), .ref qd, .ref qB, .ref qR, .ref qS, .int bh]))]) (rx := [(qd, .inr (1, [.ref (AD 0), .ref ql, .ref qr])), (ql, .inr (2, figL (X1_playFrame_w1 F9 G9 MV (X3_lossOfPunished_j98 guard j move) (X3_lossOfPunished_j80 MV G9 by_ hbl hpu j move)))), (qr, .inr (2, figL (X1_playFrame_w2 F9 G9 MV (X3_lossOfPunished_j98 guard j move) (X3_lossOfPunished_j80 MV G9 by_ hbl hpu j move)))), (AD 0, .inr (5, [.int cnt, .ref (AD 1), .ref (AD 8)])), (AD 1, .inl (cY 2, 6, .inr (.inr (.inr (.inr (fun j => some (AD (2 + j))))))))]) (wn := [(qL, .inr (3, [.int bl, .ref (AD 0), .ref qd, .ref qB, .ref qR, .ref qS, .int bh])), (qd, .inr (1, [.ref (AD 0), .ref ql, .ref qr])), (ql, .inr (2, figL (X1_playFrame_w1 F9 G9 MV (X3_lossOfPunished_j98 guard j move) (X3_lossOfPunished_j80 MV G9 by_ hbl hpu j move)))), (qr, .inr (2, figL (X1_playFrame_w2 F9 G9 MV (X3_lossOfPunished_j98 guard j move) (X3_lossOfPunished_j80 MV G9 by_ hbl hpu j move)))), (AD 0, .inr (5, [.int cnt, .ref (AD 1), .ref (AD 8)])), (AD 1, .inl (cY 2, 6, .inr (.inr (.inr (.inr (fun j => some (AD (2 + j))))))))]) hP hD [1, 2, 3, 4, 5] [0] rfl rfl (by decide) (by decide) hk1 hFc hB ht [0, 1, 2, 3, 4, 5] rfl (by decide)
          clear hB hk1 hFc hPc hDc hP hD hS hz1 hvm ht t
          obtain ⟨hP1, hD1⟩ := hJ
          generalize H1 = H at hP1 hS1 ⊢
          have hP : va_P (dC, dI) vwCl ([(qL, .inr (3, [.int bl, .ref (AD 0), .ref qd, .ref qB, .ref qR, .ref qS, .int bh])), (qd, .inr (1, [.ref (AD 0), .ref ql, .ref qr])), (ql, .inr (2, figL (X1_playFrame_w1 F9 G9 MV (X3_lossOfPunished_j98 guard j move) (X3_lossOfPunished_j80 MV G9 by_ hbl hpu j move)))), (qr, .inr (2, figL (X1_playFrame_w2 F9 G9 MV (X3_lossOfPunished_j98 guard j move) (X3_lossOfPunished_j80 MV G9 by_ hbl hpu j move)))), (AD 0, .inr (5, [.int cnt, .ref (AD 1), .ref (AD 8)])), (AD 1, .inl (cY 2, 6, .inr (.inr (.inr (.inr (fun j => some (AD (2 + j))))))))] ++ bkM AD cY MV) H := hP1
          have hD : va_D A ([(qL, .inr (3, [.int bl, .ref (AD 0), .ref qd, .ref qB, .ref qR, .ref qS, .int bh])), (qd, .inr (1, [.ref (AD 0), .ref ql, .ref qr])), (ql, .inr (2, figL (X1_playFrame_w1 F9 G9 MV (X3_lossOfPunished_j98 guard j move) (X3_lossOfPunished_j80 MV G9 by_ hbl hpu j move)))), (qr, .inr (2, figL (X1_playFrame_w2 F9 G9 MV (X3_lossOfPunished_j98 guard j move) (X3_lossOfPunished_j80 MV G9 by_ hbl hpu j move)))), (AD 0, .inr (5, [.int cnt, .ref (AD 1), .ref (AD 8)])), (AD 1, .inl (cY 2, 6, .inr (.inr (.inr (.inr (fun j => some (AD (2 + j))))))))] ++ bkM AD cY MV) := hD1
          have hS := hS1
          clear hP1 hD1 hS1
          obtain ⟨z_12, ez_12⟩ : ∃ z, z = (X1_playFrame_w1 F9 G9 MV (X3_lossOfPunished_j98 guard j move) (X3_lossOfPunished_j80 MV G9 by_ hbl hpu j move)) := ⟨_, rfl⟩
          rw [← ez_12] at hP hD
          obtain ⟨z_13, ez_13⟩ : ∃ z, z = (X1_playFrame_w2 F9 G9 MV (X3_lossOfPunished_j98 guard j move) (X3_lossOfPunished_j80 MV G9 by_ hbl hpu j move)) := ⟨_, rfl⟩
          rw [← ez_13] at hP hD
          refine lv_iload hx hb dX3_lossOfPunished_103 (lv_at hl 5 rfl) ?_
          refine jnW (D := (dC, dI)) (ws := ([(qL, .inr (3, [.int bl, .ref (AD 0), .ref qd, .ref qB, .ref qR, .ref qS, .int bh])), (qd, .inr (1, [.ref (AD 0), .ref ql, .ref qr])), (ql, .inr (2, figL z_12)), (qr, .inr (2, figL z_13)), (AD 0, .inr (5, [.int cnt, .ref (AD 1), .ref (AD 8)])), (AD 1, .inl (cY 2, 6, .inr (.inr (.inr (.inr (fun j => some (AD (2 + j))))))))] ++ bkM AD cY MV)) (lv := [(0, .ref qL), (1, .int move), (2, .int by_), (3, .int guard), (5, .int (X3_lossOfPunished_j80_1 G9 hbl hpu)), (6, .int (nI (j + 1)))]) (st := [.int (X3_lossOfPunished_j127 MV F9 G9 by_ guard hbl hpu j move)]) (J := 127) (n := 8) (A := A) (H0 := s.heap) ?_ ?_
          · intro H locs ls hP hD hS hl
            refine lv_istore (lv' := [(4, .int (X3_lossOfPunished_j127 MV F9 G9 by_ guard hbl hpu j move)), (0, .ref qL), (1, .int move), (2, .int by_), (3, .int guard), (5, .int (X3_lossOfPunished_j80_1 G9 hbl hpu)), (6, .int (nI (j + 1)))]) hx hb dX3_lossOfPunished_127 hl (by decide) rfl (fun ls hl => ?_)
            refine lv_iinc (v := ((nI (j + 1)) + 1)) (lv' := [(6, .int ((nI (j + 1)) + 1)), (4, .int (X3_lossOfPunished_j127 MV F9 G9 by_ guard hbl hpu j move)), (0, .ref qL), (1, .int move), (2, .int by_), (3, .int guard), (5, .int (X3_lossOfPunished_j80_1 G9 hbl hpu))]) hx hb dX3_lossOfPunished_129 hl (k := 6) rfl (by first | rfl | decide) (by decide) rfl (fun ls hl => ?_)
            refine lv_goto (tgt := 22) hx hb dX3_lossOfPunished_132 (by decide) ?_
            have hP9 : va_P (dC, dI) vwCl ([(qL, .inr (3, [.int bl, .ref (AD 0), .ref qd, .ref qB, .ref qR, .ref qS, .int bh])), (qd, .inr (1, [.ref (AD 0), .ref ql, .ref qr])), (ql, .inr (2, figL z_12)), (qr, .inr (2, figL z_13)), (AD 0, .inr (5, [.int cnt, .ref (AD 1), .ref (AD 8)])), (AD 1, .inl (cY 2, 6, .inr (.inr (.inr (.inr (fun j => some (AD (2 + j))))))))] ++ bkM AD cY MV) H := by exact hP
            have hD9 : va_D A ([(qL, .inr (3, [.int bl, .ref (AD 0), .ref qd, .ref qB, .ref qR, .ref qS, .int bh])), (qd, .inr (1, [.ref (AD 0), .ref ql, .ref qr])), (ql, .inr (2, figL z_12)), (qr, .inr (2, figL z_13)), (AD 0, .inr (5, [.int cnt, .ref (AD 1), .ref (AD 8)])), (AD 1, .inl (cY 2, 6, .inr (.inr (.inr (.inr (fun j => some (AD (2 + j))))))))] ++ bkM AD cY MV) := by exact hD
            have hl9 : lv_has ls 8 [(0, .ref qL), (1, .int move), (2, .int by_), (3, .int guard), (4, .int (X3_lossOfPunished_j127 MV F9 G9 by_ guard hbl hpu j move)), (5, .int (X3_lossOfPunished_j80_1 G9 hbl hpu)), (6, .int (nI (j + 2)))] := by rw [show nI (j + 2) = nI (j + 1) + 1 from nI_succ _]; exact lv_sub hl [2, 3, 4, 5, 1, 6, 0] rfl
            replace hk := hk (z_12, z_13, (X3_lossOfPunished_j127 MV F9 G9 by_ guard hbl hpu j move), (X3_lossOfPunished_j80_1 G9 hbl hpu))
            (try dsimp only at hk)
            exact hk (by rw [X3_lop_it, ← hi]; simp only [X3_lop_step, ← ez_2, ← ez_3, ← ez_12, ← ez_13]) _ _ _ hP9 hD9 hS hl9
          · intro jn_15
            refine lv_if_ne (tgt := 122) hx hb dX3_lossOfPunished_105 (by decide) (fun c_14 => ?_) (fun c_14 => ?_)
            · refine lv_iconst (v := 1) hx hb dX3_lossOfPunished_122 (by decide) ?_
              refine lv_goto (tgt := 127) hx hb dX3_lossOfPunished_123 (by decide) ?_
              have e_16 : (X3_lossOfPunished_j127 MV F9 G9 by_ guard hbl hpu j move) = 1 := by rw [X3_lossOfPunished_j127]; simp only [← ez_2, ← ez_3, ← ez_12, ← ez_13, eq_false c_14, ↓reduceIte]
              refine W.eq (g2 := F0 m 127 ls [.int (X3_lossOfPunished_j127 MV F9 G9 by_ guard hbl hpu j move)]) (by simp only [e_16]) ?_
              exact jn_15 _ _ _ (by (try simp only [e_16]); exact hP) (by (try simp only [e_16]); exact hD) hS (by (try simp only [e_16]); exact (lv_sub hl [1, 2, 3, 4, 6, 7] rfl))
            · refine lv_aload_n hx hb dX3_lossOfPunished_108 rfl (lv_at hl 1 rfl) ?_
              refine va_get (D := (dC, dI)) (ci := 3) (v := .ref qd) (C := RX3) (T := TX3) (N := 7) hx hb hts inw_X3_lossOfPunished_X3 hown hK hP 0 rfl rfl 2 (by decide) (hts (.fieldLink RX3 38 "DuelFrames$Lab" "trial" "LDuelFrames$Duel;") (List.mem_of_getElem? (i := 1) rfl)) (fun _ h9 => h9) rfl dX3_lossOfPunished_109 ?_
              refine va_get (D := (dC, dI)) (ci := 1) (v := .ref qr) (C := RX1) (T := TX1) (N := 3) hx hb hts inw_X3_lossOfPunished_X1 hown hK hP 1 rfl rfl 2 (by decide) (hts (.fieldLink RX3 67 "DuelFrames$Duel" "right" "LDuelFrames$Figure;") (List.mem_of_getElem? (i := 2) rfl)) (fun _ h9 => h9) rfl dX3_lossOfPunished_112 ?_
              refine va_get (D := (dC, dI)) (ci := 2) (v := .int (z_13 3)) (C := RX2) (T := TX2) (N := 16) hx hb hts inw_X3_lossOfPunished_X2 hown hK hP 3 rfl rfl 3 (by decide) (hts (.fieldLink RX3 62 "DuelFrames$Figure" "does" "I") (List.mem_of_getElem? (i := 3) rfl)) (fun _ h9 => h9) rfl dX3_lossOfPunished_115 ?_
              refine lv_iconst (v := 3) hx hb dX3_lossOfPunished_118 (by decide) ?_
              refine lv_icmp_ne (tgt := 126) hx hb dX3_lossOfPunished_119 (by decide) (fun c_17 => ?_) (fun c_17 => ?_)
              · refine lv_iconst (v := 0) hx hb dX3_lossOfPunished_126 (by decide) ?_
                have e_18 : (X3_lossOfPunished_j127 MV F9 G9 by_ guard hbl hpu j move) = 0 := by rw [X3_lossOfPunished_j127]; simp only [← ez_2, ← ez_3, ← ez_12, ← ez_13, eq_true c_14, eq_false c_17, ↓reduceIte]
                refine W.eq (g2 := F0 m 127 ls [.int (X3_lossOfPunished_j127 MV F9 G9 by_ guard hbl hpu j move)]) (by simp only [e_18]) ?_
                exact jn_15 _ _ _ (by (try simp only [e_18]); exact hP) (by (try simp only [e_18]); exact hD) hS (by (try simp only [e_18]); exact (lv_sub hl [1, 2, 3, 4, 6, 7] rfl))
              · refine lv_iconst (v := 1) hx hb dX3_lossOfPunished_122 (by decide) ?_
                refine lv_goto (tgt := 127) hx hb dX3_lossOfPunished_123 (by decide) ?_
                have e_19 : (X3_lossOfPunished_j127 MV F9 G9 by_ guard hbl hpu j move) = 1 := by rw [X3_lossOfPunished_j127]; simp only [← ez_2, ← ez_3, ← ez_12, ← ez_13, eq_true c_14, eq_true c_17, ↓reduceIte]
                refine W.eq (g2 := F0 m 127 ls [.int (X3_lossOfPunished_j127 MV F9 G9 by_ guard hbl hpu j move)]) (by simp only [e_19]) ?_
                exact jn_15 _ _ _ (by (try simp only [e_19]); exact hP) (by (try simp only [e_19]); exact hD) hS (by (try simp only [e_19]); exact (lv_sub hl [1, 2, 3, 4, 6, 7] rfl))
        · intro jn_10
          refine lv_icmp_ne (tgt := 97) hx hb dX3_lossOfPunished_87 (by decide) (fun c_9 => ?_) (fun c_9 => ?_)
          · refine lv_iload_n hx hb dX3_lossOfPunished_97 rfl (lv_at hl 4 rfl) ?_
            have e_20 : (X3_lossOfPunished_j98 guard j move) = guard := by rw [X3_lossOfPunished_j98]; simp only [← ez_2, ← ez_3, eq_false c_9, ↓reduceIte]
            refine W.eq (g2 := F0 m 98 ls [.int (X3_lossOfPunished_j98 guard j move), .ref qd]) (by simp only [e_20]) ?_
            exact jn_10 _ _ _ (by (try simp only [e_20]); exact hP) (by (try simp only [e_20]); exact hD) hS (by (try simp only [e_20]); exact (lv_sub hl [0, 1, 2, 3, 4, 5, 6, 7] rfl))
          · refine lv_iload_n hx hb dX3_lossOfPunished_90 rfl (lv_at hl 2 rfl) ?_
            have hPc := hP.sub (ws' := []) [] rfl
            have hDc := hD.sub (ws' := []) [] (by decide) rfl
            have hFc := va_free (wc := []) hD hS hA [] rfl
            refine va_calli (va_runSN (As := [.int move]) (rest := [.ref qd]) ⟨hx, hb, hml, hown, hts⟩ (c_X7_inputOf l dC dI cY move H.size) ⟨va_cnB 1 hts gX3_lossOfPunished_X7_inputOf_n46 rfl rfl rfl hN.1 (hts (.initialized RX7) (List.mem_of_getElem? (i := 57) rfl)) (by decide +kernel) ⟨Nat.le_of_ble_eq_true rfl, Nat.le_of_ble_eq_true rfl⟩, (hts (.static yX7_inputOf) (List.mem_of_getElem? (i := 56) rfl)), trivial⟩ ⟨blindW, fun U hU hW => ⟨rfl, wPre_of hPc hK hN hDc U hU hW⟩⟩ rfl rfl hl.1 rfl (lv_room (Nat.le_of_ble_eq_true rfl)) dX3_lossOfPunished_91 ⟨Nat.zero_le _, Nat.zero_le _⟩) hS (fun q _ h => hFc q h) hFc (fun r_21 u t H1 locs ht hvm hw hB hz1 hk1 hS1 => ?_)
            subst hw
            have hJ := wJoinQ (wr := [(qL, .inr (3, [.int bl, .ref (AD 0), .ref qd, .ref qB, .ref qR, .ref qS, .int bh])), (qd, .inr (1, [.ref (AD 0), .ref ql, .ref qr])), (ql, .inr (2, figL F9)), (qr, .inr (2, figL G9)), (AD 0, .inr (5, [.int cnt, .ref (AD 1), .ref (AD 8)])), (AD 1, .inl (cY 2, 6, .inr (.inr (.inr (.inr (fun j => some (AD (2 + j))))))))]) (w1 := []) (wn := [(qL, .inr (3, [.int bl, .ref (AD 0), .ref qd, .ref qB, .ref qR, .ref qS, .int bh])), (qd, .inr (1, [.ref (AD 0), .ref ql, .ref qr])), (ql, .inr (2, figL F9)), (qr, .inr (2, figL G9)), (AD 0, .inr (5, [.int cnt, .ref (AD 1), .ref (AD 8)])), (AD 1, .inl (cY 2, 6, .inr (.inr (.inr (.inr (fun j => some (AD (2 + j))))))))]) hP hD [] [0, 1, 2, 3, 4, 5] rfl rfl (by decide) (by decide) hk1 hFc hB ht [0, 1, 2, 3, 4, 5] rfl (by decide)
            clear hB hk1 hFc hPc hDc hP hD hS hz1 hvm ht t
            obtain ⟨hP1, hD1⟩ := hJ
            generalize H1 = H at hP1 hS1 ⊢
            have hP : va_P (dC, dI) vwCl ([(qL, .inr (3, [.int bl, .ref (AD 0), .ref qd, .ref qB, .ref qR, .ref qS, .int bh])), (qd, .inr (1, [.ref (AD 0), .ref ql, .ref qr])), (ql, .inr (2, figL F9)), (qr, .inr (2, figL G9)), (AD 0, .inr (5, [.int cnt, .ref (AD 1), .ref (AD 8)])), (AD 1, .inl (cY 2, 6, .inr (.inr (.inr (.inr (fun j => some (AD (2 + j))))))))] ++ bkM AD cY MV) H := hP1
            have hD : va_D A ([(qL, .inr (3, [.int bl, .ref (AD 0), .ref qd, .ref qB, .ref qR, .ref qS, .int bh])), (qd, .inr (1, [.ref (AD 0), .ref ql, .ref qr])), (ql, .inr (2, figL F9)), (qr, .inr (2, figL G9)), (AD 0, .inr (5, [.int cnt, .ref (AD 1), .ref (AD 8)])), (AD 1, .inl (cY 2, 6, .inr (.inr (.inr (.inr (fun j => some (AD (2 + j))))))))] ++ bkM AD cY MV) := hD1
            have hS := hS1
            clear hP1 hD1 hS1
            refine lv_goto (tgt := 98) hx hb dX3_lossOfPunished_94 (by decide) ?_
            have e_22 : (X3_lossOfPunished_j98 guard j move) = (X7_inputOf_r move) := by rw [X3_lossOfPunished_j98]; simp only [← ez_2, ← ez_3, eq_true c_9, ↓reduceIte]
            refine W.eq (g2 := F0 m 98 ls [.int (X3_lossOfPunished_j98 guard j move), .ref qd]) (by simp only [e_22]) ?_
            exact jn_10 _ _ _ (by (try simp only [e_22]); exact hP) (by (try simp only [e_22]); exact hD) hS (by (try simp only [e_22]); exact (lv_sub hl [0, 1, 2, 3, 4, 5, 6, 7] rfl))
      · intro jn_8
        refine lv_if_eq (tgt := 80) hx hb dX3_lossOfPunished_50 (by decide) (fun c_7 => ?_) (fun c_7 => ?_)
        · have e_23 : (X3_lossOfPunished_j80 MV G9 by_ hbl hpu j move) = (X3_lossOfPunished_j46 MV hpu j move) := by rw [X3_lossOfPunished_j80]; simp only [← ez_2, ← ez_3, eq_true c_7, ↓reduceIte]
          have e_24 : (X3_lossOfPunished_j80_1 G9 hbl hpu) = hpu := by rw [X3_lossOfPunished_j80_1]; simp only [← ez_2, ← ez_3, eq_true c_7, ↓reduceIte]
          exact jn_8 _ _ _ (by (try simp only [e_23, e_24]); exact hP) (by (try simp only [e_23, e_24]); exact hD) hS (by (try simp only [e_23, e_24]); exact (lv_sub hl [0, 1, 2, 3, 4, 5, 6, 7] rfl))
        · refine lv_iload hx hb dX3_lossOfPunished_53 (lv_at hl 6 rfl) ?_
          refine lv_if_ne (tgt := 80) hx hb dX3_lossOfPunished_55 (by decide) (fun c_25 => ?_) (fun c_25 => ?_)
          · have e_26 : (X3_lossOfPunished_j80 MV G9 by_ hbl hpu j move) = (X3_lossOfPunished_j46 MV hpu j move) := by rw [X3_lossOfPunished_j80]; simp only [← ez_2, ← ez_3, eq_false c_7, eq_false c_25, ↓reduceIte]
            have e_27 : (X3_lossOfPunished_j80_1 G9 hbl hpu) = hpu := by rw [X3_lossOfPunished_j80_1]; simp only [← ez_2, ← ez_3, eq_false c_7, eq_false c_25, ↓reduceIte]
            exact jn_8 _ _ _ (by (try simp only [e_26, e_27]); exact hP) (by (try simp only [e_26, e_27]); exact hD) hS (by (try simp only [e_26, e_27]); exact (lv_sub hl [0, 1, 2, 3, 4, 5, 6, 7] rfl))
          · refine lv_aload_n hx hb dX3_lossOfPunished_58 rfl (lv_at hl 1 rfl) ?_
            refine va_get (D := (dC, dI)) (ci := 3) (v := .ref qd) (C := RX3) (T := TX3) (N := 7) hx hb hts inw_X3_lossOfPunished_X3 hown hK hP 0 rfl rfl 2 (by decide) (hts (.fieldLink RX3 38 "DuelFrames$Lab" "trial" "LDuelFrames$Duel;") (List.mem_of_getElem? (i := 1) rfl)) (fun _ h9 => h9) rfl dX3_lossOfPunished_59 ?_
            refine va_get (D := (dC, dI)) (ci := 1) (v := .ref qr) (C := RX1) (T := TX1) (N := 3) hx hb hts inw_X3_lossOfPunished_X1 hown hK hP 1 rfl rfl 2 (by decide) (hts (.fieldLink RX3 67 "DuelFrames$Duel" "right" "LDuelFrames$Figure;") (List.mem_of_getElem? (i := 2) rfl)) (fun _ h9 => h9) rfl dX3_lossOfPunished_62 ?_
            refine va_get (D := (dC, dI)) (ci := 2) (v := .int (G9 3)) (C := RX2) (T := TX2) (N := 16) hx hb hts inw_X3_lossOfPunished_X2 hown hK hP 3 rfl rfl 3 (by decide) (hts (.fieldLink RX3 62 "DuelFrames$Figure" "does" "I") (List.mem_of_getElem? (i := 3) rfl)) (fun _ h9 => h9) rfl dX3_lossOfPunished_65 ?_
            refine lv_if_ne (tgt := 80) hx hb dX3_lossOfPunished_68 (by decide) (fun c_28 => ?_) (fun c_28 => ?_)
            · have e_29 : (X3_lossOfPunished_j80 MV G9 by_ hbl hpu j move) = (X3_lossOfPunished_j46 MV hpu j move) := by rw [X3_lossOfPunished_j80]; simp only [← ez_2, ← ez_3, eq_false c_7, eq_true c_25, eq_false c_28, ↓reduceIte]
              have e_30 : (X3_lossOfPunished_j80_1 G9 hbl hpu) = hpu := by rw [X3_lossOfPunished_j80_1]; simp only [← ez_2, ← ez_3, eq_false c_7, eq_true c_25, eq_false c_28, ↓reduceIte]
              exact jn_8 _ _ _ (by (try simp only [e_29, e_30]); exact hP) (by (try simp only [e_29, e_30]); exact hD) hS (by (try simp only [e_29, e_30]); exact (lv_sub hl [0, 1, 2, 3, 4, 5, 6, 7] rfl))
            · refine lv_iload_n hx hb dX3_lossOfPunished_71 rfl (lv_at hl 3 rfl) ?_
              have hPc := hP.sub (ws' := []) [] rfl
              have hDc := hD.sub (ws' := []) [] (by decide) rfl
              have hFc := va_free (wc := []) hD hS hA [] rfl
              refine va_calli (va_runSN (As := [.int by_]) (rest := []) ⟨hx, hb, hml, hown, hts⟩ (c_X7_inputOf l dC dI cY by_ H.size) ⟨va_cnB 1 hts gX3_lossOfPunished_X7_inputOf_n46 rfl rfl rfl hN.1 (hts (.initialized RX7) (List.mem_of_getElem? (i := 57) rfl)) (by decide +kernel) ⟨Nat.le_of_ble_eq_true rfl, Nat.le_of_ble_eq_true rfl⟩, (hts (.static yX7_inputOf) (List.mem_of_getElem? (i := 56) rfl)), trivial⟩ ⟨blindW, fun U hU hW => ⟨rfl, wPre_of hPc hK hN hDc U hU hW⟩⟩ rfl rfl hl.1 rfl (lv_room (Nat.le_of_ble_eq_true rfl)) dX3_lossOfPunished_72 ⟨Nat.zero_le _, Nat.zero_le _⟩) hS (fun q _ h => hFc q h) hFc (fun r_31 u t H1 locs ht hvm hw hB hz1 hk1 hS1 => ?_)
              subst hw
              have hJ := wJoinQ (wr := [(qL, .inr (3, [.int bl, .ref (AD 0), .ref qd, .ref qB, .ref qR, .ref qS, .int bh])), (qd, .inr (1, [.ref (AD 0), .ref ql, .ref qr])), (ql, .inr (2, figL F9)), (qr, .inr (2, figL G9)), (AD 0, .inr (5, [.int cnt, .ref (AD 1), .ref (AD 8)])), (AD 1, .inl (cY 2, 6, .inr (.inr (.inr (.inr (fun j => some (AD (2 + j))))))))]) (w1 := []) (wn := [(qL, .inr (3, [.int bl, .ref (AD 0), .ref qd, .ref qB, .ref qR, .ref qS, .int bh])), (qd, .inr (1, [.ref (AD 0), .ref ql, .ref qr])), (ql, .inr (2, figL F9)), (qr, .inr (2, figL G9)), (AD 0, .inr (5, [.int cnt, .ref (AD 1), .ref (AD 8)])), (AD 1, .inl (cY 2, 6, .inr (.inr (.inr (.inr (fun j => some (AD (2 + j))))))))]) hP hD [] [0, 1, 2, 3, 4, 5] rfl rfl (by decide) (by decide) hk1 hFc hB ht [0, 1, 2, 3, 4, 5] rfl (by decide)
              clear hB hk1 hFc hPc hDc hP hD hS hz1 hvm ht t
              obtain ⟨hP1, hD1⟩ := hJ
              generalize H1 = H at hP1 hS1 ⊢
              have hP : va_P (dC, dI) vwCl ([(qL, .inr (3, [.int bl, .ref (AD 0), .ref qd, .ref qB, .ref qR, .ref qS, .int bh])), (qd, .inr (1, [.ref (AD 0), .ref ql, .ref qr])), (ql, .inr (2, figL F9)), (qr, .inr (2, figL G9)), (AD 0, .inr (5, [.int cnt, .ref (AD 1), .ref (AD 8)])), (AD 1, .inl (cY 2, 6, .inr (.inr (.inr (.inr (fun j => some (AD (2 + j))))))))] ++ bkM AD cY MV) H := hP1
              have hD : va_D A ([(qL, .inr (3, [.int bl, .ref (AD 0), .ref qd, .ref qB, .ref qR, .ref qS, .int bh])), (qd, .inr (1, [.ref (AD 0), .ref ql, .ref qr])), (ql, .inr (2, figL F9)), (qr, .inr (2, figL G9)), (AD 0, .inr (5, [.int cnt, .ref (AD 1), .ref (AD 8)])), (AD 1, .inl (cY 2, 6, .inr (.inr (.inr (.inr (fun j => some (AD (2 + j))))))))] ++ bkM AD cY MV) := hD1
              have hS := hS1
              clear hP1 hD1 hS1
              refine lv_istore (lv' := [(7, .int (X7_inputOf_r by_)), (0, .ref qL), (1, .int move), (2, .int by_), (3, .int guard), (4, .int hbl), (5, .int hpu), (6, .int (nI (j + 1)))]) hx hb dX3_lossOfPunished_75 hl (by decide) rfl (fun ls hl => ?_)
              refine lv_iconst (v := 1) hx hb dX3_lossOfPunished_77 (by decide) ?_
              refine lv_istore (lv' := [(5, .int 1), (7, .int (X7_inputOf_r by_)), (0, .ref qL), (1, .int move), (2, .int by_), (3, .int guard), (4, .int hbl), (6, .int (nI (j + 1)))]) hx hb dX3_lossOfPunished_78 hl (by decide) rfl (fun ls hl => ?_)
              have e_32 : (X3_lossOfPunished_j80 MV G9 by_ hbl hpu j move) = (X7_inputOf_r by_) := by rw [X3_lossOfPunished_j80]; simp only [← ez_2, ← ez_3, eq_false c_7, eq_true c_25, eq_true c_28, ↓reduceIte]
              have e_33 : (X3_lossOfPunished_j80_1 G9 hbl hpu) = 1 := by rw [X3_lossOfPunished_j80_1]; simp only [← ez_2, ← ez_3, eq_false c_7, eq_true c_25, eq_true c_28, ↓reduceIte]
              exact jn_8 _ _ _ (by (try simp only [e_32, e_33]); exact hP) (by (try simp only [e_32, e_33]); exact hD) hS (by (try simp only [e_32, e_33]); exact (lv_sub hl [1, 2, 3, 4, 5, 6, 0, 7] rfl))
    · intro jn_6
      refine lv_if_eq (tgt := 39) hx hb dX3_lossOfPunished_32 (by decide) (fun c_5 => ?_) (fun c_5 => ?_)
      · refine lv_aload_n hx hb dX3_lossOfPunished_39 rfl (lv_at hl 0 rfl) ?_
        refine lv_iload_n hx hb dX3_lossOfPunished_40 rfl (lv_at hl 1 rfl) ?_
        refine lv_iload hx hb dX3_lossOfPunished_41 (lv_at hl 6 rfl) ?_
        have hPc := hP.part (cx := [(qL, .inr (3, [.int bl, .ref (AD 0), .ref qd, .ref qB, .ref qR, .ref qS, .int bh])), (AD 0, .inr (5, [.int cnt, .ref (AD 1), .ref (AD 8)])), (AD 1, .inl (cY 2, 6, .inr (.inr (.inr (.inr (fun j => some (AD (2 + j))))))))]) [0, 4, 5] rfl
        refine vp_callSi (W.runV (As := [.int move, .int (nI (j + 1))]) (rest := []) ⟨hx, hb, hml, hown, hts⟩ (c_X3_inputToBlock l dC dI cY qL qB qR qS bl bh qd AD cnt MV move (nI (j + 1))) (cwV 2 hts gX3_lossOfPunished_X3_inputToBlock rfl rfl rfl (by decide +kernel) ⟨Nat.le_of_ble_eq_true rfl, Nat.le_of_ble_eq_true rfl⟩) ⟨blindR, va_recv hK hPc (ci := 3) (q0 := 0) rfl rfl, fun U hU hW => ⟨rfl, rPre_of hPc hK hN U hU hW⟩⟩ rfl rfl hl.1 rfl (lv_room (Nat.le_of_ble_eq_true rfl)) dX3_lossOfPunished_43 ⟨Nat.zero_le _, Nat.zero_le _⟩) (fun r_34 hw => ?_)
        subst hw
        have e_35 : (X3_lossOfPunished_j46 MV hpu j move) = (X3_inputToBlock_r MV (nI (j + 1)) move) := by rw [X3_lossOfPunished_j46]; simp only [← ez_2, ← ez_3, eq_true c_5, ↓reduceIte]
        refine W.eq (g2 := F0 m 46 ls [.int (X3_lossOfPunished_j46 MV hpu j move)]) (by simp only [e_35]) ?_
        exact jn_6 _ _ _ (by (try simp only [e_35]); exact hP) (by (try simp only [e_35]); exact hD) hS (by (try simp only [e_35]); exact (lv_sub hl [0, 1, 2, 3, 4, 5, 6] rfl))
      · refine lv_iconst (v := 0) hx hb dX3_lossOfPunished_35 (by decide) ?_
        refine lv_goto (tgt := 46) hx hb dX3_lossOfPunished_36 (by decide) ?_
        have e_36 : (X3_lossOfPunished_j46 MV hpu j move) = 0 := by rw [X3_lossOfPunished_j46]; simp only [← ez_2, ← ez_3, eq_false c_5, ↓reduceIte]
        refine W.eq (g2 := F0 m 46 ls [.int (X3_lossOfPunished_j46 MV hpu j move)]) (by simp only [e_36]) ?_
        exact jn_6 _ _ _ (by (try simp only [e_36]); exact hP) (by (try simp only [e_36]); exact hD) hS (by (try simp only [e_36]); exact (lv_sub hl [0, 1, 2, 3, 4, 5, 6] rfl))
  · rintro ⟨F9, G9, hbl, hpu⟩ hi H locs ls hP hD hS hl
    (try dsimp only at hi)
    have q22_0 : F9 = (X3_lop_it MV by_ guard move (z_2, z_3, 0, 0) 200).1 := congrArg (fun z => z.1) hi
    have q22_1 : G9 = (X3_lop_it MV by_ guard move (z_2, z_3, 0, 0) 200).2.1 := congrArg (fun z => z.2.1) hi
    have q22_2 : hbl = (X3_lop_it MV by_ guard move (z_2, z_3, 0, 0) 200).2.2.1 := congrArg (fun z => z.2.2.1) hi
    have q22_3 : hpu = (X3_lop_it MV by_ guard move (z_2, z_3, 0, 0) 200).2.2.2 := congrArg (fun z => z.2.2.2) hi
    have hP : va_P (dC, dI) vwCl ([(qL, .inr (3, [.int bl, .ref (AD 0), .ref qd, .ref qB, .ref qR, .ref qS, .int bh])), (qd, .inr (1, [.ref (AD 0), .ref ql, .ref qr])), (ql, .inr (2, figL F9)), (qr, .inr (2, figL G9)), (AD 0, .inr (5, [.int cnt, .ref (AD 1), .ref (AD 8)])), (AD 1, .inl (cY 2, 6, .inr (.inr (.inr (.inr (fun j => some (AD (2 + j))))))))] ++ bkM AD cY MV) H := hP
    have hD : va_D A ([(qL, .inr (3, [.int bl, .ref (AD 0), .ref qd, .ref qB, .ref qR, .ref qS, .int bh])), (qd, .inr (1, [.ref (AD 0), .ref ql, .ref qr])), (ql, .inr (2, figL F9)), (qr, .inr (2, figL G9)), (AD 0, .inr (5, [.int cnt, .ref (AD 1), .ref (AD 8)])), (AD 1, .inl (cY 2, 6, .inr (.inr (.inr (.inr (fun j => some (AD (2 + j))))))))] ++ bkM AD cY MV) := hD
    have hl : lv_has ls 8 [(0, .ref qL), (1, .int move), (2, .int by_), (3, .int guard), (4, .int hbl), (5, .int hpu), (6, .int 201)] := hl
    refine lv_iload hx hb dX3_lossOfPunished_22 (lv_at hl 6 rfl) ?_
    refine lv_sipush (v := 200) hx hb dX3_lossOfPunished_24 (by decide) ?_
    refine lv_icmp_gt (tgt := 135) hx hb dX3_lossOfPunished_27 (by decide) (fun c_37 => ?_) (fun c_37 => ?_)
    rotate_left
    · exact absurd (by decide) c_37
    refine lv_sipush (v := 1000) hx hb dX3_lossOfPunished_135 (by decide) ?_
    refine lv_aload_n hx hb dX3_lossOfPunished_138 rfl (lv_at hl 0 rfl) ?_
    refine va_get (D := (dC, dI)) (ci := 3) (v := .ref qd) (C := RX3) (T := TX3) (N := 7) hx hb hts inw_X3_lossOfPunished_X3 hown hK hP 0 rfl rfl 2 (by decide) (hts (.fieldLink RX3 38 "DuelFrames$Lab" "trial" "LDuelFrames$Duel;") (List.mem_of_getElem? (i := 1) rfl)) (fun _ h9 => h9) rfl dX3_lossOfPunished_139 ?_
    refine va_get (D := (dC, dI)) (ci := 1) (v := .ref ql) (C := RX1) (T := TX1) (N := 3) hx hb hts inw_X3_lossOfPunished_X1 hown hK hP 1 rfl rfl 1 (by decide) (hts (.fieldLink RX3 58 "DuelFrames$Duel" "left" "LDuelFrames$Figure;") (List.mem_of_getElem? (i := 4) rfl)) (fun _ h9 => h9) rfl dX3_lossOfPunished_142 ?_
    refine va_get (D := (dC, dI)) (ci := 2) (v := .int (F9 1)) (C := RX2) (T := TX2) (N := 16) hx hb hts inw_X3_lossOfPunished_X2 hown hK hP 2 rfl rfl 1 (by decide) (hts (.fieldLink RX3 84 "DuelFrames$Figure" "life" "I") (List.mem_of_getElem? (i := 5) rfl)) (fun _ h9 => h9) rfl dX3_lossOfPunished_145 ?_
    refine lv_isub hx hb dX3_lossOfPunished_148 ?_
    have eo_38 : (X3_lossOfPunished_r F G MV by_ guard move) = (1000 - (F9 1)) := by rw [X3_lossOfPunished_r]; (try simp only [← ez_2, ← ez_3, ← q22_0, ← q22_1, ← q22_2, ← q22_3])
    have eo_39 : (X3_lossOfPunished_w2 F G MV by_ guard move) = F9 := by rw [X3_lossOfPunished_w2]; (try simp only [← ez_2, ← ez_3, ← q22_0, ← q22_1, ← q22_2, ← q22_3])
    have eo_40 : (X3_lossOfPunished_w3 F G MV by_ guard move) = G9 := by rw [X3_lossOfPunished_w3]; (try simp only [← ez_2, ← ez_3, ← q22_0, ← q22_1, ← q22_2, ← q22_3])
    have hP9 : va_P (dC, dI) vwCl ([(qL, .inr (3, [.int bl, .ref (AD 0), .ref qd, .ref qB, .ref qR, .ref qS, .int bh])), (qd, .inr (1, [.ref (AD 0), .ref ql, .ref qr])), (ql, .inr (2, figL (X3_lossOfPunished_w2 F G MV by_ guard move))), (qr, .inr (2, figL (X3_lossOfPunished_w3 F G MV by_ guard move))), (AD 0, .inr (5, [.int cnt, .ref (AD 1), .ref (AD 8)])), (AD 1, .inl (cY 2, 6, .inr (.inr (.inr (.inr (fun j => some (AD (2 + j))))))))] ++ bkM AD cY MV) H := by simp only [eo_39, eo_40]; exact hP
    have hD9 : va_D A ([(qL, .inr (3, [.int bl, .ref (AD 0), .ref qd, .ref qB, .ref qR, .ref qS, .int bh])), (qd, .inr (1, [.ref (AD 0), .ref ql, .ref qr])), (ql, .inr (2, figL (X3_lossOfPunished_w2 F G MV by_ guard move))), (qr, .inr (2, figL (X3_lossOfPunished_w3 F G MV by_ guard move))), (AD 0, .inr (5, [.int cnt, .ref (AD 1), .ref (AD 8)])), (AD 1, .inl (cY 2, 6, .inr (.inr (.inr (.inr (fun j => some (AD (2 + j))))))))] ++ bkM AD cY MV) := by simp only [eo_39, eo_40]; exact hD
    exact W.iret (v := (1000 - (F9 1))) hx hb hr (fun t ht hW => ⟨⟨_, (), rfl, eo_38.symm, wPost_of hP9 hD9 ht⟩, hS.F ht⟩) hS.2.2 dX3_lossOfPunished_149
