theorem inw_X0_clear_X0 : ∀ w ∈ u_ws RX0 TX0 3, w ∈ wsX0_clear := fun _ h => List.mem_cons_of_mem _ (List.mem_append_right _ h)
set_option maxHeartbeats 4000000 in
set_option maxRecDepth 100000 in
theorem c_X0_clear (l : Launch) (dC : Nat → ClassId) (dI : Nat → Nat → Nat) (cY : Nat → ClassId) (qb : Nat) (bg : Int32) (lw : Int32) (rw_ : Int32)  (sz : Nat) : Met l yX0_clear wsX0_clear ({ frames := 0, cells := 0, slots := 0, locals := 0 } : Room) (va_Pc [.ref qb] (wPre (dC, dI) (tyL cY) [(qb, .inr (0, [.int bg, .int lw, .int rw_]))] sz)) (va_Qv (fun _ : Unit => True) (wPost (dC, dI) [(qb, .inr (0, [.int 0, .int 0, .int 0]))] (va_A [(qb, .inr (0, [.int bg, .int lw, .int rw_]))] sz)) (va_A [(qb, .inr (0, [.int bg, .int lw, .int rw_]))] sz)) 0 0 (va_A [(qb, .inr (0, [.int bg, .int lw, .int rw_]))] sz) := by
  refine Met.ofW (cc := cX0_clear) (maxL := 1) (ret := none) (by decide) rfl ?_
  intro p e s m args below meth c s₁ B hml hv
  obtain ⟨rfl, hsz, hP, hK, hN, hD0⟩ := hv
  have hx := B.exec
  have hb := B.bytes
  have hr := B.returns
  have hts := atoms_spec (ws := wsX0_clear) B.pre
  have hown : s.vm.findClass RX0 = some m.cls := findClass_of_methodNamed B.named
  have hlocks := B.notSynchronized
  subst hsz
  have hD := hD0.self (sz := s.heap.size)
  generalize hAe : va_A [(qb, .inr (0, [.int bg, .int lw, .int rw_]))] s.heap.size = A at hD ⊢
  have hA : ∀ q : Nat, s.heap.size ≤ q → A q := fun q h => by rw [← hAe]; exact Or.inr h
  have hS : va_S A s.heap s.heap [] := va_S.rf
  have hP : va_P (dC, dI) vwCl [(qb, .inr (0, [.int bg, .int lw, .int rw_]))] s.heap := hP
  have hl := lv_entry ([.ref qb]) (n := 1) (Nat.le_of_ble_eq_true rfl)
  rw [lg_entry_eq]
  generalize (lg_sl ([.ref qb]) ++ List.replicate (1 - (lg_sl ([.ref qb])).length) Slot.unset).toArray = ls at hl ⊢
  have hl : lv_has ls 1 [(0, .ref qb)] := hl
  refine lv_aload_n hx hb dX0_clear_0 rfl (lv_at hl 0 rfl) ?_
  refine lv_iconst (v := 0) hx hb dX0_clear_1 (by decide) ?_
  refine va_put (D := (dC, dI)) (ci := 0) (v := .int 0) (ty := .int) (C := RX0) (T := TX0) (N := 3) hx hb hts inw_X0_clear_X0 tyX0 tyX0_ok nmX0 hown hK hP hD hS 0 rfl rfl 0 (by decide) (hts (.fieldLink RX0 9 "DuelFrames$Bout" "begun" "I") (List.mem_of_getElem? (i := 1) rfl)) (fun _ h9 => h9) rfl (by decide +kernel) rfl rfl (Nat.le_of_ble_eq_true rfl) dX0_clear_2 (fun H locs hP1 hD1 hS1 => ?_)
  clear hP hD hS
  have hP : va_P (dC, dI) vwCl [(qb, .inr (0, [.int 0, .int lw, .int rw_]))] H := hP1
  have hD : va_D A [(qb, .inr (0, [.int 0, .int lw, .int rw_]))] := hD1
  have hS := hS1
  clear hP1 hD1 hS1
  refine lv_aload_n hx hb dX0_clear_5 rfl (lv_at hl 0 rfl) ?_
  refine lv_iconst (v := 0) hx hb dX0_clear_6 (by decide) ?_
  refine va_put (D := (dC, dI)) (ci := 0) (v := .int 0) (ty := .int) (C := RX0) (T := TX0) (N := 3) hx hb hts inw_X0_clear_X0 tyX0 tyX0_ok nmX0 hown hK hP hD hS 0 rfl rfl 1 (by decide) (hts (.fieldLink RX0 15 "DuelFrames$Bout" "leftWins" "I") (List.mem_of_getElem? (i := 2) rfl)) (fun _ h9 => h9) rfl (by decide +kernel) rfl rfl (Nat.le_of_ble_eq_true rfl) dX0_clear_7 (fun H locs hP1 hD1 hS1 => ?_)
  clear hP hD hS
  have hP : va_P (dC, dI) vwCl [(qb, .inr (0, [.int 0, .int 0, .int rw_]))] H := hP1
  have hD : va_D A [(qb, .inr (0, [.int 0, .int 0, .int rw_]))] := hD1
  have hS := hS1
  clear hP1 hD1 hS1
  refine lv_aload_n hx hb dX0_clear_10 rfl (lv_at hl 0 rfl) ?_
  refine lv_iconst (v := 0) hx hb dX0_clear_11 (by decide) ?_
  refine va_put (D := (dC, dI)) (ci := 0) (v := .int 0) (ty := .int) (C := RX0) (T := TX0) (N := 3) hx hb hts inw_X0_clear_X0 tyX0 tyX0_ok nmX0 hown hK hP hD hS 0 rfl rfl 2 (by decide) (hts (.fieldLink RX0 18 "DuelFrames$Bout" "rightWins" "I") (List.mem_of_getElem? (i := 3) rfl)) (fun _ h9 => h9) rfl (by decide +kernel) rfl rfl (Nat.le_of_ble_eq_true rfl) dX0_clear_12 (fun H locs hP1 hD1 hS1 => ?_)
  clear hP hD hS
  have hP : va_P (dC, dI) vwCl [(qb, .inr (0, [.int 0, .int 0, .int 0]))] H := hP1
  have hD : va_D A [(qb, .inr (0, [.int 0, .int 0, .int 0]))] := hD1
  have hS := hS1
  clear hP1 hD1 hS1
  have hP9 : va_P (dC, dI) vwCl [(qb, .inr (0, [.int 0, .int 0, .int 0]))] H := hP
  have hD9 : va_D A [(qb, .inr (0, [.int 0, .int 0, .int 0]))] := hD
  exact W.vret hx hb hr (fun t ht hW => ⟨⟨(), rfl, trivial, wPost_of hP9 hD9 ht⟩, hS.F ht⟩) hS.2.2 dX0_clear_15
theorem inw_X0_count_X0 : ∀ w ∈ u_ws RX0 TX0 3, w ∈ wsX0_count := fun _ h => List.mem_cons_of_mem _ (List.mem_append_right _ h)
def X0_count_0_1 (l1 : Int32) (l2 : Int32) (lw : Int32) : Int32 := (if l1 ≤ l2 then lw else (lw + 1))
def X0_count_0_2 (l1 : Int32) (l2 : Int32) (rw_ : Int32) : Int32 := (if l1 ≤ l2 then (if l2 ≤ l1 then rw_ else (rw_ + 1)) else rw_)
set_option maxHeartbeats 4000000 in
set_option maxRecDepth 100000 in
theorem c_X0_count (l : Launch) (dC : Nat → ClassId) (dI : Nat → Nat → Nat) (cY : Nat → ClassId) (qb : Nat) (bg : Int32) (lw : Int32) (rw_ : Int32) (l1 : Int32) (l2 : Int32)  (sz : Nat) : Met l yX0_count wsX0_count ({ frames := 0, cells := 0, slots := 0, locals := 0 } : Room) (va_Pc [.ref qb, .int l1, .int l2] (wPre (dC, dI) (tyL cY) [(qb, .inr (0, [.int bg, .int lw, .int rw_]))] sz)) (va_Qv (fun _ : Unit => True) (wPost (dC, dI) [(qb, .inr (0, [.int bg, .int (X0_count_0_1 l1 l2 lw), .int (X0_count_0_2 l1 l2 rw_)]))] (va_A [(qb, .inr (0, [.int bg, .int lw, .int rw_]))] sz)) (va_A [(qb, .inr (0, [.int bg, .int lw, .int rw_]))] sz)) 0 0 (va_A [(qb, .inr (0, [.int bg, .int lw, .int rw_]))] sz) := by
  refine Met.ofW (cc := cX0_count) (maxL := 3) (ret := none) (by decide) rfl ?_
  intro p e s m args below meth c s₁ B hml hv
  obtain ⟨rfl, hsz, hP, hK, hN, hD0⟩ := hv
  have hx := B.exec
  have hb := B.bytes
  have hr := B.returns
  have hts := atoms_spec (ws := wsX0_count) B.pre
  have hown : s.vm.findClass RX0 = some m.cls := findClass_of_methodNamed B.named
  have hlocks := B.notSynchronized
  subst hsz
  have hD := hD0.self (sz := s.heap.size)
  generalize hAe : va_A [(qb, .inr (0, [.int bg, .int lw, .int rw_]))] s.heap.size = A at hD ⊢
  have hA : ∀ q : Nat, s.heap.size ≤ q → A q := fun q h => by rw [← hAe]; exact Or.inr h
  have hS : va_S A s.heap s.heap [] := va_S.rf
  have hP : va_P (dC, dI) vwCl [(qb, .inr (0, [.int bg, .int lw, .int rw_]))] s.heap := hP
  have hl := lv_entry ([.ref qb, .int l1, .int l2]) (n := 3) (Nat.le_of_ble_eq_true rfl)
  rw [lg_entry_eq]
  generalize (lg_sl ([.ref qb, .int l1, .int l2]) ++ List.replicate (3 - (lg_sl ([.ref qb, .int l1, .int l2])).length) Slot.unset).toArray = ls at hl ⊢
  have hl : lv_has ls 3 [(0, .ref qb), (1, .int l1), (2, .int l2)] := hl
  refine lv_iload_n hx hb dX0_count_0 rfl (lv_at hl 1 rfl) ?_
  refine lv_iload_n hx hb dX0_count_1 rfl (lv_at hl 2 rfl) ?_
  refine lv_icmp_le (tgt := 18) hx hb dX0_count_2 (by decide) (fun c_1 => ?_) (fun c_1 => ?_)
  · refine lv_iload_n hx hb dX0_count_18 rfl (lv_at hl 2 rfl) ?_
    refine lv_iload_n hx hb dX0_count_19 rfl (lv_at hl 1 rfl) ?_
    refine lv_icmp_le (tgt := 33) hx hb dX0_count_20 (by decide) (fun c_2 => ?_) (fun c_2 => ?_)
    · have eo_3 : (X0_count_0_1 l1 l2 lw) = lw := by rw [X0_count_0_1]; simp only [eq_true c_1, ↓reduceIte]
      have eo_4 : (X0_count_0_2 l1 l2 rw_) = rw_ := by rw [X0_count_0_2]; simp only [eq_true c_1, eq_true c_2, ↓reduceIte]
      have hP9 : va_P (dC, dI) vwCl [(qb, .inr (0, [.int bg, .int (X0_count_0_1 l1 l2 lw), .int (X0_count_0_2 l1 l2 rw_)]))] s.heap := by simp only [eo_3, eo_4]; exact hP
      have hD9 : va_D A [(qb, .inr (0, [.int bg, .int (X0_count_0_1 l1 l2 lw), .int (X0_count_0_2 l1 l2 rw_)]))] := by simp only [eo_3, eo_4]; exact hD
      exact W.vret hx hb hr (fun t ht hW => ⟨⟨(), rfl, trivial, wPost_of hP9 hD9 ht⟩, hS.F ht⟩) hS.2.2 dX0_count_33
    · refine lv_aload_n hx hb dX0_count_23 rfl (lv_at hl 0 rfl) ?_
      refine lv_dup hx hb dX0_count_24 rfl ?_
      refine va_get (D := (dC, dI)) (ci := 0) (v := .int rw_) (C := RX0) (T := TX0) (N := 3) hx hb hts inw_X0_count_X0 hown hK hP 0 rfl rfl 2 (by decide) (hts (.fieldLink RX0 18 "DuelFrames$Bout" "rightWins" "I") (List.mem_of_getElem? (i := 2) rfl)) (fun _ h9 => h9) rfl dX0_count_25 ?_
      refine lv_iconst (v := 1) hx hb dX0_count_28 (by decide) ?_
      refine lv_iadd hx hb dX0_count_29 ?_
      refine va_put (D := (dC, dI)) (ci := 0) (v := .int (rw_ + 1)) (ty := .int) (C := RX0) (T := TX0) (N := 3) hx hb hts inw_X0_count_X0 tyX0 tyX0_ok nmX0 hown hK hP hD hS 0 rfl rfl 2 (by decide) (hts (.fieldLink RX0 18 "DuelFrames$Bout" "rightWins" "I") (List.mem_of_getElem? (i := 2) rfl)) (fun _ h9 => h9) rfl (by decide +kernel) rfl rfl (Nat.le_of_ble_eq_true rfl) dX0_count_30 (fun H locs hP1 hD1 hS1 => ?_)
      clear hP hD hS
      have hP : va_P (dC, dI) vwCl [(qb, .inr (0, [.int bg, .int lw, .int (rw_ + 1)]))] H := hP1
      have hD : va_D A [(qb, .inr (0, [.int bg, .int lw, .int (rw_ + 1)]))] := hD1
      have hS := hS1
      clear hP1 hD1 hS1
      have eo_5 : (X0_count_0_1 l1 l2 lw) = lw := by rw [X0_count_0_1]; simp only [eq_true c_1, ↓reduceIte]
      have eo_6 : (X0_count_0_2 l1 l2 rw_) = (rw_ + 1) := by rw [X0_count_0_2]; simp only [eq_true c_1, eq_false c_2, ↓reduceIte]
      have hP9 : va_P (dC, dI) vwCl [(qb, .inr (0, [.int bg, .int (X0_count_0_1 l1 l2 lw), .int (X0_count_0_2 l1 l2 rw_)]))] H := by simp only [eo_5, eo_6]; exact hP
      have hD9 : va_D A [(qb, .inr (0, [.int bg, .int (X0_count_0_1 l1 l2 lw), .int (X0_count_0_2 l1 l2 rw_)]))] := by simp only [eo_5, eo_6]; exact hD
      exact W.vret hx hb hr (fun t ht hW => ⟨⟨(), rfl, trivial, wPost_of hP9 hD9 ht⟩, hS.F ht⟩) hS.2.2 dX0_count_33
  · refine lv_aload_n hx hb dX0_count_5 rfl (lv_at hl 0 rfl) ?_
    refine lv_dup hx hb dX0_count_6 rfl ?_
    refine va_get (D := (dC, dI)) (ci := 0) (v := .int lw) (C := RX0) (T := TX0) (N := 3) hx hb hts inw_X0_count_X0 hown hK hP 0 rfl rfl 1 (by decide) (hts (.fieldLink RX0 15 "DuelFrames$Bout" "leftWins" "I") (List.mem_of_getElem? (i := 1) rfl)) (fun _ h9 => h9) rfl dX0_count_7 ?_
    refine lv_iconst (v := 1) hx hb dX0_count_10 (by decide) ?_
    refine lv_iadd hx hb dX0_count_11 ?_
    refine va_put (D := (dC, dI)) (ci := 0) (v := .int (lw + 1)) (ty := .int) (C := RX0) (T := TX0) (N := 3) hx hb hts inw_X0_count_X0 tyX0 tyX0_ok nmX0 hown hK hP hD hS 0 rfl rfl 1 (by decide) (hts (.fieldLink RX0 15 "DuelFrames$Bout" "leftWins" "I") (List.mem_of_getElem? (i := 1) rfl)) (fun _ h9 => h9) rfl (by decide +kernel) rfl rfl (Nat.le_of_ble_eq_true rfl) dX0_count_12 (fun H locs hP1 hD1 hS1 => ?_)
    clear hP hD hS
    have hP : va_P (dC, dI) vwCl [(qb, .inr (0, [.int bg, .int (lw + 1), .int rw_]))] H := hP1
    have hD : va_D A [(qb, .inr (0, [.int bg, .int (lw + 1), .int rw_]))] := hD1
    have hS := hS1
    clear hP1 hD1 hS1
    refine lv_goto (tgt := 33) hx hb dX0_count_15 (by decide) ?_
    have eo_7 : (X0_count_0_1 l1 l2 lw) = (lw + 1) := by rw [X0_count_0_1]; simp only [eq_false c_1, ↓reduceIte]
    have eo_8 : (X0_count_0_2 l1 l2 rw_) = rw_ := by rw [X0_count_0_2]; simp only [eq_false c_1, ↓reduceIte]
    have hP9 : va_P (dC, dI) vwCl [(qb, .inr (0, [.int bg, .int (X0_count_0_1 l1 l2 lw), .int (X0_count_0_2 l1 l2 rw_)]))] H := by simp only [eo_7, eo_8]; exact hP
    have hD9 : va_D A [(qb, .inr (0, [.int bg, .int (X0_count_0_1 l1 l2 lw), .int (X0_count_0_2 l1 l2 rw_)]))] := by simp only [eo_7, eo_8]; exact hD
    exact W.vret hx hb hr (fun t ht hW => ⟨⟨(), rfl, trivial, wPost_of hP9 hD9 ht⟩, hS.F ht⟩) hS.2.2 dX0_count_33
theorem inw_X0_wins_X0 : ∀ w ∈ u_ws RX0 TX0 3, w ∈ wsX0_wins := fun _ h => List.mem_cons_of_mem _ (List.mem_append_right _ h)
def X0_wins_r (figure : Int32) (lw : Int32) (rw_ : Int32) : Int32 := (if figure = 0 then lw else rw_)
set_option maxHeartbeats 4000000 in
set_option maxRecDepth 100000 in
theorem c_X0_wins (l : Launch) (dC : Nat → ClassId) (dI : Nat → Nat → Nat) (cY : Nat → ClassId) (qb : Nat) (bg : Int32) (lw : Int32) (rw_ : Int32) (figure : Int32)  : Met l yX0_wins wsX0_wins ({ frames := 0, cells := 0, slots := 0, locals := 0 } : Room) (va_Pc [.ref qb, .int figure] (rPre (dC, dI) (tyL cY) [(qb, .inr (0, [.int bg, .int lw, .int rw_]))])) (vp_Si (fun r => r = (X0_wins_r figure lw rw_))) 0 0 (fun _ => False) := by
  refine Met.ofW (cc := cX0_wins) (maxL := 2) (ret := (some .int)) (by decide) rfl ?_
  intro p e s m args below meth c s₁ B hml hv
  obtain ⟨rfl, hP, hK, hN⟩ := hv
  have hx := B.exec
  have hb := B.bytes
  have hr := B.returns
  have hts := atoms_spec (ws := wsX0_wins) B.pre
  have hown : s.vm.findClass RX0 = some m.cls := findClass_of_methodNamed B.named
  have hlocks := B.notSynchronized
  have hP : va_P (dC, dI) vwCl [(qb, .inr (0, [.int bg, .int lw, .int rw_]))] s.heap := hP
  have hl := lv_entry ([.ref qb, .int figure]) (n := 2) (Nat.le_of_ble_eq_true rfl)
  rw [lg_entry_eq]
  generalize (lg_sl ([.ref qb, .int figure]) ++ List.replicate (2 - (lg_sl ([.ref qb, .int figure])).length) Slot.unset).toArray = ls at hl ⊢
  have hl : lv_has ls 2 [(0, .ref qb), (1, .int figure)] := hl
  refine lv_iload_n hx hb dX0_wins_0 rfl (lv_at hl 1 rfl) ?_
  refine lv_if_ne (tgt := 11) hx hb dX0_wins_1 (by decide) (fun c_1 => ?_) (fun c_1 => ?_)
  · refine lv_aload_n hx hb dX0_wins_11 rfl (lv_at hl 0 rfl) ?_
    refine va_get (D := (dC, dI)) (ci := 0) (v := .int rw_) (C := RX0) (T := TX0) (N := 3) hx hb hts inw_X0_wins_X0 hown hK hP 0 rfl rfl 2 (by decide) (hts (.fieldLink RX0 18 "DuelFrames$Bout" "rightWins" "I") (List.mem_of_getElem? (i := 2) rfl)) (fun _ h9 => h9) rfl dX0_wins_12 ?_
    have eo_2 : (X0_wins_r figure lw rw_) = rw_ := by rw [X0_wins_r]; simp only [eq_false c_1, ↓reduceIte]
    exact W.iret (v := rw_) hx hb hr (fun t ht _ => ⟨_, rfl, eo_2.symm, ht⟩) (fun _ h => absurd h List.not_mem_nil) dX0_wins_15
  · refine lv_aload_n hx hb dX0_wins_4 rfl (lv_at hl 0 rfl) ?_
    refine va_get (D := (dC, dI)) (ci := 0) (v := .int lw) (C := RX0) (T := TX0) (N := 3) hx hb hts inw_X0_wins_X0 hown hK hP 0 rfl rfl 1 (by decide) (hts (.fieldLink RX0 15 "DuelFrames$Bout" "leftWins" "I") (List.mem_of_getElem? (i := 1) rfl)) (fun _ h9 => h9) rfl dX0_wins_5 ?_
    refine lv_goto (tgt := 15) hx hb dX0_wins_8 (by decide) ?_
    have eo_3 : (X0_wins_r figure lw rw_) = lw := by rw [X0_wins_r]; simp only [eq_true c_1, ↓reduceIte]
    exact W.iret (v := lw) hx hb hr (fun t ht _ => ⟨_, rfl, eo_3.symm, ht⟩) (fun _ h => absurd h List.not_mem_nil) dX0_wins_15
theorem inw_X0_wonBy_X0 : ∀ w ∈ u_ws RX0 TX0 3, w ∈ wsX0_wonBy := fun _ h => List.mem_cons_of_mem _ (List.mem_append_right _ h)
def X0_wonBy_r (lw : Int32) (rw_ : Int32) : Int32 := (if lw < 2 then (if rw_ < 2 then (-1) else 1) else 0)
set_option maxHeartbeats 4000000 in
set_option maxRecDepth 100000 in
theorem c_X0_wonBy (l : Launch) (dC : Nat → ClassId) (dI : Nat → Nat → Nat) (cY : Nat → ClassId) (qb : Nat) (bg : Int32) (lw : Int32) (rw_ : Int32)  : Met l yX0_wonBy wsX0_wonBy ({ frames := 0, cells := 0, slots := 0, locals := 0 } : Room) (va_Pc [.ref qb] (rPre (dC, dI) (tyL cY) [(qb, .inr (0, [.int bg, .int lw, .int rw_]))])) (vp_Si (fun r => r = (X0_wonBy_r lw rw_))) 0 0 (fun _ => False) := by
  refine Met.ofW (cc := cX0_wonBy) (maxL := 1) (ret := (some .int)) (by decide) rfl ?_
  intro p e s m args below meth c s₁ B hml hv
  obtain ⟨rfl, hP, hK, hN⟩ := hv
  have hx := B.exec
  have hb := B.bytes
  have hr := B.returns
  have hts := atoms_spec (ws := wsX0_wonBy) B.pre
  have hown : s.vm.findClass RX0 = some m.cls := findClass_of_methodNamed B.named
  have hlocks := B.notSynchronized
  have hP : va_P (dC, dI) vwCl [(qb, .inr (0, [.int bg, .int lw, .int rw_]))] s.heap := hP
  have hl := lv_entry ([.ref qb]) (n := 1) (Nat.le_of_ble_eq_true rfl)
  rw [lg_entry_eq]
  generalize (lg_sl ([.ref qb]) ++ List.replicate (1 - (lg_sl ([.ref qb])).length) Slot.unset).toArray = ls at hl ⊢
  have hl : lv_has ls 1 [(0, .ref qb)] := hl
  refine lv_aload_n hx hb dX0_wonBy_0 rfl (lv_at hl 0 rfl) ?_
  refine va_get (D := (dC, dI)) (ci := 0) (v := .int lw) (C := RX0) (T := TX0) (N := 3) hx hb hts inw_X0_wonBy_X0 hown hK hP 0 rfl rfl 1 (by decide) (hts (.fieldLink RX0 15 "DuelFrames$Bout" "leftWins" "I") (List.mem_of_getElem? (i := 1) rfl)) (fun _ h9 => h9) rfl dX0_wonBy_1 ?_
  refine lv_iconst (v := 2) hx hb dX0_wonBy_4 (by decide) ?_
  refine lv_icmp_lt (tgt := 10) hx hb dX0_wonBy_5 (by decide) (fun c_1 => ?_) (fun c_1 => ?_)
  · refine lv_aload_n hx hb dX0_wonBy_10 rfl (lv_at hl 0 rfl) ?_
    refine va_get (D := (dC, dI)) (ci := 0) (v := .int rw_) (C := RX0) (T := TX0) (N := 3) hx hb hts inw_X0_wonBy_X0 hown hK hP 0 rfl rfl 2 (by decide) (hts (.fieldLink RX0 18 "DuelFrames$Bout" "rightWins" "I") (List.mem_of_getElem? (i := 2) rfl)) (fun _ h9 => h9) rfl dX0_wonBy_11 ?_
    refine lv_iconst (v := 2) hx hb dX0_wonBy_14 (by decide) ?_
    refine lv_icmp_lt (tgt := 22) hx hb dX0_wonBy_15 (by decide) (fun c_2 => ?_) (fun c_2 => ?_)
    · refine lv_iconst (v := (-1)) hx hb dX0_wonBy_22 (by decide) ?_
      have eo_3 : (X0_wonBy_r lw rw_) = (-1) := by rw [X0_wonBy_r]; simp only [eq_true c_1, eq_true c_2, ↓reduceIte]
      exact W.iret (v := (-1)) hx hb hr (fun t ht _ => ⟨_, rfl, eo_3.symm, ht⟩) (fun _ h => absurd h List.not_mem_nil) dX0_wonBy_23
    · refine lv_iconst (v := 1) hx hb dX0_wonBy_18 (by decide) ?_
      refine lv_goto (tgt := 23) hx hb dX0_wonBy_19 (by decide) ?_
      have eo_4 : (X0_wonBy_r lw rw_) = 1 := by rw [X0_wonBy_r]; simp only [eq_true c_1, eq_false c_2, ↓reduceIte]
      exact W.iret (v := 1) hx hb hr (fun t ht _ => ⟨_, rfl, eo_4.symm, ht⟩) (fun _ h => absurd h List.not_mem_nil) dX0_wonBy_23
  · refine lv_iconst (v := 0) hx hb dX0_wonBy_8 (by decide) ?_
    have eo_5 : (X0_wonBy_r lw rw_) = 0 := by rw [X0_wonBy_r]; simp only [eq_false c_1, ↓reduceIte]
    exact W.iret (v := 0) hx hb hr (fun t ht _ => ⟨_, rfl, eo_5.symm, ht⟩) (fun _ h => absurd h List.not_mem_nil) dX0_wonBy_9
theorem inw_X3_bestAt_X3 : ∀ w ∈ u_ws RX3 TX3 7, w ∈ wsX3_bestAt := fun _ h => List.mem_cons_of_mem _ (List.mem_append_right _ h)
def X3_bestAt_r (bh : Int32) (bs : Nat → Int32) (place : Int32) : Int32 := (if place < 0 then (-1) else (if bh ≤ place then (-1) else (if 4 ≤ place then (-1) else (bs place.toNatClampNeg))))
set_option maxHeartbeats 4000000 in
set_option maxRecDepth 100000 in
theorem c_X3_bestAt (l : Launch) (dC : Nat → ClassId) (dI : Nat → Nat → Nat) (cY : Nat → ClassId) (qL : Nat) (qB : Nat) (qR : Nat) (qS : Nat) (bl : Int32) (bh : Int32) (qd : Nat) (AD : Nat → Nat) (bs : Nat → Int32) (place : Int32)  : Met l yX3_bestAt wsX3_bestAt ({ frames := 0, cells := 0, slots := 0, locals := 0 } : Room) (va_Pc [.ref qL, .int place] (rPre (dC, dI) (tyL cY) [(qL, .inr (3, [.int bl, .ref (AD 0), .ref qd, .ref qB, .ref qR, .ref qS, .int bh])), (qS, .inl (cY 0, 4, .inl bs))])) (vp_Si (fun r => r = (X3_bestAt_r bh bs place))) 0 0 (fun _ => False) := by
  refine Met.ofW (cc := cX3_bestAt) (maxL := 2) (ret := (some .int)) (by decide) rfl ?_
  intro p e s m args below meth c s₁ B hml hv
  obtain ⟨rfl, hP, hK, hN⟩ := hv
  have hx := B.exec
  have hb := B.bytes
  have hr := B.returns
  have hts := atoms_spec (ws := wsX3_bestAt) B.pre
  have hown : s.vm.findClass RX3 = some m.cls := findClass_of_methodNamed B.named
  have hlocks := B.notSynchronized
  have hP : va_P (dC, dI) vwCl [(qL, .inr (3, [.int bl, .ref (AD 0), .ref qd, .ref qB, .ref qR, .ref qS, .int bh])), (qS, .inl (cY 0, 4, .inl bs))] s.heap := hP
  have hl := lv_entry ([.ref qL, .int place]) (n := 2) (Nat.le_of_ble_eq_true rfl)
  rw [lg_entry_eq]
  generalize (lg_sl ([.ref qL, .int place]) ++ List.replicate (2 - (lg_sl ([.ref qL, .int place])).length) Slot.unset).toArray = ls at hl ⊢
  have hl : lv_has ls 2 [(0, .ref qL), (1, .int place)] := hl
  refine lv_iload_n hx hb dX3_bestAt_0 rfl (lv_at hl 1 rfl) ?_
  refine lv_if_lt (tgt := 26) hx hb dX3_bestAt_1 (by decide) (fun c_1 => ?_) (fun c_1 => ?_)
  · refine lv_iconst (v := (-1)) hx hb dX3_bestAt_26 (by decide) ?_
    have eo_2 : (X3_bestAt_r bh bs place) = (-1) := by rw [X3_bestAt_r]; simp only [eq_true c_1, ↓reduceIte]
    exact W.iret (v := (-1)) hx hb hr (fun t ht _ => ⟨_, rfl, eo_2.symm, ht⟩) (fun _ h => absurd h List.not_mem_nil) dX3_bestAt_27
  · refine lv_iload_n hx hb dX3_bestAt_4 rfl (lv_at hl 1 rfl) ?_
    refine lv_aload_n hx hb dX3_bestAt_5 rfl (lv_at hl 0 rfl) ?_
    refine va_get (D := (dC, dI)) (ci := 3) (v := .int bh) (C := RX3) (T := TX3) (N := 7) hx hb hts inw_X3_bestAt_X3 hown hK hP 0 rfl rfl 6 (by decide) (hts (.fieldLink RX3 28 "DuelFrames$Lab" "bestHits" "I") (List.mem_of_getElem? (i := 1) rfl)) (fun _ h9 => h9) rfl dX3_bestAt_6 ?_
    refine lv_icmp_ge (tgt := 26) hx hb dX3_bestAt_9 (by decide) (fun c_3 => ?_) (fun c_3 => ?_)
    · refine lv_iconst (v := (-1)) hx hb dX3_bestAt_26 (by decide) ?_
      have eo_4 : (X3_bestAt_r bh bs place) = (-1) := by rw [X3_bestAt_r]; simp only [eq_false c_1, eq_true c_3, ↓reduceIte]
      exact W.iret (v := (-1)) hx hb hr (fun t ht _ => ⟨_, rfl, eo_4.symm, ht⟩) (fun _ h => absurd h List.not_mem_nil) dX3_bestAt_27
    · refine lv_iload_n hx hb dX3_bestAt_12 rfl (lv_at hl 1 rfl) ?_
      refine lv_iconst (v := 4) hx hb dX3_bestAt_13 (by decide) ?_
      refine lv_icmp_ge (tgt := 26) hx hb dX3_bestAt_14 (by decide) (fun c_5 => ?_) (fun c_5 => ?_)
      · refine lv_iconst (v := (-1)) hx hb dX3_bestAt_26 (by decide) ?_
        have eo_6 : (X3_bestAt_r bh bs place) = (-1) := by rw [X3_bestAt_r]; simp only [eq_false c_1, eq_false c_3, eq_true c_5, ↓reduceIte]
        exact W.iret (v := (-1)) hx hb hr (fun t ht _ => ⟨_, rfl, eo_6.symm, ht⟩) (fun _ h => absurd h List.not_mem_nil) dX3_bestAt_27
      · refine lv_aload_n hx hb dX3_bestAt_17 rfl (lv_at hl 0 rfl) ?_
        refine va_get (D := (dC, dI)) (ci := 3) (v := .ref qS) (C := RX3) (T := TX3) (N := 7) hx hb hts inw_X3_bestAt_X3 hown hK hP 0 rfl rfl 5 (by decide) (hts (.fieldLink RX3 25 "DuelFrames$Lab" "best" "[I") (List.mem_of_getElem? (i := 2) rfl)) (fun _ h9 => h9) rfl dX3_bestAt_18 ?_
        refine lv_iload_n hx hb dX3_bestAt_21 rfl (lv_at hl 1 rfl) ?_
        refine va_iald hx hb hK hP 1 0 rfl rfl (vinr 4 rfl c_1 c_5) dX3_bestAt_22 ?_
        refine lv_topi (fun x_7 ex_7 => ?_)
        obtain rfl : x_7 = (bs place.toNatClampNeg) := ex_7
        refine lv_goto (tgt := 27) hx hb dX3_bestAt_23 (by decide) ?_
        have eo_8 : (X3_bestAt_r bh bs place) = (bs place.toNatClampNeg) := by rw [X3_bestAt_r]; simp only [eq_false c_1, eq_false c_3, eq_false c_5, ↓reduceIte]
        exact W.iret (v := (bs place.toNatClampNeg)) hx hb hr (fun t ht _ => ⟨_, rfl, eo_8.symm, ht⟩) (fun _ h => absurd h List.not_mem_nil) dX3_bestAt_27
theorem inw_X4_setTrait_X4 : ∀ w ∈ u_ws RX4 TX4 8, w ∈ wsX4_setTrait := fun _ h => List.mem_cons_of_mem _ (List.mem_append_right _ h)
def X4_setTrait_w1 (tr : Nat → Int32) (value : Int32) (what : Int32) : Nat → Int32 := (if what < 0 then tr else (if 5 ≤ what then tr else (upd tr what.toNatClampNeg value)))
set_option maxHeartbeats 4000000 in
set_option maxRecDepth 100000 in
theorem c_X4_setTrait (l : Launch) (dC : Nat → ClassId) (dI : Nat → Nat → Nat) (cY : Nat → ClassId) (w0 : Nat) (wt : Nat) (wi : Nat) (m0_ : Int32) (m1_ : Int32) (m2_ : Int32) (m3_ : Int32) (m4_ : Int32) (m5_ : Int32) (tr : Nat → Int32) (inn : Nat → Int32) (what : Int32) (value : Int32)  (sz : Nat) : Met l yX4_setTrait wsX4_setTrait ({ frames := 0, cells := 0, slots := 0, locals := 0 } : Room) (va_Pc [.ref w0, .int what, .int value] (wPre (dC, dI) (tyL cY) [(w0, .inr (4, [.int m0_, .int m1_, .int m2_, .int m3_, .int m4_, .int m5_, .ref wt, .ref wi])), (wt, .inl (cY 0, 5, .inl tr)), (wi, .inl (cY 1, 6, .inl inn))] sz)) (va_Qv (fun _ : Unit => True) (wPost (dC, dI) [(w0, .inr (4, [.int m0_, .int m1_, .int m2_, .int m3_, .int m4_, .int m5_, .ref wt, .ref wi])), (wt, .inl (cY 0, 5, .inl (X4_setTrait_w1 tr value what))), (wi, .inl (cY 1, 6, .inl inn))] (va_A [(w0, .inr (4, [.int m0_, .int m1_, .int m2_, .int m3_, .int m4_, .int m5_, .ref wt, .ref wi])), (wt, .inl (cY 0, 5, .inl tr)), (wi, .inl (cY 1, 6, .inl inn))] sz)) (va_A [(w0, .inr (4, [.int m0_, .int m1_, .int m2_, .int m3_, .int m4_, .int m5_, .ref wt, .ref wi])), (wt, .inl (cY 0, 5, .inl tr)), (wi, .inl (cY 1, 6, .inl inn))] sz)) 0 0 (va_A [(w0, .inr (4, [.int m0_, .int m1_, .int m2_, .int m3_, .int m4_, .int m5_, .ref wt, .ref wi])), (wt, .inl (cY 0, 5, .inl tr)), (wi, .inl (cY 1, 6, .inl inn))] sz) := by
  refine Met.ofW (cc := cX4_setTrait) (maxL := 3) (ret := none) (by decide) rfl ?_
  intro p e s m args below meth c s₁ B hml hv
  obtain ⟨rfl, hsz, hP, hK, hN, hD0⟩ := hv
  have hx := B.exec
  have hb := B.bytes
  have hr := B.returns
  have hts := atoms_spec (ws := wsX4_setTrait) B.pre
  have hown : s.vm.findClass RX4 = some m.cls := findClass_of_methodNamed B.named
  have hlocks := B.notSynchronized
  subst hsz
  have hD := hD0.self (sz := s.heap.size)
  generalize hAe : va_A [(w0, .inr (4, [.int m0_, .int m1_, .int m2_, .int m3_, .int m4_, .int m5_, .ref wt, .ref wi])), (wt, .inl (cY 0, 5, .inl tr)), (wi, .inl (cY 1, 6, .inl inn))] s.heap.size = A at hD ⊢
  have hA : ∀ q : Nat, s.heap.size ≤ q → A q := fun q h => by rw [← hAe]; exact Or.inr h
  have hS : va_S A s.heap s.heap [] := va_S.rf
  have hP : va_P (dC, dI) vwCl [(w0, .inr (4, [.int m0_, .int m1_, .int m2_, .int m3_, .int m4_, .int m5_, .ref wt, .ref wi])), (wt, .inl (cY 0, 5, .inl tr)), (wi, .inl (cY 1, 6, .inl inn))] s.heap := hP
  have hl := lv_entry ([.ref w0, .int what, .int value]) (n := 3) (Nat.le_of_ble_eq_true rfl)
  rw [lg_entry_eq]
  generalize (lg_sl ([.ref w0, .int what, .int value]) ++ List.replicate (3 - (lg_sl ([.ref w0, .int what, .int value])).length) Slot.unset).toArray = ls at hl ⊢
  have hl : lv_has ls 3 [(0, .ref w0), (1, .int what), (2, .int value)] := hl
  refine lv_iload_n hx hb dX4_setTrait_0 rfl (lv_at hl 1 rfl) ?_
  refine lv_if_lt (tgt := 16) hx hb dX4_setTrait_1 (by decide) (fun c_1 => ?_) (fun c_1 => ?_)
  · have eo_2 : (X4_setTrait_w1 tr value what) = tr := by rw [X4_setTrait_w1]; simp only [eq_true c_1, ↓reduceIte]
    have hP9 : va_P (dC, dI) vwCl [(w0, .inr (4, [.int m0_, .int m1_, .int m2_, .int m3_, .int m4_, .int m5_, .ref wt, .ref wi])), (wt, .inl (cY 0, 5, .inl (X4_setTrait_w1 tr value what))), (wi, .inl (cY 1, 6, .inl inn))] s.heap := by simp only [eo_2]; exact hP
    have hD9 : va_D A [(w0, .inr (4, [.int m0_, .int m1_, .int m2_, .int m3_, .int m4_, .int m5_, .ref wt, .ref wi])), (wt, .inl (cY 0, 5, .inl (X4_setTrait_w1 tr value what))), (wi, .inl (cY 1, 6, .inl inn))] := by simp only [eo_2]; exact hD
    exact W.vret hx hb hr (fun t ht hW => ⟨⟨(), rfl, trivial, wPost_of hP9 hD9 ht⟩, hS.F ht⟩) hS.2.2 dX4_setTrait_16
  · refine lv_iload_n hx hb dX4_setTrait_4 rfl (lv_at hl 1 rfl) ?_
    refine lv_iconst (v := 5) hx hb dX4_setTrait_5 (by decide) ?_
    refine lv_icmp_ge (tgt := 16) hx hb dX4_setTrait_6 (by decide) (fun c_3 => ?_) (fun c_3 => ?_)
    · have eo_4 : (X4_setTrait_w1 tr value what) = tr := by rw [X4_setTrait_w1]; simp only [eq_false c_1, eq_true c_3, ↓reduceIte]
      have hP9 : va_P (dC, dI) vwCl [(w0, .inr (4, [.int m0_, .int m1_, .int m2_, .int m3_, .int m4_, .int m5_, .ref wt, .ref wi])), (wt, .inl (cY 0, 5, .inl (X4_setTrait_w1 tr value what))), (wi, .inl (cY 1, 6, .inl inn))] s.heap := by simp only [eo_4]; exact hP
      have hD9 : va_D A [(w0, .inr (4, [.int m0_, .int m1_, .int m2_, .int m3_, .int m4_, .int m5_, .ref wt, .ref wi])), (wt, .inl (cY 0, 5, .inl (X4_setTrait_w1 tr value what))), (wi, .inl (cY 1, 6, .inl inn))] := by simp only [eo_4]; exact hD
      exact W.vret hx hb hr (fun t ht hW => ⟨⟨(), rfl, trivial, wPost_of hP9 hD9 ht⟩, hS.F ht⟩) hS.2.2 dX4_setTrait_16
    · refine lv_aload_n hx hb dX4_setTrait_9 rfl (lv_at hl 0 rfl) ?_
      refine va_get (D := (dC, dI)) (ci := 4) (v := .ref wt) (C := RX4) (T := TX4) (N := 8) hx hb hts inw_X4_setTrait_X4 hown hK hP 0 rfl rfl 6 (by decide) (hts (.fieldLink RX4 30 "DuelFrames$Move" "traits" "[I") (List.mem_of_getElem? (i := 1) rfl)) (fun _ h9 => h9) rfl dX4_setTrait_10 ?_
      refine lv_iload_n hx hb dX4_setTrait_13 rfl (lv_at hl 1 rfl) ?_
      refine lv_iload_n hx hb dX4_setTrait_14 rfl (lv_at hl 2 rfl) ?_
      refine va_iast hx hb hK hP hD hS 1 0 rfl rfl (vinr 5 rfl c_1 c_3) dX4_setTrait_15 (fun H locs hP1 hD1 hS1 => ?_)
      clear hP hD hS
      have hP : va_P (dC, dI) vwCl [(w0, .inr (4, [.int m0_, .int m1_, .int m2_, .int m3_, .int m4_, .int m5_, .ref wt, .ref wi])), (wt, .inl (cY 0, 5, .inl (upd tr what.toNatClampNeg value))), (wi, .inl (cY 1, 6, .inl inn))] H := hP1
      have hD : va_D A [(w0, .inr (4, [.int m0_, .int m1_, .int m2_, .int m3_, .int m4_, .int m5_, .ref wt, .ref wi])), (wt, .inl (cY 0, 5, .inl (upd tr what.toNatClampNeg value))), (wi, .inl (cY 1, 6, .inl inn))] := hD1
      have hS := hS1
      clear hP1 hD1 hS1
      have eo_5 : (X4_setTrait_w1 tr value what) = (upd tr what.toNatClampNeg value) := by rw [X4_setTrait_w1]; simp only [eq_false c_1, eq_false c_3, ↓reduceIte]
      have hP9 : va_P (dC, dI) vwCl [(w0, .inr (4, [.int m0_, .int m1_, .int m2_, .int m3_, .int m4_, .int m5_, .ref wt, .ref wi])), (wt, .inl (cY 0, 5, .inl (X4_setTrait_w1 tr value what))), (wi, .inl (cY 1, 6, .inl inn))] H := by simp only [eo_5]; exact hP
      have hD9 : va_D A [(w0, .inr (4, [.int m0_, .int m1_, .int m2_, .int m3_, .int m4_, .int m5_, .ref wt, .ref wi])), (wt, .inl (cY 0, 5, .inl (X4_setTrait_w1 tr value what))), (wi, .inl (cY 1, 6, .inl inn))] := by simp only [eo_5]; exact hD
      exact W.vret hx hb hr (fun t ht hW => ⟨⟨(), rfl, trivial, wPost_of hP9 hD9 ht⟩, hS.F ht⟩) hS.2.2 dX4_setTrait_16
theorem inw_X4_letGoInto_X4 : ∀ w ∈ u_ws RX4 TX4 8, w ∈ wsX4_letGoInto := fun _ h => List.mem_cons_of_mem _ (List.mem_append_right _ h)
def X4_letGoInto_w2 (inn : Nat → Int32) (is_ : Int32) (move : Int32) : Nat → Int32 := (if move < 0 then inn else (if 6 ≤ move then inn else (upd inn move.toNatClampNeg is_)))
set_option maxHeartbeats 4000000 in
set_option maxRecDepth 100000 in
theorem c_X4_letGoInto (l : Launch) (dC : Nat → ClassId) (dI : Nat → Nat → Nat) (cY : Nat → ClassId) (w0 : Nat) (wt : Nat) (wi : Nat) (m0_ : Int32) (m1_ : Int32) (m2_ : Int32) (m3_ : Int32) (m4_ : Int32) (m5_ : Int32) (tr : Nat → Int32) (inn : Nat → Int32) (move : Int32) (is_ : Int32) (hz : is_ = 0 ∨ is_ = 1) (sz : Nat) : Met l yX4_letGoInto wsX4_letGoInto ({ frames := 0, cells := 0, slots := 0, locals := 0 } : Room) (va_Pc [.ref w0, .int move, .int is_] (wPre (dC, dI) (tyL cY) [(w0, .inr (4, [.int m0_, .int m1_, .int m2_, .int m3_, .int m4_, .int m5_, .ref wt, .ref wi])), (wt, .inl (cY 0, 5, .inl tr)), (wi, .inl (cY 1, 6, .inl inn))] sz)) (va_Qv (fun _ : Unit => True) (wPost (dC, dI) [(w0, .inr (4, [.int m0_, .int m1_, .int m2_, .int m3_, .int m4_, .int m5_, .ref wt, .ref wi])), (wt, .inl (cY 0, 5, .inl tr)), (wi, .inl (cY 1, 6, .inl (X4_letGoInto_w2 inn is_ move)))] (va_A [(w0, .inr (4, [.int m0_, .int m1_, .int m2_, .int m3_, .int m4_, .int m5_, .ref wt, .ref wi])), (wt, .inl (cY 0, 5, .inl tr)), (wi, .inl (cY 1, 6, .inl inn))] sz)) (va_A [(w0, .inr (4, [.int m0_, .int m1_, .int m2_, .int m3_, .int m4_, .int m5_, .ref wt, .ref wi])), (wt, .inl (cY 0, 5, .inl tr)), (wi, .inl (cY 1, 6, .inl inn))] sz)) 0 0 (va_A [(w0, .inr (4, [.int m0_, .int m1_, .int m2_, .int m3_, .int m4_, .int m5_, .ref wt, .ref wi])), (wt, .inl (cY 0, 5, .inl tr)), (wi, .inl (cY 1, 6, .inl inn))] sz) := by
  refine Met.ofW (cc := cX4_letGoInto) (maxL := 3) (ret := none) (by decide) rfl ?_
  intro p e s m args below meth c s₁ B hml hv
  obtain ⟨rfl, hsz, hP, hK, hN, hD0⟩ := hv
  have hx := B.exec
  have hb := B.bytes
  have hr := B.returns
  have hts := atoms_spec (ws := wsX4_letGoInto) B.pre
  have hown : s.vm.findClass RX4 = some m.cls := findClass_of_methodNamed B.named
  have hlocks := B.notSynchronized
  subst hsz
  have hD := hD0.self (sz := s.heap.size)
  generalize hAe : va_A [(w0, .inr (4, [.int m0_, .int m1_, .int m2_, .int m3_, .int m4_, .int m5_, .ref wt, .ref wi])), (wt, .inl (cY 0, 5, .inl tr)), (wi, .inl (cY 1, 6, .inl inn))] s.heap.size = A at hD ⊢
  have hA : ∀ q : Nat, s.heap.size ≤ q → A q := fun q h => by rw [← hAe]; exact Or.inr h
  have hS : va_S A s.heap s.heap [] := va_S.rf
  have hP : va_P (dC, dI) vwCl [(w0, .inr (4, [.int m0_, .int m1_, .int m2_, .int m3_, .int m4_, .int m5_, .ref wt, .ref wi])), (wt, .inl (cY 0, 5, .inl tr)), (wi, .inl (cY 1, 6, .inl inn))] s.heap := hP
  have hl := lv_entry ([.ref w0, .int move, .int is_]) (n := 3) (Nat.le_of_ble_eq_true rfl)
  rw [lg_entry_eq]
  generalize (lg_sl ([.ref w0, .int move, .int is_]) ++ List.replicate (3 - (lg_sl ([.ref w0, .int move, .int is_])).length) Slot.unset).toArray = ls at hl ⊢
  have hl : lv_has ls 3 [(0, .ref w0), (1, .int move), (2, .int is_)] := hl
  refine lv_iload_n hx hb dX4_letGoInto_0 rfl (lv_at hl 1 rfl) ?_
  refine lv_if_lt (tgt := 17) hx hb dX4_letGoInto_1 (by decide) (fun c_1 => ?_) (fun c_1 => ?_)
  · have eo_2 : (X4_letGoInto_w2 inn is_ move) = inn := by rw [X4_letGoInto_w2]; simp only [eq_true c_1, ↓reduceIte]
    have hP9 : va_P (dC, dI) vwCl [(w0, .inr (4, [.int m0_, .int m1_, .int m2_, .int m3_, .int m4_, .int m5_, .ref wt, .ref wi])), (wt, .inl (cY 0, 5, .inl tr)), (wi, .inl (cY 1, 6, .inl (X4_letGoInto_w2 inn is_ move)))] s.heap := by simp only [eo_2]; exact hP
    have hD9 : va_D A [(w0, .inr (4, [.int m0_, .int m1_, .int m2_, .int m3_, .int m4_, .int m5_, .ref wt, .ref wi])), (wt, .inl (cY 0, 5, .inl tr)), (wi, .inl (cY 1, 6, .inl (X4_letGoInto_w2 inn is_ move)))] := by simp only [eo_2]; exact hD
    exact W.vret hx hb hr (fun t ht hW => ⟨⟨(), rfl, trivial, wPost_of hP9 hD9 ht⟩, hS.F ht⟩) hS.2.2 dX4_letGoInto_17
  · refine lv_iload_n hx hb dX4_letGoInto_4 rfl (lv_at hl 1 rfl) ?_
    refine lv_bipush (v := 6) hx hb dX4_letGoInto_5 (by decide) ?_
    refine lv_icmp_ge (tgt := 17) hx hb dX4_letGoInto_7 (by decide) (fun c_3 => ?_) (fun c_3 => ?_)
    · have eo_4 : (X4_letGoInto_w2 inn is_ move) = inn := by rw [X4_letGoInto_w2]; simp only [eq_false c_1, eq_true c_3, ↓reduceIte]
      have hP9 : va_P (dC, dI) vwCl [(w0, .inr (4, [.int m0_, .int m1_, .int m2_, .int m3_, .int m4_, .int m5_, .ref wt, .ref wi])), (wt, .inl (cY 0, 5, .inl tr)), (wi, .inl (cY 1, 6, .inl (X4_letGoInto_w2 inn is_ move)))] s.heap := by simp only [eo_4]; exact hP
      have hD9 : va_D A [(w0, .inr (4, [.int m0_, .int m1_, .int m2_, .int m3_, .int m4_, .int m5_, .ref wt, .ref wi])), (wt, .inl (cY 0, 5, .inl tr)), (wi, .inl (cY 1, 6, .inl (X4_letGoInto_w2 inn is_ move)))] := by simp only [eo_4]; exact hD
      exact W.vret hx hb hr (fun t ht hW => ⟨⟨(), rfl, trivial, wPost_of hP9 hD9 ht⟩, hS.F ht⟩) hS.2.2 dX4_letGoInto_17
    · refine lv_aload_n hx hb dX4_letGoInto_10 rfl (lv_at hl 0 rfl) ?_
      refine va_get (D := (dC, dI)) (ci := 4) (v := .ref wi) (C := RX4) (T := TX4) (N := 8) hx hb hts inw_X4_letGoInto_X4 hown hK hP 0 rfl rfl 7 (by decide) (hts (.fieldLink RX4 34 "DuelFrames$Move" "into" "[Z") (List.mem_of_getElem? (i := 1) rfl)) (fun _ h9 => h9) rfl dX4_letGoInto_11 ?_
      refine lv_iload_n hx hb dX4_letGoInto_14 rfl (lv_at hl 1 rfl) ?_
      refine lv_iload_n hx hb dX4_letGoInto_15 rfl (lv_at hl 2 rfl) ?_
      refine va_zast hx hb hK hP hD hS 2 1 rfl rfl (vinr 6 rfl c_1 c_3) dX4_letGoInto_16 (fun H locs hP1 hD1 hS1 => ?_)
      rw [show vp_nar .boolean is_ = is_ from zb_v hz] at hP1 hD1
      clear hP hD hS
      have hP : va_P (dC, dI) vwCl [(w0, .inr (4, [.int m0_, .int m1_, .int m2_, .int m3_, .int m4_, .int m5_, .ref wt, .ref wi])), (wt, .inl (cY 0, 5, .inl tr)), (wi, .inl (cY 1, 6, .inl (upd inn move.toNatClampNeg is_)))] H := hP1
      have hD : va_D A [(w0, .inr (4, [.int m0_, .int m1_, .int m2_, .int m3_, .int m4_, .int m5_, .ref wt, .ref wi])), (wt, .inl (cY 0, 5, .inl tr)), (wi, .inl (cY 1, 6, .inl (upd inn move.toNatClampNeg is_)))] := hD1
      have hS := hS1
      clear hP1 hD1 hS1
      have eo_5 : (X4_letGoInto_w2 inn is_ move) = (upd inn move.toNatClampNeg is_) := by rw [X4_letGoInto_w2]; simp only [eq_false c_1, eq_false c_3, ↓reduceIte]
      have hP9 : va_P (dC, dI) vwCl [(w0, .inr (4, [.int m0_, .int m1_, .int m2_, .int m3_, .int m4_, .int m5_, .ref wt, .ref wi])), (wt, .inl (cY 0, 5, .inl tr)), (wi, .inl (cY 1, 6, .inl (X4_letGoInto_w2 inn is_ move)))] H := by simp only [eo_5]; exact hP
      have hD9 : va_D A [(w0, .inr (4, [.int m0_, .int m1_, .int m2_, .int m3_, .int m4_, .int m5_, .ref wt, .ref wi])), (wt, .inl (cY 0, 5, .inl tr)), (wi, .inl (cY 1, 6, .inl (X4_letGoInto_w2 inn is_ move)))] := by simp only [eo_5]; exact hD
      exact W.vret hx hb hr (fun t ht hW => ⟨⟨(), rfl, trivial, wPost_of hP9 hD9 ht⟩, hS.F ht⟩) hS.2.2 dX4_letGoInto_17
theorem inw_X4_make_X4 : ∀ w ∈ u_ws RX4 TX4 8, w ∈ wsX4_make := fun _ h => List.mem_cons_of_mem _ (List.mem_append_right _ h)
def X4_make_w1 (tr : Nat → Int32) : Nat → Int32 := (X4_setTrait_w1 (X4_setTrait_w1 (X4_setTrait_w1 (X4_setTrait_w1 (X4_setTrait_w1 tr 20 0) 12 1) 10 2) 0 3) 5 4)
set_option maxHeartbeats 4000000 in
set_option maxRecDepth 100000 in
theorem c_X4_make (l : Launch) (dC : Nat → ClassId) (dI : Nat → Nat → Nat) (cY : Nat → ClassId) (w0 : Nat) (wt : Nat) (wi : Nat) (m0_ : Int32) (m1_ : Int32) (m2_ : Int32) (m3_ : Int32) (m4_ : Int32) (m5_ : Int32) (tr : Nat → Int32) (inn : Nat → Int32) (p0 : Int32) (p1 : Int32) (p2 : Int32) (p3 : Int32) (p4 : Int32) (p5 : Int32)  (sz : Nat) : Met l yX4_make wsX4_make ({ frames := 1, cells := 0, slots := 0, locals := 22 } : Room) (va_Pc [.ref w0, .int p0, .int p1, .int p2, .int p3, .int p4, .int p5] (wPre (dC, dI) (tyL cY) [(w0, .inr (4, [.int m0_, .int m1_, .int m2_, .int m3_, .int m4_, .int m5_, .ref wt, .ref wi])), (wt, .inl (cY 0, 5, .inl tr)), (wi, .inl (cY 1, 6, .inl inn))] sz)) (va_Qv (fun _ : Unit => True) (wPost (dC, dI) [(w0, .inr (4, [.int p0, .int p1, .int p2, .int p3, .int p4, .int p5, .ref wt, .ref wi])), (wt, .inl (cY 0, 5, .inl (X4_make_w1 tr))), (wi, .inl (cY 1, 6, .inl inn))] (va_A [(w0, .inr (4, [.int m0_, .int m1_, .int m2_, .int m3_, .int m4_, .int m5_, .ref wt, .ref wi])), (wt, .inl (cY 0, 5, .inl tr)), (wi, .inl (cY 1, 6, .inl inn))] sz)) (va_A [(w0, .inr (4, [.int m0_, .int m1_, .int m2_, .int m3_, .int m4_, .int m5_, .ref wt, .ref wi])), (wt, .inl (cY 0, 5, .inl tr)), (wi, .inl (cY 1, 6, .inl inn))] sz)) 0 0 (va_A [(w0, .inr (4, [.int m0_, .int m1_, .int m2_, .int m3_, .int m4_, .int m5_, .ref wt, .ref wi])), (wt, .inl (cY 0, 5, .inl tr)), (wi, .inl (cY 1, 6, .inl inn))] sz) := by
  refine Met.ofW (cc := cX4_make) (maxL := 7) (ret := none) (by decide) rfl ?_
  intro p e s m args below meth c s₁ B hml hv
  obtain ⟨rfl, hsz, hP, hK, hN, hD0⟩ := hv
  have hx := B.exec
  have hb := B.bytes
  have hr := B.returns
  have hts := atoms_spec (ws := wsX4_make) B.pre
  have hown : s.vm.findClass RX4 = some m.cls := findClass_of_methodNamed B.named
  have hlocks := B.notSynchronized
  subst hsz
  have hD := hD0.self (sz := s.heap.size)
  generalize hAe : va_A [(w0, .inr (4, [.int m0_, .int m1_, .int m2_, .int m3_, .int m4_, .int m5_, .ref wt, .ref wi])), (wt, .inl (cY 0, 5, .inl tr)), (wi, .inl (cY 1, 6, .inl inn))] s.heap.size = A at hD ⊢
  have hA : ∀ q : Nat, s.heap.size ≤ q → A q := fun q h => by rw [← hAe]; exact Or.inr h
  have hS : va_S A s.heap s.heap [] := va_S.rf
  have hP : va_P (dC, dI) vwCl [(w0, .inr (4, [.int m0_, .int m1_, .int m2_, .int m3_, .int m4_, .int m5_, .ref wt, .ref wi])), (wt, .inl (cY 0, 5, .inl tr)), (wi, .inl (cY 1, 6, .inl inn))] s.heap := hP
  have hl := lv_entry ([.ref w0, .int p0, .int p1, .int p2, .int p3, .int p4, .int p5]) (n := 7) (Nat.le_of_ble_eq_true rfl)
  rw [lg_entry_eq]
  generalize (lg_sl ([.ref w0, .int p0, .int p1, .int p2, .int p3, .int p4, .int p5]) ++ List.replicate (7 - (lg_sl ([.ref w0, .int p0, .int p1, .int p2, .int p3, .int p4, .int p5])).length) Slot.unset).toArray = ls at hl ⊢
  have hl : lv_has ls 7 [(0, .ref w0), (1, .int p0), (2, .int p1), (3, .int p2), (4, .int p3), (5, .int p4), (6, .int p5)] := hl
  refine lv_aload_n hx hb dX4_make_0 rfl (lv_at hl 0 rfl) ?_
  refine lv_iload_n hx hb dX4_make_1 rfl (lv_at hl 1 rfl) ?_
  refine va_put (D := (dC, dI)) (ci := 4) (v := .int p0) (ty := .int) (C := RX4) (T := TX4) (N := 8) hx hb hts inw_X4_make_X4 tyX4 tyX4_ok nmX4 hown hK hP hD hS 0 rfl rfl 0 (by decide) (hts (.fieldLink RX4 9 "DuelFrames$Move" "startup" "I") (List.mem_of_getElem? (i := 1) rfl)) (fun _ h9 => h9) rfl (by decide +kernel) rfl rfl (Nat.le_of_ble_eq_true rfl) dX4_make_2 (fun H locs hP1 hD1 hS1 => ?_)
  clear hP hD hS
  have hP : va_P (dC, dI) vwCl [(w0, .inr (4, [.int p0, .int m1_, .int m2_, .int m3_, .int m4_, .int m5_, .ref wt, .ref wi])), (wt, .inl (cY 0, 5, .inl tr)), (wi, .inl (cY 1, 6, .inl inn))] H := hP1
  have hD : va_D A [(w0, .inr (4, [.int p0, .int m1_, .int m2_, .int m3_, .int m4_, .int m5_, .ref wt, .ref wi])), (wt, .inl (cY 0, 5, .inl tr)), (wi, .inl (cY 1, 6, .inl inn))] := hD1
  have hS := hS1
  clear hP1 hD1 hS1
  refine lv_aload_n hx hb dX4_make_5 rfl (lv_at hl 0 rfl) ?_
  refine lv_iload_n hx hb dX4_make_6 rfl (lv_at hl 2 rfl) ?_
  refine va_put (D := (dC, dI)) (ci := 4) (v := .int p1) (ty := .int) (C := RX4) (T := TX4) (N := 8) hx hb hts inw_X4_make_X4 tyX4 tyX4_ok nmX4 hown hK hP hD hS 0 rfl rfl 1 (by decide) (hts (.fieldLink RX4 15 "DuelFrames$Move" "active" "I") (List.mem_of_getElem? (i := 2) rfl)) (fun _ h9 => h9) rfl (by decide +kernel) rfl rfl (Nat.le_of_ble_eq_true rfl) dX4_make_7 (fun H locs hP1 hD1 hS1 => ?_)
  clear hP hD hS
  have hP : va_P (dC, dI) vwCl [(w0, .inr (4, [.int p0, .int p1, .int m2_, .int m3_, .int m4_, .int m5_, .ref wt, .ref wi])), (wt, .inl (cY 0, 5, .inl tr)), (wi, .inl (cY 1, 6, .inl inn))] H := hP1
  have hD : va_D A [(w0, .inr (4, [.int p0, .int p1, .int m2_, .int m3_, .int m4_, .int m5_, .ref wt, .ref wi])), (wt, .inl (cY 0, 5, .inl tr)), (wi, .inl (cY 1, 6, .inl inn))] := hD1
  have hS := hS1
  clear hP1 hD1 hS1
  refine lv_aload_n hx hb dX4_make_10 rfl (lv_at hl 0 rfl) ?_
  refine lv_iload_n hx hb dX4_make_11 rfl (lv_at hl 3 rfl) ?_
  refine va_put (D := (dC, dI)) (ci := 4) (v := .int p2) (ty := .int) (C := RX4) (T := TX4) (N := 8) hx hb hts inw_X4_make_X4 tyX4 tyX4_ok nmX4 hown hK hP hD hS 0 rfl rfl 2 (by decide) (hts (.fieldLink RX4 18 "DuelFrames$Move" "recovery" "I") (List.mem_of_getElem? (i := 3) rfl)) (fun _ h9 => h9) rfl (by decide +kernel) rfl rfl (Nat.le_of_ble_eq_true rfl) dX4_make_12 (fun H locs hP1 hD1 hS1 => ?_)
  clear hP hD hS
  have hP : va_P (dC, dI) vwCl [(w0, .inr (4, [.int p0, .int p1, .int p2, .int m3_, .int m4_, .int m5_, .ref wt, .ref wi])), (wt, .inl (cY 0, 5, .inl tr)), (wi, .inl (cY 1, 6, .inl inn))] H := hP1
  have hD : va_D A [(w0, .inr (4, [.int p0, .int p1, .int p2, .int m3_, .int m4_, .int m5_, .ref wt, .ref wi])), (wt, .inl (cY 0, 5, .inl tr)), (wi, .inl (cY 1, 6, .inl inn))] := hD1
  have hS := hS1
  clear hP1 hD1 hS1
  refine lv_aload_n hx hb dX4_make_15 rfl (lv_at hl 0 rfl) ?_
  refine lv_iload hx hb dX4_make_16 (lv_at hl 4 rfl) ?_
  refine va_put (D := (dC, dI)) (ci := 4) (v := .int p3) (ty := .int) (C := RX4) (T := TX4) (N := 8) hx hb hts inw_X4_make_X4 tyX4 tyX4_ok nmX4 hown hK hP hD hS 0 rfl rfl 3 (by decide) (hts (.fieldLink RX4 21 "DuelFrames$Move" "reach" "I") (List.mem_of_getElem? (i := 4) rfl)) (fun _ h9 => h9) rfl (by decide +kernel) rfl rfl (Nat.le_of_ble_eq_true rfl) dX4_make_18 (fun H locs hP1 hD1 hS1 => ?_)
  clear hP hD hS
  have hP : va_P (dC, dI) vwCl [(w0, .inr (4, [.int p0, .int p1, .int p2, .int p3, .int m4_, .int m5_, .ref wt, .ref wi])), (wt, .inl (cY 0, 5, .inl tr)), (wi, .inl (cY 1, 6, .inl inn))] H := hP1
  have hD : va_D A [(w0, .inr (4, [.int p0, .int p1, .int p2, .int p3, .int m4_, .int m5_, .ref wt, .ref wi])), (wt, .inl (cY 0, 5, .inl tr)), (wi, .inl (cY 1, 6, .inl inn))] := hD1
  have hS := hS1
  clear hP1 hD1 hS1
  refine lv_aload_n hx hb dX4_make_21 rfl (lv_at hl 0 rfl) ?_
  refine lv_iload hx hb dX4_make_22 (lv_at hl 5 rfl) ?_
  refine va_put (D := (dC, dI)) (ci := 4) (v := .int p4) (ty := .int) (C := RX4) (T := TX4) (N := 8) hx hb hts inw_X4_make_X4 tyX4 tyX4_ok nmX4 hown hK hP hD hS 0 rfl rfl 4 (by decide) (hts (.fieldLink RX4 24 "DuelFrames$Move" "kind" "I") (List.mem_of_getElem? (i := 5) rfl)) (fun _ h9 => h9) rfl (by decide +kernel) rfl rfl (Nat.le_of_ble_eq_true rfl) dX4_make_24 (fun H locs hP1 hD1 hS1 => ?_)
  clear hP hD hS
  have hP : va_P (dC, dI) vwCl [(w0, .inr (4, [.int p0, .int p1, .int p2, .int p3, .int p4, .int m5_, .ref wt, .ref wi])), (wt, .inl (cY 0, 5, .inl tr)), (wi, .inl (cY 1, 6, .inl inn))] H := hP1
  have hD : va_D A [(w0, .inr (4, [.int p0, .int p1, .int p2, .int p3, .int p4, .int m5_, .ref wt, .ref wi])), (wt, .inl (cY 0, 5, .inl tr)), (wi, .inl (cY 1, 6, .inl inn))] := hD1
  have hS := hS1
  clear hP1 hD1 hS1
  refine lv_aload_n hx hb dX4_make_27 rfl (lv_at hl 0 rfl) ?_
  refine lv_iload hx hb dX4_make_28 (lv_at hl 6 rfl) ?_
  refine va_put (D := (dC, dI)) (ci := 4) (v := .int p5) (ty := .int) (C := RX4) (T := TX4) (N := 8) hx hb hts inw_X4_make_X4 tyX4 tyX4_ok nmX4 hown hK hP hD hS 0 rfl rfl 5 (by decide) (hts (.fieldLink RX4 27 "DuelFrames$Move" "damage" "I") (List.mem_of_getElem? (i := 6) rfl)) (fun _ h9 => h9) rfl (by decide +kernel) rfl rfl (Nat.le_of_ble_eq_true rfl) dX4_make_30 (fun H locs hP1 hD1 hS1 => ?_)
  clear hP hD hS
  have hP : va_P (dC, dI) vwCl [(w0, .inr (4, [.int p0, .int p1, .int p2, .int p3, .int p4, .int p5, .ref wt, .ref wi])), (wt, .inl (cY 0, 5, .inl tr)), (wi, .inl (cY 1, 6, .inl inn))] H := hP1
  have hD : va_D A [(w0, .inr (4, [.int p0, .int p1, .int p2, .int p3, .int p4, .int p5, .ref wt, .ref wi])), (wt, .inl (cY 0, 5, .inl tr)), (wi, .inl (cY 1, 6, .inl inn))] := hD1
  have hS := hS1
  clear hP1 hD1 hS1
  refine lv_aload_n hx hb dX4_make_33 rfl (lv_at hl 0 rfl) ?_
  refine lv_iconst (v := 0) hx hb dX4_make_34 (by decide) ?_
  refine lv_bipush (v := 20) hx hb dX4_make_35 (by decide) ?_
  have hPc := hP.sub (ws' := [(w0, .inr (4, [.int p0, .int p1, .int p2, .int p3, .int p4, .int p5, .ref wt, .ref wi])), (wt, .inl (cY 0, 5, .inl tr)), (wi, .inl (cY 1, 6, .inl inn))]) [0, 1, 2] rfl
  have hDc := hD.sub (ws' := [(w0, .inr (4, [.int p0, .int p1, .int p2, .int p3, .int p4, .int p5, .ref wt, .ref wi])), (wt, .inl (cY 0, 5, .inl tr)), (wi, .inl (cY 1, 6, .inl inn))]) [0, 1, 2] (by decide) rfl
  have hFc := va_free (wc := [(w0, .inr (4, [.int p0, .int p1, .int p2, .int p3, .int p4, .int p5, .ref wt, .ref wi])), (wt, .inl (cY 0, 5, .inl tr)), (wi, .inl (cY 1, 6, .inl inn))]) hD hS hA [0, 1, 2] rfl
  refine va_callv (va_runV (As := [.int 0, .int 20]) (rest := []) ⟨hx, hb, hml, hown, hts⟩ (c_X4_setTrait l dC dI cY w0 wt wi p0 p1 p2 p3 p4 p5 tr inn 0 20 H.size) (cwV 2 hts gX4_make_X4_setTrait rfl rfl rfl (by decide +kernel) ⟨Nat.le_of_ble_eq_true rfl, Nat.le_of_ble_eq_true rfl⟩) ⟨blindW, va_recv hK hPc (ci := 4) (q0 := 0) rfl rfl, fun U hU hW => ⟨rfl, wPre_of hPc hK hN hDc U hU hW⟩⟩ rfl rfl hl.1 rfl (lv_room (Nat.le_of_ble_eq_true rfl)) dX4_make_37 ⟨Nat.zero_le _, Nat.zero_le _⟩) hS (fun q _ h => hFc q h) hFc (fun u t H1 locs ht hvm hw hB hz1 hk1 hS1 => ?_)
  have hJ := wJoin (wr := []) (w1 := [(w0, .inr (4, [.int p0, .int p1, .int p2, .int p3, .int p4, .int p5, .ref wt, .ref wi])), (wt, .inl (cY 0, 5, .inl (X4_setTrait_w1 tr 20 0))), (wi, .inl (cY 1, 6, .inl inn))]) (wn := [(w0, .inr (4, [.int p0, .int p1, .int p2, .int p3, .int p4, .int p5, .ref wt, .ref wi])), (wt, .inl (cY 0, 5, .inl (X4_setTrait_w1 tr 20 0))), (wi, .inl (cY 1, 6, .inl inn))]) hP hD [0, 1, 2] [] rfl rfl (by decide) (by decide) hk1 hFc hB ht [0, 1, 2] rfl (by decide)
  clear hB hk1 hFc hPc hDc hP hD hS hz1 hvm ht t
  obtain ⟨hP1, hD1⟩ := hJ
  generalize H1 = H at hP1 hS1 ⊢
  have hP : va_P (dC, dI) vwCl [(w0, .inr (4, [.int p0, .int p1, .int p2, .int p3, .int p4, .int p5, .ref wt, .ref wi])), (wt, .inl (cY 0, 5, .inl (X4_setTrait_w1 tr 20 0))), (wi, .inl (cY 1, 6, .inl inn))] H := hP1
  have hD : va_D A [(w0, .inr (4, [.int p0, .int p1, .int p2, .int p3, .int p4, .int p5, .ref wt, .ref wi])), (wt, .inl (cY 0, 5, .inl (X4_setTrait_w1 tr 20 0))), (wi, .inl (cY 1, 6, .inl inn))] := hD1
  have hS := hS1
  clear hP1 hD1 hS1
  obtain ⟨z_2, ez_2⟩ : ∃ z, z = (X4_setTrait_w1 tr 20 0) := ⟨_, rfl⟩
  rw [← ez_2] at hP hD
  refine lv_aload_n hx hb dX4_make_40 rfl (lv_at hl 0 rfl) ?_
  refine lv_iconst (v := 1) hx hb dX4_make_41 (by decide) ?_
  refine lv_bipush (v := 12) hx hb dX4_make_42 (by decide) ?_
  have hPc := hP.sub (ws' := [(w0, .inr (4, [.int p0, .int p1, .int p2, .int p3, .int p4, .int p5, .ref wt, .ref wi])), (wt, .inl (cY 0, 5, .inl z_2)), (wi, .inl (cY 1, 6, .inl inn))]) [0, 1, 2] rfl
  have hDc := hD.sub (ws' := [(w0, .inr (4, [.int p0, .int p1, .int p2, .int p3, .int p4, .int p5, .ref wt, .ref wi])), (wt, .inl (cY 0, 5, .inl z_2)), (wi, .inl (cY 1, 6, .inl inn))]) [0, 1, 2] (by decide) rfl
  have hFc := va_free (wc := [(w0, .inr (4, [.int p0, .int p1, .int p2, .int p3, .int p4, .int p5, .ref wt, .ref wi])), (wt, .inl (cY 0, 5, .inl z_2)), (wi, .inl (cY 1, 6, .inl inn))]) hD hS hA [0, 1, 2] rfl
  refine va_callv (va_runV (As := [.int 1, .int 12]) (rest := []) ⟨hx, hb, hml, hown, hts⟩ (c_X4_setTrait l dC dI cY w0 wt wi p0 p1 p2 p3 p4 p5 z_2 inn 1 12 H.size) (cwV 2 hts gX4_make_X4_setTrait rfl rfl rfl (by decide +kernel) ⟨Nat.le_of_ble_eq_true rfl, Nat.le_of_ble_eq_true rfl⟩) ⟨blindW, va_recv hK hPc (ci := 4) (q0 := 0) rfl rfl, fun U hU hW => ⟨rfl, wPre_of hPc hK hN hDc U hU hW⟩⟩ rfl rfl hl.1 rfl (lv_room (Nat.le_of_ble_eq_true rfl)) dX4_make_44 ⟨Nat.zero_le _, Nat.zero_le _⟩) hS (fun q _ h => hFc q h) hFc (fun u t H1 locs ht hvm hw hB hz1 hk1 hS1 => ?_)
  have hJ := wJoin (wr := []) (w1 := [(w0, .inr (4, [.int p0, .int p1, .int p2, .int p3, .int p4, .int p5, .ref wt, .ref wi])), (wt, .inl (cY 0, 5, .inl (X4_setTrait_w1 z_2 12 1))), (wi, .inl (cY 1, 6, .inl inn))]) (wn := [(w0, .inr (4, [.int p0, .int p1, .int p2, .int p3, .int p4, .int p5, .ref wt, .ref wi])), (wt, .inl (cY 0, 5, .inl (X4_setTrait_w1 z_2 12 1))), (wi, .inl (cY 1, 6, .inl inn))]) hP hD [0, 1, 2] [] rfl rfl (by decide) (by decide) hk1 hFc hB ht [0, 1, 2] rfl (by decide)
  clear hB hk1 hFc hPc hDc hP hD hS hz1 hvm ht t
  obtain ⟨hP1, hD1⟩ := hJ
  generalize H1 = H at hP1 hS1 ⊢
  have hP : va_P (dC, dI) vwCl [(w0, .inr (4, [.int p0, .int p1, .int p2, .int p3, .int p4, .int p5, .ref wt, .ref wi])), (wt, .inl (cY 0, 5, .inl (X4_setTrait_w1 z_2 12 1))), (wi, .inl (cY 1, 6, .inl inn))] H := hP1
  have hD : va_D A [(w0, .inr (4, [.int p0, .int p1, .int p2, .int p3, .int p4, .int p5, .ref wt, .ref wi])), (wt, .inl (cY 0, 5, .inl (X4_setTrait_w1 z_2 12 1))), (wi, .inl (cY 1, 6, .inl inn))] := hD1
  have hS := hS1
  clear hP1 hD1 hS1
  obtain ⟨z_4, ez_4⟩ : ∃ z, z = (X4_setTrait_w1 z_2 12 1) := ⟨_, rfl⟩
  rw [← ez_4] at hP hD
  refine lv_aload_n hx hb dX4_make_47 rfl (lv_at hl 0 rfl) ?_
  refine lv_iconst (v := 2) hx hb dX4_make_48 (by decide) ?_
  refine lv_bipush (v := 10) hx hb dX4_make_49 (by decide) ?_
  have hPc := hP.sub (ws' := [(w0, .inr (4, [.int p0, .int p1, .int p2, .int p3, .int p4, .int p5, .ref wt, .ref wi])), (wt, .inl (cY 0, 5, .inl z_4)), (wi, .inl (cY 1, 6, .inl inn))]) [0, 1, 2] rfl
  have hDc := hD.sub (ws' := [(w0, .inr (4, [.int p0, .int p1, .int p2, .int p3, .int p4, .int p5, .ref wt, .ref wi])), (wt, .inl (cY 0, 5, .inl z_4)), (wi, .inl (cY 1, 6, .inl inn))]) [0, 1, 2] (by decide) rfl
  have hFc := va_free (wc := [(w0, .inr (4, [.int p0, .int p1, .int p2, .int p3, .int p4, .int p5, .ref wt, .ref wi])), (wt, .inl (cY 0, 5, .inl z_4)), (wi, .inl (cY 1, 6, .inl inn))]) hD hS hA [0, 1, 2] rfl
  refine va_callv (va_runV (As := [.int 2, .int 10]) (rest := []) ⟨hx, hb, hml, hown, hts⟩ (c_X4_setTrait l dC dI cY w0 wt wi p0 p1 p2 p3 p4 p5 z_4 inn 2 10 H.size) (cwV 2 hts gX4_make_X4_setTrait rfl rfl rfl (by decide +kernel) ⟨Nat.le_of_ble_eq_true rfl, Nat.le_of_ble_eq_true rfl⟩) ⟨blindW, va_recv hK hPc (ci := 4) (q0 := 0) rfl rfl, fun U hU hW => ⟨rfl, wPre_of hPc hK hN hDc U hU hW⟩⟩ rfl rfl hl.1 rfl (lv_room (Nat.le_of_ble_eq_true rfl)) dX4_make_51 ⟨Nat.zero_le _, Nat.zero_le _⟩) hS (fun q _ h => hFc q h) hFc (fun u t H1 locs ht hvm hw hB hz1 hk1 hS1 => ?_)
  have hJ := wJoin (wr := []) (w1 := [(w0, .inr (4, [.int p0, .int p1, .int p2, .int p3, .int p4, .int p5, .ref wt, .ref wi])), (wt, .inl (cY 0, 5, .inl (X4_setTrait_w1 z_4 10 2))), (wi, .inl (cY 1, 6, .inl inn))]) (wn := [(w0, .inr (4, [.int p0, .int p1, .int p2, .int p3, .int p4, .int p5, .ref wt, .ref wi])), (wt, .inl (cY 0, 5, .inl (X4_setTrait_w1 z_4 10 2))), (wi, .inl (cY 1, 6, .inl inn))]) hP hD [0, 1, 2] [] rfl rfl (by decide) (by decide) hk1 hFc hB ht [0, 1, 2] rfl (by decide)
  clear hB hk1 hFc hPc hDc hP hD hS hz1 hvm ht t
  obtain ⟨hP1, hD1⟩ := hJ
  generalize H1 = H at hP1 hS1 ⊢
  have hP : va_P (dC, dI) vwCl [(w0, .inr (4, [.int p0, .int p1, .int p2, .int p3, .int p4, .int p5, .ref wt, .ref wi])), (wt, .inl (cY 0, 5, .inl (X4_setTrait_w1 z_4 10 2))), (wi, .inl (cY 1, 6, .inl inn))] H := hP1
  have hD : va_D A [(w0, .inr (4, [.int p0, .int p1, .int p2, .int p3, .int p4, .int p5, .ref wt, .ref wi])), (wt, .inl (cY 0, 5, .inl (X4_setTrait_w1 z_4 10 2))), (wi, .inl (cY 1, 6, .inl inn))] := hD1
  have hS := hS1
  clear hP1 hD1 hS1
  obtain ⟨z_6, ez_6⟩ : ∃ z, z = (X4_setTrait_w1 z_4 10 2) := ⟨_, rfl⟩
  rw [← ez_6] at hP hD
  refine lv_aload_n hx hb dX4_make_54 rfl (lv_at hl 0 rfl) ?_
  refine lv_iconst (v := 3) hx hb dX4_make_55 (by decide) ?_
  refine lv_iconst (v := 0) hx hb dX4_make_56 (by decide) ?_
  have hPc := hP.sub (ws' := [(w0, .inr (4, [.int p0, .int p1, .int p2, .int p3, .int p4, .int p5, .ref wt, .ref wi])), (wt, .inl (cY 0, 5, .inl z_6)), (wi, .inl (cY 1, 6, .inl inn))]) [0, 1, 2] rfl
  have hDc := hD.sub (ws' := [(w0, .inr (4, [.int p0, .int p1, .int p2, .int p3, .int p4, .int p5, .ref wt, .ref wi])), (wt, .inl (cY 0, 5, .inl z_6)), (wi, .inl (cY 1, 6, .inl inn))]) [0, 1, 2] (by decide) rfl
  have hFc := va_free (wc := [(w0, .inr (4, [.int p0, .int p1, .int p2, .int p3, .int p4, .int p5, .ref wt, .ref wi])), (wt, .inl (cY 0, 5, .inl z_6)), (wi, .inl (cY 1, 6, .inl inn))]) hD hS hA [0, 1, 2] rfl
  refine va_callv (va_runV (As := [.int 3, .int 0]) (rest := []) ⟨hx, hb, hml, hown, hts⟩ (c_X4_setTrait l dC dI cY w0 wt wi p0 p1 p2 p3 p4 p5 z_6 inn 3 0 H.size) (cwV 2 hts gX4_make_X4_setTrait rfl rfl rfl (by decide +kernel) ⟨Nat.le_of_ble_eq_true rfl, Nat.le_of_ble_eq_true rfl⟩) ⟨blindW, va_recv hK hPc (ci := 4) (q0 := 0) rfl rfl, fun U hU hW => ⟨rfl, wPre_of hPc hK hN hDc U hU hW⟩⟩ rfl rfl hl.1 rfl (lv_room (Nat.le_of_ble_eq_true rfl)) dX4_make_57 ⟨Nat.zero_le _, Nat.zero_le _⟩) hS (fun q _ h => hFc q h) hFc (fun u t H1 locs ht hvm hw hB hz1 hk1 hS1 => ?_)
  have hJ := wJoin (wr := []) (w1 := [(w0, .inr (4, [.int p0, .int p1, .int p2, .int p3, .int p4, .int p5, .ref wt, .ref wi])), (wt, .inl (cY 0, 5, .inl (X4_setTrait_w1 z_6 0 3))), (wi, .inl (cY 1, 6, .inl inn))]) (wn := [(w0, .inr (4, [.int p0, .int p1, .int p2, .int p3, .int p4, .int p5, .ref wt, .ref wi])), (wt, .inl (cY 0, 5, .inl (X4_setTrait_w1 z_6 0 3))), (wi, .inl (cY 1, 6, .inl inn))]) hP hD [0, 1, 2] [] rfl rfl (by decide) (by decide) hk1 hFc hB ht [0, 1, 2] rfl (by decide)
  clear hB hk1 hFc hPc hDc hP hD hS hz1 hvm ht t
  obtain ⟨hP1, hD1⟩ := hJ
  generalize H1 = H at hP1 hS1 ⊢
  have hP : va_P (dC, dI) vwCl [(w0, .inr (4, [.int p0, .int p1, .int p2, .int p3, .int p4, .int p5, .ref wt, .ref wi])), (wt, .inl (cY 0, 5, .inl (X4_setTrait_w1 z_6 0 3))), (wi, .inl (cY 1, 6, .inl inn))] H := hP1
  have hD : va_D A [(w0, .inr (4, [.int p0, .int p1, .int p2, .int p3, .int p4, .int p5, .ref wt, .ref wi])), (wt, .inl (cY 0, 5, .inl (X4_setTrait_w1 z_6 0 3))), (wi, .inl (cY 1, 6, .inl inn))] := hD1
  have hS := hS1
  clear hP1 hD1 hS1
  obtain ⟨z_8, ez_8⟩ : ∃ z, z = (X4_setTrait_w1 z_6 0 3) := ⟨_, rfl⟩
  rw [← ez_8] at hP hD
  refine lv_aload_n hx hb dX4_make_60 rfl (lv_at hl 0 rfl) ?_
  refine lv_iconst (v := 4) hx hb dX4_make_61 (by decide) ?_
  refine lv_iconst (v := 5) hx hb dX4_make_62 (by decide) ?_
  have hPc := hP.sub (ws' := [(w0, .inr (4, [.int p0, .int p1, .int p2, .int p3, .int p4, .int p5, .ref wt, .ref wi])), (wt, .inl (cY 0, 5, .inl z_8)), (wi, .inl (cY 1, 6, .inl inn))]) [0, 1, 2] rfl
  have hDc := hD.sub (ws' := [(w0, .inr (4, [.int p0, .int p1, .int p2, .int p3, .int p4, .int p5, .ref wt, .ref wi])), (wt, .inl (cY 0, 5, .inl z_8)), (wi, .inl (cY 1, 6, .inl inn))]) [0, 1, 2] (by decide) rfl
  have hFc := va_free (wc := [(w0, .inr (4, [.int p0, .int p1, .int p2, .int p3, .int p4, .int p5, .ref wt, .ref wi])), (wt, .inl (cY 0, 5, .inl z_8)), (wi, .inl (cY 1, 6, .inl inn))]) hD hS hA [0, 1, 2] rfl
  refine va_callv (va_runV (As := [.int 4, .int 5]) (rest := []) ⟨hx, hb, hml, hown, hts⟩ (c_X4_setTrait l dC dI cY w0 wt wi p0 p1 p2 p3 p4 p5 z_8 inn 4 5 H.size) (cwV 2 hts gX4_make_X4_setTrait rfl rfl rfl (by decide +kernel) ⟨Nat.le_of_ble_eq_true rfl, Nat.le_of_ble_eq_true rfl⟩) ⟨blindW, va_recv hK hPc (ci := 4) (q0 := 0) rfl rfl, fun U hU hW => ⟨rfl, wPre_of hPc hK hN hDc U hU hW⟩⟩ rfl rfl hl.1 rfl (lv_room (Nat.le_of_ble_eq_true rfl)) dX4_make_63 ⟨Nat.zero_le _, Nat.zero_le _⟩) hS (fun q _ h => hFc q h) hFc (fun u t H1 locs ht hvm hw hB hz1 hk1 hS1 => ?_)
  have hJ := wJoin (wr := []) (w1 := [(w0, .inr (4, [.int p0, .int p1, .int p2, .int p3, .int p4, .int p5, .ref wt, .ref wi])), (wt, .inl (cY 0, 5, .inl (X4_setTrait_w1 z_8 5 4))), (wi, .inl (cY 1, 6, .inl inn))]) (wn := [(w0, .inr (4, [.int p0, .int p1, .int p2, .int p3, .int p4, .int p5, .ref wt, .ref wi])), (wt, .inl (cY 0, 5, .inl (X4_setTrait_w1 z_8 5 4))), (wi, .inl (cY 1, 6, .inl inn))]) hP hD [0, 1, 2] [] rfl rfl (by decide) (by decide) hk1 hFc hB ht [0, 1, 2] rfl (by decide)
  clear hB hk1 hFc hPc hDc hP hD hS hz1 hvm ht t
  obtain ⟨hP1, hD1⟩ := hJ
  generalize H1 = H at hP1 hS1 ⊢
  have hP : va_P (dC, dI) vwCl [(w0, .inr (4, [.int p0, .int p1, .int p2, .int p3, .int p4, .int p5, .ref wt, .ref wi])), (wt, .inl (cY 0, 5, .inl (X4_setTrait_w1 z_8 5 4))), (wi, .inl (cY 1, 6, .inl inn))] H := hP1
  have hD : va_D A [(w0, .inr (4, [.int p0, .int p1, .int p2, .int p3, .int p4, .int p5, .ref wt, .ref wi])), (wt, .inl (cY 0, 5, .inl (X4_setTrait_w1 z_8 5 4))), (wi, .inl (cY 1, 6, .inl inn))] := hD1
  have hS := hS1
  clear hP1 hD1 hS1
  obtain ⟨z_10, ez_10⟩ : ∃ z, z = (X4_setTrait_w1 z_8 5 4) := ⟨_, rfl⟩
  rw [← ez_10] at hP hD
  have eo_11 : (X4_make_w1 tr) = z_10 := by rw [X4_make_w1]; (try simp only [← ez_2, ← ez_4, ← ez_6, ← ez_8, ← ez_10])
  have hP9 : va_P (dC, dI) vwCl [(w0, .inr (4, [.int p0, .int p1, .int p2, .int p3, .int p4, .int p5, .ref wt, .ref wi])), (wt, .inl (cY 0, 5, .inl (X4_make_w1 tr))), (wi, .inl (cY 1, 6, .inl inn))] H := by simp only [eo_11]; exact hP
  have hD9 : va_D A [(w0, .inr (4, [.int p0, .int p1, .int p2, .int p3, .int p4, .int p5, .ref wt, .ref wi])), (wt, .inl (cY 0, 5, .inl (X4_make_w1 tr))), (wi, .inl (cY 1, 6, .inl inn))] := by simp only [eo_11]; exact hD
  exact W.vret hx hb hr (fun t ht hW => ⟨⟨(), rfl, trivial, wPost_of hP9 hD9 ht⟩, hS.F ht⟩) hS.2.2 dX4_make_66
theorem inw_X3_hitsWith_X1 : ∀ w ∈ u_ws RX1 TX1 3, w ∈ wsX3_hitsWith := fun _ h => List.mem_cons_of_mem _ (List.mem_append_left _ (List.mem_append_left _ (List.mem_append_left _ (List.mem_append_right _ h))))
theorem inw_X3_hitsWith_X2 : ∀ w ∈ u_ws RX2 TX2 16, w ∈ wsX3_hitsWith := fun _ h => List.mem_cons_of_mem _ (List.mem_append_left _ (List.mem_append_left _ (List.mem_append_right _ h)))
def X3_hitsWith_j33 (hb9 : Int32) (move : Int32) : Int32 := (if hb9 = 0 then (X7_inputOf_r move) else 0)
def X3_hitsWith_j56 (MV : Nat → Nat → Int32) (F9 : Nat → Int32) (G9 : Nat → Int32) (hb9 : Int32) (move : Int32) : Int32 := (if hb9 = 0 then (if ((X1_playFrame_w1 F9 G9 MV (X3_hitsWith_j33 hb9 move) 0) 12) = 0 then 0 else 1) else 1)
def X3_hw_run (MV : Nat → Nat → Int32) (move : Int32) (cnt : Int32) : Nat → Nat → (Nat → Int32) × (Nat → Int32) × Int32 → Int32 × (Nat → Int32) × (Nat → Int32)
  | 0, _, (F9, G9, _) => (0, F9, G9)
  | n + 1, j, (F9, G9, hb9) => if (X1_playFrame_w2 F9 G9 MV (X3_hitsWith_j33 hb9 move) 0) 4 = cnt then X3_hw_run MV move cnt n (j + 1) ((X1_playFrame_w1 F9 G9 MV (X3_hitsWith_j33 hb9 move) 0), (X1_playFrame_w2 F9 G9 MV (X3_hitsWith_j33 hb9 move) 0), (X3_hitsWith_j56 MV F9 G9 hb9 move)) else ((if (X1_playFrame_w2 F9 G9 MV (X3_hitsWith_j33 hb9 move) 0) 4 ≤ cnt then 0 else 1), (X1_playFrame_w1 F9 G9 MV (X3_hitsWith_j33 hb9 move) 0), (X1_playFrame_w2 F9 G9 MV (X3_hitsWith_j33 hb9 move) 0))
theorem X3_hw_run_s (MV : Nat → Nat → Int32) (move : Int32) (cnt : Int32) (n j : Nat) (F9 G9 : Nat → Int32) (hb9 : Int32) : X3_hw_run MV move cnt (n + 1) j (F9, G9, hb9) = if (X1_playFrame_w2 F9 G9 MV (X3_hitsWith_j33 hb9 move) 0) 4 = cnt then X3_hw_run MV move cnt n (j + 1) ((X1_playFrame_w1 F9 G9 MV (X3_hitsWith_j33 hb9 move) 0), (X1_playFrame_w2 F9 G9 MV (X3_hitsWith_j33 hb9 move) 0), (X3_hitsWith_j56 MV F9 G9 hb9 move)) else ((if (X1_playFrame_w2 F9 G9 MV (X3_hitsWith_j33 hb9 move) 0) 4 ≤ cnt then 0 else 1), (X1_playFrame_w1 F9 G9 MV (X3_hitsWith_j33 hb9 move) 0), (X1_playFrame_w2 F9 G9 MV (X3_hitsWith_j33 hb9 move) 0)) := rfl
set_option maxHeartbeats 4000000 in
set_option maxRecDepth 100000 in
theorem c_X3_hitsWith (l : Launch) (dC : Nat → ClassId) (dI : Nat → Nat → Nat) (cY : Nat → ClassId) (qd : Nat) (ql : Nat) (qr : Nat) (F : Nat → Int32) (G : Nat → Int32) (AD : Nat → Nat) (cnt : Int32) (MV : Nat → Nat → Int32) (move : Int32)  (sz : Nat) : Met l yX3_hitsWith wsX3_hitsWith ({ frames := 5, cells := 0, slots := 0, locals := 114 } : Room) (va_Pc [.ref qd, .int move] (wPre (dC, dI) (tyL cY) ([(qd, .inr (1, [.ref (AD 0), .ref ql, .ref qr])), (ql, .inr (2, figL F)), (qr, .inr (2, figL G)), (AD 0, .inr (5, [.int cnt, .ref (AD 1), .ref (AD 8)])), (AD 1, .inl (cY 2, 6, .inr (.inr (.inr (.inr (fun j => some (AD (2 + j))))))))] ++ bkM AD cY MV) sz)) (va_Qi (fun (r : Int32) (_ : Unit) => r = (X3_hw_run MV move (G 4) 60 0 (F, G, 0)).1 ∧ (r = 0 ∨ r = 1)) (wPost (dC, dI) ([(qd, .inr (1, [.ref (AD 0), .ref ql, .ref qr])), (ql, .inr (2, figL (X3_hw_run MV move (G 4) 60 0 (F, G, 0)).2.1)), (qr, .inr (2, figL (X3_hw_run MV move (G 4) 60 0 (F, G, 0)).2.2)), (AD 0, .inr (5, [.int cnt, .ref (AD 1), .ref (AD 8)])), (AD 1, .inl (cY 2, 6, .inr (.inr (.inr (.inr (fun j => some (AD (2 + j))))))))] ++ bkM AD cY MV) (va_A ([(qd, .inr (1, [.ref (AD 0), .ref ql, .ref qr])), (ql, .inr (2, figL F)), (qr, .inr (2, figL G)), (AD 0, .inr (5, [.int cnt, .ref (AD 1), .ref (AD 8)])), (AD 1, .inl (cY 2, 6, .inr (.inr (.inr (.inr (fun j => some (AD (2 + j))))))))] ++ bkM AD cY MV) sz)) (va_A ([(qd, .inr (1, [.ref (AD 0), .ref ql, .ref qr])), (ql, .inr (2, figL F)), (qr, .inr (2, figL G)), (AD 0, .inr (5, [.int cnt, .ref (AD 1), .ref (AD 8)])), (AD 1, .inl (cY 2, 6, .inr (.inr (.inr (.inr (fun j => some (AD (2 + j))))))))] ++ bkM AD cY MV) sz)) 0 0 (va_A ([(qd, .inr (1, [.ref (AD 0), .ref ql, .ref qr])), (ql, .inr (2, figL F)), (qr, .inr (2, figL G)), (AD 0, .inr (5, [.int cnt, .ref (AD 1), .ref (AD 8)])), (AD 1, .inl (cY 2, 6, .inr (.inr (.inr (.inr (fun j => some (AD (2 + j))))))))] ++ bkM AD cY MV) sz) := by
  refine Met.ofW (cc := cX3_hitsWith) (maxL := 5) (ret := (some .boolean)) (by decide) rfl ?_
  intro p e s m args below meth c s₁ B hml hv
  obtain ⟨rfl, hsz, hP, hK, hN, hD0⟩ := hv
  have hx := B.exec
  have hb := B.bytes
  have hr := B.returns
  have hts := atoms_spec (ws := wsX3_hitsWith) B.pre
  have hown : s.vm.findClass RX3 = some m.cls := findClass_of_methodNamed B.named
  have hlocks := B.notSynchronized
  subst hsz
  have hD := hD0.self (sz := s.heap.size)
  generalize hAe : va_A ([(qd, .inr (1, [.ref (AD 0), .ref ql, .ref qr])), (ql, .inr (2, figL F)), (qr, .inr (2, figL G)), (AD 0, .inr (5, [.int cnt, .ref (AD 1), .ref (AD 8)])), (AD 1, .inl (cY 2, 6, .inr (.inr (.inr (.inr (fun j => some (AD (2 + j))))))))] ++ bkM AD cY MV) s.heap.size = A at hD ⊢
  have hA : ∀ q : Nat, s.heap.size ≤ q → A q := fun q h => by rw [← hAe]; exact Or.inr h
  have hS : va_S A s.heap s.heap [] := va_S.rf
  have hP : va_P (dC, dI) vwCl ([(qd, .inr (1, [.ref (AD 0), .ref ql, .ref qr])), (ql, .inr (2, figL F)), (qr, .inr (2, figL G)), (AD 0, .inr (5, [.int cnt, .ref (AD 1), .ref (AD 8)])), (AD 1, .inl (cY 2, 6, .inr (.inr (.inr (.inr (fun j => some (AD (2 + j))))))))] ++ bkM AD cY MV) s.heap := hP
  have hl := lv_entry ([.ref qd, .int move]) (n := 5) (Nat.le_of_ble_eq_true rfl)
  rw [lg_entry_eq]
  generalize (lg_sl ([.ref qd, .int move]) ++ List.replicate (5 - (lg_sl ([.ref qd, .int move])).length) Slot.unset).toArray = ls at hl ⊢
  have hl : lv_has ls 5 [(0, .ref qd), (1, .int move)] := hl
  refine lv_aload_n hx hb dX3_hitsWith_0 rfl (lv_at hl 0 rfl) ?_
  refine va_get (D := (dC, dI)) (ci := 1) (v := .ref qr) (C := RX1) (T := TX1) (N := 3) hx hb hts inw_X3_hitsWith_X1 hown hK hP 0 rfl rfl 2 (by decide) (hts (.fieldLink RX3 67 "DuelFrames$Duel" "right" "LDuelFrames$Figure;") (List.mem_of_getElem? (i := 1) rfl)) (fun _ h9 => h9) rfl dX3_hitsWith_1 ?_
  refine va_get (D := (dC, dI)) (ci := 2) (v := .int (G 4)) (C := RX2) (T := TX2) (N := 16) hx hb hts inw_X3_hitsWith_X2 hown hK hP 2 rfl rfl 4 (by decide) (hts (.fieldLink RX3 105 "DuelFrames$Figure" "count" "I") (List.mem_of_getElem? (i := 2) rfl)) (fun _ h9 => h9) rfl dX3_hitsWith_4 ?_
  refine lv_istore_n (lv' := [(2, .int (G 4)), (0, .ref qd), (1, .int move)]) hx hb dX3_hitsWith_7 rfl hl (by decide) rfl (fun ls hl => ?_)
  refine lv_iconst (v := 0) hx hb dX3_hitsWith_8 (by decide) ?_
  refine lv_istore_n (lv' := [(3, .int 0), (2, .int (G 4)), (0, .ref qd), (1, .int move)]) hx hb dX3_hitsWith_9 rfl hl (by decide) rfl (fun ls hl => ?_)
  refine lv_iconst (v := 0) hx hb dX3_hitsWith_10 (by decide) ?_
  refine lv_istore (lv' := [(4, .int 0), (3, .int 0), (2, .int (G 4)), (0, .ref qd), (1, .int move)]) hx hb dX3_hitsWith_11 hl (by decide) rfl (fun ls hl => ?_)
  refine loopI (D := (dC, dI)) (σ := (Nat → Int32) × (Nat → Int32) × Int32) 60 (fun j x => ([(qd, .inr (1, [.ref (AD 0), .ref ql, .ref qr])), (ql, .inr (2, figL x.1)), (qr, .inr (2, figL x.2.1)), (AD 0, .inr (5, [.int cnt, .ref (AD 1), .ref (AD 8)])), (AD 1, .inl (cY 2, 6, .inr (.inr (.inr (.inr (fun j => some (AD (2 + j))))))))] ++ bkM AD cY MV)) (fun j x => [(0, .ref qd), (1, .int move), (2, .int (G 4)), (3, .int x.2.2), (4, .int (nI j))]) 13 5 (A := A) (H0 := s.heap) (fun j x => X3_hw_run MV move (G 4) 60 0 (F, G, 0) = X3_hw_run MV move (G 4) (60 - j) j x ∧ True) ?_ ?_ (F, G, 0) ⟨rfl, trivial⟩ hP hD hS (lv_sub hl [3, 4, 2, 1, 0] rfl)
  · rintro j ⟨F9, G9, hb9⟩ hj hi H locs ls hP hD hS hl hk
    have hP : va_P (dC, dI) vwCl ([(qd, .inr (1, [.ref (AD 0), .ref ql, .ref qr])), (ql, .inr (2, figL F9)), (qr, .inr (2, figL G9)), (AD 0, .inr (5, [.int cnt, .ref (AD 1), .ref (AD 8)])), (AD 1, .inl (cY 2, 6, .inr (.inr (.inr (.inr (fun j => some (AD (2 + j))))))))] ++ bkM AD cY MV) H := hP
    have hD : va_D A ([(qd, .inr (1, [.ref (AD 0), .ref ql, .ref qr])), (ql, .inr (2, figL F9)), (qr, .inr (2, figL G9)), (AD 0, .inr (5, [.int cnt, .ref (AD 1), .ref (AD 8)])), (AD 1, .inl (cY 2, 6, .inr (.inr (.inr (.inr (fun j => some (AD (2 + j))))))))] ++ bkM AD cY MV) := hD
    have hl : lv_has ls 5 [(0, .ref qd), (1, .int move), (2, .int (G 4)), (3, .int hb9), (4, .int (nI j))] := hl
    (try dsimp only at hi)
    have hs9 := hi.2
    refine lv_iload hx hb dX3_hitsWith_13 (lv_at hl 4 rfl) ?_
    refine lv_bipush (v := 60) hx hb dX3_hitsWith_15 (by decide) ?_
    refine lv_icmp_ge (tgt := 91) hx hb dX3_hitsWith_17 (by decide) (fun c_1 => ?_) (fun c_1 => ?_)
    · exact absurd c_1 (nI_ge (b := 60) hj (by decide))
    refine lv_aload_n hx hb dX3_hitsWith_20 rfl (lv_at hl 0 rfl) ?_
    refine lv_iload_n hx hb dX3_hitsWith_21 rfl (lv_at hl 3 rfl) ?_
    refine jnW (D := (dC, dI)) (ws := ([(qd, .inr (1, [.ref (AD 0), .ref ql, .ref qr])), (ql, .inr (2, figL F9)), (qr, .inr (2, figL G9)), (AD 0, .inr (5, [.int cnt, .ref (AD 1), .ref (AD 8)])), (AD 1, .inl (cY 2, 6, .inr (.inr (.inr (.inr (fun j => some (AD (2 + j))))))))] ++ bkM AD cY MV)) (lv := [(0, .ref qd), (1, .int move), (2, .int (G 4)), (3, .int hb9), (4, .int (nI j))]) (st := [.int (X3_hitsWith_j33 hb9 move), .ref qd]) (J := 33) (n := 5) (A := A) (H0 := s.heap) ?_ ?_
    · intro H locs ls hP hD hS hl
      refine lv_iconst (v := 0) hx hb dX3_hitsWith_33 (by decide) ?_
      have hPc := hP.part (cx := [(qd, .inr (1, [.ref (AD 0), .ref ql, .ref qr])), (ql, .inr (2, figL F9)), (qr, .inr (2, figL G9)), (AD 0, .inr (5, [.int cnt, .ref (AD 1), .ref (AD 8)])), (AD 1, .inl (cY 2, 6, .inr (.inr (.inr (.inr (fun j => some (AD (2 + j))))))))]) [0, 1, 2, 3, 4] rfl
      have hDc := hD.part (cx := [(qd, .inr (1, [.ref (AD 0), .ref ql, .ref qr])), (ql, .inr (2, figL F9)), (qr, .inr (2, figL G9)), (AD 0, .inr (5, [.int cnt, .ref (AD 1), .ref (AD 8)])), (AD 1, .inl (cY 2, 6, .inr (.inr (.inr (.inr (fun j => some (AD (2 + j))))))))]) [0, 1, 2, 3, 4] (by decide) rfl
      have hFc := va_freeP (cx := [(qd, .inr (1, [.ref (AD 0), .ref ql, .ref qr])), (ql, .inr (2, figL F9)), (qr, .inr (2, figL G9)), (AD 0, .inr (5, [.int cnt, .ref (AD 1), .ref (AD 8)])), (AD 1, .inl (cY 2, 6, .inr (.inr (.inr (.inr (fun j => some (AD (2 + j))))))))]) (pl := bkM AD cY MV) hD hS hA [0, 1, 2, 3, 4] rfl
      refine va_callv (va_runV (As := [.int (X3_hitsWith_j33 hb9 move), .int 0]) (rest := []) ⟨hx, hb, hml, hown, hts⟩ (c_X1_playFrame l dC dI cY qd ql qr F9 G9 AD cnt MV (X3_hitsWith_j33 hb9 move) 0 H.size) (cwV 2 hts gX3_hitsWith_X1_playFrame rfl rfl rfl (by decide +kernel) ⟨Nat.le_of_ble_eq_true rfl, Nat.le_of_ble_eq_true rfl⟩) ⟨blindW, va_recv hK hPc (ci := 1) (q0 := 0) rfl rfl, fun U hU hW => ⟨rfl, wPre_of hPc hK hN hDc U hU hW⟩⟩ rfl rfl hl.1 rfl (lv_room (Nat.le_of_ble_eq_true rfl)) dX3_hitsWith_34 ⟨Nat.zero_le _, Nat.zero_le _⟩) hS (fun q _ h => hFc q h) hFc (fun u t H1 locs ht hvm hw hB hz1 hk1 hS1 => ?_)
      have hJ := wJoinP (wr := []) (rx := [(qd, .inr (1, [.ref (AD 0), .ref ql, .ref qr])), (ql, .inr (2, figL (X1_playFrame_w1 F9 G9 MV (X3_hitsWith_j33 hb9 move) 0))), (qr, .inr (2, figL (X1_playFrame_w2 F9 G9 MV (X3_hitsWith_j33 hb9 move) 0))), (AD 0, .inr (5, [.int cnt, .ref (AD 1), .ref (AD 8)])), (AD 1, .inl (cY 2, 6, .inr (.inr (.inr (.inr (fun j => some (AD (2 + j))))))))]) (wn := [(qd, .inr (1, [.ref (AD 0), .ref ql, .ref qr])), (ql, .inr (2, figL (X1_playFrame_w1 F9 G9 MV (X3_hitsWith_j33 hb9 move) 0))), (qr, .inr (2, figL (X1_playFrame_w2 F9 G9 MV (X3_hitsWith_j33 hb9 move) 0))), (AD 0, .inr (5, [.int cnt, .ref (AD 1), .ref (AD 8)])), (AD 1, .inl (cY 2, 6, .inr (.inr (.inr (.inr (fun j => some (AD (2 + j))))))))]) hP hD [0, 1, 2, 3, 4] [] rfl rfl (by decide) (by decide) hk1 hFc hB ht [0, 1, 2, 3, 4] rfl (by decide)
      clear hB hk1 hFc hPc hDc hP hD hS hz1 hvm ht t
      obtain ⟨hP1, hD1⟩ := hJ
      generalize H1 = H at hP1 hS1 ⊢
      have hP : va_P (dC, dI) vwCl ([(qd, .inr (1, [.ref (AD 0), .ref ql, .ref qr])), (ql, .inr (2, figL (X1_playFrame_w1 F9 G9 MV (X3_hitsWith_j33 hb9 move) 0))), (qr, .inr (2, figL (X1_playFrame_w2 F9 G9 MV (X3_hitsWith_j33 hb9 move) 0))), (AD 0, .inr (5, [.int cnt, .ref (AD 1), .ref (AD 8)])), (AD 1, .inl (cY 2, 6, .inr (.inr (.inr (.inr (fun j => some (AD (2 + j))))))))] ++ bkM AD cY MV) H := hP1
      have hD : va_D A ([(qd, .inr (1, [.ref (AD 0), .ref ql, .ref qr])), (ql, .inr (2, figL (X1_playFrame_w1 F9 G9 MV (X3_hitsWith_j33 hb9 move) 0))), (qr, .inr (2, figL (X1_playFrame_w2 F9 G9 MV (X3_hitsWith_j33 hb9 move) 0))), (AD 0, .inr (5, [.int cnt, .ref (AD 1), .ref (AD 8)])), (AD 1, .inl (cY 2, 6, .inr (.inr (.inr (.inr (fun j => some (AD (2 + j))))))))] ++ bkM AD cY MV) := hD1
      have hS := hS1
      clear hP1 hD1 hS1
      obtain ⟨z_5, ez_5⟩ : ∃ z, z = (X1_playFrame_w1 F9 G9 MV (X3_hitsWith_j33 hb9 move) 0) := ⟨_, rfl⟩
      rw [← ez_5] at hP hD
      obtain ⟨z_6, ez_6⟩ : ∃ z, z = (X1_playFrame_w2 F9 G9 MV (X3_hitsWith_j33 hb9 move) 0) := ⟨_, rfl⟩
      rw [← ez_6] at hP hD
      refine lv_iload_n hx hb dX3_hitsWith_37 rfl (lv_at hl 3 rfl) ?_
      refine jnW (D := (dC, dI)) (ws := ([(qd, .inr (1, [.ref (AD 0), .ref ql, .ref qr])), (ql, .inr (2, figL z_5)), (qr, .inr (2, figL z_6)), (AD 0, .inr (5, [.int cnt, .ref (AD 1), .ref (AD 8)])), (AD 1, .inl (cY 2, 6, .inr (.inr (.inr (.inr (fun j => some (AD (2 + j))))))))] ++ bkM AD cY MV)) (lv := [(0, .ref qd), (1, .int move), (2, .int (G 4)), (4, .int (nI j))]) (st := [.int (X3_hitsWith_j56 MV F9 G9 hb9 move)]) (J := 56) (n := 5) (A := A) (H0 := s.heap) ?_ ?_
      · intro H locs ls hP hD hS hl
        refine lv_istore_n (lv' := [(3, .int (X3_hitsWith_j56 MV F9 G9 hb9 move)), (0, .ref qd), (1, .int move), (2, .int (G 4)), (4, .int (nI j))]) hx hb dX3_hitsWith_56 rfl hl (by decide) rfl (fun ls hl => ?_)
        refine lv_aload_n hx hb dX3_hitsWith_57 rfl (lv_at hl 1 rfl) ?_
        refine va_get (D := (dC, dI)) (ci := 1) (v := .ref qr) (C := RX1) (T := TX1) (N := 3) hx hb hts inw_X3_hitsWith_X1 hown hK hP 0 rfl rfl 2 (by decide) (hts (.fieldLink RX3 67 "DuelFrames$Duel" "right" "LDuelFrames$Figure;") (List.mem_of_getElem? (i := 1) rfl)) (fun _ h9 => h9) rfl dX3_hitsWith_58 ?_
        refine va_get (D := (dC, dI)) (ci := 2) (v := .int (z_6 4)) (C := RX2) (T := TX2) (N := 16) hx hb hts inw_X3_hitsWith_X2 hown hK hP 2 rfl rfl 4 (by decide) (hts (.fieldLink RX3 105 "DuelFrames$Figure" "count" "I") (List.mem_of_getElem? (i := 2) rfl)) (fun _ h9 => h9) rfl dX3_hitsWith_61 ?_
        refine lv_iload_n hx hb dX3_hitsWith_64 rfl (lv_at hl 3 rfl) ?_
        refine lv_icmp_eq (tgt := 85) hx hb dX3_hitsWith_65 (by decide) (fun c_9 => ?_) (fun c_9 => ?_)
        · refine lv_iinc (v := ((nI j) + 1)) (lv' := [(4, .int ((nI j) + 1)), (3, .int (X3_hitsWith_j56 MV F9 G9 hb9 move)), (0, .ref qd), (1, .int move), (2, .int (G 4))]) hx hb dX3_hitsWith_85 hl (k := 4) rfl (by first | rfl | decide) (by decide) rfl (fun ls hl => ?_)
          refine lv_goto (tgt := 13) hx hb dX3_hitsWith_88 (by decide) ?_
          have hP9 : va_P (dC, dI) vwCl ([(qd, .inr (1, [.ref (AD 0), .ref ql, .ref qr])), (ql, .inr (2, figL z_5)), (qr, .inr (2, figL z_6)), (AD 0, .inr (5, [.int cnt, .ref (AD 1), .ref (AD 8)])), (AD 1, .inl (cY 2, 6, .inr (.inr (.inr (.inr (fun j => some (AD (2 + j))))))))] ++ bkM AD cY MV) H := by exact hP
          have hD9 : va_D A ([(qd, .inr (1, [.ref (AD 0), .ref ql, .ref qr])), (ql, .inr (2, figL z_5)), (qr, .inr (2, figL z_6)), (AD 0, .inr (5, [.int cnt, .ref (AD 1), .ref (AD 8)])), (AD 1, .inl (cY 2, 6, .inr (.inr (.inr (.inr (fun j => some (AD (2 + j))))))))] ++ bkM AD cY MV) := by exact hD
          have hl9 : lv_has ls 5 [(0, .ref qd), (1, .int move), (2, .int (G 4)), (3, .int (X3_hitsWith_j56 MV F9 G9 hb9 move)), (4, .int (nI (j + 1)))] := by rw [show nI (j + 1) = nI j + 1 from nI_succ _]; exact lv_sub hl [2, 3, 4, 1, 0] rfl
          replace hk := hk (z_5, z_6, (X3_hitsWith_j56 MV F9 G9 hb9 move))
          (try dsimp only at hk)
          exact hk ⟨by rw [hi.1, show 60 - j = (60 - (j + 1)) + 1 by omega, X3_hw_run_s]; simp only [← ez_5, ← ez_6, eq_true c_9, ↓reduceIte], trivial⟩ _ _ _ hP9 hD9 hS hl9
        · refine lv_aload_n hx hb dX3_hitsWith_68 rfl (lv_at hl 1 rfl) ?_
          refine va_get (D := (dC, dI)) (ci := 1) (v := .ref qr) (C := RX1) (T := TX1) (N := 3) hx hb hts inw_X3_hitsWith_X1 hown hK hP 0 rfl rfl 2 (by decide) (hts (.fieldLink RX3 67 "DuelFrames$Duel" "right" "LDuelFrames$Figure;") (List.mem_of_getElem? (i := 1) rfl)) (fun _ h9 => h9) rfl dX3_hitsWith_69 ?_
          refine va_get (D := (dC, dI)) (ci := 2) (v := .int (z_6 4)) (C := RX2) (T := TX2) (N := 16) hx hb hts inw_X3_hitsWith_X2 hown hK hP 2 rfl rfl 4 (by decide) (hts (.fieldLink RX3 105 "DuelFrames$Figure" "count" "I") (List.mem_of_getElem? (i := 2) rfl)) (fun _ h9 => h9) rfl dX3_hitsWith_72 ?_
          refine lv_iload_n hx hb dX3_hitsWith_75 rfl (lv_at hl 3 rfl) ?_
          refine lv_icmp_le (tgt := 83) hx hb dX3_hitsWith_76 (by decide) (fun c_10 => ?_) (fun c_10 => ?_)
          · refine lv_iconst (v := 0) hx hb dX3_hitsWith_83 (by decide) ?_
            have hr9 : X3_hw_run MV move (G 4) 60 0 (F, G, 0) = (0, z_5, z_6) := by rw [hi.1, show 60 - j = (60 - (j + 1)) + 1 by omega, X3_hw_run_s]; simp only [← ez_5, ← ez_6, eq_false c_9, eq_true c_10, ↓reduceIte]
            have eo_11 : (X3_hw_run MV move (G 4) 60 0 (F, G, 0)).1 = 0 := by have h9 := congrArg (fun z => z.1) hr9; dsimp only at h9; exact h9
            have eo_12 : (X3_hw_run MV move (G 4) 60 0 (F, G, 0)).2.1 = z_5 := by have h9 := congrArg (fun z => z.2.1) hr9; dsimp only at h9; exact h9
            have eo_13 : (X3_hw_run MV move (G 4) 60 0 (F, G, 0)).2.2 = z_6 := by have h9 := congrArg (fun z => z.2.2) hr9; dsimp only at h9; exact h9
            have hP9 : va_P (dC, dI) vwCl ([(qd, .inr (1, [.ref (AD 0), .ref ql, .ref qr])), (ql, .inr (2, figL (X3_hw_run MV move (G 4) 60 0 (F, G, 0)).2.1)), (qr, .inr (2, figL (X3_hw_run MV move (G 4) 60 0 (F, G, 0)).2.2)), (AD 0, .inr (5, [.int cnt, .ref (AD 1), .ref (AD 8)])), (AD 1, .inl (cY 2, 6, .inr (.inr (.inr (.inr (fun j => some (AD (2 + j))))))))] ++ bkM AD cY MV) H := by simp only [eo_12, eo_13]; exact hP
            have hD9 : va_D A ([(qd, .inr (1, [.ref (AD 0), .ref ql, .ref qr])), (ql, .inr (2, figL (X3_hw_run MV move (G 4) 60 0 (F, G, 0)).2.1)), (qr, .inr (2, figL (X3_hw_run MV move (G 4) 60 0 (F, G, 0)).2.2)), (AD 0, .inr (5, [.int cnt, .ref (AD 1), .ref (AD 8)])), (AD 1, .inl (cY 2, 6, .inr (.inr (.inr (.inr (fun j => some (AD (2 + j))))))))] ++ bkM AD cY MV) := by simp only [eo_12, eo_13]; exact hD
            exact W.zret (v := 0) (ty := .boolean) hx hb hr rfl (fun t ht hW => ⟨⟨_, (), rfl, ⟨eo_11.symm, (by decide)⟩, wPost_of hP9 hD9 ht⟩, hS.F ht⟩) hS.2.2 dX3_hitsWith_84
          · refine lv_iconst (v := 1) hx hb dX3_hitsWith_79 (by decide) ?_
            refine lv_goto (tgt := 84) hx hb dX3_hitsWith_80 (by decide) ?_
            have hr9 : X3_hw_run MV move (G 4) 60 0 (F, G, 0) = (1, z_5, z_6) := by rw [hi.1, show 60 - j = (60 - (j + 1)) + 1 by omega, X3_hw_run_s]; simp only [← ez_5, ← ez_6, eq_false c_9, eq_false c_10, ↓reduceIte]
            have eo_14 : (X3_hw_run MV move (G 4) 60 0 (F, G, 0)).1 = 1 := by have h9 := congrArg (fun z => z.1) hr9; dsimp only at h9; exact h9
            have eo_15 : (X3_hw_run MV move (G 4) 60 0 (F, G, 0)).2.1 = z_5 := by have h9 := congrArg (fun z => z.2.1) hr9; dsimp only at h9; exact h9
            have eo_16 : (X3_hw_run MV move (G 4) 60 0 (F, G, 0)).2.2 = z_6 := by have h9 := congrArg (fun z => z.2.2) hr9; dsimp only at h9; exact h9
            have hP9 : va_P (dC, dI) vwCl ([(qd, .inr (1, [.ref (AD 0), .ref ql, .ref qr])), (ql, .inr (2, figL (X3_hw_run MV move (G 4) 60 0 (F, G, 0)).2.1)), (qr, .inr (2, figL (X3_hw_run MV move (G 4) 60 0 (F, G, 0)).2.2)), (AD 0, .inr (5, [.int cnt, .ref (AD 1), .ref (AD 8)])), (AD 1, .inl (cY 2, 6, .inr (.inr (.inr (.inr (fun j => some (AD (2 + j))))))))] ++ bkM AD cY MV) H := by simp only [eo_15, eo_16]; exact hP
            have hD9 : va_D A ([(qd, .inr (1, [.ref (AD 0), .ref ql, .ref qr])), (ql, .inr (2, figL (X3_hw_run MV move (G 4) 60 0 (F, G, 0)).2.1)), (qr, .inr (2, figL (X3_hw_run MV move (G 4) 60 0 (F, G, 0)).2.2)), (AD 0, .inr (5, [.int cnt, .ref (AD 1), .ref (AD 8)])), (AD 1, .inl (cY 2, 6, .inr (.inr (.inr (.inr (fun j => some (AD (2 + j))))))))] ++ bkM AD cY MV) := by simp only [eo_15, eo_16]; exact hD
            exact W.zret (v := 1) (ty := .boolean) hx hb hr rfl (fun t ht hW => ⟨⟨_, (), rfl, ⟨eo_14.symm, (by decide)⟩, wPost_of hP9 hD9 ht⟩, hS.F ht⟩) hS.2.2 dX3_hitsWith_84
      · intro jn_8
        refine lv_if_ne (tgt := 51) hx hb dX3_hitsWith_38 (by decide) (fun c_7 => ?_) (fun c_7 => ?_)
        · refine lv_iconst (v := 1) hx hb dX3_hitsWith_51 (by decide) ?_
          refine lv_goto (tgt := 56) hx hb dX3_hitsWith_52 (by decide) ?_
          have e_17 : (X3_hitsWith_j56 MV F9 G9 hb9 move) = 1 := by rw [X3_hitsWith_j56]; simp only [← ez_5, ← ez_6, eq_false c_7, ↓reduceIte]
          refine W.eq (g2 := F0 m 56 ls [.int (X3_hitsWith_j56 MV F9 G9 hb9 move)]) (by simp only [e_17]) ?_
          exact jn_8 _ _ _ (by (try simp only [e_17]); exact hP) (by (try simp only [e_17]); exact hD) hS (by (try simp only [e_17]); exact (lv_sub hl [0, 1, 2, 4] rfl))
        · refine lv_aload_n hx hb dX3_hitsWith_41 rfl (lv_at hl 0 rfl) ?_
          refine va_get (D := (dC, dI)) (ci := 1) (v := .ref ql) (C := RX1) (T := TX1) (N := 3) hx hb hts inw_X3_hitsWith_X1 hown hK hP 0 rfl rfl 1 (by decide) (hts (.fieldLink RX3 58 "DuelFrames$Duel" "left" "LDuelFrames$Figure;") (List.mem_of_getElem? (i := 3) rfl)) (fun _ h9 => h9) rfl dX3_hitsWith_42 ?_
          refine va_get (D := (dC, dI)) (ci := 2) (v := .int (z_5 12)) (C := RX2) (T := TX2) (N := 16) hx hb hts inw_X3_hitsWith_X2 hown hK hP 1 rfl rfl 12 (by decide) (hts (.fieldLink RX3 106 "DuelFrames$Figure" "begins" "Z") (List.mem_of_getElem? (i := 4) rfl)) (fun _ h9 => h9) rfl dX3_hitsWith_45 ?_
          refine lv_if_eq (tgt := 55) hx hb dX3_hitsWith_48 (by decide) (fun c_18 => ?_) (fun c_18 => ?_)
          · refine lv_iconst (v := 0) hx hb dX3_hitsWith_55 (by decide) ?_
            have e_19 : (X3_hitsWith_j56 MV F9 G9 hb9 move) = 0 := by rw [X3_hitsWith_j56]; simp only [← ez_5, ← ez_6, eq_true c_7, eq_true c_18, ↓reduceIte]
            refine W.eq (g2 := F0 m 56 ls [.int (X3_hitsWith_j56 MV F9 G9 hb9 move)]) (by simp only [e_19]) ?_
            exact jn_8 _ _ _ (by (try simp only [e_19]); exact hP) (by (try simp only [e_19]); exact hD) hS (by (try simp only [e_19]); exact (lv_sub hl [0, 1, 2, 4] rfl))
          · refine lv_iconst (v := 1) hx hb dX3_hitsWith_51 (by decide) ?_
            refine lv_goto (tgt := 56) hx hb dX3_hitsWith_52 (by decide) ?_
            have e_20 : (X3_hitsWith_j56 MV F9 G9 hb9 move) = 1 := by rw [X3_hitsWith_j56]; simp only [← ez_5, ← ez_6, eq_true c_7, eq_false c_18, ↓reduceIte]
            refine W.eq (g2 := F0 m 56 ls [.int (X3_hitsWith_j56 MV F9 G9 hb9 move)]) (by simp only [e_20]) ?_
            exact jn_8 _ _ _ (by (try simp only [e_20]); exact hP) (by (try simp only [e_20]); exact hD) hS (by (try simp only [e_20]); exact (lv_sub hl [0, 1, 2, 4] rfl))
    · intro jn_3
      refine lv_if_eq (tgt := 29) hx hb dX3_hitsWith_22 (by decide) (fun c_2 => ?_) (fun c_2 => ?_)
      · refine lv_iload_n hx hb dX3_hitsWith_29 rfl (lv_at hl 1 rfl) ?_
        have hPc := hP.sub (ws' := []) [] rfl
        have hDc := hD.sub (ws' := []) [] (by decide) rfl
        have hFc := va_free (wc := []) hD hS hA [] rfl
        refine va_calli (va_runSN (As := [.int move]) (rest := [.ref qd]) ⟨hx, hb, hml, hown, hts⟩ (c_X7_inputOf l dC dI cY move H.size) ⟨va_cnB 1 hts gX3_hitsWith_X7_inputOf_n46 rfl rfl rfl hN.1 (hts (.initialized RX7) (List.mem_of_getElem? (i := 6) rfl)) (by decide +kernel) ⟨Nat.le_of_ble_eq_true rfl, Nat.le_of_ble_eq_true rfl⟩, (hts (.static yX7_inputOf) (List.mem_of_getElem? (i := 5) rfl)), trivial⟩ ⟨blindW, fun U hU hW => ⟨rfl, wPre_of hPc hK hN hDc U hU hW⟩⟩ rfl rfl hl.1 rfl (lv_room (Nat.le_of_ble_eq_true rfl)) dX3_hitsWith_30 ⟨Nat.zero_le _, Nat.zero_le _⟩) hS (fun q _ h => hFc q h) hFc (fun r_21 u t H1 locs ht hvm hw hB hz1 hk1 hS1 => ?_)
        subst hw
        have hJ := wJoinQ (wr := [(qd, .inr (1, [.ref (AD 0), .ref ql, .ref qr])), (ql, .inr (2, figL F9)), (qr, .inr (2, figL G9)), (AD 0, .inr (5, [.int cnt, .ref (AD 1), .ref (AD 8)])), (AD 1, .inl (cY 2, 6, .inr (.inr (.inr (.inr (fun j => some (AD (2 + j))))))))]) (w1 := []) (wn := [(qd, .inr (1, [.ref (AD 0), .ref ql, .ref qr])), (ql, .inr (2, figL F9)), (qr, .inr (2, figL G9)), (AD 0, .inr (5, [.int cnt, .ref (AD 1), .ref (AD 8)])), (AD 1, .inl (cY 2, 6, .inr (.inr (.inr (.inr (fun j => some (AD (2 + j))))))))]) hP hD [] [0, 1, 2, 3, 4] rfl rfl (by decide) (by decide) hk1 hFc hB ht [0, 1, 2, 3, 4] rfl (by decide)
        clear hB hk1 hFc hPc hDc hP hD hS hz1 hvm ht t
        obtain ⟨hP1, hD1⟩ := hJ
        generalize H1 = H at hP1 hS1 ⊢
        have hP : va_P (dC, dI) vwCl ([(qd, .inr (1, [.ref (AD 0), .ref ql, .ref qr])), (ql, .inr (2, figL F9)), (qr, .inr (2, figL G9)), (AD 0, .inr (5, [.int cnt, .ref (AD 1), .ref (AD 8)])), (AD 1, .inl (cY 2, 6, .inr (.inr (.inr (.inr (fun j => some (AD (2 + j))))))))] ++ bkM AD cY MV) H := hP1
        have hD : va_D A ([(qd, .inr (1, [.ref (AD 0), .ref ql, .ref qr])), (ql, .inr (2, figL F9)), (qr, .inr (2, figL G9)), (AD 0, .inr (5, [.int cnt, .ref (AD 1), .ref (AD 8)])), (AD 1, .inl (cY 2, 6, .inr (.inr (.inr (.inr (fun j => some (AD (2 + j))))))))] ++ bkM AD cY MV) := hD1
        have hS := hS1
        clear hP1 hD1 hS1
        have e_22 : (X3_hitsWith_j33 hb9 move) = (X7_inputOf_r move) := by rw [X3_hitsWith_j33]; simp only [eq_true c_2, ↓reduceIte]
        refine W.eq (g2 := F0 m 33 ls [.int (X3_hitsWith_j33 hb9 move), .ref qd]) (by simp only [e_22]) ?_
        exact jn_3 _ _ _ (by (try simp only [e_22]); exact hP) (by (try simp only [e_22]); exact hD) hS (by (try simp only [e_22]); exact (lv_sub hl [0, 1, 2, 3, 4] rfl))
      · refine lv_iconst (v := 0) hx hb dX3_hitsWith_25 (by decide) ?_
        refine lv_goto (tgt := 33) hx hb dX3_hitsWith_26 (by decide) ?_
        have e_23 : (X3_hitsWith_j33 hb9 move) = 0 := by rw [X3_hitsWith_j33]; simp only [eq_false c_2, ↓reduceIte]
        refine W.eq (g2 := F0 m 33 ls [.int (X3_hitsWith_j33 hb9 move), .ref qd]) (by simp only [e_23]) ?_
        exact jn_3 _ _ _ (by (try simp only [e_23]); exact hP) (by (try simp only [e_23]); exact hD) hS (by (try simp only [e_23]); exact (lv_sub hl [0, 1, 2, 3, 4] rfl))
  · rintro ⟨F9, G9, hb9⟩ hi H locs ls hP hD hS hl
    (try dsimp only at hi)
    have hs9 := hi.2
    have hP : va_P (dC, dI) vwCl ([(qd, .inr (1, [.ref (AD 0), .ref ql, .ref qr])), (ql, .inr (2, figL F9)), (qr, .inr (2, figL G9)), (AD 0, .inr (5, [.int cnt, .ref (AD 1), .ref (AD 8)])), (AD 1, .inl (cY 2, 6, .inr (.inr (.inr (.inr (fun j => some (AD (2 + j))))))))] ++ bkM AD cY MV) H := hP
    have hD : va_D A ([(qd, .inr (1, [.ref (AD 0), .ref ql, .ref qr])), (ql, .inr (2, figL F9)), (qr, .inr (2, figL G9)), (AD 0, .inr (5, [.int cnt, .ref (AD 1), .ref (AD 8)])), (AD 1, .inl (cY 2, 6, .inr (.inr (.inr (.inr (fun j => some (AD (2 + j))))))))] ++ bkM AD cY MV) := hD
    have hl : lv_has ls 5 [(0, .ref qd), (1, .int move), (2, .int (G 4)), (3, .int hb9), (4, .int 60)] := hl
    refine lv_iload hx hb dX3_hitsWith_13 (lv_at hl 4 rfl) ?_
    refine lv_bipush (v := 60) hx hb dX3_hitsWith_15 (by decide) ?_
    refine lv_icmp_ge (tgt := 91) hx hb dX3_hitsWith_17 (by decide) (fun c_24 => ?_) (fun c_24 => ?_)
    rotate_left
    · exact absurd (by decide) c_24
    refine lv_iconst (v := 0) hx hb dX3_hitsWith_91 (by decide) ?_
    have hr9 : X3_hw_run MV move (G 4) 60 0 (F, G, 0) = (0, F9, G9) := hi.1
    have eo_25 : (X3_hw_run MV move (G 4) 60 0 (F, G, 0)).1 = 0 := by have h9 := congrArg (fun z => z.1) hr9; dsimp only at h9; exact h9
    have eo_26 : (X3_hw_run MV move (G 4) 60 0 (F, G, 0)).2.1 = F9 := by have h9 := congrArg (fun z => z.2.1) hr9; dsimp only at h9; exact h9
    have eo_27 : (X3_hw_run MV move (G 4) 60 0 (F, G, 0)).2.2 = G9 := by have h9 := congrArg (fun z => z.2.2) hr9; dsimp only at h9; exact h9
    have hP9 : va_P (dC, dI) vwCl ([(qd, .inr (1, [.ref (AD 0), .ref ql, .ref qr])), (ql, .inr (2, figL (X3_hw_run MV move (G 4) 60 0 (F, G, 0)).2.1)), (qr, .inr (2, figL (X3_hw_run MV move (G 4) 60 0 (F, G, 0)).2.2)), (AD 0, .inr (5, [.int cnt, .ref (AD 1), .ref (AD 8)])), (AD 1, .inl (cY 2, 6, .inr (.inr (.inr (.inr (fun j => some (AD (2 + j))))))))] ++ bkM AD cY MV) H := by simp only [eo_26, eo_27]; exact hP
    have hD9 : va_D A ([(qd, .inr (1, [.ref (AD 0), .ref ql, .ref qr])), (ql, .inr (2, figL (X3_hw_run MV move (G 4) 60 0 (F, G, 0)).2.1)), (qr, .inr (2, figL (X3_hw_run MV move (G 4) 60 0 (F, G, 0)).2.2)), (AD 0, .inr (5, [.int cnt, .ref (AD 1), .ref (AD 8)])), (AD 1, .inl (cY 2, 6, .inr (.inr (.inr (.inr (fun j => some (AD (2 + j))))))))] ++ bkM AD cY MV) := by simp only [eo_26, eo_27]; exact hD
    exact W.zret (v := 0) (ty := .boolean) hx hb hr rfl (fun t ht hW => ⟨⟨_, (), rfl, ⟨eo_25.symm, (by decide)⟩, wPost_of hP9 hD9 ht⟩, hS.F ht⟩) hS.2.2 dX3_hitsWith_92
