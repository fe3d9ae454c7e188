def X8_in_r (high : Int32) (low : Int32) (v : Int32) : Int32 := (if v < low then 0 else (if high < v then 0 else 1))
set_option maxHeartbeats 4000000 in
set_option maxRecDepth 100000 in
theorem c_X8_in (l : Launch) (dC : Nat → ClassId) (dI : Nat → Nat → Nat) (cY : Nat → ClassId) (v : Int32) (low : Int32) (high : Int32)  : Met l yX8_in wsX8_in ({ frames := 0, cells := 0, slots := 0, locals := 0 } : Room) (va_Pc [.int v, .int low, .int high] (rPre (dC, dI) (tyL cY) [])) (vp_Si (fun r => r = (X8_in_r high low v) ∧ (r = 0 ∨ r = 1))) 0 0 (fun _ => False) := by
  refine Met.ofW (cc := cX8_in) (maxL := 3) (ret := (some .boolean)) (by decide) rfl ?_
  intro p e s m args below meth c s₁ B hml hv
  obtain ⟨rfl, hP, hK, hN⟩ := hv
  have hx := B.exec
  have hb := B.bytes
  have hr := B.returns
  have hts := atoms_spec (ws := wsX8_in) B.pre
  have hown : s.vm.findClass RX8 = some m.cls := findClass_of_methodNamed B.named
  have hlocks := B.notSynchronized
  have hP : va_P (dC, dI) vwCl [] s.heap := hP
  have hl := lv_entry ([.int v, .int low, .int high]) (n := 3) (Nat.le_of_ble_eq_true rfl)
  rw [lg_entry_eq]
  generalize (lg_sl ([.int v, .int low, .int high]) ++ List.replicate (3 - (lg_sl ([.int v, .int low, .int high])).length) Slot.unset).toArray = ls at hl ⊢
  have hl : lv_has ls 3 [(0, .int v), (1, .int low), (2, .int high)] := hl
  refine lv_iload_n hx hb dX8_in_0 rfl (lv_at hl 0 rfl) ?_
  refine lv_iload_n hx hb dX8_in_1 rfl (lv_at hl 1 rfl) ?_
  refine lv_icmp_lt (tgt := 14) hx hb dX8_in_2 (by decide) (fun c_1 => ?_) (fun c_1 => ?_)
  · refine lv_iconst (v := 0) hx hb dX8_in_14 (by decide) ?_
    have eo_2 : (X8_in_r high low v) = 0 := by rw [X8_in_r]; simp only [eq_true c_1, ↓reduceIte]
    exact W.zret (v := 0) (ty := .boolean) hx hb hr rfl (fun t ht _ => ⟨_, rfl, ⟨eo_2.symm, (by decide)⟩, ht⟩) (fun _ h => absurd h List.not_mem_nil) dX8_in_15
  · refine lv_iload_n hx hb dX8_in_5 rfl (lv_at hl 0 rfl) ?_
    refine lv_iload_n hx hb dX8_in_6 rfl (lv_at hl 2 rfl) ?_
    refine lv_icmp_gt (tgt := 14) hx hb dX8_in_7 (by decide) (fun c_3 => ?_) (fun c_3 => ?_)
    · refine lv_iconst (v := 0) hx hb dX8_in_14 (by decide) ?_
      have eo_4 : (X8_in_r high low v) = 0 := by rw [X8_in_r]; simp only [eq_false c_1, eq_true c_3, ↓reduceIte]
      exact W.zret (v := 0) (ty := .boolean) hx hb hr rfl (fun t ht _ => ⟨_, rfl, ⟨eo_4.symm, (by decide)⟩, ht⟩) (fun _ h => absurd h List.not_mem_nil) dX8_in_15
    · refine lv_iconst (v := 1) hx hb dX8_in_10 (by decide) ?_
      refine lv_goto (tgt := 15) hx hb dX8_in_11 (by decide) ?_
      have eo_5 : (X8_in_r high low v) = 1 := by rw [X8_in_r]; simp only [eq_false c_1, eq_false c_3, ↓reduceIte]
      exact W.zret (v := 1) (ty := .boolean) hx hb hr rfl (fun t ht _ => ⟨_, rfl, ⟨eo_5.symm, (by decide)⟩, ht⟩) (fun _ h => absurd h List.not_mem_nil) dX8_in_15
theorem inw_X8_thrown_X8 : ∀ w ∈ u_ws RX8 TX8 17, w ∈ wsX8_thrown := fun _ h => List.mem_cons_of_mem _ (List.mem_append_right _ h)
def X8_thrown_r (g : Nat → Int32) : Int32 := (g 12)
set_option maxHeartbeats 4000000 in
set_option maxRecDepth 100000 in
theorem c_X8_thrown (l : Launch) (dC : Nat → ClassId) (dI : Nat → Nat → Nat) (cY : Nat → ClassId) (m0 : Nat) (AM : Nat → Nat) (g : Nat → Int32) (tb : Nat → Int32) (sA : Nat → Int32) (rd : Nat → Int32) (kp : Nat → Int32) (td : Nat → Int32) (wn : Nat → Int32) (rw : Nat → Int32) (br : Nat → Int32)  : Met l yX8_thrown wsX8_thrown ({ frames := 0, cells := 0, slots := 0, locals := 0 } : Room) (va_Pc [.ref m0] (rPre (dC, dI) (tyL cY) [(m0, .inr (8, mdL AM g)), (AM 0, .inl (cY 0, 72, .inl tb)), (AM 2, .inl (cY 0, 22, .inl sA)), (AM 3, .inl (cY 0, 22, .inl rd)), (AM 4, .inl (cY 0, 110, .inl kp)), (AM 5, .inl (cY 0, 8414, .inl td)), (AM 6, .inl (cY 0, 2, .inl wn)), (AM 13, .inl (cY 0, 4, .inl rw)), (AM 14, .inl (cY 0, 4, .inl br))])) (vp_Si (fun r => r = (X8_thrown_r g))) 0 0 (fun _ => False) := by
  refine Met.ofW (cc := cX8_thrown) (maxL := 1) (ret := (some .int)) (by decide) rfl ?_
  intro p e s m args below meth c s₁ B hml hv
  obtain ⟨rfl, hP, hK, hN⟩ := hv
  have hx := B.exec
  have hb := B.bytes
  have hr := B.returns
  have hts := atoms_spec (ws := wsX8_thrown) B.pre
  have hown : s.vm.findClass RX8 = some m.cls := findClass_of_methodNamed B.named
  have hlocks := B.notSynchronized
  have hP : va_P (dC, dI) vwCl [(m0, .inr (8, mdL AM g)), (AM 0, .inl (cY 0, 72, .inl tb)), (AM 2, .inl (cY 0, 22, .inl sA)), (AM 3, .inl (cY 0, 22, .inl rd)), (AM 4, .inl (cY 0, 110, .inl kp)), (AM 5, .inl (cY 0, 8414, .inl td)), (AM 6, .inl (cY 0, 2, .inl wn)), (AM 13, .inl (cY 0, 4, .inl rw)), (AM 14, .inl (cY 0, 4, .inl br))] s.heap := hP
  have hl := lv_entry ([.ref m0]) (n := 1) (Nat.le_of_ble_eq_true rfl)
  rw [lg_entry_eq]
  generalize (lg_sl ([.ref m0]) ++ List.replicate (1 - (lg_sl ([.ref m0])).length) Slot.unset).toArray = ls at hl ⊢
  have hl : lv_has ls 1 [(0, .ref m0)] := hl
  refine lv_aload_n hx hb dX8_thrown_0 rfl (lv_at hl 0 rfl) ?_
  refine va_get (D := (dC, dI)) (ci := 8) (v := .int (g 12)) (C := RX8) (T := TX8) (N := 17) hx hb hts inw_X8_thrown_X8 hown hK hP 0 rfl rfl 12 (by decide) (hts (.fieldLink RX8 41 "DuelFramesModel" "thrown" "I") (List.mem_of_getElem? (i := 1) rfl)) (fun _ h9 => h9) rfl dX8_thrown_1 ?_
  have eo_1 : (X8_thrown_r g) = (g 12) := by rw [X8_thrown_r]
  exact W.iret (v := (g 12)) hx hb hr (fun t ht _ => ⟨_, rfl, eo_1.symm, ht⟩) (fun _ h => absurd h List.not_mem_nil) dX8_thrown_4
theorem inw_X8_isFine_X8 : ∀ w ∈ u_ws RX8 TX8 17, w ∈ wsX8_isFine := fun _ h => List.mem_cons_of_mem _ (List.mem_append_right _ h)
def X8_isFine_r (place : Int32) : Int32 := (if place = 0 then 1 else 0)
set_option maxHeartbeats 4000000 in
set_option maxRecDepth 100000 in
theorem c_X8_isFine (l : Launch) (dC : Nat → ClassId) (dI : Nat → Nat → Nat) (cY : Nat → ClassId) (m0 : Nat) (AM : Nat → Nat) (g : Nat → Int32) (tb : Nat → Int32) (sA : Nat → Int32) (rd : Nat → Int32) (kp : Nat → Int32) (td : Nat → Int32) (wn : Nat → Int32) (rw : Nat → Int32) (br : Nat → Int32) (place : Int32)  (sz : Nat) : Met l yX8_isFine wsX8_isFine ({ frames := 0, cells := 0, slots := 0, locals := 0 } : Room) (va_Pc [.ref m0, .int place] (wPre (dC, dI) (tyL cY) [(m0, .inr (8, mdL AM g)), (AM 0, .inl (cY 0, 72, .inl tb)), (AM 2, .inl (cY 0, 22, .inl sA)), (AM 3, .inl (cY 0, 22, .inl rd)), (AM 4, .inl (cY 0, 110, .inl kp)), (AM 5, .inl (cY 0, 8414, .inl td)), (AM 6, .inl (cY 0, 2, .inl wn)), (AM 13, .inl (cY 0, 4, .inl rw)), (AM 14, .inl (cY 0, 4, .inl br))] sz)) (va_Qi (fun (r : Int32) (_ : Unit) => r = (X8_isFine_r place) ∧ (r = 0 ∨ r = 1)) (wPost (dC, dI) [(m0, .inr (8, mdL AM (upd g 12 place))), (AM 0, .inl (cY 0, 72, .inl tb)), (AM 2, .inl (cY 0, 22, .inl sA)), (AM 3, .inl (cY 0, 22, .inl rd)), (AM 4, .inl (cY 0, 110, .inl kp)), (AM 5, .inl (cY 0, 8414, .inl td)), (AM 6, .inl (cY 0, 2, .inl wn)), (AM 13, .inl (cY 0, 4, .inl rw)), (AM 14, .inl (cY 0, 4, .inl br))] (va_A [(m0, .inr (8, mdL AM g)), (AM 0, .inl (cY 0, 72, .inl tb)), (AM 2, .inl (cY 0, 22, .inl sA)), (AM 3, .inl (cY 0, 22, .inl rd)), (AM 4, .inl (cY 0, 110, .inl kp)), (AM 5, .inl (cY 0, 8414, .inl td)), (AM 6, .inl (cY 0, 2, .inl wn)), (AM 13, .inl (cY 0, 4, .inl rw)), (AM 14, .inl (cY 0, 4, .inl br))] sz)) (va_A [(m0, .inr (8, mdL AM g)), (AM 0, .inl (cY 0, 72, .inl tb)), (AM 2, .inl (cY 0, 22, .inl sA)), (AM 3, .inl (cY 0, 22, .inl rd)), (AM 4, .inl (cY 0, 110, .inl kp)), (AM 5, .inl (cY 0, 8414, .inl td)), (AM 6, .inl (cY 0, 2, .inl wn)), (AM 13, .inl (cY 0, 4, .inl rw)), (AM 14, .inl (cY 0, 4, .inl br))] sz)) 0 0 (va_A [(m0, .inr (8, mdL AM g)), (AM 0, .inl (cY 0, 72, .inl tb)), (AM 2, .inl (cY 0, 22, .inl sA)), (AM 3, .inl (cY 0, 22, .inl rd)), (AM 4, .inl (cY 0, 110, .inl kp)), (AM 5, .inl (cY 0, 8414, .inl td)), (AM 6, .inl (cY 0, 2, .inl wn)), (AM 13, .inl (cY 0, 4, .inl rw)), (AM 14, .inl (cY 0, 4, .inl br))] sz) := by
  refine Met.ofW (cc := cX8_isFine) (maxL := 2) (ret := (some .boolean)) (by decide) rfl ?_
  intro p e s m args below meth c s₁ B hml hv
  obtain ⟨rfl, hsz, hP, hK, hN, hD0⟩ := hv
  have hx := B.exec
  have hb := B.bytes
  have hr := B.returns
  have hts := atoms_spec (ws := wsX8_isFine) B.pre
  have hown : s.vm.findClass RX8 = some m.cls := findClass_of_methodNamed B.named
  have hlocks := B.notSynchronized
  subst hsz
  have hD := hD0.self (sz := s.heap.size)
  generalize hAe : va_A [(m0, .inr (8, mdL AM g)), (AM 0, .inl (cY 0, 72, .inl tb)), (AM 2, .inl (cY 0, 22, .inl sA)), (AM 3, .inl (cY 0, 22, .inl rd)), (AM 4, .inl (cY 0, 110, .inl kp)), (AM 5, .inl (cY 0, 8414, .inl td)), (AM 6, .inl (cY 0, 2, .inl wn)), (AM 13, .inl (cY 0, 4, .inl rw)), (AM 14, .inl (cY 0, 4, .inl br))] s.heap.size = A at hD ⊢
  have hA : ∀ q : Nat, s.heap.size ≤ q → A q := fun q h => by rw [← hAe]; exact Or.inr h
  have hS : va_S A s.heap s.heap [] := va_S.rf
  have hP : va_P (dC, dI) vwCl [(m0, .inr (8, mdL AM g)), (AM 0, .inl (cY 0, 72, .inl tb)), (AM 2, .inl (cY 0, 22, .inl sA)), (AM 3, .inl (cY 0, 22, .inl rd)), (AM 4, .inl (cY 0, 110, .inl kp)), (AM 5, .inl (cY 0, 8414, .inl td)), (AM 6, .inl (cY 0, 2, .inl wn)), (AM 13, .inl (cY 0, 4, .inl rw)), (AM 14, .inl (cY 0, 4, .inl br))] s.heap := hP
  have hl := lv_entry ([.ref m0, .int place]) (n := 2) (Nat.le_of_ble_eq_true rfl)
  rw [lg_entry_eq]
  generalize (lg_sl ([.ref m0, .int place]) ++ List.replicate (2 - (lg_sl ([.ref m0, .int place])).length) Slot.unset).toArray = ls at hl ⊢
  have hl : lv_has ls 2 [(0, .ref m0), (1, .int place)] := hl
  refine lv_aload_n hx hb dX8_isFine_0 rfl (lv_at hl 0 rfl) ?_
  refine lv_iload_n hx hb dX8_isFine_1 rfl (lv_at hl 1 rfl) ?_
  refine va_put (D := (dC, dI)) (ci := 8) (v := .int place) (ty := .int) (C := RX8) (T := TX8) (N := 17) hx hb hts inw_X8_isFine_X8 tyX8 tyX8_ok nmX8 hown hK hP hD hS 0 rfl rfl 12 (by decide) (hts (.fieldLink RX8 41 "DuelFramesModel" "thrown" "I") (List.mem_of_getElem? (i := 1) rfl)) (fun _ h9 => h9) rfl (by decide +kernel) rfl rfl (Nat.le_of_ble_eq_true rfl) dX8_isFine_2 (fun H locs hP1 hD1 hS1 => ?_)
  clear hP hD hS
  have hP : va_P (dC, dI) vwCl [(m0, .inr (8, mdL AM (upd g 12 place))), (AM 0, .inl (cY 0, 72, .inl tb)), (AM 2, .inl (cY 0, 22, .inl sA)), (AM 3, .inl (cY 0, 22, .inl rd)), (AM 4, .inl (cY 0, 110, .inl kp)), (AM 5, .inl (cY 0, 8414, .inl td)), (AM 6, .inl (cY 0, 2, .inl wn)), (AM 13, .inl (cY 0, 4, .inl rw)), (AM 14, .inl (cY 0, 4, .inl br))] H := hP1
  have hD : va_D A [(m0, .inr (8, mdL AM (upd g 12 place))), (AM 0, .inl (cY 0, 72, .inl tb)), (AM 2, .inl (cY 0, 22, .inl sA)), (AM 3, .inl (cY 0, 22, .inl rd)), (AM 4, .inl (cY 0, 110, .inl kp)), (AM 5, .inl (cY 0, 8414, .inl td)), (AM 6, .inl (cY 0, 2, .inl wn)), (AM 13, .inl (cY 0, 4, .inl rw)), (AM 14, .inl (cY 0, 4, .inl br))] := hD1
  have hS := hS1
  clear hP1 hD1 hS1
  refine lv_iload_n hx hb dX8_isFine_5 rfl (lv_at hl 1 rfl) ?_
  refine lv_if_ne (tgt := 13) hx hb dX8_isFine_6 (by decide) (fun c_1 => ?_) (fun c_1 => ?_)
  · refine lv_iconst (v := 0) hx hb dX8_isFine_13 (by decide) ?_
    have eo_2 : (X8_isFine_r place) = 0 := by rw [X8_isFine_r]; simp only [eq_false c_1, ↓reduceIte]
    have hP9 : va_P (dC, dI) vwCl [(m0, .inr (8, mdL AM (upd g 12 place))), (AM 0, .inl (cY 0, 72, .inl tb)), (AM 2, .inl (cY 0, 22, .inl sA)), (AM 3, .inl (cY 0, 22, .inl rd)), (AM 4, .inl (cY 0, 110, .inl kp)), (AM 5, .inl (cY 0, 8414, .inl td)), (AM 6, .inl (cY 0, 2, .inl wn)), (AM 13, .inl (cY 0, 4, .inl rw)), (AM 14, .inl (cY 0, 4, .inl br))] H := hP
    have hD9 : va_D A [(m0, .inr (8, mdL AM (upd g 12 place))), (AM 0, .inl (cY 0, 72, .inl tb)), (AM 2, .inl (cY 0, 22, .inl sA)), (AM 3, .inl (cY 0, 22, .inl rd)), (AM 4, .inl (cY 0, 110, .inl kp)), (AM 5, .inl (cY 0, 8414, .inl td)), (AM 6, .inl (cY 0, 2, .inl wn)), (AM 13, .inl (cY 0, 4, .inl rw)), (AM 14, .inl (cY 0, 4, .inl br))] := hD
    exact W.zret (v := 0) (ty := .boolean) hx hb hr rfl (fun t ht hW => ⟨⟨_, (), rfl, ⟨eo_2.symm, (by decide)⟩, wPost_of hP9 hD9 ht⟩, hS.F ht⟩) hS.2.2 dX8_isFine_14
  · refine lv_iconst (v := 1) hx hb dX8_isFine_9 (by decide) ?_
    refine lv_goto (tgt := 14) hx hb dX8_isFine_10 (by decide) ?_
    have eo_3 : (X8_isFine_r place) = 1 := by rw [X8_isFine_r]; simp only [eq_true c_1, ↓reduceIte]
    have hP9 : va_P (dC, dI) vwCl [(m0, .inr (8, mdL AM (upd g 12 place))), (AM 0, .inl (cY 0, 72, .inl tb)), (AM 2, .inl (cY 0, 22, .inl sA)), (AM 3, .inl (cY 0, 22, .inl rd)), (AM 4, .inl (cY 0, 110, .inl kp)), (AM 5, .inl (cY 0, 8414, .inl td)), (AM 6, .inl (cY 0, 2, .inl wn)), (AM 13, .inl (cY 0, 4, .inl rw)), (AM 14, .inl (cY 0, 4, .inl br))] H := hP
    have hD9 : va_D A [(m0, .inr (8, mdL AM (upd g 12 place))), (AM 0, .inl (cY 0, 72, .inl tb)), (AM 2, .inl (cY 0, 22, .inl sA)), (AM 3, .inl (cY 0, 22, .inl rd)), (AM 4, .inl (cY 0, 110, .inl kp)), (AM 5, .inl (cY 0, 8414, .inl td)), (AM 6, .inl (cY 0, 2, .inl wn)), (AM 13, .inl (cY 0, 4, .inl rw)), (AM 14, .inl (cY 0, 4, .inl br))] := hD
    exact W.zret (v := 1) (ty := .boolean) hx hb hr rfl (fun t ht hW => ⟨⟨_, (), rfl, ⟨eo_3.symm, (by decide)⟩, wPost_of hP9 hD9 ht⟩, hS.F ht⟩) hS.2.2 dX8_isFine_14
theorem inw_X8_isMove_X8 : ∀ w ∈ u_ws RX8 TX8 17, w ∈ wsX8_isMove := fun _ h => List.mem_cons_of_mem _ (List.mem_append_right _ h)
set_option maxHeartbeats 4000000 in
set_option maxRecDepth 100000 in
theorem c_X8_isMove (l : Launch) (dC : Nat → ClassId) (dI : Nat → Nat → Nat) (cY : Nat → ClassId) (m0 : Nat) (AM : Nat → Nat) (g : Nat → Int32) (tb : Nat → Int32) (sA : Nat → Int32) (rd : Nat → Int32) (kp : Nat → Int32) (td : Nat → Int32) (wn : Nat → Int32) (rw : Nat → Int32) (br : Nat → Int32) (move : Int32)  : Met l yX8_isMove wsX8_isMove ({ frames := 1, cells := 0, slots := 0, locals := 22 } : Room) (va_Pc [.ref m0, .int move] (rPre (dC, dI) (tyL cY) [(m0, .inr (8, mdL AM g)), (AM 0, .inl (cY 0, 72, .inl tb)), (AM 2, .inl (cY 0, 22, .inl sA)), (AM 3, .inl (cY 0, 22, .inl rd)), (AM 4, .inl (cY 0, 110, .inl kp)), (AM 5, .inl (cY 0, 8414, .inl td)), (AM 6, .inl (cY 0, 2, .inl wn)), (AM 13, .inl (cY 0, 4, .inl rw)), (AM 14, .inl (cY 0, 4, .inl br))])) (vp_Si (fun r => r = (X8_in_r ((g 1) - 1) 0 move) ∧ (r = 0 ∨ r = 1))) 0 0 (fun _ => False) := by
  refine Met.ofW (cc := cX8_isMove) (maxL := 2) (ret := (some .boolean)) (by decide) rfl ?_
  intro p e s m args below meth c s₁ B hml hv
  obtain ⟨rfl, hP, hK, hN⟩ := hv
  have hx := B.exec
  have hb := B.bytes
  have hr := B.returns
  have hts := atoms_spec (ws := wsX8_isMove) B.pre
  have hown : s.vm.findClass RX8 = some m.cls := findClass_of_methodNamed B.named
  have hlocks := B.notSynchronized
  have hP : va_P (dC, dI) vwCl [(m0, .inr (8, mdL AM g)), (AM 0, .inl (cY 0, 72, .inl tb)), (AM 2, .inl (cY 0, 22, .inl sA)), (AM 3, .inl (cY 0, 22, .inl rd)), (AM 4, .inl (cY 0, 110, .inl kp)), (AM 5, .inl (cY 0, 8414, .inl td)), (AM 6, .inl (cY 0, 2, .inl wn)), (AM 13, .inl (cY 0, 4, .inl rw)), (AM 14, .inl (cY 0, 4, .inl br))] s.heap := hP
  have hl := lv_entry ([.ref m0, .int move]) (n := 2) (Nat.le_of_ble_eq_true rfl)
  rw [lg_entry_eq]
  generalize (lg_sl ([.ref m0, .int move]) ++ List.replicate (2 - (lg_sl ([.ref m0, .int move])).length) Slot.unset).toArray = ls at hl ⊢
  have hl : lv_has ls 2 [(0, .ref m0), (1, .int move)] := hl
  refine lv_iload_n hx hb dX8_isMove_0 rfl (lv_at hl 1 rfl) ?_
  refine lv_iconst (v := 0) hx hb dX8_isMove_1 (by decide) ?_
  refine lv_aload_n hx hb dX8_isMove_2 rfl (lv_at hl 0 rfl) ?_
  refine va_get (D := (dC, dI)) (ci := 8) (v := .int (g 1)) (C := RX8) (T := TX8) (N := 17) hx hb hts inw_X8_isMove_X8 hown hK hP 0 rfl rfl 1 (by decide) (hts (.fieldLink RX8 44 "DuelFramesModel" "moves" "I") (List.mem_of_getElem? (i := 1) rfl)) (fun _ h9 => h9) rfl dX8_isMove_3 ?_
  refine lv_iconst (v := 1) hx hb dX8_isMove_6 (by decide) ?_
  refine lv_isub hx hb dX8_isMove_7 ?_
  have hPc := hP.sub (ws' := []) [] rfl
  refine vp_callSi (W.runS (As := [.int move, .int 0, .int ((g 1) - 1)]) (rest := []) ⟨hx, hb, hml, hown, hts⟩ (c_X8_in l dC dI cY move 0 ((g 1) - 1)) (va_cwS 3 hts gX8_isMove_X8_in rfl rfl rfl (by decide +kernel) ⟨Nat.le_of_ble_eq_true rfl, Nat.le_of_ble_eq_true rfl⟩) ⟨blindR, fun U hU hW => ⟨rfl, rPre_of hPc hK hN U hU hW⟩⟩ rfl rfl hl.1 rfl (lv_room (Nat.le_of_ble_eq_true rfl)) dX8_isMove_8 ⟨Nat.zero_le _, Nat.zero_le _⟩) (fun r_1 hw => ?_)
  obtain ⟨hw, hb_2⟩ := hw
  subst hw
  exact W.zret (v := (X8_in_r ((g 1) - 1) 0 move)) (ty := .boolean) hx hb hr (zb_n hb_2) (fun t ht _ => ⟨_, rfl, ⟨rfl, hb_2⟩, ht⟩) (fun _ h => absurd h List.not_mem_nil) dX8_isMove_11
theorem inw_X8_ofMove_X8 : ∀ w ∈ u_ws RX8 TX8 17, w ∈ wsX8_ofMove := fun _ h => List.mem_cons_of_mem _ (List.mem_append_right _ h)
def X8_ofMove_r (tb : Nat → Int32) (move : Int32) (what : Int32) : Int32 := (tb ((12 * move) + what).toNatClampNeg)
set_option maxHeartbeats 4000000 in
set_option maxRecDepth 100000 in
theorem c_X8_ofMove (l : Launch) (dC : Nat → ClassId) (dI : Nat → Nat → Nat) (cY : Nat → ClassId) (m0 : Nat) (AM : Nat → Nat) (g : Nat → Int32) (tb : Nat → Int32) (sA : Nat → Int32) (rd : Nat → Int32) (kp : Nat → Int32) (td : Nat → Int32) (wn : Nat → Int32) (rw : Nat → Int32) (br : Nat → Int32) (move : Int32) (what : Int32) (hin : vp_in ((12 * move) + what) 72) : Met l yX8_ofMove wsX8_ofMove ({ frames := 0, cells := 0, slots := 0, locals := 0 } : Room) (va_Pc [.ref m0, .int move, .int what] (rPre (dC, dI) (tyL cY) [(m0, .inr (8, mdL AM g)), (AM 0, .inl (cY 0, 72, .inl tb)), (AM 2, .inl (cY 0, 22, .inl sA)), (AM 3, .inl (cY 0, 22, .inl rd)), (AM 4, .inl (cY 0, 110, .inl kp)), (AM 5, .inl (cY 0, 8414, .inl td)), (AM 6, .inl (cY 0, 2, .inl wn)), (AM 13, .inl (cY 0, 4, .inl rw)), (AM 14, .inl (cY 0, 4, .inl br))])) (vp_Si (fun r => r = (X8_ofMove_r tb move what))) 0 0 (fun _ => False) := by
  refine Met.ofW (cc := cX8_ofMove) (maxL := 3) (ret := (some .int)) (by decide) rfl ?_
  intro p e s m args below meth c s₁ B hml hv
  obtain ⟨rfl, hP, hK, hN⟩ := hv
  have hx := B.exec
  have hb := B.bytes
  have hr := B.returns
  have hts := atoms_spec (ws := wsX8_ofMove) B.pre
  have hown : s.vm.findClass RX8 = some m.cls := findClass_of_methodNamed B.named
  have hlocks := B.notSynchronized
  have hP : va_P (dC, dI) vwCl [(m0, .inr (8, mdL AM g)), (AM 0, .inl (cY 0, 72, .inl tb)), (AM 2, .inl (cY 0, 22, .inl sA)), (AM 3, .inl (cY 0, 22, .inl rd)), (AM 4, .inl (cY 0, 110, .inl kp)), (AM 5, .inl (cY 0, 8414, .inl td)), (AM 6, .inl (cY 0, 2, .inl wn)), (AM 13, .inl (cY 0, 4, .inl rw)), (AM 14, .inl (cY 0, 4, .inl br))] s.heap := hP
  have hl := lv_entry ([.ref m0, .int move, .int what]) (n := 3) (Nat.le_of_ble_eq_true rfl)
  rw [lg_entry_eq]
  generalize (lg_sl ([.ref m0, .int move, .int what]) ++ List.replicate (3 - (lg_sl ([.ref m0, .int move, .int what])).length) Slot.unset).toArray = ls at hl ⊢
  have hl : lv_has ls 3 [(0, .ref m0), (1, .int move), (2, .int what)] := hl
  refine lv_aload_n hx hb dX8_ofMove_0 rfl (lv_at hl 0 rfl) ?_
  refine va_get (D := (dC, dI)) (ci := 8) (v := .ref (AM 0)) (C := RX8) (T := TX8) (N := 17) hx hb hts inw_X8_ofMove_X8 hown hK hP 0 rfl rfl 0 (by decide) (hts (.fieldLink RX8 7 "DuelFramesModel" "table" "[I") (List.mem_of_getElem? (i := 1) rfl)) (fun _ h9 => h9) rfl dX8_ofMove_1 ?_
  refine lv_bipush (v := 12) hx hb dX8_ofMove_4 (by decide) ?_
  refine lv_iload_n hx hb dX8_ofMove_6 rfl (lv_at hl 1 rfl) ?_
  refine lv_imul hx hb dX8_ofMove_7 ?_
  refine lv_iload_n hx hb dX8_ofMove_8 rfl (lv_at hl 2 rfl) ?_
  refine lv_iadd hx hb dX8_ofMove_9 ?_
  refine va_iald hx hb hK hP 1 0 rfl rfl hin dX8_ofMove_10 ?_
  refine lv_topi (fun x_1 ex_1 => ?_)
  obtain rfl : x_1 = (tb ((12 * move) + what).toNatClampNeg) := ex_1
  have eo_2 : (X8_ofMove_r tb move what) = (tb ((12 * move) + what).toNatClampNeg) := by rw [X8_ofMove_r]
  exact W.iret (v := (tb ((12 * move) + what).toNatClampNeg)) hx hb hr (fun t ht _ => ⟨_, rfl, eo_2.symm, ht⟩) (fun _ h => absurd h List.not_mem_nil) dX8_ofMove_11
theorem inw_X8_keepInput_X8 : ∀ w ∈ u_ws RX8 TX8 17, w ∈ wsX8_keepInput := fun _ h => List.mem_cons_of_mem _ (List.mem_append_right _ h)
def X8_keepInput0_w2 (sA : Nat → Int32) (input : Int32) : Nat → Int32 := (if input < 10 then sA else (upd (upd sA 7 (input - 10)) 8 5))
set_option maxHeartbeats 4000000 in
set_option maxRecDepth 100000 in
theorem c_X8_keepInput0 (l : Launch) (dC : Nat → ClassId) (dI : Nat → Nat → Nat) (cY : Nat → ClassId) (m0 : Nat) (AM : Nat → Nat) (g : Nat → Int32) (tb : Nat → Int32) (sA : Nat → Int32) (rd : Nat → Int32) (kp : Nat → Int32) (td : Nat → Int32) (wn : Nat → Int32) (rw : Nat → Int32) (br : Nat → Int32) (input : Int32)  (sz : Nat) : Met l yX8_keepInput wsX8_keepInput ({ frames := 0, cells := 0, slots := 0, locals := 0 } : Room) (va_Pc [.ref m0, .int 0, .int input] (wPre (dC, dI) (tyL cY) [(m0, .inr (8, mdL AM g)), (AM 0, .inl (cY 0, 72, .inl tb)), (AM 2, .inl (cY 0, 22, .inl sA)), (AM 3, .inl (cY 0, 22, .inl rd)), (AM 4, .inl (cY 0, 110, .inl kp)), (AM 5, .inl (cY 0, 8414, .inl td)), (AM 6, .inl (cY 0, 2, .inl wn)), (AM 13, .inl (cY 0, 4, .inl rw)), (AM 14, .inl (cY 0, 4, .inl br))] sz)) (va_Qv (fun _ : Unit => True) (wPost (dC, dI) [(m0, .inr (8, mdL AM g)), (AM 0, .inl (cY 0, 72, .inl tb)), (AM 2, .inl (cY 0, 22, .inl (X8_keepInput0_w2 sA input))), (AM 3, .inl (cY 0, 22, .inl rd)), (AM 4, .inl (cY 0, 110, .inl kp)), (AM 5, .inl (cY 0, 8414, .inl td)), (AM 6, .inl (cY 0, 2, .inl wn)), (AM 13, .inl (cY 0, 4, .inl rw)), (AM 14, .inl (cY 0, 4, .inl br))] (va_A [(m0, .inr (8, mdL AM g)), (AM 0, .inl (cY 0, 72, .inl tb)), (AM 2, .inl (cY 0, 22, .inl sA)), (AM 3, .inl (cY 0, 22, .inl rd)), (AM 4, .inl (cY 0, 110, .inl kp)), (AM 5, .inl (cY 0, 8414, .inl td)), (AM 6, .inl (cY 0, 2, .inl wn)), (AM 13, .inl (cY 0, 4, .inl rw)), (AM 14, .inl (cY 0, 4, .inl br))] sz)) (va_A [(m0, .inr (8, mdL AM g)), (AM 0, .inl (cY 0, 72, .inl tb)), (AM 2, .inl (cY 0, 22, .inl sA)), (AM 3, .inl (cY 0, 22, .inl rd)), (AM 4, .inl (cY 0, 110, .inl kp)), (AM 5, .inl (cY 0, 8414, .inl td)), (AM 6, .inl (cY 0, 2, .inl wn)), (AM 13, .inl (cY 0, 4, .inl rw)), (AM 14, .inl (cY 0, 4, .inl br))] sz)) 0 0 (va_A [(m0, .inr (8, mdL AM g)), (AM 0, .inl (cY 0, 72, .inl tb)), (AM 2, .inl (cY 0, 22, .inl sA)), (AM 3, .inl (cY 0, 22, .inl rd)), (AM 4, .inl (cY 0, 110, .inl kp)), (AM 5, .inl (cY 0, 8414, .inl td)), (AM 6, .inl (cY 0, 2, .inl wn)), (AM 13, .inl (cY 0, 4, .inl rw)), (AM 14, .inl (cY 0, 4, .inl br))] sz) := by
  refine Met.ofW (cc := cX8_keepInput) (maxL := 3) (ret := none) (by decide) rfl ?_
  intro p e s m args below meth c s₁ B hml hv
  obtain ⟨rfl, hsz, hP, hK, hN, hD0⟩ := hv
  have hx := B.exec
  have hb := B.bytes
  have hr := B.returns
  have hts := atoms_spec (ws := wsX8_keepInput) B.pre
  have hown : s.vm.findClass RX8 = some m.cls := findClass_of_methodNamed B.named
  have hlocks := B.notSynchronized
  subst hsz
  have hD := hD0.self (sz := s.heap.size)
  generalize hAe : va_A [(m0, .inr (8, mdL AM g)), (AM 0, .inl (cY 0, 72, .inl tb)), (AM 2, .inl (cY 0, 22, .inl sA)), (AM 3, .inl (cY 0, 22, .inl rd)), (AM 4, .inl (cY 0, 110, .inl kp)), (AM 5, .inl (cY 0, 8414, .inl td)), (AM 6, .inl (cY 0, 2, .inl wn)), (AM 13, .inl (cY 0, 4, .inl rw)), (AM 14, .inl (cY 0, 4, .inl br))] s.heap.size = A at hD ⊢
  have hA : ∀ q : Nat, s.heap.size ≤ q → A q := fun q h => by rw [← hAe]; exact Or.inr h
  have hS : va_S A s.heap s.heap [] := va_S.rf
  have hP : va_P (dC, dI) vwCl [(m0, .inr (8, mdL AM g)), (AM 0, .inl (cY 0, 72, .inl tb)), (AM 2, .inl (cY 0, 22, .inl sA)), (AM 3, .inl (cY 0, 22, .inl rd)), (AM 4, .inl (cY 0, 110, .inl kp)), (AM 5, .inl (cY 0, 8414, .inl td)), (AM 6, .inl (cY 0, 2, .inl wn)), (AM 13, .inl (cY 0, 4, .inl rw)), (AM 14, .inl (cY 0, 4, .inl br))] s.heap := hP
  have hl := lv_entry ([.ref m0, .int 0, .int input]) (n := 3) (Nat.le_of_ble_eq_true rfl)
  rw [lg_entry_eq]
  generalize (lg_sl ([.ref m0, .int 0, .int input]) ++ List.replicate (3 - (lg_sl ([.ref m0, .int 0, .int input])).length) Slot.unset).toArray = ls at hl ⊢
  have hl : lv_has ls 3 [(0, .ref m0), (1, .int 0), (2, .int input)] := hl
  refine lv_iload_n hx hb dX8_keepInput_0 rfl (lv_at hl 2 rfl) ?_
  refine lv_bipush (v := 10) hx hb dX8_keepInput_1 (by decide) ?_
  refine lv_icmp_lt (tgt := 29) hx hb dX8_keepInput_3 (by decide) (fun c_1 => ?_) (fun c_1 => ?_)
  · have eo_2 : (X8_keepInput0_w2 sA input) = sA := by rw [X8_keepInput0_w2]; simp only [eq_true c_1, ↓reduceIte]
    have hP9 : va_P (dC, dI) vwCl [(m0, .inr (8, mdL AM g)), (AM 0, .inl (cY 0, 72, .inl tb)), (AM 2, .inl (cY 0, 22, .inl (X8_keepInput0_w2 sA input))), (AM 3, .inl (cY 0, 22, .inl rd)), (AM 4, .inl (cY 0, 110, .inl kp)), (AM 5, .inl (cY 0, 8414, .inl td)), (AM 6, .inl (cY 0, 2, .inl wn)), (AM 13, .inl (cY 0, 4, .inl rw)), (AM 14, .inl (cY 0, 4, .inl br))] s.heap := by simp only [eo_2]; exact hP
    have hD9 : va_D A [(m0, .inr (8, mdL AM g)), (AM 0, .inl (cY 0, 72, .inl tb)), (AM 2, .inl (cY 0, 22, .inl (X8_keepInput0_w2 sA input))), (AM 3, .inl (cY 0, 22, .inl rd)), (AM 4, .inl (cY 0, 110, .inl kp)), (AM 5, .inl (cY 0, 8414, .inl td)), (AM 6, .inl (cY 0, 2, .inl wn)), (AM 13, .inl (cY 0, 4, .inl rw)), (AM 14, .inl (cY 0, 4, .inl br))] := by simp only [eo_2]; exact hD
    exact W.vret hx hb hr (fun t ht hW => ⟨⟨(), rfl, trivial, wPost_of hP9 hD9 ht⟩, hS.F ht⟩) hS.2.2 dX8_keepInput_29
  · refine lv_aload_n hx hb dX8_keepInput_6 rfl (lv_at hl 0 rfl) ?_
    refine va_get (D := (dC, dI)) (ci := 8) (v := .ref (AM 2)) (C := RX8) (T := TX8) (N := 17) hx hb hts inw_X8_keepInput_X8 hown hK hP 0 rfl rfl 2 (by decide) (hts (.fieldLink RX8 13 "DuelFramesModel" "s" "[I") (List.mem_of_getElem? (i := 1) rfl)) (fun _ h9 => h9) rfl dX8_keepInput_7 ?_
    refine lv_iload_n hx hb dX8_keepInput_10 rfl (lv_at hl 1 rfl) ?_
    refine lv_bipush (v := 7) hx hb dX8_keepInput_11 (by decide) ?_
    refine lv_iadd hx hb dX8_keepInput_13 ?_
    refine lv_topi (fun x_3 ex_3 => ?_)
    obtain rfl : x_3 = 7 := ex_3.trans (by decide)
    refine lv_iload_n hx hb dX8_keepInput_14 rfl (lv_at hl 2 rfl) ?_
    refine lv_bipush (v := 10) hx hb dX8_keepInput_15 (by decide) ?_
    refine lv_isub hx hb dX8_keepInput_17 ?_
    refine va_iast hx hb hK hP hD hS 2 0 rfl rfl (vin rfl) dX8_keepInput_18 (fun H locs hP1 hD1 hS1 => ?_)
    clear hP hD hS
    have hP : va_P (dC, dI) vwCl [(m0, .inr (8, mdL AM g)), (AM 0, .inl (cY 0, 72, .inl tb)), (AM 2, .inl (cY 0, 22, .inl (upd sA 7 (input - 10)))), (AM 3, .inl (cY 0, 22, .inl rd)), (AM 4, .inl (cY 0, 110, .inl kp)), (AM 5, .inl (cY 0, 8414, .inl td)), (AM 6, .inl (cY 0, 2, .inl wn)), (AM 13, .inl (cY 0, 4, .inl rw)), (AM 14, .inl (cY 0, 4, .inl br))] H := hP1
    have hD : va_D A [(m0, .inr (8, mdL AM g)), (AM 0, .inl (cY 0, 72, .inl tb)), (AM 2, .inl (cY 0, 22, .inl (upd sA 7 (input - 10)))), (AM 3, .inl (cY 0, 22, .inl rd)), (AM 4, .inl (cY 0, 110, .inl kp)), (AM 5, .inl (cY 0, 8414, .inl td)), (AM 6, .inl (cY 0, 2, .inl wn)), (AM 13, .inl (cY 0, 4, .inl rw)), (AM 14, .inl (cY 0, 4, .inl br))] := hD1
    have hS := hS1
    clear hP1 hD1 hS1
    refine lv_aload_n hx hb dX8_keepInput_19 rfl (lv_at hl 0 rfl) ?_
    refine va_get (D := (dC, dI)) (ci := 8) (v := .ref (AM 2)) (C := RX8) (T := TX8) (N := 17) hx hb hts inw_X8_keepInput_X8 hown hK hP 0 rfl rfl 2 (by decide) (hts (.fieldLink RX8 13 "DuelFramesModel" "s" "[I") (List.mem_of_getElem? (i := 1) rfl)) (fun _ h9 => h9) rfl dX8_keepInput_20 ?_
    refine lv_iload_n hx hb dX8_keepInput_23 rfl (lv_at hl 1 rfl) ?_
    refine lv_bipush (v := 8) hx hb dX8_keepInput_24 (by decide) ?_
    refine lv_iadd hx hb dX8_keepInput_26 ?_
    refine lv_topi (fun x_4 ex_4 => ?_)
    obtain rfl : x_4 = 8 := ex_4.trans (by decide)
    refine lv_iconst (v := 5) hx hb dX8_keepInput_27 (by decide) ?_
    refine va_iast hx hb hK hP hD hS 2 0 rfl rfl (vin rfl) dX8_keepInput_28 (fun H locs hP1 hD1 hS1 => ?_)
    clear hP hD hS
    have hP : va_P (dC, dI) vwCl [(m0, .inr (8, mdL AM g)), (AM 0, .inl (cY 0, 72, .inl tb)), (AM 2, .inl (cY 0, 22, .inl (upd (upd sA 7 (input - 10)) 8 5))), (AM 3, .inl (cY 0, 22, .inl rd)), (AM 4, .inl (cY 0, 110, .inl kp)), (AM 5, .inl (cY 0, 8414, .inl td)), (AM 6, .inl (cY 0, 2, .inl wn)), (AM 13, .inl (cY 0, 4, .inl rw)), (AM 14, .inl (cY 0, 4, .inl br))] H := hP1
    have hD : va_D A [(m0, .inr (8, mdL AM g)), (AM 0, .inl (cY 0, 72, .inl tb)), (AM 2, .inl (cY 0, 22, .inl (upd (upd sA 7 (input - 10)) 8 5))), (AM 3, .inl (cY 0, 22, .inl rd)), (AM 4, .inl (cY 0, 110, .inl kp)), (AM 5, .inl (cY 0, 8414, .inl td)), (AM 6, .inl (cY 0, 2, .inl wn)), (AM 13, .inl (cY 0, 4, .inl rw)), (AM 14, .inl (cY 0, 4, .inl br))] := hD1
    have hS := hS1
    clear hP1 hD1 hS1
    have eo_5 : (X8_keepInput0_w2 sA input) = (upd (upd sA 7 (input - 10)) 8 5) := by rw [X8_keepInput0_w2]; simp only [eq_false c_1, ↓reduceIte]
    have hP9 : va_P (dC, dI) vwCl [(m0, .inr (8, mdL AM g)), (AM 0, .inl (cY 0, 72, .inl tb)), (AM 2, .inl (cY 0, 22, .inl (X8_keepInput0_w2 sA input))), (AM 3, .inl (cY 0, 22, .inl rd)), (AM 4, .inl (cY 0, 110, .inl kp)), (AM 5, .inl (cY 0, 8414, .inl td)), (AM 6, .inl (cY 0, 2, .inl wn)), (AM 13, .inl (cY 0, 4, .inl rw)), (AM 14, .inl (cY 0, 4, .inl br))] H := by simp only [eo_5]; exact hP
    have hD9 : va_D A [(m0, .inr (8, mdL AM g)), (AM 0, .inl (cY 0, 72, .inl tb)), (AM 2, .inl (cY 0, 22, .inl (X8_keepInput0_w2 sA input))), (AM 3, .inl (cY 0, 22, .inl rd)), (AM 4, .inl (cY 0, 110, .inl kp)), (AM 5, .inl (cY 0, 8414, .inl td)), (AM 6, .inl (cY 0, 2, .inl wn)), (AM 13, .inl (cY 0, 4, .inl rw)), (AM 14, .inl (cY 0, 4, .inl br))] := by simp only [eo_5]; exact hD
    exact W.vret hx hb hr (fun t ht hW => ⟨⟨(), rfl, trivial, wPost_of hP9 hD9 ht⟩, hS.F ht⟩) hS.2.2 dX8_keepInput_29
def X8_keepInput11_w2 (sA : Nat → Int32) (input : Int32) : Nat → Int32 := (if input < 10 then sA else (upd (upd sA 18 (input - 10)) 19 5))
set_option maxHeartbeats 4000000 in
set_option maxRecDepth 100000 in
theorem c_X8_keepInput11 (l : Launch) (dC : Nat → ClassId) (dI : Nat → Nat → Nat) (cY : Nat → ClassId) (m0 : Nat) (AM : Nat → Nat) (g : Nat → Int32) (tb : Nat → Int32) (sA : Nat → Int32) (rd : Nat → Int32) (kp : Nat → Int32) (td : Nat → Int32) (wn : Nat → Int32) (rw : Nat → Int32) (br : Nat → Int32) (input : Int32)  (sz : Nat) : Met l yX8_keepInput wsX8_keepInput ({ frames := 0, cells := 0, slots := 0, locals := 0 } : Room) (va_Pc [.ref m0, .int 11, .int input] (wPre (dC, dI) (tyL cY) [(m0, .inr (8, mdL AM g)), (AM 0, .inl (cY 0, 72, .inl tb)), (AM 2, .inl (cY 0, 22, .inl sA)), (AM 3, .inl (cY 0, 22, .inl rd)), (AM 4, .inl (cY 0, 110, .inl kp)), (AM 5, .inl (cY 0, 8414, .inl td)), (AM 6, .inl (cY 0, 2, .inl wn)), (AM 13, .inl (cY 0, 4, .inl rw)), (AM 14, .inl (cY 0, 4, .inl br))] sz)) (va_Qv (fun _ : Unit => True) (wPost (dC, dI) [(m0, .inr (8, mdL AM g)), (AM 0, .inl (cY 0, 72, .inl tb)), (AM 2, .inl (cY 0, 22, .inl (X8_keepInput11_w2 sA input))), (AM 3, .inl (cY 0, 22, .inl rd)), (AM 4, .inl (cY 0, 110, .inl kp)), (AM 5, .inl (cY 0, 8414, .inl td)), (AM 6, .inl (cY 0, 2, .inl wn)), (AM 13, .inl (cY 0, 4, .inl rw)), (AM 14, .inl (cY 0, 4, .inl br))] (va_A [(m0, .inr (8, mdL AM g)), (AM 0, .inl (cY 0, 72, .inl tb)), (AM 2, .inl (cY 0, 22, .inl sA)), (AM 3, .inl (cY 0, 22, .inl rd)), (AM 4, .inl (cY 0, 110, .inl kp)), (AM 5, .inl (cY 0, 8414, .inl td)), (AM 6, .inl (cY 0, 2, .inl wn)), (AM 13, .inl (cY 0, 4, .inl rw)), (AM 14, .inl (cY 0, 4, .inl br))] sz)) (va_A [(m0, .inr (8, mdL AM g)), (AM 0, .inl (cY 0, 72, .inl tb)), (AM 2, .inl (cY 0, 22, .inl sA)), (AM 3, .inl (cY 0, 22, .inl rd)), (AM 4, .inl (cY 0, 110, .inl kp)), (AM 5, .inl (cY 0, 8414, .inl td)), (AM 6, .inl (cY 0, 2, .inl wn)), (AM 13, .inl (cY 0, 4, .inl rw)), (AM 14, .inl (cY 0, 4, .inl br))] sz)) 0 0 (va_A [(m0, .inr (8, mdL AM g)), (AM 0, .inl (cY 0, 72, .inl tb)), (AM 2, .inl (cY 0, 22, .inl sA)), (AM 3, .inl (cY 0, 22, .inl rd)), (AM 4, .inl (cY 0, 110, .inl kp)), (AM 5, .inl (cY 0, 8414, .inl td)), (AM 6, .inl (cY 0, 2, .inl wn)), (AM 13, .inl (cY 0, 4, .inl rw)), (AM 14, .inl (cY 0, 4, .inl br))] sz) := by
  refine Met.ofW (cc := cX8_keepInput) (maxL := 3) (ret := none) (by decide) rfl ?_
  intro p e s m args below meth c s₁ B hml hv
  obtain ⟨rfl, hsz, hP, hK, hN, hD0⟩ := hv
  have hx := B.exec
  have hb := B.bytes
  have hr := B.returns
  have hts := atoms_spec (ws := wsX8_keepInput) B.pre
  have hown : s.vm.findClass RX8 = some m.cls := findClass_of_methodNamed B.named
  have hlocks := B.notSynchronized
  subst hsz
  have hD := hD0.self (sz := s.heap.size)
  generalize hAe : va_A [(m0, .inr (8, mdL AM g)), (AM 0, .inl (cY 0, 72, .inl tb)), (AM 2, .inl (cY 0, 22, .inl sA)), (AM 3, .inl (cY 0, 22, .inl rd)), (AM 4, .inl (cY 0, 110, .inl kp)), (AM 5, .inl (cY 0, 8414, .inl td)), (AM 6, .inl (cY 0, 2, .inl wn)), (AM 13, .inl (cY 0, 4, .inl rw)), (AM 14, .inl (cY 0, 4, .inl br))] s.heap.size = A at hD ⊢
  have hA : ∀ q : Nat, s.heap.size ≤ q → A q := fun q h => by rw [← hAe]; exact Or.inr h
  have hS : va_S A s.heap s.heap [] := va_S.rf
  have hP : va_P (dC, dI) vwCl [(m0, .inr (8, mdL AM g)), (AM 0, .inl (cY 0, 72, .inl tb)), (AM 2, .inl (cY 0, 22, .inl sA)), (AM 3, .inl (cY 0, 22, .inl rd)), (AM 4, .inl (cY 0, 110, .inl kp)), (AM 5, .inl (cY 0, 8414, .inl td)), (AM 6, .inl (cY 0, 2, .inl wn)), (AM 13, .inl (cY 0, 4, .inl rw)), (AM 14, .inl (cY 0, 4, .inl br))] s.heap := hP
  have hl := lv_entry ([.ref m0, .int 11, .int input]) (n := 3) (Nat.le_of_ble_eq_true rfl)
  rw [lg_entry_eq]
  generalize (lg_sl ([.ref m0, .int 11, .int input]) ++ List.replicate (3 - (lg_sl ([.ref m0, .int 11, .int input])).length) Slot.unset).toArray = ls at hl ⊢
  have hl : lv_has ls 3 [(0, .ref m0), (1, .int 11), (2, .int input)] := hl
  refine lv_iload_n hx hb dX8_keepInput_0 rfl (lv_at hl 2 rfl) ?_
  refine lv_bipush (v := 10) hx hb dX8_keepInput_1 (by decide) ?_
  refine lv_icmp_lt (tgt := 29) hx hb dX8_keepInput_3 (by decide) (fun c_1 => ?_) (fun c_1 => ?_)
  · have eo_2 : (X8_keepInput11_w2 sA input) = sA := by rw [X8_keepInput11_w2]; simp only [eq_true c_1, ↓reduceIte]
    have hP9 : va_P (dC, dI) vwCl [(m0, .inr (8, mdL AM g)), (AM 0, .inl (cY 0, 72, .inl tb)), (AM 2, .inl (cY 0, 22, .inl (X8_keepInput11_w2 sA input))), (AM 3, .inl (cY 0, 22, .inl rd)), (AM 4, .inl (cY 0, 110, .inl kp)), (AM 5, .inl (cY 0, 8414, .inl td)), (AM 6, .inl (cY 0, 2, .inl wn)), (AM 13, .inl (cY 0, 4, .inl rw)), (AM 14, .inl (cY 0, 4, .inl br))] s.heap := by simp only [eo_2]; exact hP
    have hD9 : va_D A [(m0, .inr (8, mdL AM g)), (AM 0, .inl (cY 0, 72, .inl tb)), (AM 2, .inl (cY 0, 22, .inl (X8_keepInput11_w2 sA input))), (AM 3, .inl (cY 0, 22, .inl rd)), (AM 4, .inl (cY 0, 110, .inl kp)), (AM 5, .inl (cY 0, 8414, .inl td)), (AM 6, .inl (cY 0, 2, .inl wn)), (AM 13, .inl (cY 0, 4, .inl rw)), (AM 14, .inl (cY 0, 4, .inl br))] := by simp only [eo_2]; exact hD
    exact W.vret hx hb hr (fun t ht hW => ⟨⟨(), rfl, trivial, wPost_of hP9 hD9 ht⟩, hS.F ht⟩) hS.2.2 dX8_keepInput_29
  · refine lv_aload_n hx hb dX8_keepInput_6 rfl (lv_at hl 0 rfl) ?_
    refine va_get (D := (dC, dI)) (ci := 8) (v := .ref (AM 2)) (C := RX8) (T := TX8) (N := 17) hx hb hts inw_X8_keepInput_X8 hown hK hP 0 rfl rfl 2 (by decide) (hts (.fieldLink RX8 13 "DuelFramesModel" "s" "[I") (List.mem_of_getElem? (i := 1) rfl)) (fun _ h9 => h9) rfl dX8_keepInput_7 ?_
    refine lv_iload_n hx hb dX8_keepInput_10 rfl (lv_at hl 1 rfl) ?_
    refine lv_bipush (v := 7) hx hb dX8_keepInput_11 (by decide) ?_
    refine lv_iadd hx hb dX8_keepInput_13 ?_
    refine lv_topi (fun x_3 ex_3 => ?_)
    obtain rfl : x_3 = 18 := ex_3.trans (by decide)
    refine lv_iload_n hx hb dX8_keepInput_14 rfl (lv_at hl 2 rfl) ?_
    refine lv_bipush (v := 10) hx hb dX8_keepInput_15 (by decide) ?_
    refine lv_isub hx hb dX8_keepInput_17 ?_
    refine va_iast hx hb hK hP hD hS 2 0 rfl rfl (vin rfl) dX8_keepInput_18 (fun H locs hP1 hD1 hS1 => ?_)
    clear hP hD hS
    have hP : va_P (dC, dI) vwCl [(m0, .inr (8, mdL AM g)), (AM 0, .inl (cY 0, 72, .inl tb)), (AM 2, .inl (cY 0, 22, .inl (upd sA 18 (input - 10)))), (AM 3, .inl (cY 0, 22, .inl rd)), (AM 4, .inl (cY 0, 110, .inl kp)), (AM 5, .inl (cY 0, 8414, .inl td)), (AM 6, .inl (cY 0, 2, .inl wn)), (AM 13, .inl (cY 0, 4, .inl rw)), (AM 14, .inl (cY 0, 4, .inl br))] H := hP1
    have hD : va_D A [(m0, .inr (8, mdL AM g)), (AM 0, .inl (cY 0, 72, .inl tb)), (AM 2, .inl (cY 0, 22, .inl (upd sA 18 (input - 10)))), (AM 3, .inl (cY 0, 22, .inl rd)), (AM 4, .inl (cY 0, 110, .inl kp)), (AM 5, .inl (cY 0, 8414, .inl td)), (AM 6, .inl (cY 0, 2, .inl wn)), (AM 13, .inl (cY 0, 4, .inl rw)), (AM 14, .inl (cY 0, 4, .inl br))] := hD1
    have hS := hS1
    clear hP1 hD1 hS1
    refine lv_aload_n hx hb dX8_keepInput_19 rfl (lv_at hl 0 rfl) ?_
    refine va_get (D := (dC, dI)) (ci := 8) (v := .ref (AM 2)) (C := RX8) (T := TX8) (N := 17) hx hb hts inw_X8_keepInput_X8 hown hK hP 0 rfl rfl 2 (by decide) (hts (.fieldLink RX8 13 "DuelFramesModel" "s" "[I") (List.mem_of_getElem? (i := 1) rfl)) (fun _ h9 => h9) rfl dX8_keepInput_20 ?_
    refine lv_iload_n hx hb dX8_keepInput_23 rfl (lv_at hl 1 rfl) ?_
    refine lv_bipush (v := 8) hx hb dX8_keepInput_24 (by decide) ?_
    refine lv_iadd hx hb dX8_keepInput_26 ?_
    refine lv_topi (fun x_4 ex_4 => ?_)
    obtain rfl : x_4 = 19 := ex_4.trans (by decide)
    refine lv_iconst (v := 5) hx hb dX8_keepInput_27 (by decide) ?_
    refine va_iast hx hb hK hP hD hS 2 0 rfl rfl (vin rfl) dX8_keepInput_28 (fun H locs hP1 hD1 hS1 => ?_)
    clear hP hD hS
    have hP : va_P (dC, dI) vwCl [(m0, .inr (8, mdL AM g)), (AM 0, .inl (cY 0, 72, .inl tb)), (AM 2, .inl (cY 0, 22, .inl (upd (upd sA 18 (input - 10)) 19 5))), (AM 3, .inl (cY 0, 22, .inl rd)), (AM 4, .inl (cY 0, 110, .inl kp)), (AM 5, .inl (cY 0, 8414, .inl td)), (AM 6, .inl (cY 0, 2, .inl wn)), (AM 13, .inl (cY 0, 4, .inl rw)), (AM 14, .inl (cY 0, 4, .inl br))] H := hP1
    have hD : va_D A [(m0, .inr (8, mdL AM g)), (AM 0, .inl (cY 0, 72, .inl tb)), (AM 2, .inl (cY 0, 22, .inl (upd (upd sA 18 (input - 10)) 19 5))), (AM 3, .inl (cY 0, 22, .inl rd)), (AM 4, .inl (cY 0, 110, .inl kp)), (AM 5, .inl (cY 0, 8414, .inl td)), (AM 6, .inl (cY 0, 2, .inl wn)), (AM 13, .inl (cY 0, 4, .inl rw)), (AM 14, .inl (cY 0, 4, .inl br))] := hD1
    have hS := hS1
    clear hP1 hD1 hS1
    have eo_5 : (X8_keepInput11_w2 sA input) = (upd (upd sA 18 (input - 10)) 19 5) := by rw [X8_keepInput11_w2]; simp only [eq_false c_1, ↓reduceIte]
    have hP9 : va_P (dC, dI) vwCl [(m0, .inr (8, mdL AM g)), (AM 0, .inl (cY 0, 72, .inl tb)), (AM 2, .inl (cY 0, 22, .inl (X8_keepInput11_w2 sA input))), (AM 3, .inl (cY 0, 22, .inl rd)), (AM 4, .inl (cY 0, 110, .inl kp)), (AM 5, .inl (cY 0, 8414, .inl td)), (AM 6, .inl (cY 0, 2, .inl wn)), (AM 13, .inl (cY 0, 4, .inl rw)), (AM 14, .inl (cY 0, 4, .inl br))] H := by simp only [eo_5]; exact hP
    have hD9 : va_D A [(m0, .inr (8, mdL AM g)), (AM 0, .inl (cY 0, 72, .inl tb)), (AM 2, .inl (cY 0, 22, .inl (X8_keepInput11_w2 sA input))), (AM 3, .inl (cY 0, 22, .inl rd)), (AM 4, .inl (cY 0, 110, .inl kp)), (AM 5, .inl (cY 0, 8414, .inl td)), (AM 6, .inl (cY 0, 2, .inl wn)), (AM 13, .inl (cY 0, 4, .inl rw)), (AM 14, .inl (cY 0, 4, .inl br))] := by simp only [eo_5]; exact hD
    exact W.vret hx hb hr (fun t ht hW => ⟨⟨(), rfl, trivial, wPost_of hP9 hD9 ht⟩, hS.F ht⟩) hS.2.2 dX8_keepInput_29
theorem inw_X8_beginKept_X8 : ∀ w ∈ u_ws RX8 TX8 17, w ∈ wsX8_beginKept := fun _ h => List.mem_cons_of_mem _ (List.mem_append_right _ h)
def X8_beginKept0_j101 (tb : Nat → Int32) (sA : Nat → Int32) : Int32 := (if (sA 3) = 1 then (if (sA 9) = (-1) then 0 else (if 10 < (sA 9) then 0 else (if (((X8_ofMove_r tb (sA 4) 11) >>> ((sA 7) &&& 31)) &&& 1) = 1 then 1 else 0))) else 0)
def X8_beginKept0_r (tb : Nat → Int32) (sA : Nat → Int32) : Int32 := (if (sA 7) = (-1) then 0 else (if (X8_ofMove_r tb (sA 7) 9) ≤ (sA 2) then (if (sA 3) = 0 then 1 else (if (X8_beginKept0_j101 tb sA) = 0 then 0 else 1)) else 0))
def X8_beginKept0_w2 (tb : Nat → Int32) (sA : Nat → Int32) : Nat → Int32 := (if (sA 7) = (-1) then sA else (if (X8_ofMove_r tb (sA 7) 9) ≤ (sA 2) then (if (sA 3) = 0 then (upd (upd (upd (upd (upd (upd (upd sA 2 ((sA 2) - (X8_ofMove_r tb (sA 7) 9))) 3 1) 4 (sA 7)) 5 0) 9 (-1)) 7 (-1)) 8 0) else (if (X8_beginKept0_j101 tb sA) = 0 then sA else (upd (upd (upd (upd (upd (upd (upd sA 2 ((sA 2) - (X8_ofMove_r tb (sA 7) 9))) 3 1) 4 (sA 7)) 5 0) 9 (-1)) 7 (-1)) 8 0))) else sA))
set_option maxHeartbeats 4000000 in
set_option maxRecDepth 100000 in
theorem c_X8_beginKept0 (l : Launch) (dC : Nat → ClassId) (dI : Nat → Nat → Nat) (cY : Nat → ClassId) (m0 : Nat) (AM : Nat → Nat) (g : Nat → Int32) (tb : Nat → Int32) (sA : Nat → Int32) (rd : Nat → Int32) (kp : Nat → Int32) (td : Nat → Int32) (wn : Nat → Int32) (rw : Nat → Int32) (br : Nat → Int32) (hs : okS sA) (sz : Nat) : Met l yX8_beginKept wsX8_beginKept ({ frames := 1, cells := 0, slots := 0, locals := 22 } : Room) (va_Pc [.ref m0, .int 0] (wPre (dC, dI) (tyL cY) [(m0, .inr (8, mdL AM g)), (AM 0, .inl (cY 0, 72, .inl tb)), (AM 2, .inl (cY 0, 22, .inl sA)), (AM 3, .inl (cY 0, 22, .inl rd)), (AM 4, .inl (cY 0, 110, .inl kp)), (AM 5, .inl (cY 0, 8414, .inl td)), (AM 6, .inl (cY 0, 2, .inl wn)), (AM 13, .inl (cY 0, 4, .inl rw)), (AM 14, .inl (cY 0, 4, .inl br))] sz)) (va_Qi (fun (r : Int32) (_ : Unit) => r = (X8_beginKept0_r tb sA) ∧ (r = 0 ∨ r = 1)) (wPost (dC, dI) [(m0, .inr (8, mdL AM g)), (AM 0, .inl (cY 0, 72, .inl tb)), (AM 2, .inl (cY 0, 22, .inl (X8_beginKept0_w2 tb sA))), (AM 3, .inl (cY 0, 22, .inl rd)), (AM 4, .inl (cY 0, 110, .inl kp)), (AM 5, .inl (cY 0, 8414, .inl td)), (AM 6, .inl (cY 0, 2, .inl wn)), (AM 13, .inl (cY 0, 4, .inl rw)), (AM 14, .inl (cY 0, 4, .inl br))] (va_A [(m0, .inr (8, mdL AM g)), (AM 0, .inl (cY 0, 72, .inl tb)), (AM 2, .inl (cY 0, 22, .inl sA)), (AM 3, .inl (cY 0, 22, .inl rd)), (AM 4, .inl (cY 0, 110, .inl kp)), (AM 5, .inl (cY 0, 8414, .inl td)), (AM 6, .inl (cY 0, 2, .inl wn)), (AM 13, .inl (cY 0, 4, .inl rw)), (AM 14, .inl (cY 0, 4, .inl br))] sz)) (va_A [(m0, .inr (8, mdL AM g)), (AM 0, .inl (cY 0, 72, .inl tb)), (AM 2, .inl (cY 0, 22, .inl sA)), (AM 3, .inl (cY 0, 22, .inl rd)), (AM 4, .inl (cY 0, 110, .inl kp)), (AM 5, .inl (cY 0, 8414, .inl td)), (AM 6, .inl (cY 0, 2, .inl wn)), (AM 13, .inl (cY 0, 4, .inl rw)), (AM 14, .inl (cY 0, 4, .inl br))] sz)) 0 0 (va_A [(m0, .inr (8, mdL AM g)), (AM 0, .inl (cY 0, 72, .inl tb)), (AM 2, .inl (cY 0, 22, .inl sA)), (AM 3, .inl (cY 0, 22, .inl rd)), (AM 4, .inl (cY 0, 110, .inl kp)), (AM 5, .inl (cY 0, 8414, .inl td)), (AM 6, .inl (cY 0, 2, .inl wn)), (AM 13, .inl (cY 0, 4, .inl rw)), (AM 14, .inl (cY 0, 4, .inl br))] sz) := by
  refine Met.ofW (cc := cX8_beginKept) (maxL := 4) (ret := (some .boolean)) (by decide) rfl ?_
  intro p e s m args below meth c s₁ B hml hv
  obtain ⟨rfl, hsz, hP, hK, hN, hD0⟩ := hv
  have hx := B.exec
  have hb := B.bytes
  have hr := B.returns
  have hts := atoms_spec (ws := wsX8_beginKept) B.pre
  have hown : s.vm.findClass RX8 = some m.cls := findClass_of_methodNamed B.named
  have hlocks := B.notSynchronized
  subst hsz
  have hD := hD0.self (sz := s.heap.size)
  generalize hAe : va_A [(m0, .inr (8, mdL AM g)), (AM 0, .inl (cY 0, 72, .inl tb)), (AM 2, .inl (cY 0, 22, .inl sA)), (AM 3, .inl (cY 0, 22, .inl rd)), (AM 4, .inl (cY 0, 110, .inl kp)), (AM 5, .inl (cY 0, 8414, .inl td)), (AM 6, .inl (cY 0, 2, .inl wn)), (AM 13, .inl (cY 0, 4, .inl rw)), (AM 14, .inl (cY 0, 4, .inl br))] s.heap.size = A at hD ⊢
  have hA : ∀ q : Nat, s.heap.size ≤ q → A q := fun q h => by rw [← hAe]; exact Or.inr h
  have hS : va_S A s.heap s.heap [] := va_S.rf
  have hP : va_P (dC, dI) vwCl [(m0, .inr (8, mdL AM g)), (AM 0, .inl (cY 0, 72, .inl tb)), (AM 2, .inl (cY 0, 22, .inl sA)), (AM 3, .inl (cY 0, 22, .inl rd)), (AM 4, .inl (cY 0, 110, .inl kp)), (AM 5, .inl (cY 0, 8414, .inl td)), (AM 6, .inl (cY 0, 2, .inl wn)), (AM 13, .inl (cY 0, 4, .inl rw)), (AM 14, .inl (cY 0, 4, .inl br))] s.heap := hP
  have hl := lv_entry ([.ref m0, .int 0]) (n := 4) (Nat.le_of_ble_eq_true rfl)
  rw [lg_entry_eq]
  generalize (lg_sl ([.ref m0, .int 0]) ++ List.replicate (4 - (lg_sl ([.ref m0, .int 0])).length) Slot.unset).toArray = ls at hl ⊢
  have hl : lv_has ls 4 [(0, .ref m0), (1, .int 0)] := hl
  refine lv_aload_n hx hb dX8_beginKept_0 rfl (lv_at hl 0 rfl) ?_
  refine va_get (D := (dC, dI)) (ci := 8) (v := .ref (AM 2)) (C := RX8) (T := TX8) (N := 17) hx hb hts inw_X8_beginKept_X8 hown hK hP 0 rfl rfl 2 (by decide) (hts (.fieldLink RX8 13 "DuelFramesModel" "s" "[I") (List.mem_of_getElem? (i := 1) rfl)) (fun _ h9 => h9) rfl dX8_beginKept_1 ?_
  refine lv_iload_n hx hb dX8_beginKept_4 rfl (lv_at hl 1 rfl) ?_
  refine lv_bipush (v := 7) hx hb dX8_beginKept_5 (by decide) ?_
  refine lv_iadd hx hb dX8_beginKept_7 ?_
  refine lv_topi (fun x_1 ex_1 => ?_)
  obtain rfl : x_1 = 7 := ex_1.trans (by decide)
  refine va_iald hx hb hK hP 2 0 rfl rfl (vin rfl) dX8_beginKept_8 ?_
  refine lv_topi (fun x_2 ex_2 => ?_)
  obtain rfl : x_2 = (sA 7) := ex_2
  refine lv_istore_n (lv' := [(2, .int (sA 7)), (0, .ref m0), (1, .int 0)]) hx hb dX8_beginKept_9 rfl hl (by decide) rfl (fun ls hl => ?_)
  refine lv_iload_n hx hb dX8_beginKept_10 rfl (lv_at hl 0 rfl) ?_
  refine lv_iconst (v := (-1)) hx hb dX8_beginKept_11 (by decide) ?_
  refine lv_icmp_eq (tgt := 33) hx hb dX8_beginKept_12 (by decide) (fun c_3 => ?_) (fun c_3 => ?_)
  · refine lv_iconst (v := 0) hx hb dX8_beginKept_33 (by decide) ?_
    have eo_4 : (X8_beginKept0_r tb sA) = 0 := by rw [X8_beginKept0_r]; simp only [eq_true c_3, ↓reduceIte]
    have eo_5 : (X8_beginKept0_w2 tb sA) = sA := by rw [X8_beginKept0_w2]; simp only [eq_true c_3, ↓reduceIte]
    have hP9 : va_P (dC, dI) vwCl [(m0, .inr (8, mdL AM g)), (AM 0, .inl (cY 0, 72, .inl tb)), (AM 2, .inl (cY 0, 22, .inl (X8_beginKept0_w2 tb sA))), (AM 3, .inl (cY 0, 22, .inl rd)), (AM 4, .inl (cY 0, 110, .inl kp)), (AM 5, .inl (cY 0, 8414, .inl td)), (AM 6, .inl (cY 0, 2, .inl wn)), (AM 13, .inl (cY 0, 4, .inl rw)), (AM 14, .inl (cY 0, 4, .inl br))] s.heap := by simp only [eo_5]; exact hP
    have hD9 : va_D A [(m0, .inr (8, mdL AM g)), (AM 0, .inl (cY 0, 72, .inl tb)), (AM 2, .inl (cY 0, 22, .inl (X8_beginKept0_w2 tb sA))), (AM 3, .inl (cY 0, 22, .inl rd)), (AM 4, .inl (cY 0, 110, .inl kp)), (AM 5, .inl (cY 0, 8414, .inl td)), (AM 6, .inl (cY 0, 2, .inl wn)), (AM 13, .inl (cY 0, 4, .inl rw)), (AM 14, .inl (cY 0, 4, .inl br))] := by simp only [eo_5]; exact hD
    exact W.zret (v := 0) (ty := .boolean) hx hb hr rfl (fun t ht hW => ⟨⟨_, (), rfl, ⟨eo_4.symm, (by decide)⟩, wPost_of hP9 hD9 ht⟩, hS.F ht⟩) hS.2.2 dX8_beginKept_34
  · refine lv_aload_n hx hb dX8_beginKept_15 rfl (lv_at hl 1 rfl) ?_
    refine lv_iload_n hx hb dX8_beginKept_16 rfl (lv_at hl 0 rfl) ?_
    refine lv_bipush (v := 9) hx hb dX8_beginKept_17 (by decide) ?_
    refine vp_callSi (W.runV (As := [.int (sA 7), .int 9]) (rest := []) ⟨hx, hb, hml, hown, hts⟩ (c_X8_ofMove l dC dI cY m0 AM g tb sA rd kp td wn rw br (sA 7) 9 (tb_in (hs.1.resolve_left c_3) (vin rfl))) (cwV 2 hts gX8_beginKept_X8_ofMove rfl rfl rfl (by decide +kernel) ⟨Nat.le_of_ble_eq_true rfl, Nat.le_of_ble_eq_true rfl⟩) ⟨blindR, va_recv hK hP (ci := 8) (q0 := 0) rfl rfl, fun U hU hW => ⟨rfl, rPre_of hP hK hN U hU hW⟩⟩ rfl rfl hl.1 rfl (lv_room (Nat.le_of_ble_eq_true rfl)) dX8_beginKept_19 ⟨Nat.zero_le _, Nat.zero_le _⟩) (fun r_6 hw => ?_)
    subst hw
    refine lv_aload_n hx hb dX8_beginKept_22 rfl (lv_at hl 1 rfl) ?_
    refine va_get (D := (dC, dI)) (ci := 8) (v := .ref (AM 2)) (C := RX8) (T := TX8) (N := 17) hx hb hts inw_X8_beginKept_X8 hown hK hP 0 rfl rfl 2 (by decide) (hts (.fieldLink RX8 13 "DuelFramesModel" "s" "[I") (List.mem_of_getElem? (i := 1) rfl)) (fun _ h9 => h9) rfl dX8_beginKept_23 ?_
    refine lv_iload_n hx hb dX8_beginKept_26 rfl (lv_at hl 2 rfl) ?_
    refine lv_iconst (v := 2) hx hb dX8_beginKept_27 (by decide) ?_
    refine lv_iadd hx hb dX8_beginKept_28 ?_
    refine lv_topi (fun x_7 ex_7 => ?_)
    obtain rfl : x_7 = 2 := ex_7.trans (by decide)
    refine va_iald hx hb hK hP 2 0 rfl rfl (vin rfl) dX8_beginKept_29 ?_
    refine lv_topi (fun x_8 ex_8 => ?_)
    obtain rfl : x_8 = (sA 2) := ex_8
    refine lv_icmp_le (tgt := 35) hx hb dX8_beginKept_30 (by decide) (fun c_9 => ?_) (fun c_9 => ?_)
    · refine lv_aload_n hx hb dX8_beginKept_35 rfl (lv_at hl 1 rfl) ?_
      refine va_get (D := (dC, dI)) (ci := 8) (v := .ref (AM 2)) (C := RX8) (T := TX8) (N := 17) hx hb hts inw_X8_beginKept_X8 hown hK hP 0 rfl rfl 2 (by decide) (hts (.fieldLink RX8 13 "DuelFramesModel" "s" "[I") (List.mem_of_getElem? (i := 1) rfl)) (fun _ h9 => h9) rfl dX8_beginKept_36 ?_
      refine lv_iload_n hx hb dX8_beginKept_39 rfl (lv_at hl 2 rfl) ?_
      refine lv_iconst (v := 3) hx hb dX8_beginKept_40 (by decide) ?_
      refine lv_iadd hx hb dX8_beginKept_41 ?_
      refine lv_topi (fun x_10 ex_10 => ?_)
      obtain rfl : x_10 = 3 := ex_10.trans (by decide)
      refine va_iald hx hb hK hP 2 0 rfl rfl (vin rfl) dX8_beginKept_42 ?_
      refine lv_topi (fun x_11 ex_11 => ?_)
      obtain rfl : x_11 = (sA 3) := ex_11
      refine lv_iconst (v := 1) hx hb dX8_beginKept_43 (by decide) ?_
      refine jnW (D := (dC, dI)) (ws := [(m0, .inr (8, mdL AM g)), (AM 0, .inl (cY 0, 72, .inl tb)), (AM 2, .inl (cY 0, 22, .inl sA)), (AM 3, .inl (cY 0, 22, .inl rd)), (AM 4, .inl (cY 0, 110, .inl kp)), (AM 5, .inl (cY 0, 8414, .inl td)), (AM 6, .inl (cY 0, 2, .inl wn)), (AM 13, .inl (cY 0, 4, .inl rw)), (AM 14, .inl (cY 0, 4, .inl br))]) (lv := [(2, .int (sA 7)), (0, .ref m0), (1, .int 0)]) (st := [.int (X8_beginKept0_j101 tb sA)]) (J := 101) (n := 4) (A := A) (H0 := s.heap) ?_ ?_
      · intro H locs ls hP hD hS hl
        refine lv_istore_n (lv' := [(3, .int (X8_beginKept0_j101 tb sA)), (2, .int (sA 7)), (0, .ref m0), (1, .int 0)]) hx hb dX8_beginKept_101 rfl hl (by decide) rfl (fun ls hl => ?_)
        refine lv_aload_n hx hb dX8_beginKept_102 rfl (lv_at hl 2 rfl) ?_
        refine va_get (D := (dC, dI)) (ci := 8) (v := .ref (AM 2)) (C := RX8) (T := TX8) (N := 17) hx hb hts inw_X8_beginKept_X8 hown hK hP 0 rfl rfl 2 (by decide) (hts (.fieldLink RX8 13 "DuelFramesModel" "s" "[I") (List.mem_of_getElem? (i := 1) rfl)) (fun _ h9 => h9) rfl dX8_beginKept_103 ?_
        refine lv_iload_n hx hb dX8_beginKept_106 rfl (lv_at hl 3 rfl) ?_
        refine lv_iconst (v := 3) hx hb dX8_beginKept_107 (by decide) ?_
        refine lv_iadd hx hb dX8_beginKept_108 ?_
        refine lv_topi (fun x_14 ex_14 => ?_)
        obtain rfl : x_14 = 3 := ex_14.trans (by decide)
        refine va_iald hx hb hK hP 2 0 rfl rfl (vin rfl) dX8_beginKept_109 ?_
        refine lv_topi (fun x_15 ex_15 => ?_)
        obtain rfl : x_15 = (sA 3) := ex_15
        refine lv_if_eq (tgt := 119) hx hb dX8_beginKept_110 (by decide) (fun c_16 => ?_) (fun c_16 => ?_)
        · refine lv_aload_n hx hb dX8_beginKept_119 rfl (lv_at hl 2 rfl) ?_
          refine va_get (D := (dC, dI)) (ci := 8) (v := .ref (AM 2)) (C := RX8) (T := TX8) (N := 17) hx hb hts inw_X8_beginKept_X8 hown hK hP 0 rfl rfl 2 (by decide) (hts (.fieldLink RX8 13 "DuelFramesModel" "s" "[I") (List.mem_of_getElem? (i := 1) rfl)) (fun _ h9 => h9) rfl dX8_beginKept_120 ?_
          refine lv_iload_n hx hb dX8_beginKept_123 rfl (lv_at hl 3 rfl) ?_
          refine lv_iconst (v := 2) hx hb dX8_beginKept_124 (by decide) ?_
          refine lv_iadd hx hb dX8_beginKept_125 ?_
          refine lv_topi (fun x_17 ex_17 => ?_)
          obtain rfl : x_17 = 2 := ex_17.trans (by decide)
          refine lv_dup2_11 hx hb dX8_beginKept_126 rfl rfl ?_
          refine va_iald hx hb hK hP 2 0 rfl rfl (vin rfl) dX8_beginKept_127 ?_
          refine lv_topi (fun x_18 ex_18 => ?_)
          obtain rfl : x_18 = (sA 2) := ex_18
          refine lv_aload_n hx hb dX8_beginKept_128 rfl (lv_at hl 2 rfl) ?_
          refine lv_iload_n hx hb dX8_beginKept_129 rfl (lv_at hl 1 rfl) ?_
          refine lv_bipush (v := 9) hx hb dX8_beginKept_130 (by decide) ?_
          refine vp_callSi (W.runV (As := [.int (sA 7), .int 9]) (rest := [.int (sA 2), .int 2, .ref (AM 2)]) ⟨hx, hb, hml, hown, hts⟩ (c_X8_ofMove l dC dI cY m0 AM g tb sA rd kp td wn rw br (sA 7) 9 (tb_in (hs.1.resolve_left c_3) (vin rfl))) (cwV 2 hts gX8_beginKept_X8_ofMove rfl rfl rfl (by decide +kernel) ⟨Nat.le_of_ble_eq_true rfl, Nat.le_of_ble_eq_true rfl⟩) ⟨blindR, va_recv hK hP (ci := 8) (q0 := 0) rfl rfl, fun U hU hW => ⟨rfl, rPre_of hP hK hN U hU hW⟩⟩ rfl rfl hl.1 rfl (lv_room (Nat.le_of_ble_eq_true rfl)) dX8_beginKept_132 ⟨Nat.zero_le _, Nat.zero_le _⟩) (fun r_19 hw => ?_)
          subst hw
          refine lv_isub hx hb dX8_beginKept_135 ?_
          refine va_iast hx hb hK hP hD hS 2 0 rfl rfl (vin rfl) dX8_beginKept_136 (fun H locs hP1 hD1 hS1 => ?_)
          clear hP hD hS
          have hP : va_P (dC, dI) vwCl [(m0, .inr (8, mdL AM g)), (AM 0, .inl (cY 0, 72, .inl tb)), (AM 2, .inl (cY 0, 22, .inl (upd sA 2 ((sA 2) - (X8_ofMove_r tb (sA 7) 9))))), (AM 3, .inl (cY 0, 22, .inl rd)), (AM 4, .inl (cY 0, 110, .inl kp)), (AM 5, .inl (cY 0, 8414, .inl td)), (AM 6, .inl (cY 0, 2, .inl wn)), (AM 13, .inl (cY 0, 4, .inl rw)), (AM 14, .inl (cY 0, 4, .inl br))] H := hP1
          have hD : va_D A [(m0, .inr (8, mdL AM g)), (AM 0, .inl (cY 0, 72, .inl tb)), (AM 2, .inl (cY 0, 22, .inl (upd sA 2 ((sA 2) - (X8_ofMove_r tb (sA 7) 9))))), (AM 3, .inl (cY 0, 22, .inl rd)), (AM 4, .inl (cY 0, 110, .inl kp)), (AM 5, .inl (cY 0, 8414, .inl td)), (AM 6, .inl (cY 0, 2, .inl wn)), (AM 13, .inl (cY 0, 4, .inl rw)), (AM 14, .inl (cY 0, 4, .inl br))] := hD1
          have hS := hS1
          clear hP1 hD1 hS1
          refine lv_aload_n hx hb dX8_beginKept_137 rfl (lv_at hl 2 rfl) ?_
          refine va_get (D := (dC, dI)) (ci := 8) (v := .ref (AM 2)) (C := RX8) (T := TX8) (N := 17) hx hb hts inw_X8_beginKept_X8 hown hK hP 0 rfl rfl 2 (by decide) (hts (.fieldLink RX8 13 "DuelFramesModel" "s" "[I") (List.mem_of_getElem? (i := 1) rfl)) (fun _ h9 => h9) rfl dX8_beginKept_138 ?_
          refine lv_iload_n hx hb dX8_beginKept_141 rfl (lv_at hl 3 rfl) ?_
          refine lv_iconst (v := 3) hx hb dX8_beginKept_142 (by decide) ?_
          refine lv_iadd hx hb dX8_beginKept_143 ?_
          refine lv_topi (fun x_20 ex_20 => ?_)
          obtain rfl : x_20 = 3 := ex_20.trans (by decide)
          refine lv_iconst (v := 1) hx hb dX8_beginKept_144 (by decide) ?_
          refine va_iast hx hb hK hP hD hS 2 0 rfl rfl (vin rfl) dX8_beginKept_145 (fun H locs hP1 hD1 hS1 => ?_)
          clear hP hD hS
          have hP : va_P (dC, dI) vwCl [(m0, .inr (8, mdL AM g)), (AM 0, .inl (cY 0, 72, .inl tb)), (AM 2, .inl (cY 0, 22, .inl (upd (upd sA 2 ((sA 2) - (X8_ofMove_r tb (sA 7) 9))) 3 1))), (AM 3, .inl (cY 0, 22, .inl rd)), (AM 4, .inl (cY 0, 110, .inl kp)), (AM 5, .inl (cY 0, 8414, .inl td)), (AM 6, .inl (cY 0, 2, .inl wn)), (AM 13, .inl (cY 0, 4, .inl rw)), (AM 14, .inl (cY 0, 4, .inl br))] H := hP1
          have hD : va_D A [(m0, .inr (8, mdL AM g)), (AM 0, .inl (cY 0, 72, .inl tb)), (AM 2, .inl (cY 0, 22, .inl (upd (upd sA 2 ((sA 2) - (X8_ofMove_r tb (sA 7) 9))) 3 1))), (AM 3, .inl (cY 0, 22, .inl rd)), (AM 4, .inl (cY 0, 110, .inl kp)), (AM 5, .inl (cY 0, 8414, .inl td)), (AM 6, .inl (cY 0, 2, .inl wn)), (AM 13, .inl (cY 0, 4, .inl rw)), (AM 14, .inl (cY 0, 4, .inl br))] := hD1
          have hS := hS1
          clear hP1 hD1 hS1
          refine lv_aload_n hx hb dX8_beginKept_146 rfl (lv_at hl 2 rfl) ?_
          refine va_get (D := (dC, dI)) (ci := 8) (v := .ref (AM 2)) (C := RX8) (T := TX8) (N := 17) hx hb hts inw_X8_beginKept_X8 hown hK hP 0 rfl rfl 2 (by decide) (hts (.fieldLink RX8 13 "DuelFramesModel" "s" "[I") (List.mem_of_getElem? (i := 1) rfl)) (fun _ h9 => h9) rfl dX8_beginKept_147 ?_
          refine lv_iload_n hx hb dX8_beginKept_150 rfl (lv_at hl 3 rfl) ?_
          refine lv_iconst (v := 4) hx hb dX8_beginKept_151 (by decide) ?_
          refine lv_iadd hx hb dX8_beginKept_152 ?_
          refine lv_topi (fun x_21 ex_21 => ?_)
          obtain rfl : x_21 = 4 := ex_21.trans (by decide)
          refine lv_iload_n hx hb dX8_beginKept_153 rfl (lv_at hl 1 rfl) ?_
          refine va_iast hx hb hK hP hD hS 2 0 rfl rfl (vin rfl) dX8_beginKept_154 (fun H locs hP1 hD1 hS1 => ?_)
          clear hP hD hS
          have hP : va_P (dC, dI) vwCl [(m0, .inr (8, mdL AM g)), (AM 0, .inl (cY 0, 72, .inl tb)), (AM 2, .inl (cY 0, 22, .inl (upd (upd (upd sA 2 ((sA 2) - (X8_ofMove_r tb (sA 7) 9))) 3 1) 4 (sA 7)))), (AM 3, .inl (cY 0, 22, .inl rd)), (AM 4, .inl (cY 0, 110, .inl kp)), (AM 5, .inl (cY 0, 8414, .inl td)), (AM 6, .inl (cY 0, 2, .inl wn)), (AM 13, .inl (cY 0, 4, .inl rw)), (AM 14, .inl (cY 0, 4, .inl br))] H := hP1
          have hD : va_D A [(m0, .inr (8, mdL AM g)), (AM 0, .inl (cY 0, 72, .inl tb)), (AM 2, .inl (cY 0, 22, .inl (upd (upd (upd sA 2 ((sA 2) - (X8_ofMove_r tb (sA 7) 9))) 3 1) 4 (sA 7)))), (AM 3, .inl (cY 0, 22, .inl rd)), (AM 4, .inl (cY 0, 110, .inl kp)), (AM 5, .inl (cY 0, 8414, .inl td)), (AM 6, .inl (cY 0, 2, .inl wn)), (AM 13, .inl (cY 0, 4, .inl rw)), (AM 14, .inl (cY 0, 4, .inl br))] := hD1
          have hS := hS1
          clear hP1 hD1 hS1
          refine lv_aload_n hx hb dX8_beginKept_155 rfl (lv_at hl 2 rfl) ?_
          refine va_get (D := (dC, dI)) (ci := 8) (v := .ref (AM 2)) (C := RX8) (T := TX8) (N := 17) hx hb hts inw_X8_beginKept_X8 hown hK hP 0 rfl rfl 2 (by decide) (hts (.fieldLink RX8 13 "DuelFramesModel" "s" "[I") (List.mem_of_getElem? (i := 1) rfl)) (fun _ h9 => h9) rfl dX8_beginKept_156 ?_
          refine lv_iload_n hx hb dX8_beginKept_159 rfl (lv_at hl 3 rfl) ?_
          refine lv_iconst (v := 5) hx hb dX8_beginKept_160 (by decide) ?_
          refine lv_iadd hx hb dX8_beginKept_161 ?_
          refine lv_topi (fun x_22 ex_22 => ?_)
          obtain rfl : x_22 = 5 := ex_22.trans (by decide)
          refine lv_iconst (v := 0) hx hb dX8_beginKept_162 (by decide) ?_
          refine va_iast hx hb hK hP hD hS 2 0 rfl rfl (vin rfl) dX8_beginKept_163 (fun H locs hP1 hD1 hS1 => ?_)
          clear hP hD hS
          have hP : va_P (dC, dI) vwCl [(m0, .inr (8, mdL AM g)), (AM 0, .inl (cY 0, 72, .inl tb)), (AM 2, .inl (cY 0, 22, .inl (upd (upd (upd (upd sA 2 ((sA 2) - (X8_ofMove_r tb (sA 7) 9))) 3 1) 4 (sA 7)) 5 0))), (AM 3, .inl (cY 0, 22, .inl rd)), (AM 4, .inl (cY 0, 110, .inl kp)), (AM 5, .inl (cY 0, 8414, .inl td)), (AM 6, .inl (cY 0, 2, .inl wn)), (AM 13, .inl (cY 0, 4, .inl rw)), (AM 14, .inl (cY 0, 4, .inl br))] H := hP1
          have hD : va_D A [(m0, .inr (8, mdL AM g)), (AM 0, .inl (cY 0, 72, .inl tb)), (AM 2, .inl (cY 0, 22, .inl (upd (upd (upd (upd sA 2 ((sA 2) - (X8_ofMove_r tb (sA 7) 9))) 3 1) 4 (sA 7)) 5 0))), (AM 3, .inl (cY 0, 22, .inl rd)), (AM 4, .inl (cY 0, 110, .inl kp)), (AM 5, .inl (cY 0, 8414, .inl td)), (AM 6, .inl (cY 0, 2, .inl wn)), (AM 13, .inl (cY 0, 4, .inl rw)), (AM 14, .inl (cY 0, 4, .inl br))] := hD1
          have hS := hS1
          clear hP1 hD1 hS1
          refine lv_aload_n hx hb dX8_beginKept_164 rfl (lv_at hl 2 rfl) ?_
          refine va_get (D := (dC, dI)) (ci := 8) (v := .ref (AM 2)) (C := RX8) (T := TX8) (N := 17) hx hb hts inw_X8_beginKept_X8 hown hK hP 0 rfl rfl 2 (by decide) (hts (.fieldLink RX8 13 "DuelFramesModel" "s" "[I") (List.mem_of_getElem? (i := 1) rfl)) (fun _ h9 => h9) rfl dX8_beginKept_165 ?_
          refine lv_iload_n hx hb dX8_beginKept_168 rfl (lv_at hl 3 rfl) ?_
          refine lv_bipush (v := 9) hx hb dX8_beginKept_169 (by decide) ?_
          refine lv_iadd hx hb dX8_beginKept_171 ?_
          refine lv_topi (fun x_23 ex_23 => ?_)
          obtain rfl : x_23 = 9 := ex_23.trans (by decide)
          refine lv_iconst (v := (-1)) hx hb dX8_beginKept_172 (by decide) ?_
          refine va_iast hx hb hK hP hD hS 2 0 rfl rfl (vin rfl) dX8_beginKept_173 (fun H locs hP1 hD1 hS1 => ?_)
          clear hP hD hS
          have hP : va_P (dC, dI) vwCl [(m0, .inr (8, mdL AM g)), (AM 0, .inl (cY 0, 72, .inl tb)), (AM 2, .inl (cY 0, 22, .inl (upd (upd (upd (upd (upd sA 2 ((sA 2) - (X8_ofMove_r tb (sA 7) 9))) 3 1) 4 (sA 7)) 5 0) 9 (-1)))), (AM 3, .inl (cY 0, 22, .inl rd)), (AM 4, .inl (cY 0, 110, .inl kp)), (AM 5, .inl (cY 0, 8414, .inl td)), (AM 6, .inl (cY 0, 2, .inl wn)), (AM 13, .inl (cY 0, 4, .inl rw)), (AM 14, .inl (cY 0, 4, .inl br))] H := hP1
          have hD : va_D A [(m0, .inr (8, mdL AM g)), (AM 0, .inl (cY 0, 72, .inl tb)), (AM 2, .inl (cY 0, 22, .inl (upd (upd (upd (upd (upd sA 2 ((sA 2) - (X8_ofMove_r tb (sA 7) 9))) 3 1) 4 (sA 7)) 5 0) 9 (-1)))), (AM 3, .inl (cY 0, 22, .inl rd)), (AM 4, .inl (cY 0, 110, .inl kp)), (AM 5, .inl (cY 0, 8414, .inl td)), (AM 6, .inl (cY 0, 2, .inl wn)), (AM 13, .inl (cY 0, 4, .inl rw)), (AM 14, .inl (cY 0, 4, .inl br))] := hD1
          have hS := hS1
          clear hP1 hD1 hS1
          refine lv_aload_n hx hb dX8_beginKept_174 rfl (lv_at hl 2 rfl) ?_
          refine va_get (D := (dC, dI)) (ci := 8) (v := .ref (AM 2)) (C := RX8) (T := TX8) (N := 17) hx hb hts inw_X8_beginKept_X8 hown hK hP 0 rfl rfl 2 (by decide) (hts (.fieldLink RX8 13 "DuelFramesModel" "s" "[I") (List.mem_of_getElem? (i := 1) rfl)) (fun _ h9 => h9) rfl dX8_beginKept_175 ?_
          refine lv_iload_n hx hb dX8_beginKept_178 rfl (lv_at hl 3 rfl) ?_
          refine lv_bipush (v := 7) hx hb dX8_beginKept_179 (by decide) ?_
          refine lv_iadd hx hb dX8_beginKept_181 ?_
          refine lv_topi (fun x_24 ex_24 => ?_)
          obtain rfl : x_24 = 7 := ex_24.trans (by decide)
          refine lv_iconst (v := (-1)) hx hb dX8_beginKept_182 (by decide) ?_
          refine va_iast hx hb hK hP hD hS 2 0 rfl rfl (vin rfl) dX8_beginKept_183 (fun H locs hP1 hD1 hS1 => ?_)
          clear hP hD hS
          have hP : va_P (dC, dI) vwCl [(m0, .inr (8, mdL AM g)), (AM 0, .inl (cY 0, 72, .inl tb)), (AM 2, .inl (cY 0, 22, .inl (upd (upd (upd (upd (upd (upd sA 2 ((sA 2) - (X8_ofMove_r tb (sA 7) 9))) 3 1) 4 (sA 7)) 5 0) 9 (-1)) 7 (-1)))), (AM 3, .inl (cY 0, 22, .inl rd)), (AM 4, .inl (cY 0, 110, .inl kp)), (AM 5, .inl (cY 0, 8414, .inl td)), (AM 6, .inl (cY 0, 2, .inl wn)), (AM 13, .inl (cY 0, 4, .inl rw)), (AM 14, .inl (cY 0, 4, .inl br))] H := hP1
          have hD : va_D A [(m0, .inr (8, mdL AM g)), (AM 0, .inl (cY 0, 72, .inl tb)), (AM 2, .inl (cY 0, 22, .inl (upd (upd (upd (upd (upd (upd sA 2 ((sA 2) - (X8_ofMove_r tb (sA 7) 9))) 3 1) 4 (sA 7)) 5 0) 9 (-1)) 7 (-1)))), (AM 3, .inl (cY 0, 22, .inl rd)), (AM 4, .inl (cY 0, 110, .inl kp)), (AM 5, .inl (cY 0, 8414, .inl td)), (AM 6, .inl (cY 0, 2, .inl wn)), (AM 13, .inl (cY 0, 4, .inl rw)), (AM 14, .inl (cY 0, 4, .inl br))] := hD1
          have hS := hS1
          clear hP1 hD1 hS1
          refine lv_aload_n hx hb dX8_beginKept_184 rfl (lv_at hl 2 rfl) ?_
          refine va_get (D := (dC, dI)) (ci := 8) (v := .ref (AM 2)) (C := RX8) (T := TX8) (N := 17) hx hb hts inw_X8_beginKept_X8 hown hK hP 0 rfl rfl 2 (by decide) (hts (.fieldLink RX8 13 "DuelFramesModel" "s" "[I") (List.mem_of_getElem? (i := 1) rfl)) (fun _ h9 => h9) rfl dX8_beginKept_185 ?_
          refine lv_iload_n hx hb dX8_beginKept_188 rfl (lv_at hl 3 rfl) ?_
          refine lv_bipush (v := 8) hx hb dX8_beginKept_189 (by decide) ?_
          refine lv_iadd hx hb dX8_beginKept_191 ?_
          refine lv_topi (fun x_25 ex_25 => ?_)
          obtain rfl : x_25 = 8 := ex_25.trans (by decide)
          refine lv_iconst (v := 0) hx hb dX8_beginKept_192 (by decide) ?_
          refine va_iast hx hb hK hP hD hS 2 0 rfl rfl (vin rfl) dX8_beginKept_193 (fun H locs hP1 hD1 hS1 => ?_)
          clear hP hD hS
          have hP : va_P (dC, dI) vwCl [(m0, .inr (8, mdL AM g)), (AM 0, .inl (cY 0, 72, .inl tb)), (AM 2, .inl (cY 0, 22, .inl (upd (upd (upd (upd (upd (upd (upd sA 2 ((sA 2) - (X8_ofMove_r tb (sA 7) 9))) 3 1) 4 (sA 7)) 5 0) 9 (-1)) 7 (-1)) 8 0))), (AM 3, .inl (cY 0, 22, .inl rd)), (AM 4, .inl (cY 0, 110, .inl kp)), (AM 5, .inl (cY 0, 8414, .inl td)), (AM 6, .inl (cY 0, 2, .inl wn)), (AM 13, .inl (cY 0, 4, .inl rw)), (AM 14, .inl (cY 0, 4, .inl br))] H := hP1
          have hD : va_D A [(m0, .inr (8, mdL AM g)), (AM 0, .inl (cY 0, 72, .inl tb)), (AM 2, .inl (cY 0, 22, .inl (upd (upd (upd (upd (upd (upd (upd sA 2 ((sA 2) - (X8_ofMove_r tb (sA 7) 9))) 3 1) 4 (sA 7)) 5 0) 9 (-1)) 7 (-1)) 8 0))), (AM 3, .inl (cY 0, 22, .inl rd)), (AM 4, .inl (cY 0, 110, .inl kp)), (AM 5, .inl (cY 0, 8414, .inl td)), (AM 6, .inl (cY 0, 2, .inl wn)), (AM 13, .inl (cY 0, 4, .inl rw)), (AM 14, .inl (cY 0, 4, .inl br))] := hD1
          have hS := hS1
          clear hP1 hD1 hS1
          refine lv_iconst (v := 1) hx hb dX8_beginKept_194 (by decide) ?_
          have eo_26 : (X8_beginKept0_r tb sA) = 1 := by rw [X8_beginKept0_r]; simp only [eq_false c_3, eq_true c_9, eq_true c_16, ↓reduceIte]
          have eo_27 : (X8_beginKept0_w2 tb sA) = (upd (upd (upd (upd (upd (upd (upd sA 2 ((sA 2) - (X8_ofMove_r tb (sA 7) 9))) 3 1) 4 (sA 7)) 5 0) 9 (-1)) 7 (-1)) 8 0) := by rw [X8_beginKept0_w2]; simp only [eq_false c_3, eq_true c_9, eq_true c_16, ↓reduceIte]
          have hP9 : va_P (dC, dI) vwCl [(m0, .inr (8, mdL AM g)), (AM 0, .inl (cY 0, 72, .inl tb)), (AM 2, .inl (cY 0, 22, .inl (X8_beginKept0_w2 tb sA))), (AM 3, .inl (cY 0, 22, .inl rd)), (AM 4, .inl (cY 0, 110, .inl kp)), (AM 5, .inl (cY 0, 8414, .inl td)), (AM 6, .inl (cY 0, 2, .inl wn)), (AM 13, .inl (cY 0, 4, .inl rw)), (AM 14, .inl (cY 0, 4, .inl br))] H := by simp only [eo_27]; exact hP
          have hD9 : va_D A [(m0, .inr (8, mdL AM g)), (AM 0, .inl (cY 0, 72, .inl tb)), (AM 2, .inl (cY 0, 22, .inl (X8_beginKept0_w2 tb sA))), (AM 3, .inl (cY 0, 22, .inl rd)), (AM 4, .inl (cY 0, 110, .inl kp)), (AM 5, .inl (cY 0, 8414, .inl td)), (AM 6, .inl (cY 0, 2, .inl wn)), (AM 13, .inl (cY 0, 4, .inl rw)), (AM 14, .inl (cY 0, 4, .inl br))] := by simp only [eo_27]; exact hD
          exact W.zret (v := 1) (ty := .boolean) hx hb hr rfl (fun t ht hW => ⟨⟨_, (), rfl, ⟨eo_26.symm, (by decide)⟩, wPost_of hP9 hD9 ht⟩, hS.F ht⟩) hS.2.2 dX8_beginKept_195
        · refine lv_iload_n hx hb dX8_beginKept_113 rfl (lv_at hl 0 rfl) ?_
          refine lv_if_ne (tgt := 119) hx hb dX8_beginKept_114 (by decide) (fun c_28 => ?_) (fun c_28 => ?_)
          · refine lv_aload_n hx hb dX8_beginKept_119 rfl (lv_at hl 2 rfl) ?_
            refine va_get (D := (dC, dI)) (ci := 8) (v := .ref (AM 2)) (C := RX8) (T := TX8) (N := 17) hx hb hts inw_X8_beginKept_X8 hown hK hP 0 rfl rfl 2 (by decide) (hts (.fieldLink RX8 13 "DuelFramesModel" "s" "[I") (List.mem_of_getElem? (i := 1) rfl)) (fun _ h9 => h9) rfl dX8_beginKept_120 ?_
            refine lv_iload_n hx hb dX8_beginKept_123 rfl (lv_at hl 3 rfl) ?_
            refine lv_iconst (v := 2) hx hb dX8_beginKept_124 (by decide) ?_
            refine lv_iadd hx hb dX8_beginKept_125 ?_
            refine lv_topi (fun x_29 ex_29 => ?_)
            obtain rfl : x_29 = 2 := ex_29.trans (by decide)
            refine lv_dup2_11 hx hb dX8_beginKept_126 rfl rfl ?_
            refine va_iald hx hb hK hP 2 0 rfl rfl (vin rfl) dX8_beginKept_127 ?_
            refine lv_topi (fun x_30 ex_30 => ?_)
            obtain rfl : x_30 = (sA 2) := ex_30
            refine lv_aload_n hx hb dX8_beginKept_128 rfl (lv_at hl 2 rfl) ?_
            refine lv_iload_n hx hb dX8_beginKept_129 rfl (lv_at hl 1 rfl) ?_
            refine lv_bipush (v := 9) hx hb dX8_beginKept_130 (by decide) ?_
            refine vp_callSi (W.runV (As := [.int (sA 7), .int 9]) (rest := [.int (sA 2), .int 2, .ref (AM 2)]) ⟨hx, hb, hml, hown, hts⟩ (c_X8_ofMove l dC dI cY m0 AM g tb sA rd kp td wn rw br (sA 7) 9 (tb_in (hs.1.resolve_left c_3) (vin rfl))) (cwV 2 hts gX8_beginKept_X8_ofMove rfl rfl rfl (by decide +kernel) ⟨Nat.le_of_ble_eq_true rfl, Nat.le_of_ble_eq_true rfl⟩) ⟨blindR, va_recv hK hP (ci := 8) (q0 := 0) rfl rfl, fun U hU hW => ⟨rfl, rPre_of hP hK hN U hU hW⟩⟩ rfl rfl hl.1 rfl (lv_room (Nat.le_of_ble_eq_true rfl)) dX8_beginKept_132 ⟨Nat.zero_le _, Nat.zero_le _⟩) (fun r_31 hw => ?_)
            subst hw
            refine lv_isub hx hb dX8_beginKept_135 ?_
            refine va_iast hx hb hK hP hD hS 2 0 rfl rfl (vin rfl) dX8_beginKept_136 (fun H locs hP1 hD1 hS1 => ?_)
            clear hP hD hS
            have hP : va_P (dC, dI) vwCl [(m0, .inr (8, mdL AM g)), (AM 0, .inl (cY 0, 72, .inl tb)), (AM 2, .inl (cY 0, 22, .inl (upd sA 2 ((sA 2) - (X8_ofMove_r tb (sA 7) 9))))), (AM 3, .inl (cY 0, 22, .inl rd)), (AM 4, .inl (cY 0, 110, .inl kp)), (AM 5, .inl (cY 0, 8414, .inl td)), (AM 6, .inl (cY 0, 2, .inl wn)), (AM 13, .inl (cY 0, 4, .inl rw)), (AM 14, .inl (cY 0, 4, .inl br))] H := hP1
            have hD : va_D A [(m0, .inr (8, mdL AM g)), (AM 0, .inl (cY 0, 72, .inl tb)), (AM 2, .inl (cY 0, 22, .inl (upd sA 2 ((sA 2) - (X8_ofMove_r tb (sA 7) 9))))), (AM 3, .inl (cY 0, 22, .inl rd)), (AM 4, .inl (cY 0, 110, .inl kp)), (AM 5, .inl (cY 0, 8414, .inl td)), (AM 6, .inl (cY 0, 2, .inl wn)), (AM 13, .inl (cY 0, 4, .inl rw)), (AM 14, .inl (cY 0, 4, .inl br))] := hD1
            have hS := hS1
            clear hP1 hD1 hS1
            refine lv_aload_n hx hb dX8_beginKept_137 rfl (lv_at hl 2 rfl) ?_
            refine va_get (D := (dC, dI)) (ci := 8) (v := .ref (AM 2)) (C := RX8) (T := TX8) (N := 17) hx hb hts inw_X8_beginKept_X8 hown hK hP 0 rfl rfl 2 (by decide) (hts (.fieldLink RX8 13 "DuelFramesModel" "s" "[I") (List.mem_of_getElem? (i := 1) rfl)) (fun _ h9 => h9) rfl dX8_beginKept_138 ?_
            refine lv_iload_n hx hb dX8_beginKept_141 rfl (lv_at hl 3 rfl) ?_
            refine lv_iconst (v := 3) hx hb dX8_beginKept_142 (by decide) ?_
            refine lv_iadd hx hb dX8_beginKept_143 ?_
            refine lv_topi (fun x_32 ex_32 => ?_)
            obtain rfl : x_32 = 3 := ex_32.trans (by decide)
            refine lv_iconst (v := 1) hx hb dX8_beginKept_144 (by decide) ?_
            refine va_iast hx hb hK hP hD hS 2 0 rfl rfl (vin rfl) dX8_beginKept_145 (fun H locs hP1 hD1 hS1 => ?_)
            clear hP hD hS
            have hP : va_P (dC, dI) vwCl [(m0, .inr (8, mdL AM g)), (AM 0, .inl (cY 0, 72, .inl tb)), (AM 2, .inl (cY 0, 22, .inl (upd (upd sA 2 ((sA 2) - (X8_ofMove_r tb (sA 7) 9))) 3 1))), (AM 3, .inl (cY 0, 22, .inl rd)), (AM 4, .inl (cY 0, 110, .inl kp)), (AM 5, .inl (cY 0, 8414, .inl td)), (AM 6, .inl (cY 0, 2, .inl wn)), (AM 13, .inl (cY 0, 4, .inl rw)), (AM 14, .inl (cY 0, 4, .inl br))] H := hP1
            have hD : va_D A [(m0, .inr (8, mdL AM g)), (AM 0, .inl (cY 0, 72, .inl tb)), (AM 2, .inl (cY 0, 22, .inl (upd (upd sA 2 ((sA 2) - (X8_ofMove_r tb (sA 7) 9))) 3 1))), (AM 3, .inl (cY 0, 22, .inl rd)), (AM 4, .inl (cY 0, 110, .inl kp)), (AM 5, .inl (cY 0, 8414, .inl td)), (AM 6, .inl (cY 0, 2, .inl wn)), (AM 13, .inl (cY 0, 4, .inl rw)), (AM 14, .inl (cY 0, 4, .inl br))] := hD1
            have hS := hS1
            clear hP1 hD1 hS1
            refine lv_aload_n hx hb dX8_beginKept_146 rfl (lv_at hl 2 rfl) ?_
            refine va_get (D := (dC, dI)) (ci := 8) (v := .ref (AM 2)) (C := RX8) (T := TX8) (N := 17) hx hb hts inw_X8_beginKept_X8 hown hK hP 0 rfl rfl 2 (by decide) (hts (.fieldLink RX8 13 "DuelFramesModel" "s" "[I") (List.mem_of_getElem? (i := 1) rfl)) (fun _ h9 => h9) rfl dX8_beginKept_147 ?_
            refine lv_iload_n hx hb dX8_beginKept_150 rfl (lv_at hl 3 rfl) ?_
            refine lv_iconst (v := 4) hx hb dX8_beginKept_151 (by decide) ?_
            refine lv_iadd hx hb dX8_beginKept_152 ?_
            refine lv_topi (fun x_33 ex_33 => ?_)
            obtain rfl : x_33 = 4 := ex_33.trans (by decide)
            refine lv_iload_n hx hb dX8_beginKept_153 rfl (lv_at hl 1 rfl) ?_
            refine va_iast hx hb hK hP hD hS 2 0 rfl rfl (vin rfl) dX8_beginKept_154 (fun H locs hP1 hD1 hS1 => ?_)
            clear hP hD hS
            have hP : va_P (dC, dI) vwCl [(m0, .inr (8, mdL AM g)), (AM 0, .inl (cY 0, 72, .inl tb)), (AM 2, .inl (cY 0, 22, .inl (upd (upd (upd sA 2 ((sA 2) - (X8_ofMove_r tb (sA 7) 9))) 3 1) 4 (sA 7)))), (AM 3, .inl (cY 0, 22, .inl rd)), (AM 4, .inl (cY 0, 110, .inl kp)), (AM 5, .inl (cY 0, 8414, .inl td)), (AM 6, .inl (cY 0, 2, .inl wn)), (AM 13, .inl (cY 0, 4, .inl rw)), (AM 14, .inl (cY 0, 4, .inl br))] H := hP1
            have hD : va_D A [(m0, .inr (8, mdL AM g)), (AM 0, .inl (cY 0, 72, .inl tb)), (AM 2, .inl (cY 0, 22, .inl (upd (upd (upd sA 2 ((sA 2) - (X8_ofMove_r tb (sA 7) 9))) 3 1) 4 (sA 7)))), (AM 3, .inl (cY 0, 22, .inl rd)), (AM 4, .inl (cY 0, 110, .inl kp)), (AM 5, .inl (cY 0, 8414, .inl td)), (AM 6, .inl (cY 0, 2, .inl wn)), (AM 13, .inl (cY 0, 4, .inl rw)), (AM 14, .inl (cY 0, 4, .inl br))] := hD1
            have hS := hS1
            clear hP1 hD1 hS1
            refine lv_aload_n hx hb dX8_beginKept_155 rfl (lv_at hl 2 rfl) ?_
            refine va_get (D := (dC, dI)) (ci := 8) (v := .ref (AM 2)) (C := RX8) (T := TX8) (N := 17) hx hb hts inw_X8_beginKept_X8 hown hK hP 0 rfl rfl 2 (by decide) (hts (.fieldLink RX8 13 "DuelFramesModel" "s" "[I") (List.mem_of_getElem? (i := 1) rfl)) (fun _ h9 => h9) rfl dX8_beginKept_156 ?_
            refine lv_iload_n hx hb dX8_beginKept_159 rfl (lv_at hl 3 rfl) ?_
            refine lv_iconst (v := 5) hx hb dX8_beginKept_160 (by decide) ?_
            refine lv_iadd hx hb dX8_beginKept_161 ?_
            refine lv_topi (fun x_34 ex_34 => ?_)
            obtain rfl : x_34 = 5 := ex_34.trans (by decide)
            refine lv_iconst (v := 0) hx hb dX8_beginKept_162 (by decide) ?_
            refine va_iast hx hb hK hP hD hS 2 0 rfl rfl (vin rfl) dX8_beginKept_163 (fun H locs hP1 hD1 hS1 => ?_)
            clear hP hD hS
            have hP : va_P (dC, dI) vwCl [(m0, .inr (8, mdL AM g)), (AM 0, .inl (cY 0, 72, .inl tb)), (AM 2, .inl (cY 0, 22, .inl (upd (upd (upd (upd sA 2 ((sA 2) - (X8_ofMove_r tb (sA 7) 9))) 3 1) 4 (sA 7)) 5 0))), (AM 3, .inl (cY 0, 22, .inl rd)), (AM 4, .inl (cY 0, 110, .inl kp)), (AM 5, .inl (cY 0, 8414, .inl td)), (AM 6, .inl (cY 0, 2, .inl wn)), (AM 13, .inl (cY 0, 4, .inl rw)), (AM 14, .inl (cY 0, 4, .inl br))] H := hP1
            have hD : va_D A [(m0, .inr (8, mdL AM g)), (AM 0, .inl (cY 0, 72, .inl tb)), (AM 2, .inl (cY 0, 22, .inl (upd (upd (upd (upd sA 2 ((sA 2) - (X8_ofMove_r tb (sA 7) 9))) 3 1) 4 (sA 7)) 5 0))), (AM 3, .inl (cY 0, 22, .inl rd)), (AM 4, .inl (cY 0, 110, .inl kp)), (AM 5, .inl (cY 0, 8414, .inl td)), (AM 6, .inl (cY 0, 2, .inl wn)), (AM 13, .inl (cY 0, 4, .inl rw)), (AM 14, .inl (cY 0, 4, .inl br))] := hD1
            have hS := hS1
            clear hP1 hD1 hS1
            refine lv_aload_n hx hb dX8_beginKept_164 rfl (lv_at hl 2 rfl) ?_
            refine va_get (D := (dC, dI)) (ci := 8) (v := .ref (AM 2)) (C := RX8) (T := TX8) (N := 17) hx hb hts inw_X8_beginKept_X8 hown hK hP 0 rfl rfl 2 (by decide) (hts (.fieldLink RX8 13 "DuelFramesModel" "s" "[I") (List.mem_of_getElem? (i := 1) rfl)) (fun _ h9 => h9) rfl dX8_beginKept_165 ?_
            refine lv_iload_n hx hb dX8_beginKept_168 rfl (lv_at hl 3 rfl) ?_
            refine lv_bipush (v := 9) hx hb dX8_beginKept_169 (by decide) ?_
            refine lv_iadd hx hb dX8_beginKept_171 ?_
            refine lv_topi (fun x_35 ex_35 => ?_)
            obtain rfl : x_35 = 9 := ex_35.trans (by decide)
            refine lv_iconst (v := (-1)) hx hb dX8_beginKept_172 (by decide) ?_
            refine va_iast hx hb hK hP hD hS 2 0 rfl rfl (vin rfl) dX8_beginKept_173 (fun H locs hP1 hD1 hS1 => ?_)
            clear hP hD hS
            have hP : va_P (dC, dI) vwCl [(m0, .inr (8, mdL AM g)), (AM 0, .inl (cY 0, 72, .inl tb)), (AM 2, .inl (cY 0, 22, .inl (upd (upd (upd (upd (upd sA 2 ((sA 2) - (X8_ofMove_r tb (sA 7) 9))) 3 1) 4 (sA 7)) 5 0) 9 (-1)))), (AM 3, .inl (cY 0, 22, .inl rd)), (AM 4, .inl (cY 0, 110, .inl kp)), (AM 5, .inl (cY 0, 8414, .inl td)), (AM 6, .inl (cY 0, 2, .inl wn)), (AM 13, .inl (cY 0, 4, .inl rw)), (AM 14, .inl (cY 0, 4, .inl br))] H := hP1
            have hD : va_D A [(m0, .inr (8, mdL AM g)), (AM 0, .inl (cY 0, 72, .inl tb)), (AM 2, .inl (cY 0, 22, .inl (upd (upd (upd (upd (upd sA 2 ((sA 2) - (X8_ofMove_r tb (sA 7) 9))) 3 1) 4 (sA 7)) 5 0) 9 (-1)))), (AM 3, .inl (cY 0, 22, .inl rd)), (AM 4, .inl (cY 0, 110, .inl kp)), (AM 5, .inl (cY 0, 8414, .inl td)), (AM 6, .inl (cY 0, 2, .inl wn)), (AM 13, .inl (cY 0, 4, .inl rw)), (AM 14, .inl (cY 0, 4, .inl br))] := hD1
            have hS := hS1
            clear hP1 hD1 hS1
            refine lv_aload_n hx hb dX8_beginKept_174 rfl (lv_at hl 2 rfl) ?_
            refine va_get (D := (dC, dI)) (ci := 8) (v := .ref (AM 2)) (C := RX8) (T := TX8) (N := 17) hx hb hts inw_X8_beginKept_X8 hown hK hP 0 rfl rfl 2 (by decide) (hts (.fieldLink RX8 13 "DuelFramesModel" "s" "[I") (List.mem_of_getElem? (i := 1) rfl)) (fun _ h9 => h9) rfl dX8_beginKept_175 ?_
            refine lv_iload_n hx hb dX8_beginKept_178 rfl (lv_at hl 3 rfl) ?_
            refine lv_bipush (v := 7) hx hb dX8_beginKept_179 (by decide) ?_
            refine lv_iadd hx hb dX8_beginKept_181 ?_
            refine lv_topi (fun x_36 ex_36 => ?_)
            obtain rfl : x_36 = 7 := ex_36.trans (by decide)
            refine lv_iconst (v := (-1)) hx hb dX8_beginKept_182 (by decide) ?_
            refine va_iast hx hb hK hP hD hS 2 0 rfl rfl (vin rfl) dX8_beginKept_183 (fun H locs hP1 hD1 hS1 => ?_)
            clear hP hD hS
            have hP : va_P (dC, dI) vwCl [(m0, .inr (8, mdL AM g)), (AM 0, .inl (cY 0, 72, .inl tb)), (AM 2, .inl (cY 0, 22, .inl (upd (upd (upd (upd (upd (upd sA 2 ((sA 2) - (X8_ofMove_r tb (sA 7) 9))) 3 1) 4 (sA 7)) 5 0) 9 (-1)) 7 (-1)))), (AM 3, .inl (cY 0, 22, .inl rd)), (AM 4, .inl (cY 0, 110, .inl kp)), (AM 5, .inl (cY 0, 8414, .inl td)), (AM 6, .inl (cY 0, 2, .inl wn)), (AM 13, .inl (cY 0, 4, .inl rw)), (AM 14, .inl (cY 0, 4, .inl br))] H := hP1
            have hD : va_D A [(m0, .inr (8, mdL AM g)), (AM 0, .inl (cY 0, 72, .inl tb)), (AM 2, .inl (cY 0, 22, .inl (upd (upd (upd (upd (upd (upd sA 2 ((sA 2) - (X8_ofMove_r tb (sA 7) 9))) 3 1) 4 (sA 7)) 5 0) 9 (-1)) 7 (-1)))), (AM 3, .inl (cY 0, 22, .inl rd)), (AM 4, .inl (cY 0, 110, .inl kp)), (AM 5, .inl (cY 0, 8414, .inl td)), (AM 6, .inl (cY 0, 2, .inl wn)), (AM 13, .inl (cY 0, 4, .inl rw)), (AM 14, .inl (cY 0, 4, .inl br))] := hD1
            have hS := hS1
            clear hP1 hD1 hS1
            refine lv_aload_n hx hb dX8_beginKept_184 rfl (lv_at hl 2 rfl) ?_
            refine va_get (D := (dC, dI)) (ci := 8) (v := .ref (AM 2)) (C := RX8) (T := TX8) (N := 17) hx hb hts inw_X8_beginKept_X8 hown hK hP 0 rfl rfl 2 (by decide) (hts (.fieldLink RX8 13 "DuelFramesModel" "s" "[I") (List.mem_of_getElem? (i := 1) rfl)) (fun _ h9 => h9) rfl dX8_beginKept_185 ?_
            refine lv_iload_n hx hb dX8_beginKept_188 rfl (lv_at hl 3 rfl) ?_
            refine lv_bipush (v := 8) hx hb dX8_beginKept_189 (by decide) ?_
            refine lv_iadd hx hb dX8_beginKept_191 ?_
            refine lv_topi (fun x_37 ex_37 => ?_)
            obtain rfl : x_37 = 8 := ex_37.trans (by decide)
            refine lv_iconst (v := 0) hx hb dX8_beginKept_192 (by decide) ?_
            refine va_iast hx hb hK hP hD hS 2 0 rfl rfl (vin rfl) dX8_beginKept_193 (fun H locs hP1 hD1 hS1 => ?_)
            clear hP hD hS
            have hP : va_P (dC, dI) vwCl [(m0, .inr (8, mdL AM g)), (AM 0, .inl (cY 0, 72, .inl tb)), (AM 2, .inl (cY 0, 22, .inl (upd (upd (upd (upd (upd (upd (upd sA 2 ((sA 2) - (X8_ofMove_r tb (sA 7) 9))) 3 1) 4 (sA 7)) 5 0) 9 (-1)) 7 (-1)) 8 0))), (AM 3, .inl (cY 0, 22, .inl rd)), (AM 4, .inl (cY 0, 110, .inl kp)), (AM 5, .inl (cY 0, 8414, .inl td)), (AM 6, .inl (cY 0, 2, .inl wn)), (AM 13, .inl (cY 0, 4, .inl rw)), (AM 14, .inl (cY 0, 4, .inl br))] H := hP1
            have hD : va_D A [(m0, .inr (8, mdL AM g)), (AM 0, .inl (cY 0, 72, .inl tb)), (AM 2, .inl (cY 0, 22, .inl (upd (upd (upd (upd (upd (upd (upd sA 2 ((sA 2) - (X8_ofMove_r tb (sA 7) 9))) 3 1) 4 (sA 7)) 5 0) 9 (-1)) 7 (-1)) 8 0))), (AM 3, .inl (cY 0, 22, .inl rd)), (AM 4, .inl (cY 0, 110, .inl kp)), (AM 5, .inl (cY 0, 8414, .inl td)), (AM 6, .inl (cY 0, 2, .inl wn)), (AM 13, .inl (cY 0, 4, .inl rw)), (AM 14, .inl (cY 0, 4, .inl br))] := hD1
            have hS := hS1
            clear hP1 hD1 hS1
            refine lv_iconst (v := 1) hx hb dX8_beginKept_194 (by decide) ?_
            have eo_38 : (X8_beginKept0_r tb sA) = 1 := by rw [X8_beginKept0_r]; simp only [eq_false c_3, eq_true c_9, eq_false c_16, eq_false c_28, ↓reduceIte]
            have eo_39 : (X8_beginKept0_w2 tb sA) = (upd (upd (upd (upd (upd (upd (upd sA 2 ((sA 2) - (X8_ofMove_r tb (sA 7) 9))) 3 1) 4 (sA 7)) 5 0) 9 (-1)) 7 (-1)) 8 0) := by rw [X8_beginKept0_w2]; simp only [eq_false c_3, eq_true c_9, eq_false c_16, eq_false c_28, ↓reduceIte]
            have hP9 : va_P (dC, dI) vwCl [(m0, .inr (8, mdL AM g)), (AM 0, .inl (cY 0, 72, .inl tb)), (AM 2, .inl (cY 0, 22, .inl (X8_beginKept0_w2 tb sA))), (AM 3, .inl (cY 0, 22, .inl rd)), (AM 4, .inl (cY 0, 110, .inl kp)), (AM 5, .inl (cY 0, 8414, .inl td)), (AM 6, .inl (cY 0, 2, .inl wn)), (AM 13, .inl (cY 0, 4, .inl rw)), (AM 14, .inl (cY 0, 4, .inl br))] H := by simp only [eo_39]; exact hP
            have hD9 : va_D A [(m0, .inr (8, mdL AM g)), (AM 0, .inl (cY 0, 72, .inl tb)), (AM 2, .inl (cY 0, 22, .inl (X8_beginKept0_w2 tb sA))), (AM 3, .inl (cY 0, 22, .inl rd)), (AM 4, .inl (cY 0, 110, .inl kp)), (AM 5, .inl (cY 0, 8414, .inl td)), (AM 6, .inl (cY 0, 2, .inl wn)), (AM 13, .inl (cY 0, 4, .inl rw)), (AM 14, .inl (cY 0, 4, .inl br))] := by simp only [eo_39]; exact hD
            exact W.zret (v := 1) (ty := .boolean) hx hb hr rfl (fun t ht hW => ⟨⟨_, (), rfl, ⟨eo_38.symm, (by decide)⟩, wPost_of hP9 hD9 ht⟩, hS.F ht⟩) hS.2.2 dX8_beginKept_195
          · refine lv_iconst (v := 0) hx hb dX8_beginKept_117 (by decide) ?_
            have eo_40 : (X8_beginKept0_r tb sA) = 0 := by rw [X8_beginKept0_r]; simp only [eq_false c_3, eq_true c_9, eq_false c_16, eq_true c_28, ↓reduceIte]
            have eo_41 : (X8_beginKept0_w2 tb sA) = sA := by rw [X8_beginKept0_w2]; simp only [eq_false c_3, eq_true c_9, eq_false c_16, eq_true c_28, ↓reduceIte]
            have hP9 : va_P (dC, dI) vwCl [(m0, .inr (8, mdL AM g)), (AM 0, .inl (cY 0, 72, .inl tb)), (AM 2, .inl (cY 0, 22, .inl (X8_beginKept0_w2 tb sA))), (AM 3, .inl (cY 0, 22, .inl rd)), (AM 4, .inl (cY 0, 110, .inl kp)), (AM 5, .inl (cY 0, 8414, .inl td)), (AM 6, .inl (cY 0, 2, .inl wn)), (AM 13, .inl (cY 0, 4, .inl rw)), (AM 14, .inl (cY 0, 4, .inl br))] H := by simp only [eo_41]; exact hP
            have hD9 : va_D A [(m0, .inr (8, mdL AM g)), (AM 0, .inl (cY 0, 72, .inl tb)), (AM 2, .inl (cY 0, 22, .inl (X8_beginKept0_w2 tb sA))), (AM 3, .inl (cY 0, 22, .inl rd)), (AM 4, .inl (cY 0, 110, .inl kp)), (AM 5, .inl (cY 0, 8414, .inl td)), (AM 6, .inl (cY 0, 2, .inl wn)), (AM 13, .inl (cY 0, 4, .inl rw)), (AM 14, .inl (cY 0, 4, .inl br))] := by simp only [eo_41]; exact hD
            exact W.zret (v := 0) (ty := .boolean) hx hb hr rfl (fun t ht hW => ⟨⟨_, (), rfl, ⟨eo_40.symm, (by decide)⟩, wPost_of hP9 hD9 ht⟩, hS.F ht⟩) hS.2.2 dX8_beginKept_118
      · intro jn_13
        refine lv_icmp_ne (tgt := 100) hx hb dX8_beginKept_44 (by decide) (fun c_12 => ?_) (fun c_12 => ?_)
        · refine lv_iconst (v := 0) hx hb dX8_beginKept_100 (by decide) ?_
          have e_42 : (X8_beginKept0_j101 tb sA) = 0 := by rw [X8_beginKept0_j101]; simp only [eq_false c_12, ↓reduceIte]
          refine W.eq (g2 := F0 m 101 ls [.int (X8_beginKept0_j101 tb sA)]) (by simp only [e_42]) ?_
          exact jn_13 _ _ _ (by (try simp only [e_42]); exact hP) (by (try simp only [e_42]); exact hD) hS (by (try simp only [e_42]); exact (lv_sub hl [0, 1, 2] rfl))
        · refine lv_aload_n hx hb dX8_beginKept_47 rfl (lv_at hl 1 rfl) ?_
          refine va_get (D := (dC, dI)) (ci := 8) (v := .ref (AM 2)) (C := RX8) (T := TX8) (N := 17) hx hb hts inw_X8_beginKept_X8 hown hK hP 0 rfl rfl 2 (by decide) (hts (.fieldLink RX8 13 "DuelFramesModel" "s" "[I") (List.mem_of_getElem? (i := 1) rfl)) (fun _ h9 => h9) rfl dX8_beginKept_48 ?_
          refine lv_iload_n hx hb dX8_beginKept_51 rfl (lv_at hl 2 rfl) ?_
          refine lv_bipush (v := 9) hx hb dX8_beginKept_52 (by decide) ?_
          refine lv_iadd hx hb dX8_beginKept_54 ?_
          refine lv_topi (fun x_43 ex_43 => ?_)
          obtain rfl : x_43 = 9 := ex_43.trans (by decide)
          refine va_iald hx hb hK hP 2 0 rfl rfl (vin rfl) dX8_beginKept_55 ?_
          refine lv_topi (fun x_44 ex_44 => ?_)
          obtain rfl : x_44 = (sA 9) := ex_44
          refine lv_iconst (v := (-1)) hx hb dX8_beginKept_56 (by decide) ?_
          refine lv_icmp_eq (tgt := 100) hx hb dX8_beginKept_57 (by decide) (fun c_45 => ?_) (fun c_45 => ?_)
          · refine lv_iconst (v := 0) hx hb dX8_beginKept_100 (by decide) ?_
            have e_46 : (X8_beginKept0_j101 tb sA) = 0 := by rw [X8_beginKept0_j101]; simp only [eq_true c_12, eq_true c_45, ↓reduceIte]
            refine W.eq (g2 := F0 m 101 ls [.int (X8_beginKept0_j101 tb sA)]) (by simp only [e_46]) ?_
            exact jn_13 _ _ _ (by (try simp only [e_46]); exact hP) (by (try simp only [e_46]); exact hD) hS (by (try simp only [e_46]); exact (lv_sub hl [0, 1, 2] rfl))
          · refine lv_aload_n hx hb dX8_beginKept_60 rfl (lv_at hl 1 rfl) ?_
            refine va_get (D := (dC, dI)) (ci := 8) (v := .ref (AM 2)) (C := RX8) (T := TX8) (N := 17) hx hb hts inw_X8_beginKept_X8 hown hK hP 0 rfl rfl 2 (by decide) (hts (.fieldLink RX8 13 "DuelFramesModel" "s" "[I") (List.mem_of_getElem? (i := 1) rfl)) (fun _ h9 => h9) rfl dX8_beginKept_61 ?_
            refine lv_iload_n hx hb dX8_beginKept_64 rfl (lv_at hl 2 rfl) ?_
            refine lv_bipush (v := 9) hx hb dX8_beginKept_65 (by decide) ?_
            refine lv_iadd hx hb dX8_beginKept_67 ?_
            refine lv_topi (fun x_47 ex_47 => ?_)
            obtain rfl : x_47 = 9 := ex_47.trans (by decide)
            refine va_iald hx hb hK hP 2 0 rfl rfl (vin rfl) dX8_beginKept_68 ?_
            refine lv_topi (fun x_48 ex_48 => ?_)
            obtain rfl : x_48 = (sA 9) := ex_48
            refine lv_bipush (v := 10) hx hb dX8_beginKept_69 (by decide) ?_
            refine lv_icmp_gt (tgt := 100) hx hb dX8_beginKept_71 (by decide) (fun c_49 => ?_) (fun c_49 => ?_)
            · refine lv_iconst (v := 0) hx hb dX8_beginKept_100 (by decide) ?_
              have e_50 : (X8_beginKept0_j101 tb sA) = 0 := by rw [X8_beginKept0_j101]; simp only [eq_true c_12, eq_false c_45, eq_true c_49, ↓reduceIte]
              refine W.eq (g2 := F0 m 101 ls [.int (X8_beginKept0_j101 tb sA)]) (by simp only [e_50]) ?_
              exact jn_13 _ _ _ (by (try simp only [e_50]); exact hP) (by (try simp only [e_50]); exact hD) hS (by (try simp only [e_50]); exact (lv_sub hl [0, 1, 2] rfl))
            · refine lv_aload_n hx hb dX8_beginKept_74 rfl (lv_at hl 1 rfl) ?_
              refine lv_aload_n hx hb dX8_beginKept_75 rfl (lv_at hl 1 rfl) ?_
              refine va_get (D := (dC, dI)) (ci := 8) (v := .ref (AM 2)) (C := RX8) (T := TX8) (N := 17) hx hb hts inw_X8_beginKept_X8 hown hK hP 0 rfl rfl 2 (by decide) (hts (.fieldLink RX8 13 "DuelFramesModel" "s" "[I") (List.mem_of_getElem? (i := 1) rfl)) (fun _ h9 => h9) rfl dX8_beginKept_76 ?_
              refine lv_iload_n hx hb dX8_beginKept_79 rfl (lv_at hl 2 rfl) ?_
              refine lv_iconst (v := 4) hx hb dX8_beginKept_80 (by decide) ?_
              refine lv_iadd hx hb dX8_beginKept_81 ?_
              refine lv_topi (fun x_51 ex_51 => ?_)
              obtain rfl : x_51 = 4 := ex_51.trans (by decide)
              refine va_iald hx hb hK hP 2 0 rfl rfl (vin rfl) dX8_beginKept_82 ?_
              refine lv_topi (fun x_52 ex_52 => ?_)
              obtain rfl : x_52 = (sA 4) := ex_52
              refine lv_bipush (v := 11) hx hb dX8_beginKept_83 (by decide) ?_
              refine vp_callSi (W.runV (As := [.int (sA 4), .int 11]) (rest := []) ⟨hx, hb, hml, hown, hts⟩ (c_X8_ofMove l dC dI cY m0 AM g tb sA rd kp td wn rw br (sA 4) 11 (tb_in (hs.2.2.1 c_12) (vin rfl))) (cwV 2 hts gX8_beginKept_X8_ofMove rfl rfl rfl (by decide +kernel) ⟨Nat.le_of_ble_eq_true rfl, Nat.le_of_ble_eq_true rfl⟩) ⟨blindR, va_recv hK hP (ci := 8) (q0 := 0) rfl rfl, fun U hU hW => ⟨rfl, rPre_of hP hK hN U hU hW⟩⟩ rfl rfl hl.1 rfl (lv_room (Nat.le_of_ble_eq_true rfl)) dX8_beginKept_85 ⟨Nat.zero_le _, Nat.zero_le _⟩) (fun r_53 hw => ?_)
              subst hw
              refine lv_iload_n hx hb dX8_beginKept_88 rfl (lv_at hl 0 rfl) ?_
              refine lv_ishr hx hb dX8_beginKept_89 ?_
              refine lv_iconst (v := 1) hx hb dX8_beginKept_90 (by decide) ?_
              refine lv_iand hx hb dX8_beginKept_91 ?_
              refine lv_iconst (v := 1) hx hb dX8_beginKept_92 (by decide) ?_
              refine lv_icmp_ne (tgt := 100) hx hb dX8_beginKept_93 (by decide) (fun c_54 => ?_) (fun c_54 => ?_)
              · refine lv_iconst (v := 0) hx hb dX8_beginKept_100 (by decide) ?_
                have e_55 : (X8_beginKept0_j101 tb sA) = 0 := by rw [X8_beginKept0_j101]; simp only [eq_true c_12, eq_false c_45, eq_false c_49, eq_false c_54, ↓reduceIte]
                refine W.eq (g2 := F0 m 101 ls [.int (X8_beginKept0_j101 tb sA)]) (by simp only [e_55]) ?_
                exact jn_13 _ _ _ (by (try simp only [e_55]); exact hP) (by (try simp only [e_55]); exact hD) hS (by (try simp only [e_55]); exact (lv_sub hl [0, 1, 2] rfl))
              · refine lv_iconst (v := 1) hx hb dX8_beginKept_96 (by decide) ?_
                refine lv_goto (tgt := 101) hx hb dX8_beginKept_97 (by decide) ?_
                have e_56 : (X8_beginKept0_j101 tb sA) = 1 := by rw [X8_beginKept0_j101]; simp only [eq_true c_12, eq_false c_45, eq_false c_49, eq_true c_54, ↓reduceIte]
                refine W.eq (g2 := F0 m 101 ls [.int (X8_beginKept0_j101 tb sA)]) (by simp only [e_56]) ?_
                exact jn_13 _ _ _ (by (try simp only [e_56]); exact hP) (by (try simp only [e_56]); exact hD) hS (by (try simp only [e_56]); exact (lv_sub hl [0, 1, 2] rfl))
    · refine lv_iconst (v := 0) hx hb dX8_beginKept_33 (by decide) ?_
      have eo_57 : (X8_beginKept0_r tb sA) = 0 := by rw [X8_beginKept0_r]; simp only [eq_false c_3, eq_false c_9, ↓reduceIte]
      have eo_58 : (X8_beginKept0_w2 tb sA) = sA := by rw [X8_beginKept0_w2]; simp only [eq_false c_3, eq_false c_9, ↓reduceIte]
      have hP9 : va_P (dC, dI) vwCl [(m0, .inr (8, mdL AM g)), (AM 0, .inl (cY 0, 72, .inl tb)), (AM 2, .inl (cY 0, 22, .inl (X8_beginKept0_w2 tb sA))), (AM 3, .inl (cY 0, 22, .inl rd)), (AM 4, .inl (cY 0, 110, .inl kp)), (AM 5, .inl (cY 0, 8414, .inl td)), (AM 6, .inl (cY 0, 2, .inl wn)), (AM 13, .inl (cY 0, 4, .inl rw)), (AM 14, .inl (cY 0, 4, .inl br))] s.heap := by simp only [eo_58]; exact hP
      have hD9 : va_D A [(m0, .inr (8, mdL AM g)), (AM 0, .inl (cY 0, 72, .inl tb)), (AM 2, .inl (cY 0, 22, .inl (X8_beginKept0_w2 tb sA))), (AM 3, .inl (cY 0, 22, .inl rd)), (AM 4, .inl (cY 0, 110, .inl kp)), (AM 5, .inl (cY 0, 8414, .inl td)), (AM 6, .inl (cY 0, 2, .inl wn)), (AM 13, .inl (cY 0, 4, .inl rw)), (AM 14, .inl (cY 0, 4, .inl br))] := by simp only [eo_58]; exact hD
      exact W.zret (v := 0) (ty := .boolean) hx hb hr rfl (fun t ht hW => ⟨⟨_, (), rfl, ⟨eo_57.symm, (by decide)⟩, wPost_of hP9 hD9 ht⟩, hS.F ht⟩) hS.2.2 dX8_beginKept_34
def X8_beginKept11_j101 (tb : Nat → Int32) (sA : Nat → Int32) : Int32 := (if (sA 14) = 1 then (if (sA 20) = (-1) then 0 else (if 10 < (sA 20) then 0 else (if (((X8_ofMove_r tb (sA 15) 11) >>> ((sA 18) &&& 31)) &&& 1) = 1 then 1 else 0))) else 0)
def X8_beginKept11_r (tb : Nat → Int32) (sA : Nat → Int32) : Int32 := (if (sA 18) = (-1) then 0 else (if (X8_ofMove_r tb (sA 18) 9) ≤ (sA 13) then (if (sA 14) = 0 then 1 else (if (X8_beginKept11_j101 tb sA) = 0 then 0 else 1)) else 0))
def X8_beginKept11_w2 (tb : Nat → Int32) (sA : Nat → Int32) : Nat → Int32 := (if (sA 18) = (-1) then sA else (if (X8_ofMove_r tb (sA 18) 9) ≤ (sA 13) then (if (sA 14) = 0 then (upd (upd (upd (upd (upd (upd (upd sA 13 ((sA 13) - (X8_ofMove_r tb (sA 18) 9))) 14 1) 15 (sA 18)) 16 0) 20 (-1)) 18 (-1)) 19 0) else (if (X8_beginKept11_j101 tb sA) = 0 then sA else (upd (upd (upd (upd (upd (upd (upd sA 13 ((sA 13) - (X8_ofMove_r tb (sA 18) 9))) 14 1) 15 (sA 18)) 16 0) 20 (-1)) 18 (-1)) 19 0))) else sA))
set_option maxHeartbeats 4000000 in
set_option maxRecDepth 100000 in
theorem c_X8_beginKept11 (l : Launch) (dC : Nat → ClassId) (dI : Nat → Nat → Nat) (cY : Nat → ClassId) (m0 : Nat) (AM : Nat → Nat) (g : Nat → Int32) (tb : Nat → Int32) (sA : Nat → Int32) (rd : Nat → Int32) (kp : Nat → Int32) (td : Nat → Int32) (wn : Nat → Int32) (rw : Nat → Int32) (br : Nat → Int32) (hs : okS sA) (sz : Nat) : Met l yX8_beginKept wsX8_beginKept ({ frames := 1, cells := 0, slots := 0, locals := 22 } : Room) (va_Pc [.ref m0, .int 11] (wPre (dC, dI) (tyL cY) [(m0, .inr (8, mdL AM g)), (AM 0, .inl (cY 0, 72, .inl tb)), (AM 2, .inl (cY 0, 22, .inl sA)), (AM 3, .inl (cY 0, 22, .inl rd)), (AM 4, .inl (cY 0, 110, .inl kp)), (AM 5, .inl (cY 0, 8414, .inl td)), (AM 6, .inl (cY 0, 2, .inl wn)), (AM 13, .inl (cY 0, 4, .inl rw)), (AM 14, .inl (cY 0, 4, .inl br))] sz)) (va_Qi (fun (r : Int32) (_ : Unit) => r = (X8_beginKept11_r tb sA) ∧ (r = 0 ∨ r = 1)) (wPost (dC, dI) [(m0, .inr (8, mdL AM g)), (AM 0, .inl (cY 0, 72, .inl tb)), (AM 2, .inl (cY 0, 22, .inl (X8_beginKept11_w2 tb sA))), (AM 3, .inl (cY 0, 22, .inl rd)), (AM 4, .inl (cY 0, 110, .inl kp)), (AM 5, .inl (cY 0, 8414, .inl td)), (AM 6, .inl (cY 0, 2, .inl wn)), (AM 13, .inl (cY 0, 4, .inl rw)), (AM 14, .inl (cY 0, 4, .inl br))] (va_A [(m0, .inr (8, mdL AM g)), (AM 0, .inl (cY 0, 72, .inl tb)), (AM 2, .inl (cY 0, 22, .inl sA)), (AM 3, .inl (cY 0, 22, .inl rd)), (AM 4, .inl (cY 0, 110, .inl kp)), (AM 5, .inl (cY 0, 8414, .inl td)), (AM 6, .inl (cY 0, 2, .inl wn)), (AM 13, .inl (cY 0, 4, .inl rw)), (AM 14, .inl (cY 0, 4, .inl br))] sz)) (va_A [(m0, .inr (8, mdL AM g)), (AM 0, .inl (cY 0, 72, .inl tb)), (AM 2, .inl (cY 0, 22, .inl sA)), (AM 3, .inl (cY 0, 22, .inl rd)), (AM 4, .inl (cY 0, 110, .inl kp)), (AM 5, .inl (cY 0, 8414, .inl td)), (AM 6, .inl (cY 0, 2, .inl wn)), (AM 13, .inl (cY 0, 4, .inl rw)), (AM 14, .inl (cY 0, 4, .inl br))] sz)) 0 0 (va_A [(m0, .inr (8, mdL AM g)), (AM 0, .inl (cY 0, 72, .inl tb)), (AM 2, .inl (cY 0, 22, .inl sA)), (AM 3, .inl (cY 0, 22, .inl rd)), (AM 4, .inl (cY 0, 110, .inl kp)), (AM 5, .inl (cY 0, 8414, .inl td)), (AM 6, .inl (cY 0, 2, .inl wn)), (AM 13, .inl (cY 0, 4, .inl rw)), (AM 14, .inl (cY 0, 4, .inl br))] sz) := by
  refine Met.ofW (cc := cX8_beginKept) (maxL := 4) (ret := (some .boolean)) (by decide) rfl ?_
  intro p e s m args below meth c s₁ B hml hv
  obtain ⟨rfl, hsz, hP, hK, hN, hD0⟩ := hv
  have hx := B.exec
  have hb := B.bytes
  have hr := B.returns
  have hts := atoms_spec (ws := wsX8_beginKept) B.pre
  have hown : s.vm.findClass RX8 = some m.cls := findClass_of_methodNamed B.named
  have hlocks := B.notSynchronized
  subst hsz
  have hD := hD0.self (sz := s.heap.size)
  generalize hAe : va_A [(m0, .inr (8, mdL AM g)), (AM 0, .inl (cY 0, 72, .inl tb)), (AM 2, .inl (cY 0, 22, .inl sA)), (AM 3, .inl (cY 0, 22, .inl rd)), (AM 4, .inl (cY 0, 110, .inl kp)), (AM 5, .inl (cY 0, 8414, .inl td)), (AM 6, .inl (cY 0, 2, .inl wn)), (AM 13, .inl (cY 0, 4, .inl rw)), (AM 14, .inl (cY 0, 4, .inl br))] s.heap.size = A at hD ⊢
  have hA : ∀ q : Nat, s.heap.size ≤ q → A q := fun q h => by rw [← hAe]; exact Or.inr h
  have hS : va_S A s.heap s.heap [] := va_S.rf
  have hP : va_P (dC, dI) vwCl [(m0, .inr (8, mdL AM g)), (AM 0, .inl (cY 0, 72, .inl tb)), (AM 2, .inl (cY 0, 22, .inl sA)), (AM 3, .inl (cY 0, 22, .inl rd)), (AM 4, .inl (cY 0, 110, .inl kp)), (AM 5, .inl (cY 0, 8414, .inl td)), (AM 6, .inl (cY 0, 2, .inl wn)), (AM 13, .inl (cY 0, 4, .inl rw)), (AM 14, .inl (cY 0, 4, .inl br))] s.heap := hP
  have hl := lv_entry ([.ref m0, .int 11]) (n := 4) (Nat.le_of_ble_eq_true rfl)
  rw [lg_entry_eq]
  generalize (lg_sl ([.ref m0, .int 11]) ++ List.replicate (4 - (lg_sl ([.ref m0, .int 11])).length) Slot.unset).toArray = ls at hl ⊢
  have hl : lv_has ls 4 [(0, .ref m0), (1, .int 11)] := hl
  refine lv_aload_n hx hb dX8_beginKept_0 rfl (lv_at hl 0 rfl) ?_
  refine va_get (D := (dC, dI)) (ci := 8) (v := .ref (AM 2)) (C := RX8) (T := TX8) (N := 17) hx hb hts inw_X8_beginKept_X8 hown hK hP 0 rfl rfl 2 (by decide) (hts (.fieldLink RX8 13 "DuelFramesModel" "s" "[I") (List.mem_of_getElem? (i := 1) rfl)) (fun _ h9 => h9) rfl dX8_beginKept_1 ?_
  refine lv_iload_n hx hb dX8_beginKept_4 rfl (lv_at hl 1 rfl) ?_
  refine lv_bipush (v := 7) hx hb dX8_beginKept_5 (by decide) ?_
  refine lv_iadd hx hb dX8_beginKept_7 ?_
  refine lv_topi (fun x_1 ex_1 => ?_)
  obtain rfl : x_1 = 18 := ex_1.trans (by decide)
  refine va_iald hx hb hK hP 2 0 rfl rfl (vin rfl) dX8_beginKept_8 ?_
  refine lv_topi (fun x_2 ex_2 => ?_)
  obtain rfl : x_2 = (sA 18) := ex_2
  refine lv_istore_n (lv' := [(2, .int (sA 18)), (0, .ref m0), (1, .int 11)]) hx hb dX8_beginKept_9 rfl hl (by decide) rfl (fun ls hl => ?_)
  refine lv_iload_n hx hb dX8_beginKept_10 rfl (lv_at hl 0 rfl) ?_
  refine lv_iconst (v := (-1)) hx hb dX8_beginKept_11 (by decide) ?_
  refine lv_icmp_eq (tgt := 33) hx hb dX8_beginKept_12 (by decide) (fun c_3 => ?_) (fun c_3 => ?_)
  · refine lv_iconst (v := 0) hx hb dX8_beginKept_33 (by decide) ?_
    have eo_4 : (X8_beginKept11_r tb sA) = 0 := by rw [X8_beginKept11_r]; simp only [eq_true c_3, ↓reduceIte]
    have eo_5 : (X8_beginKept11_w2 tb sA) = sA := by rw [X8_beginKept11_w2]; simp only [eq_true c_3, ↓reduceIte]
    have hP9 : va_P (dC, dI) vwCl [(m0, .inr (8, mdL AM g)), (AM 0, .inl (cY 0, 72, .inl tb)), (AM 2, .inl (cY 0, 22, .inl (X8_beginKept11_w2 tb sA))), (AM 3, .inl (cY 0, 22, .inl rd)), (AM 4, .inl (cY 0, 110, .inl kp)), (AM 5, .inl (cY 0, 8414, .inl td)), (AM 6, .inl (cY 0, 2, .inl wn)), (AM 13, .inl (cY 0, 4, .inl rw)), (AM 14, .inl (cY 0, 4, .inl br))] s.heap := by simp only [eo_5]; exact hP
    have hD9 : va_D A [(m0, .inr (8, mdL AM g)), (AM 0, .inl (cY 0, 72, .inl tb)), (AM 2, .inl (cY 0, 22, .inl (X8_beginKept11_w2 tb sA))), (AM 3, .inl (cY 0, 22, .inl rd)), (AM 4, .inl (cY 0, 110, .inl kp)), (AM 5, .inl (cY 0, 8414, .inl td)), (AM 6, .inl (cY 0, 2, .inl wn)), (AM 13, .inl (cY 0, 4, .inl rw)), (AM 14, .inl (cY 0, 4, .inl br))] := by simp only [eo_5]; exact hD
    exact W.zret (v := 0) (ty := .boolean) hx hb hr rfl (fun t ht hW => ⟨⟨_, (), rfl, ⟨eo_4.symm, (by decide)⟩, wPost_of hP9 hD9 ht⟩, hS.F ht⟩) hS.2.2 dX8_beginKept_34
  · refine lv_aload_n hx hb dX8_beginKept_15 rfl (lv_at hl 1 rfl) ?_
    refine lv_iload_n hx hb dX8_beginKept_16 rfl (lv_at hl 0 rfl) ?_
    refine lv_bipush (v := 9) hx hb dX8_beginKept_17 (by decide) ?_
    refine vp_callSi (W.runV (As := [.int (sA 18), .int 9]) (rest := []) ⟨hx, hb, hml, hown, hts⟩ (c_X8_ofMove l dC dI cY m0 AM g tb sA rd kp td wn rw br (sA 18) 9 (tb_in (hs.2.1.resolve_left c_3) (vin rfl))) (cwV 2 hts gX8_beginKept_X8_ofMove rfl rfl rfl (by decide +kernel) ⟨Nat.le_of_ble_eq_true rfl, Nat.le_of_ble_eq_true rfl⟩) ⟨blindR, va_recv hK hP (ci := 8) (q0 := 0) rfl rfl, fun U hU hW => ⟨rfl, rPre_of hP hK hN U hU hW⟩⟩ rfl rfl hl.1 rfl (lv_room (Nat.le_of_ble_eq_true rfl)) dX8_beginKept_19 ⟨Nat.zero_le _, Nat.zero_le _⟩) (fun r_6 hw => ?_)
    subst hw
    refine lv_aload_n hx hb dX8_beginKept_22 rfl (lv_at hl 1 rfl) ?_
    refine va_get (D := (dC, dI)) (ci := 8) (v := .ref (AM 2)) (C := RX8) (T := TX8) (N := 17) hx hb hts inw_X8_beginKept_X8 hown hK hP 0 rfl rfl 2 (by decide) (hts (.fieldLink RX8 13 "DuelFramesModel" "s" "[I") (List.mem_of_getElem? (i := 1) rfl)) (fun _ h9 => h9) rfl dX8_beginKept_23 ?_
    refine lv_iload_n hx hb dX8_beginKept_26 rfl (lv_at hl 2 rfl) ?_
    refine lv_iconst (v := 2) hx hb dX8_beginKept_27 (by decide) ?_
    refine lv_iadd hx hb dX8_beginKept_28 ?_
    refine lv_topi (fun x_7 ex_7 => ?_)
    obtain rfl : x_7 = 13 := ex_7.trans (by decide)
    refine va_iald hx hb hK hP 2 0 rfl rfl (vin rfl) dX8_beginKept_29 ?_
    refine lv_topi (fun x_8 ex_8 => ?_)
    obtain rfl : x_8 = (sA 13) := ex_8
    refine lv_icmp_le (tgt := 35) hx hb dX8_beginKept_30 (by decide) (fun c_9 => ?_) (fun c_9 => ?_)
    · refine lv_aload_n hx hb dX8_beginKept_35 rfl (lv_at hl 1 rfl) ?_
      refine va_get (D := (dC, dI)) (ci := 8) (v := .ref (AM 2)) (C := RX8) (T := TX8) (N := 17) hx hb hts inw_X8_beginKept_X8 hown hK hP 0 rfl rfl 2 (by decide) (hts (.fieldLink RX8 13 "DuelFramesModel" "s" "[I") (List.mem_of_getElem? (i := 1) rfl)) (fun _ h9 => h9) rfl dX8_beginKept_36 ?_
      refine lv_iload_n hx hb dX8_beginKept_39 rfl (lv_at hl 2 rfl) ?_
      refine lv_iconst (v := 3) hx hb dX8_beginKept_40 (by decide) ?_
      refine lv_iadd hx hb dX8_beginKept_41 ?_
      refine lv_topi (fun x_10 ex_10 => ?_)
      obtain rfl : x_10 = 14 := ex_10.trans (by decide)
      refine va_iald hx hb hK hP 2 0 rfl rfl (vin rfl) dX8_beginKept_42 ?_
      refine lv_topi (fun x_11 ex_11 => ?_)
      obtain rfl : x_11 = (sA 14) := ex_11
      refine lv_iconst (v := 1) hx hb dX8_beginKept_43 (by decide) ?_
      refine jnW (D := (dC, dI)) (ws := [(m0, .inr (8, mdL AM g)), (AM 0, .inl (cY 0, 72, .inl tb)), (AM 2, .inl (cY 0, 22, .inl sA)), (AM 3, .inl (cY 0, 22, .inl rd)), (AM 4, .inl (cY 0, 110, .inl kp)), (AM 5, .inl (cY 0, 8414, .inl td)), (AM 6, .inl (cY 0, 2, .inl wn)), (AM 13, .inl (cY 0, 4, .inl rw)), (AM 14, .inl (cY 0, 4, .inl br))]) (lv := [(2, .int (sA 18)), (0, .ref m0), (1, .int 11)]) (st := [.int (X8_beginKept11_j101 tb sA)]) (J := 101) (n := 4) (A := A) (H0 := s.heap) ?_ ?_
      · intro H locs ls hP hD hS hl
        refine lv_istore_n (lv' := [(3, .int (X8_beginKept11_j101 tb sA)), (2, .int (sA 18)), (0, .ref m0), (1, .int 11)]) hx hb dX8_beginKept_101 rfl hl (by decide) rfl (fun ls hl => ?_)
        refine lv_aload_n hx hb dX8_beginKept_102 rfl (lv_at hl 2 rfl) ?_
        refine va_get (D := (dC, dI)) (ci := 8) (v := .ref (AM 2)) (C := RX8) (T := TX8) (N := 17) hx hb hts inw_X8_beginKept_X8 hown hK hP 0 rfl rfl 2 (by decide) (hts (.fieldLink RX8 13 "DuelFramesModel" "s" "[I") (List.mem_of_getElem? (i := 1) rfl)) (fun _ h9 => h9) rfl dX8_beginKept_103 ?_
        refine lv_iload_n hx hb dX8_beginKept_106 rfl (lv_at hl 3 rfl) ?_
        refine lv_iconst (v := 3) hx hb dX8_beginKept_107 (by decide) ?_
        refine lv_iadd hx hb dX8_beginKept_108 ?_
        refine lv_topi (fun x_14 ex_14 => ?_)
        obtain rfl : x_14 = 14 := ex_14.trans (by decide)
        refine va_iald hx hb hK hP 2 0 rfl rfl (vin rfl) dX8_beginKept_109 ?_
        refine lv_topi (fun x_15 ex_15 => ?_)
        obtain rfl : x_15 = (sA 14) := ex_15
        refine lv_if_eq (tgt := 119) hx hb dX8_beginKept_110 (by decide) (fun c_16 => ?_) (fun c_16 => ?_)
        · refine lv_aload_n hx hb dX8_beginKept_119 rfl (lv_at hl 2 rfl) ?_
          refine va_get (D := (dC, dI)) (ci := 8) (v := .ref (AM 2)) (C := RX8) (T := TX8) (N := 17) hx hb hts inw_X8_beginKept_X8 hown hK hP 0 rfl rfl 2 (by decide) (hts (.fieldLink RX8 13 "DuelFramesModel" "s" "[I") (List.mem_of_getElem? (i := 1) rfl)) (fun _ h9 => h9) rfl dX8_beginKept_120 ?_
          refine lv_iload_n hx hb dX8_beginKept_123 rfl (lv_at hl 3 rfl) ?_
          refine lv_iconst (v := 2) hx hb dX8_beginKept_124 (by decide) ?_
          refine lv_iadd hx hb dX8_beginKept_125 ?_
          refine lv_topi (fun x_17 ex_17 => ?_)
          obtain rfl : x_17 = 13 := ex_17.trans (by decide)
          refine lv_dup2_11 hx hb dX8_beginKept_126 rfl rfl ?_
          refine va_iald hx hb hK hP 2 0 rfl rfl (vin rfl) dX8_beginKept_127 ?_
          refine lv_topi (fun x_18 ex_18 => ?_)
          obtain rfl : x_18 = (sA 13) := ex_18
          refine lv_aload_n hx hb dX8_beginKept_128 rfl (lv_at hl 2 rfl) ?_
          refine lv_iload_n hx hb dX8_beginKept_129 rfl (lv_at hl 1 rfl) ?_
          refine lv_bipush (v := 9) hx hb dX8_beginKept_130 (by decide) ?_
          refine vp_callSi (W.runV (As := [.int (sA 18), .int 9]) (rest := [.int (sA 13), .int 13, .ref (AM 2)]) ⟨hx, hb, hml, hown, hts⟩ (c_X8_ofMove l dC dI cY m0 AM g tb sA rd kp td wn rw br (sA 18) 9 (tb_in (hs.2.1.resolve_left c_3) (vin rfl))) (cwV 2 hts gX8_beginKept_X8_ofMove rfl rfl rfl (by decide +kernel) ⟨Nat.le_of_ble_eq_true rfl, Nat.le_of_ble_eq_true rfl⟩) ⟨blindR, va_recv hK hP (ci := 8) (q0 := 0) rfl rfl, fun U hU hW => ⟨rfl, rPre_of hP hK hN U hU hW⟩⟩ rfl rfl hl.1 rfl (lv_room (Nat.le_of_ble_eq_true rfl)) dX8_beginKept_132 ⟨Nat.zero_le _, Nat.zero_le _⟩) (fun r_19 hw => ?_)
          subst hw
          refine lv_isub hx hb dX8_beginKept_135 ?_
          refine va_iast hx hb hK hP hD hS 2 0 rfl rfl (vin rfl) dX8_beginKept_136 (fun H locs hP1 hD1 hS1 => ?_)
          clear hP hD hS
          have hP : va_P (dC, dI) vwCl [(m0, .inr (8, mdL AM g)), (AM 0, .inl (cY 0, 72, .inl tb)), (AM 2, .inl (cY 0, 22, .inl (upd sA 13 ((sA 13) - (X8_ofMove_r tb (sA 18) 9))))), (AM 3, .inl (cY 0, 22, .inl rd)), (AM 4, .inl (cY 0, 110, .inl kp)), (AM 5, .inl (cY 0, 8414, .inl td)), (AM 6, .inl (cY 0, 2, .inl wn)), (AM 13, .inl (cY 0, 4, .inl rw)), (AM 14, .inl (cY 0, 4, .inl br))] H := hP1
          have hD : va_D A [(m0, .inr (8, mdL AM g)), (AM 0, .inl (cY 0, 72, .inl tb)), (AM 2, .inl (cY 0, 22, .inl (upd sA 13 ((sA 13) - (X8_ofMove_r tb (sA 18) 9))))), (AM 3, .inl (cY 0, 22, .inl rd)), (AM 4, .inl (cY 0, 110, .inl kp)), (AM 5, .inl (cY 0, 8414, .inl td)), (AM 6, .inl (cY 0, 2, .inl wn)), (AM 13, .inl (cY 0, 4, .inl rw)), (AM 14, .inl (cY 0, 4, .inl br))] := hD1
          have hS := hS1
          clear hP1 hD1 hS1
          refine lv_aload_n hx hb dX8_beginKept_137 rfl (lv_at hl 2 rfl) ?_
          refine va_get (D := (dC, dI)) (ci := 8) (v := .ref (AM 2)) (C := RX8) (T := TX8) (N := 17) hx hb hts inw_X8_beginKept_X8 hown hK hP 0 rfl rfl 2 (by decide) (hts (.fieldLink RX8 13 "DuelFramesModel" "s" "[I") (List.mem_of_getElem? (i := 1) rfl)) (fun _ h9 => h9) rfl dX8_beginKept_138 ?_
          refine lv_iload_n hx hb dX8_beginKept_141 rfl (lv_at hl 3 rfl) ?_
          refine lv_iconst (v := 3) hx hb dX8_beginKept_142 (by decide) ?_
          refine lv_iadd hx hb dX8_beginKept_143 ?_
          refine lv_topi (fun x_20 ex_20 => ?_)
          obtain rfl : x_20 = 14 := ex_20.trans (by decide)
          refine lv_iconst (v := 1) hx hb dX8_beginKept_144 (by decide) ?_
          refine va_iast hx hb hK hP hD hS 2 0 rfl rfl (vin rfl) dX8_beginKept_145 (fun H locs hP1 hD1 hS1 => ?_)
          clear hP hD hS
          have hP : va_P (dC, dI) vwCl [(m0, .inr (8, mdL AM g)), (AM 0, .inl (cY 0, 72, .inl tb)), (AM 2, .inl (cY 0, 22, .inl (upd (upd sA 13 ((sA 13) - (X8_ofMove_r tb (sA 18) 9))) 14 1))), (AM 3, .inl (cY 0, 22, .inl rd)), (AM 4, .inl (cY 0, 110, .inl kp)), (AM 5, .inl (cY 0, 8414, .inl td)), (AM 6, .inl (cY 0, 2, .inl wn)), (AM 13, .inl (cY 0, 4, .inl rw)), (AM 14, .inl (cY 0, 4, .inl br))] H := hP1
          have hD : va_D A [(m0, .inr (8, mdL AM g)), (AM 0, .inl (cY 0, 72, .inl tb)), (AM 2, .inl (cY 0, 22, .inl (upd (upd sA 13 ((sA 13) - (X8_ofMove_r tb (sA 18) 9))) 14 1))), (AM 3, .inl (cY 0, 22, .inl rd)), (AM 4, .inl (cY 0, 110, .inl kp)), (AM 5, .inl (cY 0, 8414, .inl td)), (AM 6, .inl (cY 0, 2, .inl wn)), (AM 13, .inl (cY 0, 4, .inl rw)), (AM 14, .inl (cY 0, 4, .inl br))] := hD1
          have hS := hS1
          clear hP1 hD1 hS1
          refine lv_aload_n hx hb dX8_beginKept_146 rfl (lv_at hl 2 rfl) ?_
          refine va_get (D := (dC, dI)) (ci := 8) (v := .ref (AM 2)) (C := RX8) (T := TX8) (N := 17) hx hb hts inw_X8_beginKept_X8 hown hK hP 0 rfl rfl 2 (by decide) (hts (.fieldLink RX8 13 "DuelFramesModel" "s" "[I") (List.mem_of_getElem? (i := 1) rfl)) (fun _ h9 => h9) rfl dX8_beginKept_147 ?_
          refine lv_iload_n hx hb dX8_beginKept_150 rfl (lv_at hl 3 rfl) ?_
          refine lv_iconst (v := 4) hx hb dX8_beginKept_151 (by decide) ?_
          refine lv_iadd hx hb dX8_beginKept_152 ?_
          refine lv_topi (fun x_21 ex_21 => ?_)
          obtain rfl : x_21 = 15 := ex_21.trans (by decide)
          refine lv_iload_n hx hb dX8_beginKept_153 rfl (lv_at hl 1 rfl) ?_
          refine va_iast hx hb hK hP hD hS 2 0 rfl rfl (vin rfl) dX8_beginKept_154 (fun H locs hP1 hD1 hS1 => ?_)
          clear hP hD hS
          have hP : va_P (dC, dI) vwCl [(m0, .inr (8, mdL AM g)), (AM 0, .inl (cY 0, 72, .inl tb)), (AM 2, .inl (cY 0, 22, .inl (upd (upd (upd sA 13 ((sA 13) - (X8_ofMove_r tb (sA 18) 9))) 14 1) 15 (sA 18)))), (AM 3, .inl (cY 0, 22, .inl rd)), (AM 4, .inl (cY 0, 110, .inl kp)), (AM 5, .inl (cY 0, 8414, .inl td)), (AM 6, .inl (cY 0, 2, .inl wn)), (AM 13, .inl (cY 0, 4, .inl rw)), (AM 14, .inl (cY 0, 4, .inl br))] H := hP1
          have hD : va_D A [(m0, .inr (8, mdL AM g)), (AM 0, .inl (cY 0, 72, .inl tb)), (AM 2, .inl (cY 0, 22, .inl (upd (upd (upd sA 13 ((sA 13) - (X8_ofMove_r tb (sA 18) 9))) 14 1) 15 (sA 18)))), (AM 3, .inl (cY 0, 22, .inl rd)), (AM 4, .inl (cY 0, 110, .inl kp)), (AM 5, .inl (cY 0, 8414, .inl td)), (AM 6, .inl (cY 0, 2, .inl wn)), (AM 13, .inl (cY 0, 4, .inl rw)), (AM 14, .inl (cY 0, 4, .inl br))] := hD1
          have hS := hS1
          clear hP1 hD1 hS1
          refine lv_aload_n hx hb dX8_beginKept_155 rfl (lv_at hl 2 rfl) ?_
          refine va_get (D := (dC, dI)) (ci := 8) (v := .ref (AM 2)) (C := RX8) (T := TX8) (N := 17) hx hb hts inw_X8_beginKept_X8 hown hK hP 0 rfl rfl 2 (by decide) (hts (.fieldLink RX8 13 "DuelFramesModel" "s" "[I") (List.mem_of_getElem? (i := 1) rfl)) (fun _ h9 => h9) rfl dX8_beginKept_156 ?_
          refine lv_iload_n hx hb dX8_beginKept_159 rfl (lv_at hl 3 rfl) ?_
          refine lv_iconst (v := 5) hx hb dX8_beginKept_160 (by decide) ?_
          refine lv_iadd hx hb dX8_beginKept_161 ?_
          refine lv_topi (fun x_22 ex_22 => ?_)
          obtain rfl : x_22 = 16 := ex_22.trans (by decide)
          refine lv_iconst (v := 0) hx hb dX8_beginKept_162 (by decide) ?_
          refine va_iast hx hb hK hP hD hS 2 0 rfl rfl (vin rfl) dX8_beginKept_163 (fun H locs hP1 hD1 hS1 => ?_)
          clear hP hD hS
          have hP : va_P (dC, dI) vwCl [(m0, .inr (8, mdL AM g)), (AM 0, .inl (cY 0, 72, .inl tb)), (AM 2, .inl (cY 0, 22, .inl (upd (upd (upd (upd sA 13 ((sA 13) - (X8_ofMove_r tb (sA 18) 9))) 14 1) 15 (sA 18)) 16 0))), (AM 3, .inl (cY 0, 22, .inl rd)), (AM 4, .inl (cY 0, 110, .inl kp)), (AM 5, .inl (cY 0, 8414, .inl td)), (AM 6, .inl (cY 0, 2, .inl wn)), (AM 13, .inl (cY 0, 4, .inl rw)), (AM 14, .inl (cY 0, 4, .inl br))] H := hP1
          have hD : va_D A [(m0, .inr (8, mdL AM g)), (AM 0, .inl (cY 0, 72, .inl tb)), (AM 2, .inl (cY 0, 22, .inl (upd (upd (upd (upd sA 13 ((sA 13) - (X8_ofMove_r tb (sA 18) 9))) 14 1) 15 (sA 18)) 16 0))), (AM 3, .inl (cY 0, 22, .inl rd)), (AM 4, .inl (cY 0, 110, .inl kp)), (AM 5, .inl (cY 0, 8414, .inl td)), (AM 6, .inl (cY 0, 2, .inl wn)), (AM 13, .inl (cY 0, 4, .inl rw)), (AM 14, .inl (cY 0, 4, .inl br))] := hD1
          have hS := hS1
          clear hP1 hD1 hS1
          refine lv_aload_n hx hb dX8_beginKept_164 rfl (lv_at hl 2 rfl) ?_
          refine va_get (D := (dC, dI)) (ci := 8) (v := .ref (AM 2)) (C := RX8) (T := TX8) (N := 17) hx hb hts inw_X8_beginKept_X8 hown hK hP 0 rfl rfl 2 (by decide) (hts (.fieldLink RX8 13 "DuelFramesModel" "s" "[I") (List.mem_of_getElem? (i := 1) rfl)) (fun _ h9 => h9) rfl dX8_beginKept_165 ?_
          refine lv_iload_n hx hb dX8_beginKept_168 rfl (lv_at hl 3 rfl) ?_
          refine lv_bipush (v := 9) hx hb dX8_beginKept_169 (by decide) ?_
          refine lv_iadd hx hb dX8_beginKept_171 ?_
          refine lv_topi (fun x_23 ex_23 => ?_)
          obtain rfl : x_23 = 20 := ex_23.trans (by decide)
          refine lv_iconst (v := (-1)) hx hb dX8_beginKept_172 (by decide) ?_
          refine va_iast hx hb hK hP hD hS 2 0 rfl rfl (vin rfl) dX8_beginKept_173 (fun H locs hP1 hD1 hS1 => ?_)
          clear hP hD hS
          have hP : va_P (dC, dI) vwCl [(m0, .inr (8, mdL AM g)), (AM 0, .inl (cY 0, 72, .inl tb)), (AM 2, .inl (cY 0, 22, .inl (upd (upd (upd (upd (upd sA 13 ((sA 13) - (X8_ofMove_r tb (sA 18) 9))) 14 1) 15 (sA 18)) 16 0) 20 (-1)))), (AM 3, .inl (cY 0, 22, .inl rd)), (AM 4, .inl (cY 0, 110, .inl kp)), (AM 5, .inl (cY 0, 8414, .inl td)), (AM 6, .inl (cY 0, 2, .inl wn)), (AM 13, .inl (cY 0, 4, .inl rw)), (AM 14, .inl (cY 0, 4, .inl br))] H := hP1
          have hD : va_D A [(m0, .inr (8, mdL AM g)), (AM 0, .inl (cY 0, 72, .inl tb)), (AM 2, .inl (cY 0, 22, .inl (upd (upd (upd (upd (upd sA 13 ((sA 13) - (X8_ofMove_r tb (sA 18) 9))) 14 1) 15 (sA 18)) 16 0) 20 (-1)))), (AM 3, .inl (cY 0, 22, .inl rd)), (AM 4, .inl (cY 0, 110, .inl kp)), (AM 5, .inl (cY 0, 8414, .inl td)), (AM 6, .inl (cY 0, 2, .inl wn)), (AM 13, .inl (cY 0, 4, .inl rw)), (AM 14, .inl (cY 0, 4, .inl br))] := hD1
          have hS := hS1
          clear hP1 hD1 hS1
          refine lv_aload_n hx hb dX8_beginKept_174 rfl (lv_at hl 2 rfl) ?_
          refine va_get (D := (dC, dI)) (ci := 8) (v := .ref (AM 2)) (C := RX8) (T := TX8) (N := 17) hx hb hts inw_X8_beginKept_X8 hown hK hP 0 rfl rfl 2 (by decide) (hts (.fieldLink RX8 13 "DuelFramesModel" "s" "[I") (List.mem_of_getElem? (i := 1) rfl)) (fun _ h9 => h9) rfl dX8_beginKept_175 ?_
          refine lv_iload_n hx hb dX8_beginKept_178 rfl (lv_at hl 3 rfl) ?_
          refine lv_bipush (v := 7) hx hb dX8_beginKept_179 (by decide) ?_
          refine lv_iadd hx hb dX8_beginKept_181 ?_
          refine lv_topi (fun x_24 ex_24 => ?_)
          obtain rfl : x_24 = 18 := ex_24.trans (by decide)
          refine lv_iconst (v := (-1)) hx hb dX8_beginKept_182 (by decide) ?_
          refine va_iast hx hb hK hP hD hS 2 0 rfl rfl (vin rfl) dX8_beginKept_183 (fun H locs hP1 hD1 hS1 => ?_)
          clear hP hD hS
          have hP : va_P (dC, dI) vwCl [(m0, .inr (8, mdL AM g)), (AM 0, .inl (cY 0, 72, .inl tb)), (AM 2, .inl (cY 0, 22, .inl (upd (upd (upd (upd (upd (upd sA 13 ((sA 13) - (X8_ofMove_r tb (sA 18) 9))) 14 1) 15 (sA 18)) 16 0) 20 (-1)) 18 (-1)))), (AM 3, .inl (cY 0, 22, .inl rd)), (AM 4, .inl (cY 0, 110, .inl kp)), (AM 5, .inl (cY 0, 8414, .inl td)), (AM 6, .inl (cY 0, 2, .inl wn)), (AM 13, .inl (cY 0, 4, .inl rw)), (AM 14, .inl (cY 0, 4, .inl br))] H := hP1
          have hD : va_D A [(m0, .inr (8, mdL AM g)), (AM 0, .inl (cY 0, 72, .inl tb)), (AM 2, .inl (cY 0, 22, .inl (upd (upd (upd (upd (upd (upd sA 13 ((sA 13) - (X8_ofMove_r tb (sA 18) 9))) 14 1) 15 (sA 18)) 16 0) 20 (-1)) 18 (-1)))), (AM 3, .inl (cY 0, 22, .inl rd)), (AM 4, .inl (cY 0, 110, .inl kp)), (AM 5, .inl (cY 0, 8414, .inl td)), (AM 6, .inl (cY 0, 2, .inl wn)), (AM 13, .inl (cY 0, 4, .inl rw)), (AM 14, .inl (cY 0, 4, .inl br))] := hD1
          have hS := hS1
          clear hP1 hD1 hS1
          refine lv_aload_n hx hb dX8_beginKept_184 rfl (lv_at hl 2 rfl) ?_
          refine va_get (D := (dC, dI)) (ci := 8) (v := .ref (AM 2)) (C := RX8) (T := TX8) (N := 17) hx hb hts inw_X8_beginKept_X8 hown hK hP 0 rfl rfl 2 (by decide) (hts (.fieldLink RX8 13 "DuelFramesModel" "s" "[I") (List.mem_of_getElem? (i := 1) rfl)) (fun _ h9 => h9) rfl dX8_beginKept_185 ?_
          refine lv_iload_n hx hb dX8_beginKept_188 rfl (lv_at hl 3 rfl) ?_
          refine lv_bipush (v := 8) hx hb dX8_beginKept_189 (by decide) ?_
          refine lv_iadd hx hb dX8_beginKept_191 ?_
          refine lv_topi (fun x_25 ex_25 => ?_)
          obtain rfl : x_25 = 19 := ex_25.trans (by decide)
          refine lv_iconst (v := 0) hx hb dX8_beginKept_192 (by decide) ?_
          refine va_iast hx hb hK hP hD hS 2 0 rfl rfl (vin rfl) dX8_beginKept_193 (fun H locs hP1 hD1 hS1 => ?_)
          clear hP hD hS
          have hP : va_P (dC, dI) vwCl [(m0, .inr (8, mdL AM g)), (AM 0, .inl (cY 0, 72, .inl tb)), (AM 2, .inl (cY 0, 22, .inl (upd (upd (upd (upd (upd (upd (upd sA 13 ((sA 13) - (X8_ofMove_r tb (sA 18) 9))) 14 1) 15 (sA 18)) 16 0) 20 (-1)) 18 (-1)) 19 0))), (AM 3, .inl (cY 0, 22, .inl rd)), (AM 4, .inl (cY 0, 110, .inl kp)), (AM 5, .inl (cY 0, 8414, .inl td)), (AM 6, .inl (cY 0, 2, .inl wn)), (AM 13, .inl (cY 0, 4, .inl rw)), (AM 14, .inl (cY 0, 4, .inl br))] H := hP1
          have hD : va_D A [(m0, .inr (8, mdL AM g)), (AM 0, .inl (cY 0, 72, .inl tb)), (AM 2, .inl (cY 0, 22, .inl (upd (upd (upd (upd (upd (upd (upd sA 13 ((sA 13) - (X8_ofMove_r tb (sA 18) 9))) 14 1) 15 (sA 18)) 16 0) 20 (-1)) 18 (-1)) 19 0))), (AM 3, .inl (cY 0, 22, .inl rd)), (AM 4, .inl (cY 0, 110, .inl kp)), (AM 5, .inl (cY 0, 8414, .inl td)), (AM 6, .inl (cY 0, 2, .inl wn)), (AM 13, .inl (cY 0, 4, .inl rw)), (AM 14, .inl (cY 0, 4, .inl br))] := hD1
          have hS := hS1
          clear hP1 hD1 hS1
          refine lv_iconst (v := 1) hx hb dX8_beginKept_194 (by decide) ?_
          have eo_26 : (X8_beginKept11_r tb sA) = 1 := by rw [X8_beginKept11_r]; simp only [eq_false c_3, eq_true c_9, eq_true c_16, ↓reduceIte]
          have eo_27 : (X8_beginKept11_w2 tb sA) = (upd (upd (upd (upd (upd (upd (upd sA 13 ((sA 13) - (X8_ofMove_r tb (sA 18) 9))) 14 1) 15 (sA 18)) 16 0) 20 (-1)) 18 (-1)) 19 0) := by rw [X8_beginKept11_w2]; simp only [eq_false c_3, eq_true c_9, eq_true c_16, ↓reduceIte]
          have hP9 : va_P (dC, dI) vwCl [(m0, .inr (8, mdL AM g)), (AM 0, .inl (cY 0, 72, .inl tb)), (AM 2, .inl (cY 0, 22, .inl (X8_beginKept11_w2 tb sA))), (AM 3, .inl (cY 0, 22, .inl rd)), (AM 4, .inl (cY 0, 110, .inl kp)), (AM 5, .inl (cY 0, 8414, .inl td)), (AM 6, .inl (cY 0, 2, .inl wn)), (AM 13, .inl (cY 0, 4, .inl rw)), (AM 14, .inl (cY 0, 4, .inl br))] H := by simp only [eo_27]; exact hP
          have hD9 : va_D A [(m0, .inr (8, mdL AM g)), (AM 0, .inl (cY 0, 72, .inl tb)), (AM 2, .inl (cY 0, 22, .inl (X8_beginKept11_w2 tb sA))), (AM 3, .inl (cY 0, 22, .inl rd)), (AM 4, .inl (cY 0, 110, .inl kp)), (AM 5, .inl (cY 0, 8414, .inl td)), (AM 6, .inl (cY 0, 2, .inl wn)), (AM 13, .inl (cY 0, 4, .inl rw)), (AM 14, .inl (cY 0, 4, .inl br))] := by simp only [eo_27]; exact hD
          exact W.zret (v := 1) (ty := .boolean) hx hb hr rfl (fun t ht hW => ⟨⟨_, (), rfl, ⟨eo_26.symm, (by decide)⟩, wPost_of hP9 hD9 ht⟩, hS.F ht⟩) hS.2.2 dX8_beginKept_195
        · refine lv_iload_n hx hb dX8_beginKept_113 rfl (lv_at hl 0 rfl) ?_
          refine lv_if_ne (tgt := 119) hx hb dX8_beginKept_114 (by decide) (fun c_28 => ?_) (fun c_28 => ?_)
          · refine lv_aload_n hx hb dX8_beginKept_119 rfl (lv_at hl 2 rfl) ?_
            refine va_get (D := (dC, dI)) (ci := 8) (v := .ref (AM 2)) (C := RX8) (T := TX8) (N := 17) hx hb hts inw_X8_beginKept_X8 hown hK hP 0 rfl rfl 2 (by decide) (hts (.fieldLink RX8 13 "DuelFramesModel" "s" "[I") (List.mem_of_getElem? (i := 1) rfl)) (fun _ h9 => h9) rfl dX8_beginKept_120 ?_
            refine lv_iload_n hx hb dX8_beginKept_123 rfl (lv_at hl 3 rfl) ?_
            refine lv_iconst (v := 2) hx hb dX8_beginKept_124 (by decide) ?_
            refine lv_iadd hx hb dX8_beginKept_125 ?_
            refine lv_topi (fun x_29 ex_29 => ?_)
            obtain rfl : x_29 = 13 := ex_29.trans (by decide)
            refine lv_dup2_11 hx hb dX8_beginKept_126 rfl rfl ?_
            refine va_iald hx hb hK hP 2 0 rfl rfl (vin rfl) dX8_beginKept_127 ?_
            refine lv_topi (fun x_30 ex_30 => ?_)
            obtain rfl : x_30 = (sA 13) := ex_30
            refine lv_aload_n hx hb dX8_beginKept_128 rfl (lv_at hl 2 rfl) ?_
            refine lv_iload_n hx hb dX8_beginKept_129 rfl (lv_at hl 1 rfl) ?_
            refine lv_bipush (v := 9) hx hb dX8_beginKept_130 (by decide) ?_
            refine vp_callSi (W.runV (As := [.int (sA 18), .int 9]) (rest := [.int (sA 13), .int 13, .ref (AM 2)]) ⟨hx, hb, hml, hown, hts⟩ (c_X8_ofMove l dC dI cY m0 AM g tb sA rd kp td wn rw br (sA 18) 9 (tb_in (hs.2.1.resolve_left c_3) (vin rfl))) (cwV 2 hts gX8_beginKept_X8_ofMove rfl rfl rfl (by decide +kernel) ⟨Nat.le_of_ble_eq_true rfl, Nat.le_of_ble_eq_true rfl⟩) ⟨blindR, va_recv hK hP (ci := 8) (q0 := 0) rfl rfl, fun U hU hW => ⟨rfl, rPre_of hP hK hN U hU hW⟩⟩ rfl rfl hl.1 rfl (lv_room (Nat.le_of_ble_eq_true rfl)) dX8_beginKept_132 ⟨Nat.zero_le _, Nat.zero_le _⟩) (fun r_31 hw => ?_)
            subst hw
            refine lv_isub hx hb dX8_beginKept_135 ?_
            refine va_iast hx hb hK hP hD hS 2 0 rfl rfl (vin rfl) dX8_beginKept_136 (fun H locs hP1 hD1 hS1 => ?_)
            clear hP hD hS
            have hP : va_P (dC, dI) vwCl [(m0, .inr (8, mdL AM g)), (AM 0, .inl (cY 0, 72, .inl tb)), (AM 2, .inl (cY 0, 22, .inl (upd sA 13 ((sA 13) - (X8_ofMove_r tb (sA 18) 9))))), (AM 3, .inl (cY 0, 22, .inl rd)), (AM 4, .inl (cY 0, 110, .inl kp)), (AM 5, .inl (cY 0, 8414, .inl td)), (AM 6, .inl (cY 0, 2, .inl wn)), (AM 13, .inl (cY 0, 4, .inl rw)), (AM 14, .inl (cY 0, 4, .inl br))] H := hP1
            have hD : va_D A [(m0, .inr (8, mdL AM g)), (AM 0, .inl (cY 0, 72, .inl tb)), (AM 2, .inl (cY 0, 22, .inl (upd sA 13 ((sA 13) - (X8_ofMove_r tb (sA 18) 9))))), (AM 3, .inl (cY 0, 22, .inl rd)), (AM 4, .inl (cY 0, 110, .inl kp)), (AM 5, .inl (cY 0, 8414, .inl td)), (AM 6, .inl (cY 0, 2, .inl wn)), (AM 13, .inl (cY 0, 4, .inl rw)), (AM 14, .inl (cY 0, 4, .inl br))] := hD1
            have hS := hS1
            clear hP1 hD1 hS1
            refine lv_aload_n hx hb dX8_beginKept_137 rfl (lv_at hl 2 rfl) ?_
            refine va_get (D := (dC, dI)) (ci := 8) (v := .ref (AM 2)) (C := RX8) (T := TX8) (N := 17) hx hb hts inw_X8_beginKept_X8 hown hK hP 0 rfl rfl 2 (by decide) (hts (.fieldLink RX8 13 "DuelFramesModel" "s" "[I") (List.mem_of_getElem? (i := 1) rfl)) (fun _ h9 => h9) rfl dX8_beginKept_138 ?_
            refine lv_iload_n hx hb dX8_beginKept_141 rfl (lv_at hl 3 rfl) ?_
            refine lv_iconst (v := 3) hx hb dX8_beginKept_142 (by decide) ?_
            refine lv_iadd hx hb dX8_beginKept_143 ?_
            refine lv_topi (fun x_32 ex_32 => ?_)
            obtain rfl : x_32 = 14 := ex_32.trans (by decide)
            refine lv_iconst (v := 1) hx hb dX8_beginKept_144 (by decide) ?_
            refine va_iast hx hb hK hP hD hS 2 0 rfl rfl (vin rfl) dX8_beginKept_145 (fun H locs hP1 hD1 hS1 => ?_)
            clear hP hD hS
            have hP : va_P (dC, dI) vwCl [(m0, .inr (8, mdL AM g)), (AM 0, .inl (cY 0, 72, .inl tb)), (AM 2, .inl (cY 0, 22, .inl (upd (upd sA 13 ((sA 13) - (X8_ofMove_r tb (sA 18) 9))) 14 1))), (AM 3, .inl (cY 0, 22, .inl rd)), (AM 4, .inl (cY 0, 110, .inl kp)), (AM 5, .inl (cY 0, 8414, .inl td)), (AM 6, .inl (cY 0, 2, .inl wn)), (AM 13, .inl (cY 0, 4, .inl rw)), (AM 14, .inl (cY 0, 4, .inl br))] H := hP1
            have hD : va_D A [(m0, .inr (8, mdL AM g)), (AM 0, .inl (cY 0, 72, .inl tb)), (AM 2, .inl (cY 0, 22, .inl (upd (upd sA 13 ((sA 13) - (X8_ofMove_r tb (sA 18) 9))) 14 1))), (AM 3, .inl (cY 0, 22, .inl rd)), (AM 4, .inl (cY 0, 110, .inl kp)), (AM 5, .inl (cY 0, 8414, .inl td)), (AM 6, .inl (cY 0, 2, .inl wn)), (AM 13, .inl (cY 0, 4, .inl rw)), (AM 14, .inl (cY 0, 4, .inl br))] := hD1
            have hS := hS1
            clear hP1 hD1 hS1
            refine lv_aload_n hx hb dX8_beginKept_146 rfl (lv_at hl 2 rfl) ?_
            refine va_get (D := (dC, dI)) (ci := 8) (v := .ref (AM 2)) (C := RX8) (T := TX8) (N := 17) hx hb hts inw_X8_beginKept_X8 hown hK hP 0 rfl rfl 2 (by decide) (hts (.fieldLink RX8 13 "DuelFramesModel" "s" "[I") (List.mem_of_getElem? (i := 1) rfl)) (fun _ h9 => h9) rfl dX8_beginKept_147 ?_
            refine lv_iload_n hx hb dX8_beginKept_150 rfl (lv_at hl 3 rfl) ?_
            refine lv_iconst (v := 4) hx hb dX8_beginKept_151 (by decide) ?_
            refine lv_iadd hx hb dX8_beginKept_152 ?_
            refine lv_topi (fun x_33 ex_33 => ?_)
            obtain rfl : x_33 = 15 := ex_33.trans (by decide)
            refine lv_iload_n hx hb dX8_beginKept_153 rfl (lv_at hl 1 rfl) ?_
            refine va_iast hx hb hK hP hD hS 2 0 rfl rfl (vin rfl) dX8_beginKept_154 (fun H locs hP1 hD1 hS1 => ?_)
            clear hP hD hS
            have hP : va_P (dC, dI) vwCl [(m0, .inr (8, mdL AM g)), (AM 0, .inl (cY 0, 72, .inl tb)), (AM 2, .inl (cY 0, 22, .inl (upd (upd (upd sA 13 ((sA 13) - (X8_ofMove_r tb (sA 18) 9))) 14 1) 15 (sA 18)))), (AM 3, .inl (cY 0, 22, .inl rd)), (AM 4, .inl (cY 0, 110, .inl kp)), (AM 5, .inl (cY 0, 8414, .inl td)), (AM 6, .inl (cY 0, 2, .inl wn)), (AM 13, .inl (cY 0, 4, .inl rw)), (AM 14, .inl (cY 0, 4, .inl br))] H := hP1
            have hD : va_D A [(m0, .inr (8, mdL AM g)), (AM 0, .inl (cY 0, 72, .inl tb)), (AM 2, .inl (cY 0, 22, .inl (upd (upd (upd sA 13 ((sA 13) - (X8_ofMove_r tb (sA 18) 9))) 14 1) 15 (sA 18)))), (AM 3, .inl (cY 0, 22, .inl rd)), (AM 4, .inl (cY 0, 110, .inl kp)), (AM 5, .inl (cY 0, 8414, .inl td)), (AM 6, .inl (cY 0, 2, .inl wn)), (AM 13, .inl (cY 0, 4, .inl rw)), (AM 14, .inl (cY 0, 4, .inl br))] := hD1
            have hS := hS1
            clear hP1 hD1 hS1
            refine lv_aload_n hx hb dX8_beginKept_155 rfl (lv_at hl 2 rfl) ?_
            refine va_get (D := (dC, dI)) (ci := 8) (v := .ref (AM 2)) (C := RX8) (T := TX8) (N := 17) hx hb hts inw_X8_beginKept_X8 hown hK hP 0 rfl rfl 2 (by decide) (hts (.fieldLink RX8 13 "DuelFramesModel" "s" "[I") (List.mem_of_getElem? (i := 1) rfl)) (fun _ h9 => h9) rfl dX8_beginKept_156 ?_
            refine lv_iload_n hx hb dX8_beginKept_159 rfl (lv_at hl 3 rfl) ?_
            refine lv_iconst (v := 5) hx hb dX8_beginKept_160 (by decide) ?_
            refine lv_iadd hx hb dX8_beginKept_161 ?_
            refine lv_topi (fun x_34 ex_34 => ?_)
            obtain rfl : x_34 = 16 := ex_34.trans (by decide)
            refine lv_iconst (v := 0) hx hb dX8_beginKept_162 (by decide) ?_
            refine va_iast hx hb hK hP hD hS 2 0 rfl rfl (vin rfl) dX8_beginKept_163 (fun H locs hP1 hD1 hS1 => ?_)
            clear hP hD hS
            have hP : va_P (dC, dI) vwCl [(m0, .inr (8, mdL AM g)), (AM 0, .inl (cY 0, 72, .inl tb)), (AM 2, .inl (cY 0, 22, .inl (upd (upd (upd (upd sA 13 ((sA 13) - (X8_ofMove_r tb (sA 18) 9))) 14 1) 15 (sA 18)) 16 0))), (AM 3, .inl (cY 0, 22, .inl rd)), (AM 4, .inl (cY 0, 110, .inl kp)), (AM 5, .inl (cY 0, 8414, .inl td)), (AM 6, .inl (cY 0, 2, .inl wn)), (AM 13, .inl (cY 0, 4, .inl rw)), (AM 14, .inl (cY 0, 4, .inl br))] H := hP1
            have hD : va_D A [(m0, .inr (8, mdL AM g)), (AM 0, .inl (cY 0, 72, .inl tb)), (AM 2, .inl (cY 0, 22, .inl (upd (upd (upd (upd sA 13 ((sA 13) - (X8_ofMove_r tb (sA 18) 9))) 14 1) 15 (sA 18)) 16 0))), (AM 3, .inl (cY 0, 22, .inl rd)), (AM 4, .inl (cY 0, 110, .inl kp)), (AM 5, .inl (cY 0, 8414, .inl td)), (AM 6, .inl (cY 0, 2, .inl wn)), (AM 13, .inl (cY 0, 4, .inl rw)), (AM 14, .inl (cY 0, 4, .inl br))] := hD1
            have hS := hS1
            clear hP1 hD1 hS1
            refine lv_aload_n hx hb dX8_beginKept_164 rfl (lv_at hl 2 rfl) ?_
            refine va_get (D := (dC, dI)) (ci := 8) (v := .ref (AM 2)) (C := RX8) (T := TX8) (N := 17) hx hb hts inw_X8_beginKept_X8 hown hK hP 0 rfl rfl 2 (by decide) (hts (.fieldLink RX8 13 "DuelFramesModel" "s" "[I") (List.mem_of_getElem? (i := 1) rfl)) (fun _ h9 => h9) rfl dX8_beginKept_165 ?_
            refine lv_iload_n hx hb dX8_beginKept_168 rfl (lv_at hl 3 rfl) ?_
            refine lv_bipush (v := 9) hx hb dX8_beginKept_169 (by decide) ?_
            refine lv_iadd hx hb dX8_beginKept_171 ?_
            refine lv_topi (fun x_35 ex_35 => ?_)
            obtain rfl : x_35 = 20 := ex_35.trans (by decide)
            refine lv_iconst (v := (-1)) hx hb dX8_beginKept_172 (by decide) ?_
            refine va_iast hx hb hK hP hD hS 2 0 rfl rfl (vin rfl) dX8_beginKept_173 (fun H locs hP1 hD1 hS1 => ?_)
            clear hP hD hS
            have hP : va_P (dC, dI) vwCl [(m0, .inr (8, mdL AM g)), (AM 0, .inl (cY 0, 72, .inl tb)), (AM 2, .inl (cY 0, 22, .inl (upd (upd (upd (upd (upd sA 13 ((sA 13) - (X8_ofMove_r tb (sA 18) 9))) 14 1) 15 (sA 18)) 16 0) 20 (-1)))), (AM 3, .inl (cY 0, 22, .inl rd)), (AM 4, .inl (cY 0, 110, .inl kp)), (AM 5, .inl (cY 0, 8414, .inl td)), (AM 6, .inl (cY 0, 2, .inl wn)), (AM 13, .inl (cY 0, 4, .inl rw)), (AM 14, .inl (cY 0, 4, .inl br))] H := hP1
            have hD : va_D A [(m0, .inr (8, mdL AM g)), (AM 0, .inl (cY 0, 72, .inl tb)), (AM 2, .inl (cY 0, 22, .inl (upd (upd (upd (upd (upd sA 13 ((sA 13) - (X8_ofMove_r tb (sA 18) 9))) 14 1) 15 (sA 18)) 16 0) 20 (-1)))), (AM 3, .inl (cY 0, 22, .inl rd)), (AM 4, .inl (cY 0, 110, .inl kp)), (AM 5, .inl (cY 0, 8414, .inl td)), (AM 6, .inl (cY 0, 2, .inl wn)), (AM 13, .inl (cY 0, 4, .inl rw)), (AM 14, .inl (cY 0, 4, .inl br))] := hD1
            have hS := hS1
            clear hP1 hD1 hS1
            refine lv_aload_n hx hb dX8_beginKept_174 rfl (lv_at hl 2 rfl) ?_
            refine va_get (D := (dC, dI)) (ci := 8) (v := .ref (AM 2)) (C := RX8) (T := TX8) (N := 17) hx hb hts inw_X8_beginKept_X8 hown hK hP 0 rfl rfl 2 (by decide) (hts (.fieldLink RX8 13 "DuelFramesModel" "s" "[I") (List.mem_of_getElem? (i := 1) rfl)) (fun _ h9 => h9) rfl dX8_beginKept_175 ?_
            refine lv_iload_n hx hb dX8_beginKept_178 rfl (lv_at hl 3 rfl) ?_
            refine lv_bipush (v := 7) hx hb dX8_beginKept_179 (by decide) ?_
            refine lv_iadd hx hb dX8_beginKept_181 ?_
            refine lv_topi (fun x_36 ex_36 => ?_)
            obtain rfl : x_36 = 18 := ex_36.trans (by decide)
            refine lv_iconst (v := (-1)) hx hb dX8_beginKept_182 (by decide) ?_
            refine va_iast hx hb hK hP hD hS 2 0 rfl rfl (vin rfl) dX8_beginKept_183 (fun H locs hP1 hD1 hS1 => ?_)
            clear hP hD hS
            have hP : va_P (dC, dI) vwCl [(m0, .inr (8, mdL AM g)), (AM 0, .inl (cY 0, 72, .inl tb)), (AM 2, .inl (cY 0, 22, .inl (upd (upd (upd (upd (upd (upd sA 13 ((sA 13) - (X8_ofMove_r tb (sA 18) 9))) 14 1) 15 (sA 18)) 16 0) 20 (-1)) 18 (-1)))), (AM 3, .inl (cY 0, 22, .inl rd)), (AM 4, .inl (cY 0, 110, .inl kp)), (AM 5, .inl (cY 0, 8414, .inl td)), (AM 6, .inl (cY 0, 2, .inl wn)), (AM 13, .inl (cY 0, 4, .inl rw)), (AM 14, .inl (cY 0, 4, .inl br))] H := hP1
            have hD : va_D A [(m0, .inr (8, mdL AM g)), (AM 0, .inl (cY 0, 72, .inl tb)), (AM 2, .inl (cY 0, 22, .inl (upd (upd (upd (upd (upd (upd sA 13 ((sA 13) - (X8_ofMove_r tb (sA 18) 9))) 14 1) 15 (sA 18)) 16 0) 20 (-1)) 18 (-1)))), (AM 3, .inl (cY 0, 22, .inl rd)), (AM 4, .inl (cY 0, 110, .inl kp)), (AM 5, .inl (cY 0, 8414, .inl td)), (AM 6, .inl (cY 0, 2, .inl wn)), (AM 13, .inl (cY 0, 4, .inl rw)), (AM 14, .inl (cY 0, 4, .inl br))] := hD1
            have hS := hS1
            clear hP1 hD1 hS1
            refine lv_aload_n hx hb dX8_beginKept_184 rfl (lv_at hl 2 rfl) ?_
            refine va_get (D := (dC, dI)) (ci := 8) (v := .ref (AM 2)) (C := RX8) (T := TX8) (N := 17) hx hb hts inw_X8_beginKept_X8 hown hK hP 0 rfl rfl 2 (by decide) (hts (.fieldLink RX8 13 "DuelFramesModel" "s" "[I") (List.mem_of_getElem? (i := 1) rfl)) (fun _ h9 => h9) rfl dX8_beginKept_185 ?_
            refine lv_iload_n hx hb dX8_beginKept_188 rfl (lv_at hl 3 rfl) ?_
            refine lv_bipush (v := 8) hx hb dX8_beginKept_189 (by decide) ?_
            refine lv_iadd hx hb dX8_beginKept_191 ?_
            refine lv_topi (fun x_37 ex_37 => ?_)
            obtain rfl : x_37 = 19 := ex_37.trans (by decide)
            refine lv_iconst (v := 0) hx hb dX8_beginKept_192 (by decide) ?_
            refine va_iast hx hb hK hP hD hS 2 0 rfl rfl (vin rfl) dX8_beginKept_193 (fun H locs hP1 hD1 hS1 => ?_)
            clear hP hD hS
            have hP : va_P (dC, dI) vwCl [(m0, .inr (8, mdL AM g)), (AM 0, .inl (cY 0, 72, .inl tb)), (AM 2, .inl (cY 0, 22, .inl (upd (upd (upd (upd (upd (upd (upd sA 13 ((sA 13) - (X8_ofMove_r tb (sA 18) 9))) 14 1) 15 (sA 18)) 16 0) 20 (-1)) 18 (-1)) 19 0))), (AM 3, .inl (cY 0, 22, .inl rd)), (AM 4, .inl (cY 0, 110, .inl kp)), (AM 5, .inl (cY 0, 8414, .inl td)), (AM 6, .inl (cY 0, 2, .inl wn)), (AM 13, .inl (cY 0, 4, .inl rw)), (AM 14, .inl (cY 0, 4, .inl br))] H := hP1
            have hD : va_D A [(m0, .inr (8, mdL AM g)), (AM 0, .inl (cY 0, 72, .inl tb)), (AM 2, .inl (cY 0, 22, .inl (upd (upd (upd (upd (upd (upd (upd sA 13 ((sA 13) - (X8_ofMove_r tb (sA 18) 9))) 14 1) 15 (sA 18)) 16 0) 20 (-1)) 18 (-1)) 19 0))), (AM 3, .inl (cY 0, 22, .inl rd)), (AM 4, .inl (cY 0, 110, .inl kp)), (AM 5, .inl (cY 0, 8414, .inl td)), (AM 6, .inl (cY 0, 2, .inl wn)), (AM 13, .inl (cY 0, 4, .inl rw)), (AM 14, .inl (cY 0, 4, .inl br))] := hD1
            have hS := hS1
            clear hP1 hD1 hS1
            refine lv_iconst (v := 1) hx hb dX8_beginKept_194 (by decide) ?_
            have eo_38 : (X8_beginKept11_r tb sA) = 1 := by rw [X8_beginKept11_r]; simp only [eq_false c_3, eq_true c_9, eq_false c_16, eq_false c_28, ↓reduceIte]
            have eo_39 : (X8_beginKept11_w2 tb sA) = (upd (upd (upd (upd (upd (upd (upd sA 13 ((sA 13) - (X8_ofMove_r tb (sA 18) 9))) 14 1) 15 (sA 18)) 16 0) 20 (-1)) 18 (-1)) 19 0) := by rw [X8_beginKept11_w2]; simp only [eq_false c_3, eq_true c_9, eq_false c_16, eq_false c_28, ↓reduceIte]
            have hP9 : va_P (dC, dI) vwCl [(m0, .inr (8, mdL AM g)), (AM 0, .inl (cY 0, 72, .inl tb)), (AM 2, .inl (cY 0, 22, .inl (X8_beginKept11_w2 tb sA))), (AM 3, .inl (cY 0, 22, .inl rd)), (AM 4, .inl (cY 0, 110, .inl kp)), (AM 5, .inl (cY 0, 8414, .inl td)), (AM 6, .inl (cY 0, 2, .inl wn)), (AM 13, .inl (cY 0, 4, .inl rw)), (AM 14, .inl (cY 0, 4, .inl br))] H := by simp only [eo_39]; exact hP
            have hD9 : va_D A [(m0, .inr (8, mdL AM g)), (AM 0, .inl (cY 0, 72, .inl tb)), (AM 2, .inl (cY 0, 22, .inl (X8_beginKept11_w2 tb sA))), (AM 3, .inl (cY 0, 22, .inl rd)), (AM 4, .inl (cY 0, 110, .inl kp)), (AM 5, .inl (cY 0, 8414, .inl td)), (AM 6, .inl (cY 0, 2, .inl wn)), (AM 13, .inl (cY 0, 4, .inl rw)), (AM 14, .inl (cY 0, 4, .inl br))] := by simp only [eo_39]; exact hD
            exact W.zret (v := 1) (ty := .boolean) hx hb hr rfl (fun t ht hW => ⟨⟨_, (), rfl, ⟨eo_38.symm, (by decide)⟩, wPost_of hP9 hD9 ht⟩, hS.F ht⟩) hS.2.2 dX8_beginKept_195
          · refine lv_iconst (v := 0) hx hb dX8_beginKept_117 (by decide) ?_
            have eo_40 : (X8_beginKept11_r tb sA) = 0 := by rw [X8_beginKept11_r]; simp only [eq_false c_3, eq_true c_9, eq_false c_16, eq_true c_28, ↓reduceIte]
            have eo_41 : (X8_beginKept11_w2 tb sA) = sA := by rw [X8_beginKept11_w2]; simp only [eq_false c_3, eq_true c_9, eq_false c_16, eq_true c_28, ↓reduceIte]
            have hP9 : va_P (dC, dI) vwCl [(m0, .inr (8, mdL AM g)), (AM 0, .inl (cY 0, 72, .inl tb)), (AM 2, .inl (cY 0, 22, .inl (X8_beginKept11_w2 tb sA))), (AM 3, .inl (cY 0, 22, .inl rd)), (AM 4, .inl (cY 0, 110, .inl kp)), (AM 5, .inl (cY 0, 8414, .inl td)), (AM 6, .inl (cY 0, 2, .inl wn)), (AM 13, .inl (cY 0, 4, .inl rw)), (AM 14, .inl (cY 0, 4, .inl br))] H := by simp only [eo_41]; exact hP
            have hD9 : va_D A [(m0, .inr (8, mdL AM g)), (AM 0, .inl (cY 0, 72, .inl tb)), (AM 2, .inl (cY 0, 22, .inl (X8_beginKept11_w2 tb sA))), (AM 3, .inl (cY 0, 22, .inl rd)), (AM 4, .inl (cY 0, 110, .inl kp)), (AM 5, .inl (cY 0, 8414, .inl td)), (AM 6, .inl (cY 0, 2, .inl wn)), (AM 13, .inl (cY 0, 4, .inl rw)), (AM 14, .inl (cY 0, 4, .inl br))] := by simp only [eo_41]; exact hD
            exact W.zret (v := 0) (ty := .boolean) hx hb hr rfl (fun t ht hW => ⟨⟨_, (), rfl, ⟨eo_40.symm, (by decide)⟩, wPost_of hP9 hD9 ht⟩, hS.F ht⟩) hS.2.2 dX8_beginKept_118
      · intro jn_13
        refine lv_icmp_ne (tgt := 100) hx hb dX8_beginKept_44 (by decide) (fun c_12 => ?_) (fun c_12 => ?_)
        · refine lv_iconst (v := 0) hx hb dX8_beginKept_100 (by decide) ?_
          have e_42 : (X8_beginKept11_j101 tb sA) = 0 := by rw [X8_beginKept11_j101]; simp only [eq_false c_12, ↓reduceIte]
          refine W.eq (g2 := F0 m 101 ls [.int (X8_beginKept11_j101 tb sA)]) (by simp only [e_42]) ?_
          exact jn_13 _ _ _ (by (try simp only [e_42]); exact hP) (by (try simp only [e_42]); exact hD) hS (by (try simp only [e_42]); exact (lv_sub hl [0, 1, 2] rfl))
        · refine lv_aload_n hx hb dX8_beginKept_47 rfl (lv_at hl 1 rfl) ?_
          refine va_get (D := (dC, dI)) (ci := 8) (v := .ref (AM 2)) (C := RX8) (T := TX8) (N := 17) hx hb hts inw_X8_beginKept_X8 hown hK hP 0 rfl rfl 2 (by decide) (hts (.fieldLink RX8 13 "DuelFramesModel" "s" "[I") (List.mem_of_getElem? (i := 1) rfl)) (fun _ h9 => h9) rfl dX8_beginKept_48 ?_
          refine lv_iload_n hx hb dX8_beginKept_51 rfl (lv_at hl 2 rfl) ?_
          refine lv_bipush (v := 9) hx hb dX8_beginKept_52 (by decide) ?_
          refine lv_iadd hx hb dX8_beginKept_54 ?_
          refine lv_topi (fun x_43 ex_43 => ?_)
          obtain rfl : x_43 = 20 := ex_43.trans (by decide)
          refine va_iald hx hb hK hP 2 0 rfl rfl (vin rfl) dX8_beginKept_55 ?_
          refine lv_topi (fun x_44 ex_44 => ?_)
          obtain rfl : x_44 = (sA 20) := ex_44
          refine lv_iconst (v := (-1)) hx hb dX8_beginKept_56 (by decide) ?_
          refine lv_icmp_eq (tgt := 100) hx hb dX8_beginKept_57 (by decide) (fun c_45 => ?_) (fun c_45 => ?_)
          · refine lv_iconst (v := 0) hx hb dX8_beginKept_100 (by decide) ?_
            have e_46 : (X8_beginKept11_j101 tb sA) = 0 := by rw [X8_beginKept11_j101]; simp only [eq_true c_12, eq_true c_45, ↓reduceIte]
            refine W.eq (g2 := F0 m 101 ls [.int (X8_beginKept11_j101 tb sA)]) (by simp only [e_46]) ?_
            exact jn_13 _ _ _ (by (try simp only [e_46]); exact hP) (by (try simp only [e_46]); exact hD) hS (by (try simp only [e_46]); exact (lv_sub hl [0, 1, 2] rfl))
          · refine lv_aload_n hx hb dX8_beginKept_60 rfl (lv_at hl 1 rfl) ?_
            refine va_get (D := (dC, dI)) (ci := 8) (v := .ref (AM 2)) (C := RX8) (T := TX8) (N := 17) hx hb hts inw_X8_beginKept_X8 hown hK hP 0 rfl rfl 2 (by decide) (hts (.fieldLink RX8 13 "DuelFramesModel" "s" "[I") (List.mem_of_getElem? (i := 1) rfl)) (fun _ h9 => h9) rfl dX8_beginKept_61 ?_
            refine lv_iload_n hx hb dX8_beginKept_64 rfl (lv_at hl 2 rfl) ?_
            refine lv_bipush (v := 9) hx hb dX8_beginKept_65 (by decide) ?_
            refine lv_iadd hx hb dX8_beginKept_67 ?_
            refine lv_topi (fun x_47 ex_47 => ?_)
            obtain rfl : x_47 = 20 := ex_47.trans (by decide)
            refine va_iald hx hb hK hP 2 0 rfl rfl (vin rfl) dX8_beginKept_68 ?_
            refine lv_topi (fun x_48 ex_48 => ?_)
            obtain rfl : x_48 = (sA 20) := ex_48
            refine lv_bipush (v := 10) hx hb dX8_beginKept_69 (by decide) ?_
            refine lv_icmp_gt (tgt := 100) hx hb dX8_beginKept_71 (by decide) (fun c_49 => ?_) (fun c_49 => ?_)
            · refine lv_iconst (v := 0) hx hb dX8_beginKept_100 (by decide) ?_
              have e_50 : (X8_beginKept11_j101 tb sA) = 0 := by rw [X8_beginKept11_j101]; simp only [eq_true c_12, eq_false c_45, eq_true c_49, ↓reduceIte]
              refine W.eq (g2 := F0 m 101 ls [.int (X8_beginKept11_j101 tb sA)]) (by simp only [e_50]) ?_
              exact jn_13 _ _ _ (by (try simp only [e_50]); exact hP) (by (try simp only [e_50]); exact hD) hS (by (try simp only [e_50]); exact (lv_sub hl [0, 1, 2] rfl))
            · refine lv_aload_n hx hb dX8_beginKept_74 rfl (lv_at hl 1 rfl) ?_
              refine lv_aload_n hx hb dX8_beginKept_75 rfl (lv_at hl 1 rfl) ?_
              refine va_get (D := (dC, dI)) (ci := 8) (v := .ref (AM 2)) (C := RX8) (T := TX8) (N := 17) hx hb hts inw_X8_beginKept_X8 hown hK hP 0 rfl rfl 2 (by decide) (hts (.fieldLink RX8 13 "DuelFramesModel" "s" "[I") (List.mem_of_getElem? (i := 1) rfl)) (fun _ h9 => h9) rfl dX8_beginKept_76 ?_
              refine lv_iload_n hx hb dX8_beginKept_79 rfl (lv_at hl 2 rfl) ?_
              refine lv_iconst (v := 4) hx hb dX8_beginKept_80 (by decide) ?_
              refine lv_iadd hx hb dX8_beginKept_81 ?_
              refine lv_topi (fun x_51 ex_51 => ?_)
              obtain rfl : x_51 = 15 := ex_51.trans (by decide)
              refine va_iald hx hb hK hP 2 0 rfl rfl (vin rfl) dX8_beginKept_82 ?_
              refine lv_topi (fun x_52 ex_52 => ?_)
              obtain rfl : x_52 = (sA 15) := ex_52
              refine lv_bipush (v := 11) hx hb dX8_beginKept_83 (by decide) ?_
              refine vp_callSi (W.runV (As := [.int (sA 15), .int 11]) (rest := []) ⟨hx, hb, hml, hown, hts⟩ (c_X8_ofMove l dC dI cY m0 AM g tb sA rd kp td wn rw br (sA 15) 11 (tb_in (hs.2.2.2 c_12) (vin rfl))) (cwV 2 hts gX8_beginKept_X8_ofMove rfl rfl rfl (by decide +kernel) ⟨Nat.le_of_ble_eq_true rfl, Nat.le_of_ble_eq_true rfl⟩) ⟨blindR, va_recv hK hP (ci := 8) (q0 := 0) rfl rfl, fun U hU hW => ⟨rfl, rPre_of hP hK hN U hU hW⟩⟩ rfl rfl hl.1 rfl (lv_room (Nat.le_of_ble_eq_true rfl)) dX8_beginKept_85 ⟨Nat.zero_le _, Nat.zero_le _⟩) (fun r_53 hw => ?_)
              subst hw
              refine lv_iload_n hx hb dX8_beginKept_88 rfl (lv_at hl 0 rfl) ?_
              refine lv_ishr hx hb dX8_beginKept_89 ?_
              refine lv_iconst (v := 1) hx hb dX8_beginKept_90 (by decide) ?_
              refine lv_iand hx hb dX8_beginKept_91 ?_
              refine lv_iconst (v := 1) hx hb dX8_beginKept_92 (by decide) ?_
              refine lv_icmp_ne (tgt := 100) hx hb dX8_beginKept_93 (by decide) (fun c_54 => ?_) (fun c_54 => ?_)
              · refine lv_iconst (v := 0) hx hb dX8_beginKept_100 (by decide) ?_
                have e_55 : (X8_beginKept11_j101 tb sA) = 0 := by rw [X8_beginKept11_j101]; simp only [eq_true c_12, eq_false c_45, eq_false c_49, eq_false c_54, ↓reduceIte]
                refine W.eq (g2 := F0 m 101 ls [.int (X8_beginKept11_j101 tb sA)]) (by simp only [e_55]) ?_
                exact jn_13 _ _ _ (by (try simp only [e_55]); exact hP) (by (try simp only [e_55]); exact hD) hS (by (try simp only [e_55]); exact (lv_sub hl [0, 1, 2] rfl))
              · refine lv_iconst (v := 1) hx hb dX8_beginKept_96 (by decide) ?_
                refine lv_goto (tgt := 101) hx hb dX8_beginKept_97 (by decide) ?_
                have e_56 : (X8_beginKept11_j101 tb sA) = 1 := by rw [X8_beginKept11_j101]; simp only [eq_true c_12, eq_false c_45, eq_false c_49, eq_true c_54, ↓reduceIte]
                refine W.eq (g2 := F0 m 101 ls [.int (X8_beginKept11_j101 tb sA)]) (by simp only [e_56]) ?_
                exact jn_13 _ _ _ (by (try simp only [e_56]); exact hP) (by (try simp only [e_56]); exact hD) hS (by (try simp only [e_56]); exact (lv_sub hl [0, 1, 2] rfl))
    · refine lv_iconst (v := 0) hx hb dX8_beginKept_33 (by decide) ?_
      have eo_57 : (X8_beginKept11_r tb sA) = 0 := by rw [X8_beginKept11_r]; simp only [eq_false c_3, eq_false c_9, ↓reduceIte]
      have eo_58 : (X8_beginKept11_w2 tb sA) = sA := by rw [X8_beginKept11_w2]; simp only [eq_false c_3, eq_false c_9, ↓reduceIte]
      have hP9 : va_P (dC, dI) vwCl [(m0, .inr (8, mdL AM g)), (AM 0, .inl (cY 0, 72, .inl tb)), (AM 2, .inl (cY 0, 22, .inl (X8_beginKept11_w2 tb sA))), (AM 3, .inl (cY 0, 22, .inl rd)), (AM 4, .inl (cY 0, 110, .inl kp)), (AM 5, .inl (cY 0, 8414, .inl td)), (AM 6, .inl (cY 0, 2, .inl wn)), (AM 13, .inl (cY 0, 4, .inl rw)), (AM 14, .inl (cY 0, 4, .inl br))] s.heap := by simp only [eo_58]; exact hP
      have hD9 : va_D A [(m0, .inr (8, mdL AM g)), (AM 0, .inl (cY 0, 72, .inl tb)), (AM 2, .inl (cY 0, 22, .inl (X8_beginKept11_w2 tb sA))), (AM 3, .inl (cY 0, 22, .inl rd)), (AM 4, .inl (cY 0, 110, .inl kp)), (AM 5, .inl (cY 0, 8414, .inl td)), (AM 6, .inl (cY 0, 2, .inl wn)), (AM 13, .inl (cY 0, 4, .inl rw)), (AM 14, .inl (cY 0, 4, .inl br))] := by simp only [eo_58]; exact hD
      exact W.zret (v := 0) (ty := .boolean) hx hb hr rfl (fun t ht hW => ⟨⟨_, (), rfl, ⟨eo_57.symm, (by decide)⟩, wPost_of hP9 hD9 ht⟩, hS.F ht⟩) hS.2.2 dX8_beginKept_34
theorem inw_X8_go_X8 : ∀ w ∈ u_ws RX8 TX8 17, w ∈ wsX8_go := fun _ h => List.mem_cons_of_mem _ (List.mem_append_right _ h)
def X8_go_j36 (one : Int32) : Int32 := (if one = 1 then 4 else (if one = 2 then (-3) else 0))
def X8_go_j38 (sA : Nat → Int32) (one : Int32) : Nat → Int32 := (if (sA 3) = 0 then (upd sA 0 ((sA 0) + (X8_go_j36 one))) else sA)
def X8_go_j76 (two : Int32) : Int32 := (if two = 1 then (-4) else (if two = 2 then 3 else 0))
def X8_go_j78 (sA : Nat → Int32) (one : Int32) (two : Int32) : Nat → Int32 := (if ((X8_go_j38 sA one) 14) = 0 then (upd (X8_go_j38 sA one) 11 (((X8_go_j38 sA one) 11) + (X8_go_j76 two))) else (X8_go_j38 sA one))
def X8_go_j127 (sA : Nat → Int32) (one : Int32) (two : Int32) : Nat → Int32 := (if (20 - (((X8_go_j78 sA one two) 11) - ((X8_go_j78 sA one two) 0))) ≤ 0 then (X8_go_j78 sA one two) else (upd (upd (X8_go_j78 sA one two) 0 (((X8_go_j78 sA one two) 0) - ((20 - (((X8_go_j78 sA one two) 11) - ((X8_go_j78 sA one two) 0))) / 2))) 11 (((X8_go_j78 sA one two) 11) + ((20 - (((X8_go_j78 sA one two) 11) - ((X8_go_j78 sA one two) 0))) - ((20 - (((X8_go_j78 sA one two) 11) - ((X8_go_j78 sA one two) 0))) / 2)))))
def X8_go_j173 (sA : Nat → Int32) (one : Int32) (two : Int32) : Int32 := (if 20 ≤ ((X8_go_j127 sA one two) 11) then ((X8_go_j127 sA one two) 11) else 20)
def X8_go_j174 (sA : Nat → Int32) (one : Int32) (two : Int32) : Nat → Int32 := (if 0 ≤ ((X8_go_j127 sA one two) 0) then (X8_go_j127 sA one two) else (upd (upd (X8_go_j127 sA one two) 0 0) 11 (X8_go_j173 sA one two)))
def X8_go_j226 (sA : Nat → Int32) (one : Int32) (two : Int32) : Int32 := (if ((X8_go_j174 sA one two) 0) ≤ 580 then ((X8_go_j174 sA one two) 0) else 580)
def X8_go_w2 (sA : Nat → Int32) (one : Int32) (two : Int32) : Nat → Int32 := (if ((X8_go_j174 sA one two) 11) ≤ 600 then (X8_go_j174 sA one two) else (upd (upd (X8_go_j174 sA one two) 11 600) 0 (X8_go_j226 sA one two)))
set_option maxHeartbeats 4000000 in
set_option maxRecDepth 100000 in
theorem c_X8_go (l : Launch) (dC : Nat → ClassId) (dI : Nat → Nat → Nat) (cY : Nat → ClassId) (m0 : Nat) (AM : Nat → Nat) (g : Nat → Int32) (tb : Nat → Int32) (sA : Nat → Int32) (rd : Nat → Int32) (kp : Nat → Int32) (td : Nat → Int32) (wn : Nat → Int32) (rw : Nat → Int32) (br : Nat → Int32) (one : Int32) (two : Int32)  (sz : Nat) : Met l yX8_go wsX8_go ({ frames := 0, cells := 0, slots := 0, locals := 0 } : Room) (va_Pc [.ref m0, .int one, .int two] (wPre (dC, dI) (tyL cY) [(m0, .inr (8, mdL AM g)), (AM 0, .inl (cY 0, 72, .inl tb)), (AM 2, .inl (cY 0, 22, .inl sA)), (AM 3, .inl (cY 0, 22, .inl rd)), (AM 4, .inl (cY 0, 110, .inl kp)), (AM 5, .inl (cY 0, 8414, .inl td)), (AM 6, .inl (cY 0, 2, .inl wn)), (AM 13, .inl (cY 0, 4, .inl rw)), (AM 14, .inl (cY 0, 4, .inl br))] sz)) (va_Qv (fun _ : Unit => True) (wPost (dC, dI) [(m0, .inr (8, mdL AM g)), (AM 0, .inl (cY 0, 72, .inl tb)), (AM 2, .inl (cY 0, 22, .inl (X8_go_w2 sA one two))), (AM 3, .inl (cY 0, 22, .inl rd)), (AM 4, .inl (cY 0, 110, .inl kp)), (AM 5, .inl (cY 0, 8414, .inl td)), (AM 6, .inl (cY 0, 2, .inl wn)), (AM 13, .inl (cY 0, 4, .inl rw)), (AM 14, .inl (cY 0, 4, .inl br))] (va_A [(m0, .inr (8, mdL AM g)), (AM 0, .inl (cY 0, 72, .inl tb)), (AM 2, .inl (cY 0, 22, .inl sA)), (AM 3, .inl (cY 0, 22, .inl rd)), (AM 4, .inl (cY 0, 110, .inl kp)), (AM 5, .inl (cY 0, 8414, .inl td)), (AM 6, .inl (cY 0, 2, .inl wn)), (AM 13, .inl (cY 0, 4, .inl rw)), (AM 14, .inl (cY 0, 4, .inl br))] sz)) (va_A [(m0, .inr (8, mdL AM g)), (AM 0, .inl (cY 0, 72, .inl tb)), (AM 2, .inl (cY 0, 22, .inl sA)), (AM 3, .inl (cY 0, 22, .inl rd)), (AM 4, .inl (cY 0, 110, .inl kp)), (AM 5, .inl (cY 0, 8414, .inl td)), (AM 6, .inl (cY 0, 2, .inl wn)), (AM 13, .inl (cY 0, 4, .inl rw)), (AM 14, .inl (cY 0, 4, .inl br))] sz)) 0 0 (va_A [(m0, .inr (8, mdL AM g)), (AM 0, .inl (cY 0, 72, .inl tb)), (AM 2, .inl (cY 0, 22, .inl sA)), (AM 3, .inl (cY 0, 22, .inl rd)), (AM 4, .inl (cY 0, 110, .inl kp)), (AM 5, .inl (cY 0, 8414, .inl td)), (AM 6, .inl (cY 0, 2, .inl wn)), (AM 13, .inl (cY 0, 4, .inl rw)), (AM 14, .inl (cY 0, 4, .inl br))] sz) := by
  refine Met.ofW (cc := cX8_go) (maxL := 4) (ret := none) (by decide) rfl ?_
  intro p e s m args below meth c s₁ B hml hv
  obtain ⟨rfl, hsz, hP, hK, hN, hD0⟩ := hv
  have hx := B.exec
  have hb := B.bytes
  have hr := B.returns
  have hts := atoms_spec (ws := wsX8_go) B.pre
  have hown : s.vm.findClass RX8 = some m.cls := findClass_of_methodNamed B.named
  have hlocks := B.notSynchronized
  subst hsz
  have hD := hD0.self (sz := s.heap.size)
  generalize hAe : va_A [(m0, .inr (8, mdL AM g)), (AM 0, .inl (cY 0, 72, .inl tb)), (AM 2, .inl (cY 0, 22, .inl sA)), (AM 3, .inl (cY 0, 22, .inl rd)), (AM 4, .inl (cY 0, 110, .inl kp)), (AM 5, .inl (cY 0, 8414, .inl td)), (AM 6, .inl (cY 0, 2, .inl wn)), (AM 13, .inl (cY 0, 4, .inl rw)), (AM 14, .inl (cY 0, 4, .inl br))] s.heap.size = A at hD ⊢
  have hA : ∀ q : Nat, s.heap.size ≤ q → A q := fun q h => by rw [← hAe]; exact Or.inr h
  have hS : va_S A s.heap s.heap [] := va_S.rf
  have hP : va_P (dC, dI) vwCl [(m0, .inr (8, mdL AM g)), (AM 0, .inl (cY 0, 72, .inl tb)), (AM 2, .inl (cY 0, 22, .inl sA)), (AM 3, .inl (cY 0, 22, .inl rd)), (AM 4, .inl (cY 0, 110, .inl kp)), (AM 5, .inl (cY 0, 8414, .inl td)), (AM 6, .inl (cY 0, 2, .inl wn)), (AM 13, .inl (cY 0, 4, .inl rw)), (AM 14, .inl (cY 0, 4, .inl br))] s.heap := hP
  have hl := lv_entry ([.ref m0, .int one, .int two]) (n := 4) (Nat.le_of_ble_eq_true rfl)
  rw [lg_entry_eq]
  generalize (lg_sl ([.ref m0, .int one, .int two]) ++ List.replicate (4 - (lg_sl ([.ref m0, .int one, .int two])).length) Slot.unset).toArray = ls at hl ⊢
  have hl : lv_has ls 4 [(0, .ref m0), (1, .int one), (2, .int two)] := hl
  refine lv_aload_n hx hb dX8_go_0 rfl (lv_at hl 0 rfl) ?_
  refine va_get (D := (dC, dI)) (ci := 8) (v := .ref (AM 2)) (C := RX8) (T := TX8) (N := 17) hx hb hts inw_X8_go_X8 hown hK hP 0 rfl rfl 2 (by decide) (hts (.fieldLink RX8 13 "DuelFramesModel" "s" "[I") (List.mem_of_getElem? (i := 1) rfl)) (fun _ h9 => h9) rfl dX8_go_1 ?_
  refine lv_iconst (v := 3) hx hb dX8_go_4 (by decide) ?_
  refine va_iald hx hb hK hP 2 0 rfl rfl (vin rfl) dX8_go_5 ?_
  refine lv_topi (fun x_1 ex_1 => ?_)
  obtain rfl : x_1 = (sA 3) := ex_1
  refine jnW (D := (dC, dI)) (ws := [(m0, .inr (8, mdL AM g)), (AM 0, .inl (cY 0, 72, .inl tb)), (AM 2, .inl (cY 0, 22, .inl (X8_go_j38 sA one))), (AM 3, .inl (cY 0, 22, .inl rd)), (AM 4, .inl (cY 0, 110, .inl kp)), (AM 5, .inl (cY 0, 8414, .inl td)), (AM 6, .inl (cY 0, 2, .inl wn)), (AM 13, .inl (cY 0, 4, .inl rw)), (AM 14, .inl (cY 0, 4, .inl br))]) (lv := [(0, .ref m0), (2, .int two)]) (st := []) (J := 38) (n := 4) (A := A) (H0 := s.heap) ?_ ?_
  · intro H locs ls hP hD hS hl
    obtain ⟨z_4, ez_4⟩ : ∃ z, z = (X8_go_j38 sA one) := ⟨_, rfl⟩
    rw [← ez_4] at hP hD
    refine lv_aload_n hx hb dX8_go_38 rfl (lv_at hl 0 rfl) ?_
    refine va_get (D := (dC, dI)) (ci := 8) (v := .ref (AM 2)) (C := RX8) (T := TX8) (N := 17) hx hb hts inw_X8_go_X8 hown hK hP 0 rfl rfl 2 (by decide) (hts (.fieldLink RX8 13 "DuelFramesModel" "s" "[I") (List.mem_of_getElem? (i := 1) rfl)) (fun _ h9 => h9) rfl dX8_go_39 ?_
    refine lv_bipush (v := 14) hx hb dX8_go_42 (by decide) ?_
    refine va_iald hx hb hK hP 2 0 rfl rfl (vin rfl) dX8_go_44 ?_
    refine lv_topi (fun x_5 ex_5 => ?_)
    obtain rfl : x_5 = (z_4 14) := ex_5
    refine jnW (D := (dC, dI)) (ws := [(m0, .inr (8, mdL AM g)), (AM 0, .inl (cY 0, 72, .inl tb)), (AM 2, .inl (cY 0, 22, .inl (X8_go_j78 sA one two))), (AM 3, .inl (cY 0, 22, .inl rd)), (AM 4, .inl (cY 0, 110, .inl kp)), (AM 5, .inl (cY 0, 8414, .inl td)), (AM 6, .inl (cY 0, 2, .inl wn)), (AM 13, .inl (cY 0, 4, .inl rw)), (AM 14, .inl (cY 0, 4, .inl br))]) (lv := [(0, .ref m0)]) (st := []) (J := 78) (n := 4) (A := A) (H0 := s.heap) ?_ ?_
    · intro H locs ls hP hD hS hl
      obtain ⟨z_8, ez_8⟩ : ∃ z, z = (X8_go_j78 sA one two) := ⟨_, rfl⟩
      rw [← ez_8] at hP hD
      refine lv_bipush (v := 20) hx hb dX8_go_78 (by decide) ?_
      refine lv_aload_n hx hb dX8_go_80 rfl (lv_at hl 0 rfl) ?_
      refine va_get (D := (dC, dI)) (ci := 8) (v := .ref (AM 2)) (C := RX8) (T := TX8) (N := 17) hx hb hts inw_X8_go_X8 hown hK hP 0 rfl rfl 2 (by decide) (hts (.fieldLink RX8 13 "DuelFramesModel" "s" "[I") (List.mem_of_getElem? (i := 1) rfl)) (fun _ h9 => h9) rfl dX8_go_81 ?_
      refine lv_bipush (v := 11) hx hb dX8_go_84 (by decide) ?_
      refine va_iald hx hb hK hP 2 0 rfl rfl (vin rfl) dX8_go_86 ?_
      refine lv_topi (fun x_9 ex_9 => ?_)
      obtain rfl : x_9 = (z_8 11) := ex_9
      refine lv_aload_n hx hb dX8_go_87 rfl (lv_at hl 0 rfl) ?_
      refine va_get (D := (dC, dI)) (ci := 8) (v := .ref (AM 2)) (C := RX8) (T := TX8) (N := 17) hx hb hts inw_X8_go_X8 hown hK hP 0 rfl rfl 2 (by decide) (hts (.fieldLink RX8 13 "DuelFramesModel" "s" "[I") (List.mem_of_getElem? (i := 1) rfl)) (fun _ h9 => h9) rfl dX8_go_88 ?_
      refine lv_iconst (v := 0) hx hb dX8_go_91 (by decide) ?_
      refine va_iald hx hb hK hP 2 0 rfl rfl (vin rfl) dX8_go_92 ?_
      refine lv_topi (fun x_10 ex_10 => ?_)
      obtain rfl : x_10 = (z_8 0) := ex_10
      refine lv_isub hx hb dX8_go_93 ?_
      refine lv_isub hx hb dX8_go_94 ?_
      refine lv_istore_n (lv' := [(3, .int (20 - ((z_8 11) - (z_8 0)))), (0, .ref m0)]) hx hb dX8_go_95 rfl hl (by decide) rfl (fun ls hl => ?_)
      refine lv_iload_n hx hb dX8_go_96 rfl (lv_at hl 0 rfl) ?_
      refine jnW (D := (dC, dI)) (ws := [(m0, .inr (8, mdL AM g)), (AM 0, .inl (cY 0, 72, .inl tb)), (AM 2, .inl (cY 0, 22, .inl (X8_go_j127 sA one two))), (AM 3, .inl (cY 0, 22, .inl rd)), (AM 4, .inl (cY 0, 110, .inl kp)), (AM 5, .inl (cY 0, 8414, .inl td)), (AM 6, .inl (cY 0, 2, .inl wn)), (AM 13, .inl (cY 0, 4, .inl rw)), (AM 14, .inl (cY 0, 4, .inl br))]) (lv := [(0, .ref m0)]) (st := []) (J := 127) (n := 4) (A := A) (H0 := s.heap) ?_ ?_
      · intro H locs ls hP hD hS hl
        obtain ⟨z_13, ez_13⟩ : ∃ z, z = (X8_go_j127 sA one two) := ⟨_, rfl⟩
        rw [← ez_13] at hP hD
        refine lv_aload_n hx hb dX8_go_127 rfl (lv_at hl 0 rfl) ?_
        refine va_get (D := (dC, dI)) (ci := 8) (v := .ref (AM 2)) (C := RX8) (T := TX8) (N := 17) hx hb hts inw_X8_go_X8 hown hK hP 0 rfl rfl 2 (by decide) (hts (.fieldLink RX8 13 "DuelFramesModel" "s" "[I") (List.mem_of_getElem? (i := 1) rfl)) (fun _ h9 => h9) rfl dX8_go_128 ?_
        refine lv_iconst (v := 0) hx hb dX8_go_131 (by decide) ?_
        refine va_iald hx hb hK hP 2 0 rfl rfl (vin rfl) dX8_go_132 ?_
        refine lv_topi (fun x_14 ex_14 => ?_)
        obtain rfl : x_14 = (z_13 0) := ex_14
        refine jnW (D := (dC, dI)) (ws := [(m0, .inr (8, mdL AM g)), (AM 0, .inl (cY 0, 72, .inl tb)), (AM 2, .inl (cY 0, 22, .inl (X8_go_j174 sA one two))), (AM 3, .inl (cY 0, 22, .inl rd)), (AM 4, .inl (cY 0, 110, .inl kp)), (AM 5, .inl (cY 0, 8414, .inl td)), (AM 6, .inl (cY 0, 2, .inl wn)), (AM 13, .inl (cY 0, 4, .inl rw)), (AM 14, .inl (cY 0, 4, .inl br))]) (lv := [(0, .ref m0)]) (st := []) (J := 174) (n := 4) (A := A) (H0 := s.heap) ?_ ?_
        · intro H locs ls hP hD hS hl
          obtain ⟨z_17, ez_17⟩ : ∃ z, z = (X8_go_j174 sA one two) := ⟨_, rfl⟩
          rw [← ez_17] at hP hD
          refine lv_aload_n hx hb dX8_go_174 rfl (lv_at hl 0 rfl) ?_
          refine va_get (D := (dC, dI)) (ci := 8) (v := .ref (AM 2)) (C := RX8) (T := TX8) (N := 17) hx hb hts inw_X8_go_X8 hown hK hP 0 rfl rfl 2 (by decide) (hts (.fieldLink RX8 13 "DuelFramesModel" "s" "[I") (List.mem_of_getElem? (i := 1) rfl)) (fun _ h9 => h9) rfl dX8_go_175 ?_
          refine lv_bipush (v := 11) hx hb dX8_go_178 (by decide) ?_
          refine va_iald hx hb hK hP 2 0 rfl rfl (vin rfl) dX8_go_180 ?_
          refine lv_topi (fun x_18 ex_18 => ?_)
          obtain rfl : x_18 = (z_17 11) := ex_18
          refine lv_sipush (v := 600) hx hb dX8_go_181 (by decide) ?_
          refine lv_icmp_le (tgt := 227) hx hb dX8_go_184 (by decide) (fun c_19 => ?_) (fun c_19 => ?_)
          · have eo_20 : (X8_go_w2 sA one two) = z_17 := by rw [X8_go_w2]; simp only [← ez_4, ← ez_8, ← ez_13, ← ez_17, eq_true c_19, ↓reduceIte]
            have hP9 : va_P (dC, dI) vwCl [(m0, .inr (8, mdL AM g)), (AM 0, .inl (cY 0, 72, .inl tb)), (AM 2, .inl (cY 0, 22, .inl (X8_go_w2 sA one two))), (AM 3, .inl (cY 0, 22, .inl rd)), (AM 4, .inl (cY 0, 110, .inl kp)), (AM 5, .inl (cY 0, 8414, .inl td)), (AM 6, .inl (cY 0, 2, .inl wn)), (AM 13, .inl (cY 0, 4, .inl rw)), (AM 14, .inl (cY 0, 4, .inl br))] H := by simp only [eo_20]; exact hP
            have hD9 : va_D A [(m0, .inr (8, mdL AM g)), (AM 0, .inl (cY 0, 72, .inl tb)), (AM 2, .inl (cY 0, 22, .inl (X8_go_w2 sA one two))), (AM 3, .inl (cY 0, 22, .inl rd)), (AM 4, .inl (cY 0, 110, .inl kp)), (AM 5, .inl (cY 0, 8414, .inl td)), (AM 6, .inl (cY 0, 2, .inl wn)), (AM 13, .inl (cY 0, 4, .inl rw)), (AM 14, .inl (cY 0, 4, .inl br))] := by simp only [eo_20]; exact hD
            exact W.vret hx hb hr (fun t ht hW => ⟨⟨(), rfl, trivial, wPost_of hP9 hD9 ht⟩, hS.F ht⟩) hS.2.2 dX8_go_227
          · refine lv_aload_n hx hb dX8_go_187 rfl (lv_at hl 0 rfl) ?_
            refine va_get (D := (dC, dI)) (ci := 8) (v := .ref (AM 2)) (C := RX8) (T := TX8) (N := 17) hx hb hts inw_X8_go_X8 hown hK hP 0 rfl rfl 2 (by decide) (hts (.fieldLink RX8 13 "DuelFramesModel" "s" "[I") (List.mem_of_getElem? (i := 1) rfl)) (fun _ h9 => h9) rfl dX8_go_188 ?_
            refine lv_bipush (v := 11) hx hb dX8_go_191 (by decide) ?_
            refine lv_sipush (v := 600) hx hb dX8_go_193 (by decide) ?_
            refine va_iast hx hb hK hP hD hS 2 0 rfl rfl (vin rfl) dX8_go_196 (fun H locs hP1 hD1 hS1 => ?_)
            clear hP hD hS
            have hP : va_P (dC, dI) vwCl [(m0, .inr (8, mdL AM g)), (AM 0, .inl (cY 0, 72, .inl tb)), (AM 2, .inl (cY 0, 22, .inl (upd z_17 11 600))), (AM 3, .inl (cY 0, 22, .inl rd)), (AM 4, .inl (cY 0, 110, .inl kp)), (AM 5, .inl (cY 0, 8414, .inl td)), (AM 6, .inl (cY 0, 2, .inl wn)), (AM 13, .inl (cY 0, 4, .inl rw)), (AM 14, .inl (cY 0, 4, .inl br))] H := hP1
            have hD : va_D A [(m0, .inr (8, mdL AM g)), (AM 0, .inl (cY 0, 72, .inl tb)), (AM 2, .inl (cY 0, 22, .inl (upd z_17 11 600))), (AM 3, .inl (cY 0, 22, .inl rd)), (AM 4, .inl (cY 0, 110, .inl kp)), (AM 5, .inl (cY 0, 8414, .inl td)), (AM 6, .inl (cY 0, 2, .inl wn)), (AM 13, .inl (cY 0, 4, .inl rw)), (AM 14, .inl (cY 0, 4, .inl br))] := hD1
            have hS := hS1
            clear hP1 hD1 hS1
            refine lv_aload_n hx hb dX8_go_197 rfl (lv_at hl 0 rfl) ?_
            refine va_get (D := (dC, dI)) (ci := 8) (v := .ref (AM 2)) (C := RX8) (T := TX8) (N := 17) hx hb hts inw_X8_go_X8 hown hK hP 0 rfl rfl 2 (by decide) (hts (.fieldLink RX8 13 "DuelFramesModel" "s" "[I") (List.mem_of_getElem? (i := 1) rfl)) (fun _ h9 => h9) rfl dX8_go_198 ?_
            refine lv_iconst (v := 0) hx hb dX8_go_201 (by decide) ?_
            refine lv_aload_n hx hb dX8_go_202 rfl (lv_at hl 0 rfl) ?_
            refine va_get (D := (dC, dI)) (ci := 8) (v := .ref (AM 2)) (C := RX8) (T := TX8) (N := 17) hx hb hts inw_X8_go_X8 hown hK hP 0 rfl rfl 2 (by decide) (hts (.fieldLink RX8 13 "DuelFramesModel" "s" "[I") (List.mem_of_getElem? (i := 1) rfl)) (fun _ h9 => h9) rfl dX8_go_203 ?_
            refine lv_iconst (v := 0) hx hb dX8_go_206 (by decide) ?_
            refine va_iald hx hb hK hP 2 0 rfl rfl (vin rfl) dX8_go_207 ?_
            refine lv_topi (fun x_21 ex_21 => ?_)
            obtain rfl : x_21 = (z_17 0) := ex_21
            refine lv_sipush (v := 580) hx hb dX8_go_208 (by decide) ?_
            refine jnW (D := (dC, dI)) (ws := [(m0, .inr (8, mdL AM g)), (AM 0, .inl (cY 0, 72, .inl tb)), (AM 2, .inl (cY 0, 22, .inl (upd z_17 11 600))), (AM 3, .inl (cY 0, 22, .inl rd)), (AM 4, .inl (cY 0, 110, .inl kp)), (AM 5, .inl (cY 0, 8414, .inl td)), (AM 6, .inl (cY 0, 2, .inl wn)), (AM 13, .inl (cY 0, 4, .inl rw)), (AM 14, .inl (cY 0, 4, .inl br))]) (lv := []) (st := [.int (X8_go_j226 sA one two), .int 0, .ref (AM 2)]) (J := 226) (n := 4) (A := A) (H0 := s.heap) ?_ ?_
            · intro H locs ls hP hD hS hl
              refine va_iast hx hb hK hP hD hS 2 0 rfl rfl (vin rfl) dX8_go_226 (fun H locs hP1 hD1 hS1 => ?_)
              clear hP hD hS
              have hP : va_P (dC, dI) vwCl [(m0, .inr (8, mdL AM g)), (AM 0, .inl (cY 0, 72, .inl tb)), (AM 2, .inl (cY 0, 22, .inl (upd (upd z_17 11 600) 0 (X8_go_j226 sA one two)))), (AM 3, .inl (cY 0, 22, .inl rd)), (AM 4, .inl (cY 0, 110, .inl kp)), (AM 5, .inl (cY 0, 8414, .inl td)), (AM 6, .inl (cY 0, 2, .inl wn)), (AM 13, .inl (cY 0, 4, .inl rw)), (AM 14, .inl (cY 0, 4, .inl br))] H := hP1
              have hD : va_D A [(m0, .inr (8, mdL AM g)), (AM 0, .inl (cY 0, 72, .inl tb)), (AM 2, .inl (cY 0, 22, .inl (upd (upd z_17 11 600) 0 (X8_go_j226 sA one two)))), (AM 3, .inl (cY 0, 22, .inl rd)), (AM 4, .inl (cY 0, 110, .inl kp)), (AM 5, .inl (cY 0, 8414, .inl td)), (AM 6, .inl (cY 0, 2, .inl wn)), (AM 13, .inl (cY 0, 4, .inl rw)), (AM 14, .inl (cY 0, 4, .inl br))] := hD1
              have hS := hS1
              clear hP1 hD1 hS1
              have eo_24 : (X8_go_w2 sA one two) = (upd (upd z_17 11 600) 0 (X8_go_j226 sA one two)) := by rw [X8_go_w2]; simp only [← ez_4, ← ez_8, ← ez_13, ← ez_17, eq_false c_19, ↓reduceIte]
              have hP9 : va_P (dC, dI) vwCl [(m0, .inr (8, mdL AM g)), (AM 0, .inl (cY 0, 72, .inl tb)), (AM 2, .inl (cY 0, 22, .inl (X8_go_w2 sA one two))), (AM 3, .inl (cY 0, 22, .inl rd)), (AM 4, .inl (cY 0, 110, .inl kp)), (AM 5, .inl (cY 0, 8414, .inl td)), (AM 6, .inl (cY 0, 2, .inl wn)), (AM 13, .inl (cY 0, 4, .inl rw)), (AM 14, .inl (cY 0, 4, .inl br))] H := by simp only [eo_24]; exact hP
              have hD9 : va_D A [(m0, .inr (8, mdL AM g)), (AM 0, .inl (cY 0, 72, .inl tb)), (AM 2, .inl (cY 0, 22, .inl (X8_go_w2 sA one two))), (AM 3, .inl (cY 0, 22, .inl rd)), (AM 4, .inl (cY 0, 110, .inl kp)), (AM 5, .inl (cY 0, 8414, .inl td)), (AM 6, .inl (cY 0, 2, .inl wn)), (AM 13, .inl (cY 0, 4, .inl rw)), (AM 14, .inl (cY 0, 4, .inl br))] := by simp only [eo_24]; exact hD
              exact W.vret hx hb hr (fun t ht hW => ⟨⟨(), rfl, trivial, wPost_of hP9 hD9 ht⟩, hS.F ht⟩) hS.2.2 dX8_go_227
            · intro jn_23
              refine lv_icmp_le (tgt := 220) hx hb dX8_go_211 (by decide) (fun c_22 => ?_) (fun c_22 => ?_)
              · refine lv_aload_n hx hb dX8_go_220 rfl (lv_at hl 0 rfl) ?_
                refine va_get (D := (dC, dI)) (ci := 8) (v := .ref (AM 2)) (C := RX8) (T := TX8) (N := 17) hx hb hts inw_X8_go_X8 hown hK hP 0 rfl rfl 2 (by decide) (hts (.fieldLink RX8 13 "DuelFramesModel" "s" "[I") (List.mem_of_getElem? (i := 1) rfl)) (fun _ h9 => h9) rfl dX8_go_221 ?_
                refine lv_iconst (v := 0) hx hb dX8_go_224 (by decide) ?_
                refine va_iald hx hb hK hP 2 0 rfl rfl (vin rfl) dX8_go_225 ?_
                refine lv_topi (fun x_25 ex_25 => ?_)
                obtain rfl : x_25 = (z_17 0) := ex_25
                have e_26 : (X8_go_j226 sA one two) = (z_17 0) := by rw [X8_go_j226]; simp only [← ez_4, ← ez_8, ← ez_13, ← ez_17, eq_true c_22, ↓reduceIte]
                refine W.eq (g2 := F0 m 226 ls [.int (X8_go_j226 sA one two), .int 0, .ref (AM 2)]) (by simp only [e_26]) ?_
                exact jn_23 _ _ _ (by (try simp only [e_26]); exact hP) (by (try simp only [e_26]); exact hD) hS (by (try simp only [e_26]); exact (lv_sub hl [] rfl))
              · refine lv_sipush (v := 580) hx hb dX8_go_214 (by decide) ?_
                refine lv_goto (tgt := 226) hx hb dX8_go_217 (by decide) ?_
                have e_27 : (X8_go_j226 sA one two) = 580 := by rw [X8_go_j226]; simp only [← ez_4, ← ez_8, ← ez_13, ← ez_17, eq_false c_22, ↓reduceIte]
                refine W.eq (g2 := F0 m 226 ls [.int (X8_go_j226 sA one two), .int 0, .ref (AM 2)]) (by simp only [e_27]) ?_
                exact jn_23 _ _ _ (by (try simp only [e_27]); exact hP) (by (try simp only [e_27]); exact hD) hS (by (try simp only [e_27]); exact (lv_sub hl [] rfl))
        · intro jn_16
          refine lv_if_ge (tgt := 174) hx hb dX8_go_133 (by decide) (fun c_15 => ?_) (fun c_15 => ?_)
          · have e_28 : (X8_go_j174 sA one two) = z_13 := by rw [X8_go_j174]; simp only [← ez_4, ← ez_8, ← ez_13, eq_true c_15, ↓reduceIte]
            exact jn_16 _ _ _ (by (try simp only [e_28]); exact hP) (by (try simp only [e_28]); exact hD) hS (by (try simp only [e_28]); exact (lv_sub hl [0] rfl))
          · refine lv_aload_n hx hb dX8_go_136 rfl (lv_at hl 0 rfl) ?_
            refine va_get (D := (dC, dI)) (ci := 8) (v := .ref (AM 2)) (C := RX8) (T := TX8) (N := 17) hx hb hts inw_X8_go_X8 hown hK hP 0 rfl rfl 2 (by decide) (hts (.fieldLink RX8 13 "DuelFramesModel" "s" "[I") (List.mem_of_getElem? (i := 1) rfl)) (fun _ h9 => h9) rfl dX8_go_137 ?_
            refine lv_iconst (v := 0) hx hb dX8_go_140 (by decide) ?_
            refine lv_iconst (v := 0) hx hb dX8_go_141 (by decide) ?_
            refine va_iast hx hb hK hP hD hS 2 0 rfl rfl (vin rfl) dX8_go_142 (fun H locs hP1 hD1 hS1 => ?_)
            clear hP hD hS
            have hP : va_P (dC, dI) vwCl [(m0, .inr (8, mdL AM g)), (AM 0, .inl (cY 0, 72, .inl tb)), (AM 2, .inl (cY 0, 22, .inl (upd z_13 0 0))), (AM 3, .inl (cY 0, 22, .inl rd)), (AM 4, .inl (cY 0, 110, .inl kp)), (AM 5, .inl (cY 0, 8414, .inl td)), (AM 6, .inl (cY 0, 2, .inl wn)), (AM 13, .inl (cY 0, 4, .inl rw)), (AM 14, .inl (cY 0, 4, .inl br))] H := hP1
            have hD : va_D A [(m0, .inr (8, mdL AM g)), (AM 0, .inl (cY 0, 72, .inl tb)), (AM 2, .inl (cY 0, 22, .inl (upd z_13 0 0))), (AM 3, .inl (cY 0, 22, .inl rd)), (AM 4, .inl (cY 0, 110, .inl kp)), (AM 5, .inl (cY 0, 8414, .inl td)), (AM 6, .inl (cY 0, 2, .inl wn)), (AM 13, .inl (cY 0, 4, .inl rw)), (AM 14, .inl (cY 0, 4, .inl br))] := hD1
            have hS := hS1
            clear hP1 hD1 hS1
            refine lv_aload_n hx hb dX8_go_143 rfl (lv_at hl 0 rfl) ?_
            refine va_get (D := (dC, dI)) (ci := 8) (v := .ref (AM 2)) (C := RX8) (T := TX8) (N := 17) hx hb hts inw_X8_go_X8 hown hK hP 0 rfl rfl 2 (by decide) (hts (.fieldLink RX8 13 "DuelFramesModel" "s" "[I") (List.mem_of_getElem? (i := 1) rfl)) (fun _ h9 => h9) rfl dX8_go_144 ?_
            refine lv_bipush (v := 11) hx hb dX8_go_147 (by decide) ?_
            refine lv_aload_n hx hb dX8_go_149 rfl (lv_at hl 0 rfl) ?_
            refine va_get (D := (dC, dI)) (ci := 8) (v := .ref (AM 2)) (C := RX8) (T := TX8) (N := 17) hx hb hts inw_X8_go_X8 hown hK hP 0 rfl rfl 2 (by decide) (hts (.fieldLink RX8 13 "DuelFramesModel" "s" "[I") (List.mem_of_getElem? (i := 1) rfl)) (fun _ h9 => h9) rfl dX8_go_150 ?_
            refine lv_bipush (v := 11) hx hb dX8_go_153 (by decide) ?_
            refine va_iald hx hb hK hP 2 0 rfl rfl (vin rfl) dX8_go_155 ?_
            refine lv_topi (fun x_29 ex_29 => ?_)
            obtain rfl : x_29 = (z_13 11) := ex_29
            refine lv_bipush (v := 20) hx hb dX8_go_156 (by decide) ?_
            refine jnW (D := (dC, dI)) (ws := [(m0, .inr (8, mdL AM g)), (AM 0, .inl (cY 0, 72, .inl tb)), (AM 2, .inl (cY 0, 22, .inl (upd z_13 0 0))), (AM 3, .inl (cY 0, 22, .inl rd)), (AM 4, .inl (cY 0, 110, .inl kp)), (AM 5, .inl (cY 0, 8414, .inl td)), (AM 6, .inl (cY 0, 2, .inl wn)), (AM 13, .inl (cY 0, 4, .inl rw)), (AM 14, .inl (cY 0, 4, .inl br))]) (lv := [(0, .ref m0)]) (st := [.int (X8_go_j173 sA one two), .int 11, .ref (AM 2)]) (J := 173) (n := 4) (A := A) (H0 := s.heap) ?_ ?_
            · intro H locs ls hP hD hS hl
              refine va_iast hx hb hK hP hD hS 2 0 rfl rfl (vin rfl) dX8_go_173 (fun H locs hP1 hD1 hS1 => ?_)
              clear hP hD hS
              have hP : va_P (dC, dI) vwCl [(m0, .inr (8, mdL AM g)), (AM 0, .inl (cY 0, 72, .inl tb)), (AM 2, .inl (cY 0, 22, .inl (upd (upd z_13 0 0) 11 (X8_go_j173 sA one two)))), (AM 3, .inl (cY 0, 22, .inl rd)), (AM 4, .inl (cY 0, 110, .inl kp)), (AM 5, .inl (cY 0, 8414, .inl td)), (AM 6, .inl (cY 0, 2, .inl wn)), (AM 13, .inl (cY 0, 4, .inl rw)), (AM 14, .inl (cY 0, 4, .inl br))] H := hP1
              have hD : va_D A [(m0, .inr (8, mdL AM g)), (AM 0, .inl (cY 0, 72, .inl tb)), (AM 2, .inl (cY 0, 22, .inl (upd (upd z_13 0 0) 11 (X8_go_j173 sA one two)))), (AM 3, .inl (cY 0, 22, .inl rd)), (AM 4, .inl (cY 0, 110, .inl kp)), (AM 5, .inl (cY 0, 8414, .inl td)), (AM 6, .inl (cY 0, 2, .inl wn)), (AM 13, .inl (cY 0, 4, .inl rw)), (AM 14, .inl (cY 0, 4, .inl br))] := hD1
              have hS := hS1
              clear hP1 hD1 hS1
              have e_32 : (X8_go_j174 sA one two) = (upd (upd z_13 0 0) 11 (X8_go_j173 sA one two)) := by rw [X8_go_j174]; simp only [← ez_4, ← ez_8, ← ez_13, eq_false c_15, ↓reduceIte]
              exact jn_16 _ _ _ (by (try simp only [e_32]); exact hP) (by (try simp only [e_32]); exact hD) hS (by (try simp only [e_32]); exact (lv_sub hl [0] rfl))
            · intro jn_31
              refine lv_icmp_ge (tgt := 166) hx hb dX8_go_158 (by decide) (fun c_30 => ?_) (fun c_30 => ?_)
              · refine lv_aload_n hx hb dX8_go_166 rfl (lv_at hl 0 rfl) ?_
                refine va_get (D := (dC, dI)) (ci := 8) (v := .ref (AM 2)) (C := RX8) (T := TX8) (N := 17) hx hb hts inw_X8_go_X8 hown hK hP 0 rfl rfl 2 (by decide) (hts (.fieldLink RX8 13 "DuelFramesModel" "s" "[I") (List.mem_of_getElem? (i := 1) rfl)) (fun _ h9 => h9) rfl dX8_go_167 ?_
                refine lv_bipush (v := 11) hx hb dX8_go_170 (by decide) ?_
                refine va_iald hx hb hK hP 2 0 rfl rfl (vin rfl) dX8_go_172 ?_
                refine lv_topi (fun x_33 ex_33 => ?_)
                obtain rfl : x_33 = (z_13 11) := ex_33
                have e_34 : (X8_go_j173 sA one two) = (z_13 11) := by rw [X8_go_j173]; simp only [← ez_4, ← ez_8, ← ez_13, eq_true c_30, ↓reduceIte]
                refine W.eq (g2 := F0 m 173 ls [.int (X8_go_j173 sA one two), .int 11, .ref (AM 2)]) (by simp only [e_34]) ?_
                exact jn_31 _ _ _ (by (try simp only [e_34]); exact hP) (by (try simp only [e_34]); exact hD) hS (by (try simp only [e_34]); exact (lv_sub hl [0] rfl))
              · refine lv_bipush (v := 20) hx hb dX8_go_161 (by decide) ?_
                refine lv_goto (tgt := 173) hx hb dX8_go_163 (by decide) ?_
                have e_35 : (X8_go_j173 sA one two) = 20 := by rw [X8_go_j173]; simp only [← ez_4, ← ez_8, ← ez_13, eq_false c_30, ↓reduceIte]
                refine W.eq (g2 := F0 m 173 ls [.int (X8_go_j173 sA one two), .int 11, .ref (AM 2)]) (by simp only [e_35]) ?_
                exact jn_31 _ _ _ (by (try simp only [e_35]); exact hP) (by (try simp only [e_35]); exact hD) hS (by (try simp only [e_35]); exact (lv_sub hl [0] rfl))
      · intro jn_12
        refine lv_if_le (tgt := 127) hx hb dX8_go_97 (by decide) (fun c_11 => ?_) (fun c_11 => ?_)
        · have e_36 : (X8_go_j127 sA one two) = z_8 := by rw [X8_go_j127]; simp only [← ez_4, ← ez_8, eq_true c_11, ↓reduceIte]
          exact jn_12 _ _ _ (by (try simp only [e_36]); exact hP) (by (try simp only [e_36]); exact hD) hS (by (try simp only [e_36]); exact (lv_sub hl [1] rfl))
        · refine lv_aload_n hx hb dX8_go_100 rfl (lv_at hl 1 rfl) ?_
          refine va_get (D := (dC, dI)) (ci := 8) (v := .ref (AM 2)) (C := RX8) (T := TX8) (N := 17) hx hb hts inw_X8_go_X8 hown hK hP 0 rfl rfl 2 (by decide) (hts (.fieldLink RX8 13 "DuelFramesModel" "s" "[I") (List.mem_of_getElem? (i := 1) rfl)) (fun _ h9 => h9) rfl dX8_go_101 ?_
          refine lv_iconst (v := 0) hx hb dX8_go_104 (by decide) ?_
          refine lv_dup2_11 hx hb dX8_go_105 rfl rfl ?_
          refine va_iald hx hb hK hP 2 0 rfl rfl (vin rfl) dX8_go_106 ?_
          refine lv_topi (fun x_37 ex_37 => ?_)
          obtain rfl : x_37 = (z_8 0) := ex_37
          refine lv_iload_n hx hb dX8_go_107 rfl (lv_at hl 0 rfl) ?_
          refine lv_iconst (v := 2) hx hb dX8_go_108 (by decide) ?_
          refine lv_idiv hx hb dX8_go_109 (by decide) ?_
          refine lv_isub hx hb dX8_go_110 ?_
          refine va_iast hx hb hK hP hD hS 2 0 rfl rfl (vin rfl) dX8_go_111 (fun H locs hP1 hD1 hS1 => ?_)
          clear hP hD hS
          have hP : va_P (dC, dI) vwCl [(m0, .inr (8, mdL AM g)), (AM 0, .inl (cY 0, 72, .inl tb)), (AM 2, .inl (cY 0, 22, .inl (upd z_8 0 ((z_8 0) - ((20 - ((z_8 11) - (z_8 0))) / 2))))), (AM 3, .inl (cY 0, 22, .inl rd)), (AM 4, .inl (cY 0, 110, .inl kp)), (AM 5, .inl (cY 0, 8414, .inl td)), (AM 6, .inl (cY 0, 2, .inl wn)), (AM 13, .inl (cY 0, 4, .inl rw)), (AM 14, .inl (cY 0, 4, .inl br))] H := hP1
          have hD : va_D A [(m0, .inr (8, mdL AM g)), (AM 0, .inl (cY 0, 72, .inl tb)), (AM 2, .inl (cY 0, 22, .inl (upd z_8 0 ((z_8 0) - ((20 - ((z_8 11) - (z_8 0))) / 2))))), (AM 3, .inl (cY 0, 22, .inl rd)), (AM 4, .inl (cY 0, 110, .inl kp)), (AM 5, .inl (cY 0, 8414, .inl td)), (AM 6, .inl (cY 0, 2, .inl wn)), (AM 13, .inl (cY 0, 4, .inl rw)), (AM 14, .inl (cY 0, 4, .inl br))] := hD1
          have hS := hS1
          clear hP1 hD1 hS1
          refine lv_aload_n hx hb dX8_go_112 rfl (lv_at hl 1 rfl) ?_
          refine va_get (D := (dC, dI)) (ci := 8) (v := .ref (AM 2)) (C := RX8) (T := TX8) (N := 17) hx hb hts inw_X8_go_X8 hown hK hP 0 rfl rfl 2 (by decide) (hts (.fieldLink RX8 13 "DuelFramesModel" "s" "[I") (List.mem_of_getElem? (i := 1) rfl)) (fun _ h9 => h9) rfl dX8_go_113 ?_
          refine lv_bipush (v := 11) hx hb dX8_go_116 (by decide) ?_
          refine lv_dup2_11 hx hb dX8_go_118 rfl rfl ?_
          refine va_iald hx hb hK hP 2 0 rfl rfl (vin rfl) dX8_go_119 ?_
          refine lv_topi (fun x_38 ex_38 => ?_)
          obtain rfl : x_38 = (z_8 11) := ex_38
          refine lv_iload_n hx hb dX8_go_120 rfl (lv_at hl 0 rfl) ?_
          refine lv_iload_n hx hb dX8_go_121 rfl (lv_at hl 0 rfl) ?_
          refine lv_iconst (v := 2) hx hb dX8_go_122 (by decide) ?_
          refine lv_idiv hx hb dX8_go_123 (by decide) ?_
          refine lv_isub hx hb dX8_go_124 ?_
          refine lv_iadd hx hb dX8_go_125 ?_
          refine va_iast hx hb hK hP hD hS 2 0 rfl rfl (vin rfl) dX8_go_126 (fun H locs hP1 hD1 hS1 => ?_)
          clear hP hD hS
          have hP : va_P (dC, dI) vwCl [(m0, .inr (8, mdL AM g)), (AM 0, .inl (cY 0, 72, .inl tb)), (AM 2, .inl (cY 0, 22, .inl (upd (upd z_8 0 ((z_8 0) - ((20 - ((z_8 11) - (z_8 0))) / 2))) 11 ((z_8 11) + ((20 - ((z_8 11) - (z_8 0))) - ((20 - ((z_8 11) - (z_8 0))) / 2)))))), (AM 3, .inl (cY 0, 22, .inl rd)), (AM 4, .inl (cY 0, 110, .inl kp)), (AM 5, .inl (cY 0, 8414, .inl td)), (AM 6, .inl (cY 0, 2, .inl wn)), (AM 13, .inl (cY 0, 4, .inl rw)), (AM 14, .inl (cY 0, 4, .inl br))] H := hP1
          have hD : va_D A [(m0, .inr (8, mdL AM g)), (AM 0, .inl (cY 0, 72, .inl tb)), (AM 2, .inl (cY 0, 22, .inl (upd (upd z_8 0 ((z_8 0) - ((20 - ((z_8 11) - (z_8 0))) / 2))) 11 ((z_8 11) + ((20 - ((z_8 11) - (z_8 0))) - ((20 - ((z_8 11) - (z_8 0))) / 2)))))), (AM 3, .inl (cY 0, 22, .inl rd)), (AM 4, .inl (cY 0, 110, .inl kp)), (AM 5, .inl (cY 0, 8414, .inl td)), (AM 6, .inl (cY 0, 2, .inl wn)), (AM 13, .inl (cY 0, 4, .inl rw)), (AM 14, .inl (cY 0, 4, .inl br))] := hD1
          have hS := hS1
          clear hP1 hD1 hS1
          have e_39 : (X8_go_j127 sA one two) = (upd (upd z_8 0 ((z_8 0) - ((20 - ((z_8 11) - (z_8 0))) / 2))) 11 ((z_8 11) + ((20 - ((z_8 11) - (z_8 0))) - ((20 - ((z_8 11) - (z_8 0))) / 2)))) := by rw [X8_go_j127]; simp only [← ez_4, ← ez_8, eq_false c_11, ↓reduceIte]
          exact jn_12 _ _ _ (by (try simp only [e_39]); exact hP) (by (try simp only [e_39]); exact hD) hS (by (try simp only [e_39]); exact (lv_sub hl [1] rfl))
    · intro jn_7
      refine lv_if_ne (tgt := 78) hx hb dX8_go_45 (by decide) (fun c_6 => ?_) (fun c_6 => ?_)
      · have e_40 : (X8_go_j78 sA one two) = z_4 := by rw [X8_go_j78]; simp only [← ez_4, eq_false c_6, ↓reduceIte]
        exact jn_7 _ _ _ (by (try simp only [e_40]); exact hP) (by (try simp only [e_40]); exact hD) hS (by (try simp only [e_40]); exact (lv_sub hl [0] rfl))
      · refine lv_aload_n hx hb dX8_go_48 rfl (lv_at hl 0 rfl) ?_
        refine va_get (D := (dC, dI)) (ci := 8) (v := .ref (AM 2)) (C := RX8) (T := TX8) (N := 17) hx hb hts inw_X8_go_X8 hown hK hP 0 rfl rfl 2 (by decide) (hts (.fieldLink RX8 13 "DuelFramesModel" "s" "[I") (List.mem_of_getElem? (i := 1) rfl)) (fun _ h9 => h9) rfl dX8_go_49 ?_
        refine lv_bipush (v := 11) hx hb dX8_go_52 (by decide) ?_
        refine lv_dup2_11 hx hb dX8_go_54 rfl rfl ?_
        refine va_iald hx hb hK hP 2 0 rfl rfl (vin rfl) dX8_go_55 ?_
        refine lv_topi (fun x_41 ex_41 => ?_)
        obtain rfl : x_41 = (z_4 11) := ex_41
        refine lv_iload_n hx hb dX8_go_56 rfl (lv_at hl 1 rfl) ?_
        refine lv_iconst (v := 1) hx hb dX8_go_57 (by decide) ?_
        refine jnW (D := (dC, dI)) (ws := [(m0, .inr (8, mdL AM g)), (AM 0, .inl (cY 0, 72, .inl tb)), (AM 2, .inl (cY 0, 22, .inl z_4)), (AM 3, .inl (cY 0, 22, .inl rd)), (AM 4, .inl (cY 0, 110, .inl kp)), (AM 5, .inl (cY 0, 8414, .inl td)), (AM 6, .inl (cY 0, 2, .inl wn)), (AM 13, .inl (cY 0, 4, .inl rw)), (AM 14, .inl (cY 0, 4, .inl br))]) (lv := [(0, .ref m0)]) (st := [.int (X8_go_j76 two), .int (z_4 11), .int 11, .ref (AM 2)]) (J := 76) (n := 4) (A := A) (H0 := s.heap) ?_ ?_
        · intro H locs ls hP hD hS hl
          refine lv_iadd hx hb dX8_go_76 ?_
          refine va_iast hx hb hK hP hD hS 2 0 rfl rfl (vin rfl) dX8_go_77 (fun H locs hP1 hD1 hS1 => ?_)
          clear hP hD hS
          have hP : va_P (dC, dI) vwCl [(m0, .inr (8, mdL AM g)), (AM 0, .inl (cY 0, 72, .inl tb)), (AM 2, .inl (cY 0, 22, .inl (upd z_4 11 ((z_4 11) + (X8_go_j76 two))))), (AM 3, .inl (cY 0, 22, .inl rd)), (AM 4, .inl (cY 0, 110, .inl kp)), (AM 5, .inl (cY 0, 8414, .inl td)), (AM 6, .inl (cY 0, 2, .inl wn)), (AM 13, .inl (cY 0, 4, .inl rw)), (AM 14, .inl (cY 0, 4, .inl br))] H := hP1
          have hD : va_D A [(m0, .inr (8, mdL AM g)), (AM 0, .inl (cY 0, 72, .inl tb)), (AM 2, .inl (cY 0, 22, .inl (upd z_4 11 ((z_4 11) + (X8_go_j76 two))))), (AM 3, .inl (cY 0, 22, .inl rd)), (AM 4, .inl (cY 0, 110, .inl kp)), (AM 5, .inl (cY 0, 8414, .inl td)), (AM 6, .inl (cY 0, 2, .inl wn)), (AM 13, .inl (cY 0, 4, .inl rw)), (AM 14, .inl (cY 0, 4, .inl br))] := hD1
          have hS := hS1
          clear hP1 hD1 hS1
          have e_44 : (X8_go_j78 sA one two) = (upd z_4 11 ((z_4 11) + (X8_go_j76 two))) := by rw [X8_go_j78]; simp only [← ez_4, eq_true c_6, ↓reduceIte]
          exact jn_7 _ _ _ (by (try simp only [e_44]); exact hP) (by (try simp only [e_44]); exact hD) hS (by (try simp only [e_44]); exact (lv_sub hl [0] rfl))
        · intro jn_43
          refine lv_icmp_ne (tgt := 66) hx hb dX8_go_58 (by decide) (fun c_42 => ?_) (fun c_42 => ?_)
          · refine lv_iload_n hx hb dX8_go_66 rfl (lv_at hl 1 rfl) ?_
            refine lv_iconst (v := 2) hx hb dX8_go_67 (by decide) ?_
            refine lv_icmp_ne (tgt := 75) hx hb dX8_go_68 (by decide) (fun c_45 => ?_) (fun c_45 => ?_)
            · refine lv_iconst (v := 0) hx hb dX8_go_75 (by decide) ?_
              have e_46 : (X8_go_j76 two) = 0 := by rw [X8_go_j76]; simp only [← ez_4, eq_false c_42, eq_false c_45, ↓reduceIte]
              refine W.eq (g2 := F0 m 76 ls [.int (X8_go_j76 two), .int (z_4 11), .int 11, .ref (AM 2)]) (by simp only [e_46]) ?_
              exact jn_43 _ _ _ (by (try simp only [e_46]); exact hP) (by (try simp only [e_46]); exact hD) hS (by (try simp only [e_46]); exact (lv_sub hl [0] rfl))
            · refine lv_iconst (v := 3) hx hb dX8_go_71 (by decide) ?_
              refine lv_goto (tgt := 76) hx hb dX8_go_72 (by decide) ?_
              have e_47 : (X8_go_j76 two) = 3 := by rw [X8_go_j76]; simp only [← ez_4, eq_false c_42, eq_true c_45, ↓reduceIte]
              refine W.eq (g2 := F0 m 76 ls [.int (X8_go_j76 two), .int (z_4 11), .int 11, .ref (AM 2)]) (by simp only [e_47]) ?_
              exact jn_43 _ _ _ (by (try simp only [e_47]); exact hP) (by (try simp only [e_47]); exact hD) hS (by (try simp only [e_47]); exact (lv_sub hl [0] rfl))
          · refine lv_bipush (v := (-4)) hx hb dX8_go_61 (by decide) ?_
            refine lv_goto (tgt := 76) hx hb dX8_go_63 (by decide) ?_
            have e_48 : (X8_go_j76 two) = (-4) := by rw [X8_go_j76]; simp only [← ez_4, eq_true c_42, ↓reduceIte]
            refine W.eq (g2 := F0 m 76 ls [.int (X8_go_j76 two), .int (z_4 11), .int 11, .ref (AM 2)]) (by simp only [e_48]) ?_
            exact jn_43 _ _ _ (by (try simp only [e_48]); exact hP) (by (try simp only [e_48]); exact hD) hS (by (try simp only [e_48]); exact (lv_sub hl [0] rfl))
  · intro jn_3
    refine lv_if_ne (tgt := 38) hx hb dX8_go_6 (by decide) (fun c_2 => ?_) (fun c_2 => ?_)
    · have e_49 : (X8_go_j38 sA one) = sA := by rw [X8_go_j38]; simp only [eq_false c_2, ↓reduceIte]
      exact jn_3 _ _ _ (by (try simp only [e_49]); exact hP) (by (try simp only [e_49]); exact hD) hS (by (try simp only [e_49]); exact (lv_sub hl [0, 2] rfl))
    · refine lv_aload_n hx hb dX8_go_9 rfl (lv_at hl 0 rfl) ?_
      refine va_get (D := (dC, dI)) (ci := 8) (v := .ref (AM 2)) (C := RX8) (T := TX8) (N := 17) hx hb hts inw_X8_go_X8 hown hK hP 0 rfl rfl 2 (by decide) (hts (.fieldLink RX8 13 "DuelFramesModel" "s" "[I") (List.mem_of_getElem? (i := 1) rfl)) (fun _ h9 => h9) rfl dX8_go_10 ?_
      refine lv_iconst (v := 0) hx hb dX8_go_13 (by decide) ?_
      refine lv_dup2_11 hx hb dX8_go_14 rfl rfl ?_
      refine va_iald hx hb hK hP 2 0 rfl rfl (vin rfl) dX8_go_15 ?_
      refine lv_topi (fun x_50 ex_50 => ?_)
      obtain rfl : x_50 = (sA 0) := ex_50
      refine lv_iload_n hx hb dX8_go_16 rfl (lv_at hl 1 rfl) ?_
      refine lv_iconst (v := 1) hx hb dX8_go_17 (by decide) ?_
      refine jnW (D := (dC, dI)) (ws := [(m0, .inr (8, mdL AM g)), (AM 0, .inl (cY 0, 72, .inl tb)), (AM 2, .inl (cY 0, 22, .inl sA)), (AM 3, .inl (cY 0, 22, .inl rd)), (AM 4, .inl (cY 0, 110, .inl kp)), (AM 5, .inl (cY 0, 8414, .inl td)), (AM 6, .inl (cY 0, 2, .inl wn)), (AM 13, .inl (cY 0, 4, .inl rw)), (AM 14, .inl (cY 0, 4, .inl br))]) (lv := [(0, .ref m0), (2, .int two)]) (st := [.int (X8_go_j36 one), .int (sA 0), .int 0, .ref (AM 2)]) (J := 36) (n := 4) (A := A) (H0 := s.heap) ?_ ?_
      · intro H locs ls hP hD hS hl
        refine lv_iadd hx hb dX8_go_36 ?_
        refine va_iast hx hb hK hP hD hS 2 0 rfl rfl (vin rfl) dX8_go_37 (fun H locs hP1 hD1 hS1 => ?_)
        clear hP hD hS
        have hP : va_P (dC, dI) vwCl [(m0, .inr (8, mdL AM g)), (AM 0, .inl (cY 0, 72, .inl tb)), (AM 2, .inl (cY 0, 22, .inl (upd sA 0 ((sA 0) + (X8_go_j36 one))))), (AM 3, .inl (cY 0, 22, .inl rd)), (AM 4, .inl (cY 0, 110, .inl kp)), (AM 5, .inl (cY 0, 8414, .inl td)), (AM 6, .inl (cY 0, 2, .inl wn)), (AM 13, .inl (cY 0, 4, .inl rw)), (AM 14, .inl (cY 0, 4, .inl br))] H := hP1
        have hD : va_D A [(m0, .inr (8, mdL AM g)), (AM 0, .inl (cY 0, 72, .inl tb)), (AM 2, .inl (cY 0, 22, .inl (upd sA 0 ((sA 0) + (X8_go_j36 one))))), (AM 3, .inl (cY 0, 22, .inl rd)), (AM 4, .inl (cY 0, 110, .inl kp)), (AM 5, .inl (cY 0, 8414, .inl td)), (AM 6, .inl (cY 0, 2, .inl wn)), (AM 13, .inl (cY 0, 4, .inl rw)), (AM 14, .inl (cY 0, 4, .inl br))] := hD1
        have hS := hS1
        clear hP1 hD1 hS1
        have e_53 : (X8_go_j38 sA one) = (upd sA 0 ((sA 0) + (X8_go_j36 one))) := by rw [X8_go_j38]; simp only [eq_true c_2, ↓reduceIte]
        exact jn_3 _ _ _ (by (try simp only [e_53]); exact hP) (by (try simp only [e_53]); exact hD) hS (by (try simp only [e_53]); exact (lv_sub hl [0, 1] rfl))
      · intro jn_52
        refine lv_icmp_ne (tgt := 25) hx hb dX8_go_18 (by decide) (fun c_51 => ?_) (fun c_51 => ?_)
        · refine lv_iload_n hx hb dX8_go_25 rfl (lv_at hl 1 rfl) ?_
          refine lv_iconst (v := 2) hx hb dX8_go_26 (by decide) ?_
          refine lv_icmp_ne (tgt := 35) hx hb dX8_go_27 (by decide) (fun c_54 => ?_) (fun c_54 => ?_)
          · refine lv_iconst (v := 0) hx hb dX8_go_35 (by decide) ?_
            have e_55 : (X8_go_j36 one) = 0 := by rw [X8_go_j36]; simp only [eq_false c_51, eq_false c_54, ↓reduceIte]
            refine W.eq (g2 := F0 m 36 ls [.int (X8_go_j36 one), .int (sA 0), .int 0, .ref (AM 2)]) (by simp only [e_55]) ?_
            exact jn_52 _ _ _ (by (try simp only [e_55]); exact hP) (by (try simp only [e_55]); exact hD) hS (by (try simp only [e_55]); exact (lv_sub hl [0, 2] rfl))
          · refine lv_bipush (v := (-3)) hx hb dX8_go_30 (by decide) ?_
            refine lv_goto (tgt := 36) hx hb dX8_go_32 (by decide) ?_
            have e_56 : (X8_go_j36 one) = (-3) := by rw [X8_go_j36]; simp only [eq_false c_51, eq_true c_54, ↓reduceIte]
            refine W.eq (g2 := F0 m 36 ls [.int (X8_go_j36 one), .int (sA 0), .int 0, .ref (AM 2)]) (by simp only [e_56]) ?_
            exact jn_52 _ _ _ (by (try simp only [e_56]); exact hP) (by (try simp only [e_56]); exact hD) hS (by (try simp only [e_56]); exact (lv_sub hl [0, 2] rfl))
        · refine lv_iconst (v := 4) hx hb dX8_go_21 (by decide) ?_
          refine lv_goto (tgt := 36) hx hb dX8_go_22 (by decide) ?_
          have e_57 : (X8_go_j36 one) = 4 := by rw [X8_go_j36]; simp only [eq_true c_51, ↓reduceIte]
          refine W.eq (g2 := F0 m 36 ls [.int (X8_go_j36 one), .int (sA 0), .int 0, .ref (AM 2)]) (by simp only [e_57]) ?_
          exact jn_52 _ _ _ (by (try simp only [e_57]); exact hP) (by (try simp only [e_57]); exact hD) hS (by (try simp only [e_57]); exact (lv_sub hl [0, 2] rfl))
theorem inw_X8_reaches_X8 : ∀ w ∈ u_ws RX8 TX8 17, w ∈ wsX8_reaches := fun _ h => List.mem_cons_of_mem _ (List.mem_append_right _ h)
def X8_reaches0_j91 (tb : Nat → Int32) (sA : Nat → Int32) : Int32 := (if (X8_ofMove_r tb (sA 4) 4) = 3 then (if (sA 14) = 0 then 1 else (if (sA 14) = 1 then 1 else 0)) else 1)
def X8_reaches0_r (tb : Nat → Int32) (sA : Nat → Int32) : Int32 := (if (sA 3) = 1 then (if (sA 9) = (-1) then (if ((sA 5) - (X8_ofMove_r tb (sA 4) 0)) < 0 then 0 else (if (X8_ofMove_r tb (sA 4) 1) ≤ ((sA 5) - (X8_ofMove_r tb (sA 4) 0)) then 0 else (if (X8_ofMove_r tb (sA 4) 3) < ((sA 11) - (sA 0)) then 0 else (if (X8_reaches0_j91 tb sA) = 0 then 0 else 1)))) else 0) else 0)
set_option maxHeartbeats 4000000 in
set_option maxRecDepth 100000 in
theorem c_X8_reaches0 (l : Launch) (dC : Nat → ClassId) (dI : Nat → Nat → Nat) (cY : Nat → ClassId) (m0 : Nat) (AM : Nat → Nat) (g : Nat → Int32) (tb : Nat → Int32) (sA : Nat → Int32) (rd : Nat → Int32) (kp : Nat → Int32) (td : Nat → Int32) (wn : Nat → Int32) (rw : Nat → Int32) (br : Nat → Int32) (hs : okS sA) : Met l yX8_reaches wsX8_reaches ({ frames := 1, cells := 0, slots := 0, locals := 22 } : Room) (va_Pc [.ref m0, .int 0] (rPre (dC, dI) (tyL cY) [(m0, .inr (8, mdL AM g)), (AM 0, .inl (cY 0, 72, .inl tb)), (AM 2, .inl (cY 0, 22, .inl sA)), (AM 3, .inl (cY 0, 22, .inl rd)), (AM 4, .inl (cY 0, 110, .inl kp)), (AM 5, .inl (cY 0, 8414, .inl td)), (AM 6, .inl (cY 0, 2, .inl wn)), (AM 13, .inl (cY 0, 4, .inl rw)), (AM 14, .inl (cY 0, 4, .inl br))])) (vp_Si (fun r => r = (X8_reaches0_r tb sA) ∧ (r = 0 ∨ r = 1))) 0 0 (fun _ => False) := by
  refine Met.ofW (cc := cX8_reaches) (maxL := 6) (ret := (some .boolean)) (by decide) rfl ?_
  intro p e s m args below meth c s₁ B hml hv
  obtain ⟨rfl, hP, hK, hN⟩ := hv
  have hx := B.exec
  have hb := B.bytes
  have hr := B.returns
  have hts := atoms_spec (ws := wsX8_reaches) B.pre
  have hown : s.vm.findClass RX8 = some m.cls := findClass_of_methodNamed B.named
  have hlocks := B.notSynchronized
  have hP : va_P (dC, dI) vwCl [(m0, .inr (8, mdL AM g)), (AM 0, .inl (cY 0, 72, .inl tb)), (AM 2, .inl (cY 0, 22, .inl sA)), (AM 3, .inl (cY 0, 22, .inl rd)), (AM 4, .inl (cY 0, 110, .inl kp)), (AM 5, .inl (cY 0, 8414, .inl td)), (AM 6, .inl (cY 0, 2, .inl wn)), (AM 13, .inl (cY 0, 4, .inl rw)), (AM 14, .inl (cY 0, 4, .inl br))] s.heap := hP
  have hl := lv_entry ([.ref m0, .int 0]) (n := 6) (Nat.le_of_ble_eq_true rfl)
  rw [lg_entry_eq]
  generalize (lg_sl ([.ref m0, .int 0]) ++ List.replicate (6 - (lg_sl ([.ref m0, .int 0])).length) Slot.unset).toArray = ls at hl ⊢
  have hl : lv_has ls 6 [(0, .ref m0), (1, .int 0)] := hl
  refine lv_aload_n hx hb dX8_reaches_0 rfl (lv_at hl 0 rfl) ?_
  refine va_get (D := (dC, dI)) (ci := 8) (v := .ref (AM 2)) (C := RX8) (T := TX8) (N := 17) hx hb hts inw_X8_reaches_X8 hown hK hP 0 rfl rfl 2 (by decide) (hts (.fieldLink RX8 13 "DuelFramesModel" "s" "[I") (List.mem_of_getElem? (i := 1) rfl)) (fun _ h9 => h9) rfl dX8_reaches_1 ?_
  refine lv_iload_n hx hb dX8_reaches_4 rfl (lv_at hl 1 rfl) ?_
  refine lv_iconst (v := 3) hx hb dX8_reaches_5 (by decide) ?_
  refine lv_iadd hx hb dX8_reaches_6 ?_
  refine lv_topi (fun x_1 ex_1 => ?_)
  obtain rfl : x_1 = 3 := ex_1.trans (by decide)
  refine va_iald hx hb hK hP 2 0 rfl rfl (vin rfl) dX8_reaches_7 ?_
  refine lv_topi (fun x_2 ex_2 => ?_)
  obtain rfl : x_2 = (sA 3) := ex_2
  refine lv_iconst (v := 1) hx hb dX8_reaches_8 (by decide) ?_
  refine lv_icmp_ne (tgt := 25) hx hb dX8_reaches_9 (by decide) (fun c_3 => ?_) (fun c_3 => ?_)
  · refine lv_iconst (v := 0) hx hb dX8_reaches_25 (by decide) ?_
    have eo_4 : (X8_reaches0_r tb sA) = 0 := by rw [X8_reaches0_r]; simp only [eq_false c_3, ↓reduceIte]
    exact W.zret (v := 0) (ty := .boolean) hx hb hr rfl (fun t ht _ => ⟨_, rfl, ⟨eo_4.symm, (by decide)⟩, ht⟩) (fun _ h => absurd h List.not_mem_nil) dX8_reaches_26
  · refine lv_aload_n hx hb dX8_reaches_12 rfl (lv_at hl 0 rfl) ?_
    refine va_get (D := (dC, dI)) (ci := 8) (v := .ref (AM 2)) (C := RX8) (T := TX8) (N := 17) hx hb hts inw_X8_reaches_X8 hown hK hP 0 rfl rfl 2 (by decide) (hts (.fieldLink RX8 13 "DuelFramesModel" "s" "[I") (List.mem_of_getElem? (i := 1) rfl)) (fun _ h9 => h9) rfl dX8_reaches_13 ?_
    refine lv_iload_n hx hb dX8_reaches_16 rfl (lv_at hl 1 rfl) ?_
    refine lv_bipush (v := 9) hx hb dX8_reaches_17 (by decide) ?_
    refine lv_iadd hx hb dX8_reaches_19 ?_
    refine lv_topi (fun x_5 ex_5 => ?_)
    obtain rfl : x_5 = 9 := ex_5.trans (by decide)
    refine va_iald hx hb hK hP 2 0 rfl rfl (vin rfl) dX8_reaches_20 ?_
    refine lv_topi (fun x_6 ex_6 => ?_)
    obtain rfl : x_6 = (sA 9) := ex_6
    refine lv_iconst (v := (-1)) hx hb dX8_reaches_21 (by decide) ?_
    refine lv_icmp_eq (tgt := 27) hx hb dX8_reaches_22 (by decide) (fun c_7 => ?_) (fun c_7 => ?_)
    · refine lv_aload_n hx hb dX8_reaches_27 rfl (lv_at hl 0 rfl) ?_
      refine va_get (D := (dC, dI)) (ci := 8) (v := .ref (AM 2)) (C := RX8) (T := TX8) (N := 17) hx hb hts inw_X8_reaches_X8 hown hK hP 0 rfl rfl 2 (by decide) (hts (.fieldLink RX8 13 "DuelFramesModel" "s" "[I") (List.mem_of_getElem? (i := 1) rfl)) (fun _ h9 => h9) rfl dX8_reaches_28 ?_
      refine lv_iload_n hx hb dX8_reaches_31 rfl (lv_at hl 1 rfl) ?_
      refine lv_iconst (v := 4) hx hb dX8_reaches_32 (by decide) ?_
      refine lv_iadd hx hb dX8_reaches_33 ?_
      refine lv_topi (fun x_8 ex_8 => ?_)
      obtain rfl : x_8 = 4 := ex_8.trans (by decide)
      refine va_iald hx hb hK hP 2 0 rfl rfl (vin rfl) dX8_reaches_34 ?_
      refine lv_topi (fun x_9 ex_9 => ?_)
      obtain rfl : x_9 = (sA 4) := ex_9
      refine lv_istore_n (lv' := [(2, .int (sA 4)), (0, .ref m0), (1, .int 0)]) hx hb dX8_reaches_35 rfl hl (by decide) rfl (fun ls hl => ?_)
      refine lv_aload_n hx hb dX8_reaches_36 rfl (lv_at hl 1 rfl) ?_
      refine va_get (D := (dC, dI)) (ci := 8) (v := .ref (AM 2)) (C := RX8) (T := TX8) (N := 17) hx hb hts inw_X8_reaches_X8 hown hK hP 0 rfl rfl 2 (by decide) (hts (.fieldLink RX8 13 "DuelFramesModel" "s" "[I") (List.mem_of_getElem? (i := 1) rfl)) (fun _ h9 => h9) rfl dX8_reaches_37 ?_
      refine lv_iload_n hx hb dX8_reaches_40 rfl (lv_at hl 2 rfl) ?_
      refine lv_iconst (v := 5) hx hb dX8_reaches_41 (by decide) ?_
      refine lv_iadd hx hb dX8_reaches_42 ?_
      refine lv_topi (fun x_10 ex_10 => ?_)
      obtain rfl : x_10 = 5 := ex_10.trans (by decide)
      refine va_iald hx hb hK hP 2 0 rfl rfl (vin rfl) dX8_reaches_43 ?_
      refine lv_topi (fun x_11 ex_11 => ?_)
      obtain rfl : x_11 = (sA 5) := ex_11
      refine lv_aload_n hx hb dX8_reaches_44 rfl (lv_at hl 1 rfl) ?_
      refine lv_iload_n hx hb dX8_reaches_45 rfl (lv_at hl 0 rfl) ?_
      refine lv_iconst (v := 0) hx hb dX8_reaches_46 (by decide) ?_
      refine vp_callSi (W.runV (As := [.int (sA 4), .int 0]) (rest := [.int (sA 5)]) ⟨hx, hb, hml, hown, hts⟩ (c_X8_ofMove l dC dI cY m0 AM g tb sA rd kp td wn rw br (sA 4) 0 (tb_in (hs.2.2.1 c_3) (vin rfl))) (cwV 2 hts gX8_reaches_X8_ofMove rfl rfl rfl (by decide +kernel) ⟨Nat.le_of_ble_eq_true rfl, Nat.le_of_ble_eq_true rfl⟩) ⟨blindR, va_recv hK hP (ci := 8) (q0 := 0) rfl rfl, fun U hU hW => ⟨rfl, rPre_of hP hK hN U hU hW⟩⟩ rfl rfl hl.1 rfl (lv_room (Nat.le_of_ble_eq_true rfl)) dX8_reaches_47 ⟨Nat.zero_le _, Nat.zero_le _⟩) (fun r_12 hw => ?_)
      subst hw
      refine lv_isub hx hb dX8_reaches_50 ?_
      refine lv_istore_n (lv' := [(3, .int ((sA 5) - (X8_ofMove_r tb (sA 4) 0))), (2, .int (sA 4)), (0, .ref m0), (1, .int 0)]) hx hb dX8_reaches_51 rfl hl (by decide) rfl (fun ls hl => ?_)
      refine lv_aload_n hx hb dX8_reaches_52 rfl (lv_at hl 2 rfl) ?_
      refine va_get (D := (dC, dI)) (ci := 8) (v := .ref (AM 2)) (C := RX8) (T := TX8) (N := 17) hx hb hts inw_X8_reaches_X8 hown hK hP 0 rfl rfl 2 (by decide) (hts (.fieldLink RX8 13 "DuelFramesModel" "s" "[I") (List.mem_of_getElem? (i := 1) rfl)) (fun _ h9 => h9) rfl dX8_reaches_53 ?_
      refine lv_bipush (v := 11) hx hb dX8_reaches_56 (by decide) ?_
      refine lv_iload_n hx hb dX8_reaches_58 rfl (lv_at hl 3 rfl) ?_
      refine lv_isub hx hb dX8_reaches_59 ?_
      refine lv_topi (fun x_13 ex_13 => ?_)
      obtain rfl : x_13 = 11 := ex_13.trans (by decide)
      refine lv_iconst (v := 3) hx hb dX8_reaches_60 (by decide) ?_
      refine lv_iadd hx hb dX8_reaches_61 ?_
      refine lv_topi (fun x_14 ex_14 => ?_)
      obtain rfl : x_14 = 14 := ex_14.trans (by decide)
      refine va_iald hx hb hK hP 2 0 rfl rfl (vin rfl) dX8_reaches_62 ?_
      refine lv_topi (fun x_15 ex_15 => ?_)
      obtain rfl : x_15 = (sA 14) := ex_15
      refine lv_istore (lv' := [(4, .int (sA 14)), (3, .int ((sA 5) - (X8_ofMove_r tb (sA 4) 0))), (2, .int (sA 4)), (0, .ref m0), (1, .int 0)]) hx hb dX8_reaches_63 hl (by decide) rfl (fun ls hl => ?_)
      refine lv_aload_n hx hb dX8_reaches_65 rfl (lv_at hl 3 rfl) ?_
      refine lv_iload_n hx hb dX8_reaches_66 rfl (lv_at hl 2 rfl) ?_
      refine lv_iconst (v := 4) hx hb dX8_reaches_67 (by decide) ?_
      refine vp_callSi (W.runV (As := [.int (sA 4), .int 4]) (rest := []) ⟨hx, hb, hml, hown, hts⟩ (c_X8_ofMove l dC dI cY m0 AM g tb sA rd kp td wn rw br (sA 4) 4 (tb_in (hs.2.2.1 c_3) (vin rfl))) (cwV 2 hts gX8_reaches_X8_ofMove rfl rfl rfl (by decide +kernel) ⟨Nat.le_of_ble_eq_true rfl, Nat.le_of_ble_eq_true rfl⟩) ⟨blindR, va_recv hK hP (ci := 8) (q0 := 0) rfl rfl, fun U hU hW => ⟨rfl, rPre_of hP hK hN U hU hW⟩⟩ rfl rfl hl.1 rfl (lv_room (Nat.le_of_ble_eq_true rfl)) dX8_reaches_68 ⟨Nat.zero_le _, Nat.zero_le _⟩) (fun r_16 hw => ?_)
      subst hw
      refine lv_iconst (v := 3) hx hb dX8_reaches_71 (by decide) ?_
      refine jnR (lv := [(3, .int ((sA 5) - (X8_ofMove_r tb (sA 4) 0))), (2, .int (sA 4)), (0, .ref m0)]) (st := [.int (X8_reaches0_j91 tb sA)]) (J := 91) (n := 6) ?_ ?_
      · intro ls hl
        refine lv_istore (lv' := [(5, .int (X8_reaches0_j91 tb sA)), (3, .int ((sA 5) - (X8_ofMove_r tb (sA 4) 0))), (2, .int (sA 4)), (0, .ref m0)]) hx hb dX8_reaches_91 hl (by decide) rfl (fun ls hl => ?_)
        refine lv_iload_n hx hb dX8_reaches_93 rfl (lv_at hl 1 rfl) ?_
        refine lv_if_lt (tgt := 139) hx hb dX8_reaches_94 (by decide) (fun c_19 => ?_) (fun c_19 => ?_)
        · refine lv_iconst (v := 0) hx hb dX8_reaches_139 (by decide) ?_
          have eo_20 : (X8_reaches0_r tb sA) = 0 := by rw [X8_reaches0_r]; simp only [eq_true c_3, eq_true c_7, eq_true c_19, ↓reduceIte]
          exact W.zret (v := 0) (ty := .boolean) hx hb hr rfl (fun t ht _ => ⟨_, rfl, ⟨eo_20.symm, (by decide)⟩, ht⟩) (fun _ h => absurd h List.not_mem_nil) dX8_reaches_140
        · refine lv_iload_n hx hb dX8_reaches_97 rfl (lv_at hl 1 rfl) ?_
          refine lv_aload_n hx hb dX8_reaches_98 rfl (lv_at hl 3 rfl) ?_
          refine lv_iload_n hx hb dX8_reaches_99 rfl (lv_at hl 2 rfl) ?_
          refine lv_iconst (v := 1) hx hb dX8_reaches_100 (by decide) ?_
          refine vp_callSi (W.runV (As := [.int (sA 4), .int 1]) (rest := [.int ((sA 5) - (X8_ofMove_r tb (sA 4) 0))]) ⟨hx, hb, hml, hown, hts⟩ (c_X8_ofMove l dC dI cY m0 AM g tb sA rd kp td wn rw br (sA 4) 1 (tb_in (hs.2.2.1 c_3) (vin rfl))) (cwV 2 hts gX8_reaches_X8_ofMove rfl rfl rfl (by decide +kernel) ⟨Nat.le_of_ble_eq_true rfl, Nat.le_of_ble_eq_true rfl⟩) ⟨blindR, va_recv hK hP (ci := 8) (q0 := 0) rfl rfl, fun U hU hW => ⟨rfl, rPre_of hP hK hN U hU hW⟩⟩ rfl rfl hl.1 rfl (lv_room (Nat.le_of_ble_eq_true rfl)) dX8_reaches_101 ⟨Nat.zero_le _, Nat.zero_le _⟩) (fun r_21 hw => ?_)
          subst hw
          refine lv_icmp_ge (tgt := 139) hx hb dX8_reaches_104 (by decide) (fun c_22 => ?_) (fun c_22 => ?_)
          · refine lv_iconst (v := 0) hx hb dX8_reaches_139 (by decide) ?_
            have eo_23 : (X8_reaches0_r tb sA) = 0 := by rw [X8_reaches0_r]; simp only [eq_true c_3, eq_true c_7, eq_false c_19, eq_true c_22, ↓reduceIte]
            exact W.zret (v := 0) (ty := .boolean) hx hb hr rfl (fun t ht _ => ⟨_, rfl, ⟨eo_23.symm, (by decide)⟩, ht⟩) (fun _ h => absurd h List.not_mem_nil) dX8_reaches_140
          · refine lv_aload_n hx hb dX8_reaches_107 rfl (lv_at hl 3 rfl) ?_
            refine va_get (D := (dC, dI)) (ci := 8) (v := .ref (AM 2)) (C := RX8) (T := TX8) (N := 17) hx hb hts inw_X8_reaches_X8 hown hK hP 0 rfl rfl 2 (by decide) (hts (.fieldLink RX8 13 "DuelFramesModel" "s" "[I") (List.mem_of_getElem? (i := 1) rfl)) (fun _ h9 => h9) rfl dX8_reaches_108 ?_
            refine lv_bipush (v := 11) hx hb dX8_reaches_111 (by decide) ?_
            refine va_iald hx hb hK hP 2 0 rfl rfl (vin rfl) dX8_reaches_113 ?_
            refine lv_topi (fun x_24 ex_24 => ?_)
            obtain rfl : x_24 = (sA 11) := ex_24
            refine lv_aload_n hx hb dX8_reaches_114 rfl (lv_at hl 3 rfl) ?_
            refine va_get (D := (dC, dI)) (ci := 8) (v := .ref (AM 2)) (C := RX8) (T := TX8) (N := 17) hx hb hts inw_X8_reaches_X8 hown hK hP 0 rfl rfl 2 (by decide) (hts (.fieldLink RX8 13 "DuelFramesModel" "s" "[I") (List.mem_of_getElem? (i := 1) rfl)) (fun _ h9 => h9) rfl dX8_reaches_115 ?_
            refine lv_iconst (v := 0) hx hb dX8_reaches_118 (by decide) ?_
            refine va_iald hx hb hK hP 2 0 rfl rfl (vin rfl) dX8_reaches_119 ?_
            refine lv_topi (fun x_25 ex_25 => ?_)
            obtain rfl : x_25 = (sA 0) := ex_25
            refine lv_isub hx hb dX8_reaches_120 ?_
            refine lv_aload_n hx hb dX8_reaches_121 rfl (lv_at hl 3 rfl) ?_
            refine lv_iload_n hx hb dX8_reaches_122 rfl (lv_at hl 2 rfl) ?_
            refine lv_iconst (v := 3) hx hb dX8_reaches_123 (by decide) ?_
            refine vp_callSi (W.runV (As := [.int (sA 4), .int 3]) (rest := [.int ((sA 11) - (sA 0))]) ⟨hx, hb, hml, hown, hts⟩ (c_X8_ofMove l dC dI cY m0 AM g tb sA rd kp td wn rw br (sA 4) 3 (tb_in (hs.2.2.1 c_3) (vin rfl))) (cwV 2 hts gX8_reaches_X8_ofMove rfl rfl rfl (by decide +kernel) ⟨Nat.le_of_ble_eq_true rfl, Nat.le_of_ble_eq_true rfl⟩) ⟨blindR, va_recv hK hP (ci := 8) (q0 := 0) rfl rfl, fun U hU hW => ⟨rfl, rPre_of hP hK hN U hU hW⟩⟩ rfl rfl hl.1 rfl (lv_room (Nat.le_of_ble_eq_true rfl)) dX8_reaches_124 ⟨Nat.zero_le _, Nat.zero_le _⟩) (fun r_26 hw => ?_)
            subst hw
            refine lv_icmp_gt (tgt := 139) hx hb dX8_reaches_127 (by decide) (fun c_27 => ?_) (fun c_27 => ?_)
            · refine lv_iconst (v := 0) hx hb dX8_reaches_139 (by decide) ?_
              have eo_28 : (X8_reaches0_r tb sA) = 0 := by rw [X8_reaches0_r]; simp only [eq_true c_3, eq_true c_7, eq_false c_19, eq_false c_22, eq_true c_27, ↓reduceIte]
              exact W.zret (v := 0) (ty := .boolean) hx hb hr rfl (fun t ht _ => ⟨_, rfl, ⟨eo_28.symm, (by decide)⟩, ht⟩) (fun _ h => absurd h List.not_mem_nil) dX8_reaches_140
            · refine lv_iload hx hb dX8_reaches_130 (lv_at hl 0 rfl) ?_
              refine lv_if_eq (tgt := 139) hx hb dX8_reaches_132 (by decide) (fun c_29 => ?_) (fun c_29 => ?_)
              · refine lv_iconst (v := 0) hx hb dX8_reaches_139 (by decide) ?_
                have eo_30 : (X8_reaches0_r tb sA) = 0 := by rw [X8_reaches0_r]; simp only [eq_true c_3, eq_true c_7, eq_false c_19, eq_false c_22, eq_false c_27, eq_true c_29, ↓reduceIte]
                exact W.zret (v := 0) (ty := .boolean) hx hb hr rfl (fun t ht _ => ⟨_, rfl, ⟨eo_30.symm, (by decide)⟩, ht⟩) (fun _ h => absurd h List.not_mem_nil) dX8_reaches_140
              · refine lv_iconst (v := 1) hx hb dX8_reaches_135 (by decide) ?_
                refine lv_goto (tgt := 140) hx hb dX8_reaches_136 (by decide) ?_
                have eo_31 : (X8_reaches0_r tb sA) = 1 := by rw [X8_reaches0_r]; simp only [eq_true c_3, eq_true c_7, eq_false c_19, eq_false c_22, eq_false c_27, eq_false c_29, ↓reduceIte]
                exact W.zret (v := 1) (ty := .boolean) hx hb hr rfl (fun t ht _ => ⟨_, rfl, ⟨eo_31.symm, (by decide)⟩, ht⟩) (fun _ h => absurd h List.not_mem_nil) dX8_reaches_140
      · intro jn_18
        refine lv_icmp_ne (tgt := 86) hx hb dX8_reaches_72 (by decide) (fun c_17 => ?_) (fun c_17 => ?_)
        · refine lv_iconst (v := 1) hx hb dX8_reaches_86 (by decide) ?_
          refine lv_goto (tgt := 91) hx hb dX8_reaches_87 (by decide) ?_
          have e_32 : (X8_reaches0_j91 tb sA) = 1 := by rw [X8_reaches0_j91]; simp only [eq_false c_17, ↓reduceIte]
          refine W.eq (g2 := F0 m 91 ls [.int (X8_reaches0_j91 tb sA)]) (by simp only [e_32]) ?_
          exact jn_18 _ (by (try simp only [e_32]); exact (lv_sub hl [1, 2, 3] rfl))
        · refine lv_iload hx hb dX8_reaches_75 (lv_at hl 0 rfl) ?_
          refine lv_if_eq (tgt := 86) hx hb dX8_reaches_77 (by decide) (fun c_33 => ?_) (fun c_33 => ?_)
          · refine lv_iconst (v := 1) hx hb dX8_reaches_86 (by decide) ?_
            refine lv_goto (tgt := 91) hx hb dX8_reaches_87 (by decide) ?_
            have e_34 : (X8_reaches0_j91 tb sA) = 1 := by rw [X8_reaches0_j91]; simp only [eq_true c_17, eq_true c_33, ↓reduceIte]
            refine W.eq (g2 := F0 m 91 ls [.int (X8_reaches0_j91 tb sA)]) (by simp only [e_34]) ?_
            exact jn_18 _ (by (try simp only [e_34]); exact (lv_sub hl [1, 2, 3] rfl))
          · refine lv_iload hx hb dX8_reaches_80 (lv_at hl 0 rfl) ?_
            refine lv_iconst (v := 1) hx hb dX8_reaches_82 (by decide) ?_
            refine lv_icmp_ne (tgt := 90) hx hb dX8_reaches_83 (by decide) (fun c_35 => ?_) (fun c_35 => ?_)
            · refine lv_iconst (v := 0) hx hb dX8_reaches_90 (by decide) ?_
              have e_36 : (X8_reaches0_j91 tb sA) = 0 := by rw [X8_reaches0_j91]; simp only [eq_true c_17, eq_false c_33, eq_false c_35, ↓reduceIte]
              refine W.eq (g2 := F0 m 91 ls [.int (X8_reaches0_j91 tb sA)]) (by simp only [e_36]) ?_
              exact jn_18 _ (by (try simp only [e_36]); exact (lv_sub hl [1, 2, 3] rfl))
            · refine lv_iconst (v := 1) hx hb dX8_reaches_86 (by decide) ?_
              refine lv_goto (tgt := 91) hx hb dX8_reaches_87 (by decide) ?_
              have e_37 : (X8_reaches0_j91 tb sA) = 1 := by rw [X8_reaches0_j91]; simp only [eq_true c_17, eq_false c_33, eq_true c_35, ↓reduceIte]
              refine W.eq (g2 := F0 m 91 ls [.int (X8_reaches0_j91 tb sA)]) (by simp only [e_37]) ?_
              exact jn_18 _ (by (try simp only [e_37]); exact (lv_sub hl [1, 2, 3] rfl))
    · refine lv_iconst (v := 0) hx hb dX8_reaches_25 (by decide) ?_
      have eo_38 : (X8_reaches0_r tb sA) = 0 := by rw [X8_reaches0_r]; simp only [eq_true c_3, eq_false c_7, ↓reduceIte]
      exact W.zret (v := 0) (ty := .boolean) hx hb hr rfl (fun t ht _ => ⟨_, rfl, ⟨eo_38.symm, (by decide)⟩, ht⟩) (fun _ h => absurd h List.not_mem_nil) dX8_reaches_26
def X8_reaches11_j91 (tb : Nat → Int32) (sA : Nat → Int32) : Int32 := (if (X8_ofMove_r tb (sA 15) 4) = 3 then (if (sA 3) = 0 then 1 else (if (sA 3) = 1 then 1 else 0)) else 1)
def X8_reaches11_r (tb : Nat → Int32) (sA : Nat → Int32) : Int32 := (if (sA 14) = 1 then (if (sA 20) = (-1) then (if ((sA 16) - (X8_ofMove_r tb (sA 15) 0)) < 0 then 0 else (if (X8_ofMove_r tb (sA 15) 1) ≤ ((sA 16) - (X8_ofMove_r tb (sA 15) 0)) then 0 else (if (X8_ofMove_r tb (sA 15) 3) < ((sA 11) - (sA 0)) then 0 else (if (X8_reaches11_j91 tb sA) = 0 then 0 else 1)))) else 0) else 0)
set_option maxHeartbeats 4000000 in
set_option maxRecDepth 100000 in
theorem c_X8_reaches11 (l : Launch) (dC : Nat → ClassId) (dI : Nat → Nat → Nat) (cY : Nat → ClassId) (m0 : Nat) (AM : Nat → Nat) (g : Nat → Int32) (tb : Nat → Int32) (sA : Nat → Int32) (rd : Nat → Int32) (kp : Nat → Int32) (td : Nat → Int32) (wn : Nat → Int32) (rw : Nat → Int32) (br : Nat → Int32) (hs : okS sA) : Met l yX8_reaches wsX8_reaches ({ frames := 1, cells := 0, slots := 0, locals := 22 } : Room) (va_Pc [.ref m0, .int 11] (rPre (dC, dI) (tyL cY) [(m0, .inr (8, mdL AM g)), (AM 0, .inl (cY 0, 72, .inl tb)), (AM 2, .inl (cY 0, 22, .inl sA)), (AM 3, .inl (cY 0, 22, .inl rd)), (AM 4, .inl (cY 0, 110, .inl kp)), (AM 5, .inl (cY 0, 8414, .inl td)), (AM 6, .inl (cY 0, 2, .inl wn)), (AM 13, .inl (cY 0, 4, .inl rw)), (AM 14, .inl (cY 0, 4, .inl br))])) (vp_Si (fun r => r = (X8_reaches11_r tb sA) ∧ (r = 0 ∨ r = 1))) 0 0 (fun _ => False) := by
  refine Met.ofW (cc := cX8_reaches) (maxL := 6) (ret := (some .boolean)) (by decide) rfl ?_
  intro p e s m args below meth c s₁ B hml hv
  obtain ⟨rfl, hP, hK, hN⟩ := hv
  have hx := B.exec
  have hb := B.bytes
  have hr := B.returns
  have hts := atoms_spec (ws := wsX8_reaches) B.pre
  have hown : s.vm.findClass RX8 = some m.cls := findClass_of_methodNamed B.named
  have hlocks := B.notSynchronized
  have hP : va_P (dC, dI) vwCl [(m0, .inr (8, mdL AM g)), (AM 0, .inl (cY 0, 72, .inl tb)), (AM 2, .inl (cY 0, 22, .inl sA)), (AM 3, .inl (cY 0, 22, .inl rd)), (AM 4, .inl (cY 0, 110, .inl kp)), (AM 5, .inl (cY 0, 8414, .inl td)), (AM 6, .inl (cY 0, 2, .inl wn)), (AM 13, .inl (cY 0, 4, .inl rw)), (AM 14, .inl (cY 0, 4, .inl br))] s.heap := hP
  have hl := lv_entry ([.ref m0, .int 11]) (n := 6) (Nat.le_of_ble_eq_true rfl)
  rw [lg_entry_eq]
  generalize (lg_sl ([.ref m0, .int 11]) ++ List.replicate (6 - (lg_sl ([.ref m0, .int 11])).length) Slot.unset).toArray = ls at hl ⊢
  have hl : lv_has ls 6 [(0, .ref m0), (1, .int 11)] := hl
  refine lv_aload_n hx hb dX8_reaches_0 rfl (lv_at hl 0 rfl) ?_
  refine va_get (D := (dC, dI)) (ci := 8) (v := .ref (AM 2)) (C := RX8) (T := TX8) (N := 17) hx hb hts inw_X8_reaches_X8 hown hK hP 0 rfl rfl 2 (by decide) (hts (.fieldLink RX8 13 "DuelFramesModel" "s" "[I") (List.mem_of_getElem? (i := 1) rfl)) (fun _ h9 => h9) rfl dX8_reaches_1 ?_
  refine lv_iload_n hx hb dX8_reaches_4 rfl (lv_at hl 1 rfl) ?_
  refine lv_iconst (v := 3) hx hb dX8_reaches_5 (by decide) ?_
  refine lv_iadd hx hb dX8_reaches_6 ?_
  refine lv_topi (fun x_1 ex_1 => ?_)
  obtain rfl : x_1 = 14 := ex_1.trans (by decide)
  refine va_iald hx hb hK hP 2 0 rfl rfl (vin rfl) dX8_reaches_7 ?_
  refine lv_topi (fun x_2 ex_2 => ?_)
  obtain rfl : x_2 = (sA 14) := ex_2
  refine lv_iconst (v := 1) hx hb dX8_reaches_8 (by decide) ?_
  refine lv_icmp_ne (tgt := 25) hx hb dX8_reaches_9 (by decide) (fun c_3 => ?_) (fun c_3 => ?_)
  · refine lv_iconst (v := 0) hx hb dX8_reaches_25 (by decide) ?_
    have eo_4 : (X8_reaches11_r tb sA) = 0 := by rw [X8_reaches11_r]; simp only [eq_false c_3, ↓reduceIte]
    exact W.zret (v := 0) (ty := .boolean) hx hb hr rfl (fun t ht _ => ⟨_, rfl, ⟨eo_4.symm, (by decide)⟩, ht⟩) (fun _ h => absurd h List.not_mem_nil) dX8_reaches_26
  · refine lv_aload_n hx hb dX8_reaches_12 rfl (lv_at hl 0 rfl) ?_
    refine va_get (D := (dC, dI)) (ci := 8) (v := .ref (AM 2)) (C := RX8) (T := TX8) (N := 17) hx hb hts inw_X8_reaches_X8 hown hK hP 0 rfl rfl 2 (by decide) (hts (.fieldLink RX8 13 "DuelFramesModel" "s" "[I") (List.mem_of_getElem? (i := 1) rfl)) (fun _ h9 => h9) rfl dX8_reaches_13 ?_
    refine lv_iload_n hx hb dX8_reaches_16 rfl (lv_at hl 1 rfl) ?_
    refine lv_bipush (v := 9) hx hb dX8_reaches_17 (by decide) ?_
    refine lv_iadd hx hb dX8_reaches_19 ?_
    refine lv_topi (fun x_5 ex_5 => ?_)
    obtain rfl : x_5 = 20 := ex_5.trans (by decide)
    refine va_iald hx hb hK hP 2 0 rfl rfl (vin rfl) dX8_reaches_20 ?_
    refine lv_topi (fun x_6 ex_6 => ?_)
    obtain rfl : x_6 = (sA 20) := ex_6
    refine lv_iconst (v := (-1)) hx hb dX8_reaches_21 (by decide) ?_
    refine lv_icmp_eq (tgt := 27) hx hb dX8_reaches_22 (by decide) (fun c_7 => ?_) (fun c_7 => ?_)
    · refine lv_aload_n hx hb dX8_reaches_27 rfl (lv_at hl 0 rfl) ?_
      refine va_get (D := (dC, dI)) (ci := 8) (v := .ref (AM 2)) (C := RX8) (T := TX8) (N := 17) hx hb hts inw_X8_reaches_X8 hown hK hP 0 rfl rfl 2 (by decide) (hts (.fieldLink RX8 13 "DuelFramesModel" "s" "[I") (List.mem_of_getElem? (i := 1) rfl)) (fun _ h9 => h9) rfl dX8_reaches_28 ?_
      refine lv_iload_n hx hb dX8_reaches_31 rfl (lv_at hl 1 rfl) ?_
      refine lv_iconst (v := 4) hx hb dX8_reaches_32 (by decide) ?_
      refine lv_iadd hx hb dX8_reaches_33 ?_
      refine lv_topi (fun x_8 ex_8 => ?_)
      obtain rfl : x_8 = 15 := ex_8.trans (by decide)
      refine va_iald hx hb hK hP 2 0 rfl rfl (vin rfl) dX8_reaches_34 ?_
      refine lv_topi (fun x_9 ex_9 => ?_)
      obtain rfl : x_9 = (sA 15) := ex_9
      refine lv_istore_n (lv' := [(2, .int (sA 15)), (0, .ref m0), (1, .int 11)]) hx hb dX8_reaches_35 rfl hl (by decide) rfl (fun ls hl => ?_)
      refine lv_aload_n hx hb dX8_reaches_36 rfl (lv_at hl 1 rfl) ?_
      refine va_get (D := (dC, dI)) (ci := 8) (v := .ref (AM 2)) (C := RX8) (T := TX8) (N := 17) hx hb hts inw_X8_reaches_X8 hown hK hP 0 rfl rfl 2 (by decide) (hts (.fieldLink RX8 13 "DuelFramesModel" "s" "[I") (List.mem_of_getElem? (i := 1) rfl)) (fun _ h9 => h9) rfl dX8_reaches_37 ?_
      refine lv_iload_n hx hb dX8_reaches_40 rfl (lv_at hl 2 rfl) ?_
      refine lv_iconst (v := 5) hx hb dX8_reaches_41 (by decide) ?_
      refine lv_iadd hx hb dX8_reaches_42 ?_
      refine lv_topi (fun x_10 ex_10 => ?_)
      obtain rfl : x_10 = 16 := ex_10.trans (by decide)
      refine va_iald hx hb hK hP 2 0 rfl rfl (vin rfl) dX8_reaches_43 ?_
      refine lv_topi (fun x_11 ex_11 => ?_)
      obtain rfl : x_11 = (sA 16) := ex_11
      refine lv_aload_n hx hb dX8_reaches_44 rfl (lv_at hl 1 rfl) ?_
      refine lv_iload_n hx hb dX8_reaches_45 rfl (lv_at hl 0 rfl) ?_
      refine lv_iconst (v := 0) hx hb dX8_reaches_46 (by decide) ?_
      refine vp_callSi (W.runV (As := [.int (sA 15), .int 0]) (rest := [.int (sA 16)]) ⟨hx, hb, hml, hown, hts⟩ (c_X8_ofMove l dC dI cY m0 AM g tb sA rd kp td wn rw br (sA 15) 0 (tb_in (hs.2.2.2 c_3) (vin rfl))) (cwV 2 hts gX8_reaches_X8_ofMove rfl rfl rfl (by decide +kernel) ⟨Nat.le_of_ble_eq_true rfl, Nat.le_of_ble_eq_true rfl⟩) ⟨blindR, va_recv hK hP (ci := 8) (q0 := 0) rfl rfl, fun U hU hW => ⟨rfl, rPre_of hP hK hN U hU hW⟩⟩ rfl rfl hl.1 rfl (lv_room (Nat.le_of_ble_eq_true rfl)) dX8_reaches_47 ⟨Nat.zero_le _, Nat.zero_le _⟩) (fun r_12 hw => ?_)
      subst hw
      refine lv_isub hx hb dX8_reaches_50 ?_
      refine lv_istore_n (lv' := [(3, .int ((sA 16) - (X8_ofMove_r tb (sA 15) 0))), (2, .int (sA 15)), (0, .ref m0), (1, .int 11)]) hx hb dX8_reaches_51 rfl hl (by decide) rfl (fun ls hl => ?_)
      refine lv_aload_n hx hb dX8_reaches_52 rfl (lv_at hl 2 rfl) ?_
      refine va_get (D := (dC, dI)) (ci := 8) (v := .ref (AM 2)) (C := RX8) (T := TX8) (N := 17) hx hb hts inw_X8_reaches_X8 hown hK hP 0 rfl rfl 2 (by decide) (hts (.fieldLink RX8 13 "DuelFramesModel" "s" "[I") (List.mem_of_getElem? (i := 1) rfl)) (fun _ h9 => h9) rfl dX8_reaches_53 ?_
      refine lv_bipush (v := 11) hx hb dX8_reaches_56 (by decide) ?_
      refine lv_iload_n hx hb dX8_reaches_58 rfl (lv_at hl 3 rfl) ?_
      refine lv_isub hx hb dX8_reaches_59 ?_
      refine lv_topi (fun x_13 ex_13 => ?_)
      obtain rfl : x_13 = 0 := ex_13.trans (by decide)
      refine lv_iconst (v := 3) hx hb dX8_reaches_60 (by decide) ?_
      refine lv_iadd hx hb dX8_reaches_61 ?_
      refine lv_topi (fun x_14 ex_14 => ?_)
      obtain rfl : x_14 = 3 := ex_14.trans (by decide)
      refine va_iald hx hb hK hP 2 0 rfl rfl (vin rfl) dX8_reaches_62 ?_
      refine lv_topi (fun x_15 ex_15 => ?_)
      obtain rfl : x_15 = (sA 3) := ex_15
      refine lv_istore (lv' := [(4, .int (sA 3)), (3, .int ((sA 16) - (X8_ofMove_r tb (sA 15) 0))), (2, .int (sA 15)), (0, .ref m0), (1, .int 11)]) hx hb dX8_reaches_63 hl (by decide) rfl (fun ls hl => ?_)
      refine lv_aload_n hx hb dX8_reaches_65 rfl (lv_at hl 3 rfl) ?_
      refine lv_iload_n hx hb dX8_reaches_66 rfl (lv_at hl 2 rfl) ?_
      refine lv_iconst (v := 4) hx hb dX8_reaches_67 (by decide) ?_
      refine vp_callSi (W.runV (As := [.int (sA 15), .int 4]) (rest := []) ⟨hx, hb, hml, hown, hts⟩ (c_X8_ofMove l dC dI cY m0 AM g tb sA rd kp td wn rw br (sA 15) 4 (tb_in (hs.2.2.2 c_3) (vin rfl))) (cwV 2 hts gX8_reaches_X8_ofMove rfl rfl rfl (by decide +kernel) ⟨Nat.le_of_ble_eq_true rfl, Nat.le_of_ble_eq_true rfl⟩) ⟨blindR, va_recv hK hP (ci := 8) (q0 := 0) rfl rfl, fun U hU hW => ⟨rfl, rPre_of hP hK hN U hU hW⟩⟩ rfl rfl hl.1 rfl (lv_room (Nat.le_of_ble_eq_true rfl)) dX8_reaches_68 ⟨Nat.zero_le _, Nat.zero_le _⟩) (fun r_16 hw => ?_)
      subst hw
      refine lv_iconst (v := 3) hx hb dX8_reaches_71 (by decide) ?_
      refine jnR (lv := [(3, .int ((sA 16) - (X8_ofMove_r tb (sA 15) 0))), (2, .int (sA 15)), (0, .ref m0)]) (st := [.int (X8_reaches11_j91 tb sA)]) (J := 91) (n := 6) ?_ ?_
      · intro ls hl
        refine lv_istore (lv' := [(5, .int (X8_reaches11_j91 tb sA)), (3, .int ((sA 16) - (X8_ofMove_r tb (sA 15) 0))), (2, .int (sA 15)), (0, .ref m0)]) hx hb dX8_reaches_91 hl (by decide) rfl (fun ls hl => ?_)
        refine lv_iload_n hx hb dX8_reaches_93 rfl (lv_at hl 1 rfl) ?_
        refine lv_if_lt (tgt := 139) hx hb dX8_reaches_94 (by decide) (fun c_19 => ?_) (fun c_19 => ?_)
        · refine lv_iconst (v := 0) hx hb dX8_reaches_139 (by decide) ?_
          have eo_20 : (X8_reaches11_r tb sA) = 0 := by rw [X8_reaches11_r]; simp only [eq_true c_3, eq_true c_7, eq_true c_19, ↓reduceIte]
          exact W.zret (v := 0) (ty := .boolean) hx hb hr rfl (fun t ht _ => ⟨_, rfl, ⟨eo_20.symm, (by decide)⟩, ht⟩) (fun _ h => absurd h List.not_mem_nil) dX8_reaches_140
        · refine lv_iload_n hx hb dX8_reaches_97 rfl (lv_at hl 1 rfl) ?_
          refine lv_aload_n hx hb dX8_reaches_98 rfl (lv_at hl 3 rfl) ?_
          refine lv_iload_n hx hb dX8_reaches_99 rfl (lv_at hl 2 rfl) ?_
          refine lv_iconst (v := 1) hx hb dX8_reaches_100 (by decide) ?_
          refine vp_callSi (W.runV (As := [.int (sA 15), .int 1]) (rest := [.int ((sA 16) - (X8_ofMove_r tb (sA 15) 0))]) ⟨hx, hb, hml, hown, hts⟩ (c_X8_ofMove l dC dI cY m0 AM g tb sA rd kp td wn rw br (sA 15) 1 (tb_in (hs.2.2.2 c_3) (vin rfl))) (cwV 2 hts gX8_reaches_X8_ofMove rfl rfl rfl (by decide +kernel) ⟨Nat.le_of_ble_eq_true rfl, Nat.le_of_ble_eq_true rfl⟩) ⟨blindR, va_recv hK hP (ci := 8) (q0 := 0) rfl rfl, fun U hU hW => ⟨rfl, rPre_of hP hK hN U hU hW⟩⟩ rfl rfl hl.1 rfl (lv_room (Nat.le_of_ble_eq_true rfl)) dX8_reaches_101 ⟨Nat.zero_le _, Nat.zero_le _⟩) (fun r_21 hw => ?_)
          subst hw
          refine lv_icmp_ge (tgt := 139) hx hb dX8_reaches_104 (by decide) (fun c_22 => ?_) (fun c_22 => ?_)
          · refine lv_iconst (v := 0) hx hb dX8_reaches_139 (by decide) ?_
            have eo_23 : (X8_reaches11_r tb sA) = 0 := by rw [X8_reaches11_r]; simp only [eq_true c_3, eq_true c_7, eq_false c_19, eq_true c_22, ↓reduceIte]
            exact W.zret (v := 0) (ty := .boolean) hx hb hr rfl (fun t ht _ => ⟨_, rfl, ⟨eo_23.symm, (by decide)⟩, ht⟩) (fun _ h => absurd h List.not_mem_nil) dX8_reaches_140
          · refine lv_aload_n hx hb dX8_reaches_107 rfl (lv_at hl 3 rfl) ?_
            refine va_get (D := (dC, dI)) (ci := 8) (v := .ref (AM 2)) (C := RX8) (T := TX8) (N := 17) hx hb hts inw_X8_reaches_X8 hown hK hP 0 rfl rfl 2 (by decide) (hts (.fieldLink RX8 13 "DuelFramesModel" "s" "[I") (List.mem_of_getElem? (i := 1) rfl)) (fun _ h9 => h9) rfl dX8_reaches_108 ?_
            refine lv_bipush (v := 11) hx hb dX8_reaches_111 (by decide) ?_
            refine va_iald hx hb hK hP 2 0 rfl rfl (vin rfl) dX8_reaches_113 ?_
            refine lv_topi (fun x_24 ex_24 => ?_)
            obtain rfl : x_24 = (sA 11) := ex_24
            refine lv_aload_n hx hb dX8_reaches_114 rfl (lv_at hl 3 rfl) ?_
            refine va_get (D := (dC, dI)) (ci := 8) (v := .ref (AM 2)) (C := RX8) (T := TX8) (N := 17) hx hb hts inw_X8_reaches_X8 hown hK hP 0 rfl rfl 2 (by decide) (hts (.fieldLink RX8 13 "DuelFramesModel" "s" "[I") (List.mem_of_getElem? (i := 1) rfl)) (fun _ h9 => h9) rfl dX8_reaches_115 ?_
            refine lv_iconst (v := 0) hx hb dX8_reaches_118 (by decide) ?_
            refine va_iald hx hb hK hP 2 0 rfl rfl (vin rfl) dX8_reaches_119 ?_
            refine lv_topi (fun x_25 ex_25 => ?_)
            obtain rfl : x_25 = (sA 0) := ex_25
            refine lv_isub hx hb dX8_reaches_120 ?_
            refine lv_aload_n hx hb dX8_reaches_121 rfl (lv_at hl 3 rfl) ?_
            refine lv_iload_n hx hb dX8_reaches_122 rfl (lv_at hl 2 rfl) ?_
            refine lv_iconst (v := 3) hx hb dX8_reaches_123 (by decide) ?_
            refine vp_callSi (W.runV (As := [.int (sA 15), .int 3]) (rest := [.int ((sA 11) - (sA 0))]) ⟨hx, hb, hml, hown, hts⟩ (c_X8_ofMove l dC dI cY m0 AM g tb sA rd kp td wn rw br (sA 15) 3 (tb_in (hs.2.2.2 c_3) (vin rfl))) (cwV 2 hts gX8_reaches_X8_ofMove rfl rfl rfl (by decide +kernel) ⟨Nat.le_of_ble_eq_true rfl, Nat.le_of_ble_eq_true rfl⟩) ⟨blindR, va_recv hK hP (ci := 8) (q0 := 0) rfl rfl, fun U hU hW => ⟨rfl, rPre_of hP hK hN U hU hW⟩⟩ rfl rfl hl.1 rfl (lv_room (Nat.le_of_ble_eq_true rfl)) dX8_reaches_124 ⟨Nat.zero_le _, Nat.zero_le _⟩) (fun r_26 hw => ?_)
            subst hw
            refine lv_icmp_gt (tgt := 139) hx hb dX8_reaches_127 (by decide) (fun c_27 => ?_) (fun c_27 => ?_)
            · refine lv_iconst (v := 0) hx hb dX8_reaches_139 (by decide) ?_
              have eo_28 : (X8_reaches11_r tb sA) = 0 := by rw [X8_reaches11_r]; simp only [eq_true c_3, eq_true c_7, eq_false c_19, eq_false c_22, eq_true c_27, ↓reduceIte]
              exact W.zret (v := 0) (ty := .boolean) hx hb hr rfl (fun t ht _ => ⟨_, rfl, ⟨eo_28.symm, (by decide)⟩, ht⟩) (fun _ h => absurd h List.not_mem_nil) dX8_reaches_140
            · refine lv_iload hx hb dX8_reaches_130 (lv_at hl 0 rfl) ?_
              refine lv_if_eq (tgt := 139) hx hb dX8_reaches_132 (by decide) (fun c_29 => ?_) (fun c_29 => ?_)
              · refine lv_iconst (v := 0) hx hb dX8_reaches_139 (by decide) ?_
                have eo_30 : (X8_reaches11_r tb sA) = 0 := by rw [X8_reaches11_r]; simp only [eq_true c_3, eq_true c_7, eq_false c_19, eq_false c_22, eq_false c_27, eq_true c_29, ↓reduceIte]
                exact W.zret (v := 0) (ty := .boolean) hx hb hr rfl (fun t ht _ => ⟨_, rfl, ⟨eo_30.symm, (by decide)⟩, ht⟩) (fun _ h => absurd h List.not_mem_nil) dX8_reaches_140
              · refine lv_iconst (v := 1) hx hb dX8_reaches_135 (by decide) ?_
                refine lv_goto (tgt := 140) hx hb dX8_reaches_136 (by decide) ?_
                have eo_31 : (X8_reaches11_r tb sA) = 1 := by rw [X8_reaches11_r]; simp only [eq_true c_3, eq_true c_7, eq_false c_19, eq_false c_22, eq_false c_27, eq_false c_29, ↓reduceIte]
                exact W.zret (v := 1) (ty := .boolean) hx hb hr rfl (fun t ht _ => ⟨_, rfl, ⟨eo_31.symm, (by decide)⟩, ht⟩) (fun _ h => absurd h List.not_mem_nil) dX8_reaches_140
      · intro jn_18
        refine lv_icmp_ne (tgt := 86) hx hb dX8_reaches_72 (by decide) (fun c_17 => ?_) (fun c_17 => ?_)
        · refine lv_iconst (v := 1) hx hb dX8_reaches_86 (by decide) ?_
          refine lv_goto (tgt := 91) hx hb dX8_reaches_87 (by decide) ?_
          have e_32 : (X8_reaches11_j91 tb sA) = 1 := by rw [X8_reaches11_j91]; simp only [eq_false c_17, ↓reduceIte]
          refine W.eq (g2 := F0 m 91 ls [.int (X8_reaches11_j91 tb sA)]) (by simp only [e_32]) ?_
          exact jn_18 _ (by (try simp only [e_32]); exact (lv_sub hl [1, 2, 3] rfl))
        · refine lv_iload hx hb dX8_reaches_75 (lv_at hl 0 rfl) ?_
          refine lv_if_eq (tgt := 86) hx hb dX8_reaches_77 (by decide) (fun c_33 => ?_) (fun c_33 => ?_)
          · refine lv_iconst (v := 1) hx hb dX8_reaches_86 (by decide) ?_
            refine lv_goto (tgt := 91) hx hb dX8_reaches_87 (by decide) ?_
            have e_34 : (X8_reaches11_j91 tb sA) = 1 := by rw [X8_reaches11_j91]; simp only [eq_true c_17, eq_true c_33, ↓reduceIte]
            refine W.eq (g2 := F0 m 91 ls [.int (X8_reaches11_j91 tb sA)]) (by simp only [e_34]) ?_
            exact jn_18 _ (by (try simp only [e_34]); exact (lv_sub hl [1, 2, 3] rfl))
          · refine lv_iload hx hb dX8_reaches_80 (lv_at hl 0 rfl) ?_
            refine lv_iconst (v := 1) hx hb dX8_reaches_82 (by decide) ?_
            refine lv_icmp_ne (tgt := 90) hx hb dX8_reaches_83 (by decide) (fun c_35 => ?_) (fun c_35 => ?_)
            · refine lv_iconst (v := 0) hx hb dX8_reaches_90 (by decide) ?_
              have e_36 : (X8_reaches11_j91 tb sA) = 0 := by rw [X8_reaches11_j91]; simp only [eq_true c_17, eq_false c_33, eq_false c_35, ↓reduceIte]
              refine W.eq (g2 := F0 m 91 ls [.int (X8_reaches11_j91 tb sA)]) (by simp only [e_36]) ?_
              exact jn_18 _ (by (try simp only [e_36]); exact (lv_sub hl [1, 2, 3] rfl))
            · refine lv_iconst (v := 1) hx hb dX8_reaches_86 (by decide) ?_
              refine lv_goto (tgt := 91) hx hb dX8_reaches_87 (by decide) ?_
              have e_37 : (X8_reaches11_j91 tb sA) = 1 := by rw [X8_reaches11_j91]; simp only [eq_true c_17, eq_false c_33, eq_true c_35, ↓reduceIte]
              refine W.eq (g2 := F0 m 91 ls [.int (X8_reaches11_j91 tb sA)]) (by simp only [e_37]) ?_
              exact jn_18 _ (by (try simp only [e_37]); exact (lv_sub hl [1, 2, 3] rfl))
    · refine lv_iconst (v := 0) hx hb dX8_reaches_25 (by decide) ?_
      have eo_38 : (X8_reaches11_r tb sA) = 0 := by rw [X8_reaches11_r]; simp only [eq_true c_3, eq_false c_7, ↓reduceIte]
      exact W.zret (v := 0) (ty := .boolean) hx hb hr rfl (fun t ht _ => ⟨_, rfl, ⟨eo_38.symm, (by decide)⟩, ht⟩) (fun _ h => absurd h List.not_mem_nil) dX8_reaches_26
theorem inw_X8_goBack_X8 : ∀ w ∈ u_ws RX8 TX8 17, w ∈ wsX8_goBack := fun _ h => List.mem_cons_of_mem _ (List.mem_append_right _ h)
def X8_goBack0_j35 (sA : Nat → Int32) (by_ : Int32) : Int32 := (if (sA 0) ≤ by_ then (sA 0) else by_)
def X8_goBack0_w2 (sA : Nat → Int32) (by_ : Int32) : Nat → Int32 := (upd sA 0 ((sA 0) + (-(X8_goBack0_j35 sA by_))))
def X8_goBack0_r (sA : Nat → Int32) (by_ : Int32) : Int32 := (by_ - (X8_goBack0_j35 sA by_))
set_option maxHeartbeats 4000000 in
set_option maxRecDepth 100000 in
theorem c_X8_goBack0 (l : Launch) (dC : Nat → ClassId) (dI : Nat → Nat → Nat) (cY : Nat → ClassId) (m0 : Nat) (AM : Nat → Nat) (g : Nat → Int32) (tb : Nat → Int32) (sA : Nat → Int32) (rd : Nat → Int32) (kp : Nat → Int32) (td : Nat → Int32) (wn : Nat → Int32) (rw : Nat → Int32) (br : Nat → Int32) (by_ : Int32)  (sz : Nat) : Met l yX8_goBack wsX8_goBack ({ frames := 0, cells := 0, slots := 0, locals := 0 } : Room) (va_Pc [.ref m0, .int 0, .int by_] (wPre (dC, dI) (tyL cY) [(m0, .inr (8, mdL AM g)), (AM 0, .inl (cY 0, 72, .inl tb)), (AM 2, .inl (cY 0, 22, .inl sA)), (AM 3, .inl (cY 0, 22, .inl rd)), (AM 4, .inl (cY 0, 110, .inl kp)), (AM 5, .inl (cY 0, 8414, .inl td)), (AM 6, .inl (cY 0, 2, .inl wn)), (AM 13, .inl (cY 0, 4, .inl rw)), (AM 14, .inl (cY 0, 4, .inl br))] sz)) (va_Qi (fun (r : Int32) (_ : Unit) => r = (X8_goBack0_r sA by_)) (wPost (dC, dI) [(m0, .inr (8, mdL AM g)), (AM 0, .inl (cY 0, 72, .inl tb)), (AM 2, .inl (cY 0, 22, .inl (X8_goBack0_w2 sA by_))), (AM 3, .inl (cY 0, 22, .inl rd)), (AM 4, .inl (cY 0, 110, .inl kp)), (AM 5, .inl (cY 0, 8414, .inl td)), (AM 6, .inl (cY 0, 2, .inl wn)), (AM 13, .inl (cY 0, 4, .inl rw)), (AM 14, .inl (cY 0, 4, .inl br))] (va_A [(m0, .inr (8, mdL AM g)), (AM 0, .inl (cY 0, 72, .inl tb)), (AM 2, .inl (cY 0, 22, .inl sA)), (AM 3, .inl (cY 0, 22, .inl rd)), (AM 4, .inl (cY 0, 110, .inl kp)), (AM 5, .inl (cY 0, 8414, .inl td)), (AM 6, .inl (cY 0, 2, .inl wn)), (AM 13, .inl (cY 0, 4, .inl rw)), (AM 14, .inl (cY 0, 4, .inl br))] sz)) (va_A [(m0, .inr (8, mdL AM g)), (AM 0, .inl (cY 0, 72, .inl tb)), (AM 2, .inl (cY 0, 22, .inl sA)), (AM 3, .inl (cY 0, 22, .inl rd)), (AM 4, .inl (cY 0, 110, .inl kp)), (AM 5, .inl (cY 0, 8414, .inl td)), (AM 6, .inl (cY 0, 2, .inl wn)), (AM 13, .inl (cY 0, 4, .inl rw)), (AM 14, .inl (cY 0, 4, .inl br))] sz)) 0 0 (va_A [(m0, .inr (8, mdL AM g)), (AM 0, .inl (cY 0, 72, .inl tb)), (AM 2, .inl (cY 0, 22, .inl sA)), (AM 3, .inl (cY 0, 22, .inl rd)), (AM 4, .inl (cY 0, 110, .inl kp)), (AM 5, .inl (cY 0, 8414, .inl td)), (AM 6, .inl (cY 0, 2, .inl wn)), (AM 13, .inl (cY 0, 4, .inl rw)), (AM 14, .inl (cY 0, 4, .inl br))] sz) := by
  refine Met.ofW (cc := cX8_goBack) (maxL := 5) (ret := (some .int)) (by decide) rfl ?_
  intro p e s m args below meth c s₁ B hml hv
  obtain ⟨rfl, hsz, hP, hK, hN, hD0⟩ := hv
  have hx := B.exec
  have hb := B.bytes
  have hr := B.returns
  have hts := atoms_spec (ws := wsX8_goBack) B.pre
  have hown : s.vm.findClass RX8 = some m.cls := findClass_of_methodNamed B.named
  have hlocks := B.notSynchronized
  subst hsz
  have hD := hD0.self (sz := s.heap.size)
  generalize hAe : va_A [(m0, .inr (8, mdL AM g)), (AM 0, .inl (cY 0, 72, .inl tb)), (AM 2, .inl (cY 0, 22, .inl sA)), (AM 3, .inl (cY 0, 22, .inl rd)), (AM 4, .inl (cY 0, 110, .inl kp)), (AM 5, .inl (cY 0, 8414, .inl td)), (AM 6, .inl (cY 0, 2, .inl wn)), (AM 13, .inl (cY 0, 4, .inl rw)), (AM 14, .inl (cY 0, 4, .inl br))] s.heap.size = A at hD ⊢
  have hA : ∀ q : Nat, s.heap.size ≤ q → A q := fun q h => by rw [← hAe]; exact Or.inr h
  have hS : va_S A s.heap s.heap [] := va_S.rf
  have hP : va_P (dC, dI) vwCl [(m0, .inr (8, mdL AM g)), (AM 0, .inl (cY 0, 72, .inl tb)), (AM 2, .inl (cY 0, 22, .inl sA)), (AM 3, .inl (cY 0, 22, .inl rd)), (AM 4, .inl (cY 0, 110, .inl kp)), (AM 5, .inl (cY 0, 8414, .inl td)), (AM 6, .inl (cY 0, 2, .inl wn)), (AM 13, .inl (cY 0, 4, .inl rw)), (AM 14, .inl (cY 0, 4, .inl br))] s.heap := hP
  have hl := lv_entry ([.ref m0, .int 0, .int by_]) (n := 5) (Nat.le_of_ble_eq_true rfl)
  rw [lg_entry_eq]
  generalize (lg_sl ([.ref m0, .int 0, .int by_]) ++ List.replicate (5 - (lg_sl ([.ref m0, .int 0, .int by_])).length) Slot.unset).toArray = ls at hl ⊢
  have hl : lv_has ls 5 [(0, .ref m0), (1, .int 0), (2, .int by_)] := hl
  refine lv_iload_n hx hb dX8_goBack_0 rfl (lv_at hl 1 rfl) ?_
  refine lv_if_ne (tgt := 13) hx hb dX8_goBack_1 (by decide) (fun c_1 => ?_) (fun c_1 => ?_)
  · exact absurd (by decide) c_1
  refine lv_aload_n hx hb dX8_goBack_4 rfl (lv_at hl 0 rfl) ?_
  refine va_get (D := (dC, dI)) (ci := 8) (v := .ref (AM 2)) (C := RX8) (T := TX8) (N := 17) hx hb hts inw_X8_goBack_X8 hown hK hP 0 rfl rfl 2 (by decide) (hts (.fieldLink RX8 13 "DuelFramesModel" "s" "[I") (List.mem_of_getElem? (i := 1) rfl)) (fun _ h9 => h9) rfl dX8_goBack_5 ?_
  refine lv_iconst (v := 0) hx hb dX8_goBack_8 (by decide) ?_
  refine va_iald hx hb hK hP 2 0 rfl rfl (vin rfl) dX8_goBack_9 ?_
  refine lv_topi (fun x_2 ex_2 => ?_)
  obtain rfl : x_2 = (sA 0) := ex_2
  refine lv_goto (tgt := 24) hx hb dX8_goBack_10 (by decide) ?_
  refine lv_istore_n (lv' := [(3, .int (sA 0)), (0, .ref m0), (1, .int 0), (2, .int by_)]) hx hb dX8_goBack_24 rfl hl (by decide) rfl (fun ls hl => ?_)
  refine lv_iload_n hx hb dX8_goBack_25 rfl (lv_at hl 3 rfl) ?_
  refine lv_iload_n hx hb dX8_goBack_26 rfl (lv_at hl 0 rfl) ?_
  refine jnW (D := (dC, dI)) (ws := [(m0, .inr (8, mdL AM g)), (AM 0, .inl (cY 0, 72, .inl tb)), (AM 2, .inl (cY 0, 22, .inl sA)), (AM 3, .inl (cY 0, 22, .inl rd)), (AM 4, .inl (cY 0, 110, .inl kp)), (AM 5, .inl (cY 0, 8414, .inl td)), (AM 6, .inl (cY 0, 2, .inl wn)), (AM 13, .inl (cY 0, 4, .inl rw)), (AM 14, .inl (cY 0, 4, .inl br))]) (lv := [(0, .ref m0), (1, .int 0), (2, .int by_)]) (st := [.int (X8_goBack0_j35 sA by_)]) (J := 35) (n := 5) (A := A) (H0 := s.heap) ?_ ?_
  · intro H locs ls hP hD hS hl
    refine lv_istore (lv' := [(4, .int (X8_goBack0_j35 sA by_)), (0, .ref m0), (1, .int 0), (2, .int by_)]) hx hb dX8_goBack_35 hl (by decide) rfl (fun ls hl => ?_)
    refine lv_aload_n hx hb dX8_goBack_37 rfl (lv_at hl 1 rfl) ?_
    refine va_get (D := (dC, dI)) (ci := 8) (v := .ref (AM 2)) (C := RX8) (T := TX8) (N := 17) hx hb hts inw_X8_goBack_X8 hown hK hP 0 rfl rfl 2 (by decide) (hts (.fieldLink RX8 13 "DuelFramesModel" "s" "[I") (List.mem_of_getElem? (i := 1) rfl)) (fun _ h9 => h9) rfl dX8_goBack_38 ?_
    refine lv_iload_n hx hb dX8_goBack_41 rfl (lv_at hl 2 rfl) ?_
    refine lv_iconst (v := 0) hx hb dX8_goBack_42 (by decide) ?_
    refine lv_iadd hx hb dX8_goBack_43 ?_
    refine lv_topi (fun x_5 ex_5 => ?_)
    obtain rfl : x_5 = 0 := ex_5.trans (by decide)
    refine lv_dup2_11 hx hb dX8_goBack_44 rfl rfl ?_
    refine va_iald hx hb hK hP 2 0 rfl rfl (vin rfl) dX8_goBack_45 ?_
    refine lv_topi (fun x_6 ex_6 => ?_)
    obtain rfl : x_6 = (sA 0) := ex_6
    refine lv_iload_n hx hb dX8_goBack_46 rfl (lv_at hl 2 rfl) ?_
    refine lv_if_ne (tgt := 56) hx hb dX8_goBack_47 (by decide) (fun c_7 => ?_) (fun c_7 => ?_)
    · exact absurd (by decide) c_7
    refine lv_iload hx hb dX8_goBack_50 (lv_at hl 0 rfl) ?_
    refine lv_ineg hx hb dX8_goBack_52 ?_
    refine lv_goto (tgt := 58) hx hb dX8_goBack_53 (by decide) ?_
    refine lv_iadd hx hb dX8_goBack_58 ?_
    refine va_iast hx hb hK hP hD hS 2 0 rfl rfl (vin rfl) dX8_goBack_59 (fun H locs hP1 hD1 hS1 => ?_)
    clear hP hD hS
    have hP : va_P (dC, dI) vwCl [(m0, .inr (8, mdL AM g)), (AM 0, .inl (cY 0, 72, .inl tb)), (AM 2, .inl (cY 0, 22, .inl (upd sA 0 ((sA 0) + (-(X8_goBack0_j35 sA by_)))))), (AM 3, .inl (cY 0, 22, .inl rd)), (AM 4, .inl (cY 0, 110, .inl kp)), (AM 5, .inl (cY 0, 8414, .inl td)), (AM 6, .inl (cY 0, 2, .inl wn)), (AM 13, .inl (cY 0, 4, .inl rw)), (AM 14, .inl (cY 0, 4, .inl br))] H := hP1
    have hD : va_D A [(m0, .inr (8, mdL AM g)), (AM 0, .inl (cY 0, 72, .inl tb)), (AM 2, .inl (cY 0, 22, .inl (upd sA 0 ((sA 0) + (-(X8_goBack0_j35 sA by_)))))), (AM 3, .inl (cY 0, 22, .inl rd)), (AM 4, .inl (cY 0, 110, .inl kp)), (AM 5, .inl (cY 0, 8414, .inl td)), (AM 6, .inl (cY 0, 2, .inl wn)), (AM 13, .inl (cY 0, 4, .inl rw)), (AM 14, .inl (cY 0, 4, .inl br))] := hD1
    have hS := hS1
    clear hP1 hD1 hS1
    refine lv_iload_n hx hb dX8_goBack_60 rfl (lv_at hl 3 rfl) ?_
    refine lv_iload hx hb dX8_goBack_61 (lv_at hl 0 rfl) ?_
    refine lv_isub hx hb dX8_goBack_63 ?_
    have eo_8 : (X8_goBack0_r sA by_) = (by_ - (X8_goBack0_j35 sA by_)) := by rw [X8_goBack0_r]
    have eo_9 : (X8_goBack0_w2 sA by_) = (upd sA 0 ((sA 0) + (-(X8_goBack0_j35 sA by_)))) := by rw [X8_goBack0_w2]
    have hP9 : va_P (dC, dI) vwCl [(m0, .inr (8, mdL AM g)), (AM 0, .inl (cY 0, 72, .inl tb)), (AM 2, .inl (cY 0, 22, .inl (X8_goBack0_w2 sA by_))), (AM 3, .inl (cY 0, 22, .inl rd)), (AM 4, .inl (cY 0, 110, .inl kp)), (AM 5, .inl (cY 0, 8414, .inl td)), (AM 6, .inl (cY 0, 2, .inl wn)), (AM 13, .inl (cY 0, 4, .inl rw)), (AM 14, .inl (cY 0, 4, .inl br))] H := by simp only [eo_9]; exact hP
    have hD9 : va_D A [(m0, .inr (8, mdL AM g)), (AM 0, .inl (cY 0, 72, .inl tb)), (AM 2, .inl (cY 0, 22, .inl (X8_goBack0_w2 sA by_))), (AM 3, .inl (cY 0, 22, .inl rd)), (AM 4, .inl (cY 0, 110, .inl kp)), (AM 5, .inl (cY 0, 8414, .inl td)), (AM 6, .inl (cY 0, 2, .inl wn)), (AM 13, .inl (cY 0, 4, .inl rw)), (AM 14, .inl (cY 0, 4, .inl br))] := by simp only [eo_9]; exact hD
    exact W.iret (v := (by_ - (X8_goBack0_j35 sA by_))) hx hb hr (fun t ht hW => ⟨⟨_, (), rfl, eo_8.symm, wPost_of hP9 hD9 ht⟩, hS.F ht⟩) hS.2.2 dX8_goBack_64
  · intro jn_4
    refine lv_icmp_ge (tgt := 34) hx hb dX8_goBack_27 (by decide) (fun c_3 => ?_) (fun c_3 => ?_)
    · refine lv_iload_n hx hb dX8_goBack_34 rfl (lv_at hl 0 rfl) ?_
      have e_10 : (X8_goBack0_j35 sA by_) = (sA 0) := by rw [X8_goBack0_j35]; simp only [eq_true c_3, ↓reduceIte]
      refine W.eq (g2 := F0 m 35 ls [.int (X8_goBack0_j35 sA by_)]) (by simp only [e_10]) ?_
      exact jn_4 _ _ _ (by (try simp only [e_10]); exact hP) (by (try simp only [e_10]); exact hD) hS (by (try simp only [e_10]); exact (lv_sub hl [1, 2, 3] rfl))
    · refine lv_iload_n hx hb dX8_goBack_30 rfl (lv_at hl 3 rfl) ?_
      refine lv_goto (tgt := 35) hx hb dX8_goBack_31 (by decide) ?_
      have e_11 : (X8_goBack0_j35 sA by_) = by_ := by rw [X8_goBack0_j35]; simp only [eq_false c_3, ↓reduceIte]
      refine W.eq (g2 := F0 m 35 ls [.int (X8_goBack0_j35 sA by_)]) (by simp only [e_11]) ?_
      exact jn_4 _ _ _ (by (try simp only [e_11]); exact hP) (by (try simp only [e_11]); exact hD) hS (by (try simp only [e_11]); exact (lv_sub hl [1, 2, 3] rfl))
def X8_goBack11_j35 (sA : Nat → Int32) (by_ : Int32) : Int32 := (if (600 - (sA 11)) ≤ by_ then (600 - (sA 11)) else by_)
def X8_goBack11_w2 (sA : Nat → Int32) (by_ : Int32) : Nat → Int32 := (upd sA 11 ((sA 11) + (X8_goBack11_j35 sA by_)))
def X8_goBack11_r (sA : Nat → Int32) (by_ : Int32) : Int32 := (by_ - (X8_goBack11_j35 sA by_))
set_option maxHeartbeats 4000000 in
set_option maxRecDepth 100000 in
theorem c_X8_goBack11 (l : Launch) (dC : Nat → ClassId) (dI : Nat → Nat → Nat) (cY : Nat → ClassId) (m0 : Nat) (AM : Nat → Nat) (g : Nat → Int32) (tb : Nat → Int32) (sA : Nat → Int32) (rd : Nat → Int32) (kp : Nat → Int32) (td : Nat → Int32) (wn : Nat → Int32) (rw : Nat → Int32) (br : Nat → Int32) (by_ : Int32)  (sz : Nat) : Met l yX8_goBack wsX8_goBack ({ frames := 0, cells := 0, slots := 0, locals := 0 } : Room) (va_Pc [.ref m0, .int 11, .int by_] (wPre (dC, dI) (tyL cY) [(m0, .inr (8, mdL AM g)), (AM 0, .inl (cY 0, 72, .inl tb)), (AM 2, .inl (cY 0, 22, .inl sA)), (AM 3, .inl (cY 0, 22, .inl rd)), (AM 4, .inl (cY 0, 110, .inl kp)), (AM 5, .inl (cY 0, 8414, .inl td)), (AM 6, .inl (cY 0, 2, .inl wn)), (AM 13, .inl (cY 0, 4, .inl rw)), (AM 14, .inl (cY 0, 4, .inl br))] sz)) (va_Qi (fun (r : Int32) (_ : Unit) => r = (X8_goBack11_r sA by_)) (wPost (dC, dI) [(m0, .inr (8, mdL AM g)), (AM 0, .inl (cY 0, 72, .inl tb)), (AM 2, .inl (cY 0, 22, .inl (X8_goBack11_w2 sA by_))), (AM 3, .inl (cY 0, 22, .inl rd)), (AM 4, .inl (cY 0, 110, .inl kp)), (AM 5, .inl (cY 0, 8414, .inl td)), (AM 6, .inl (cY 0, 2, .inl wn)), (AM 13, .inl (cY 0, 4, .inl rw)), (AM 14, .inl (cY 0, 4, .inl br))] (va_A [(m0, .inr (8, mdL AM g)), (AM 0, .inl (cY 0, 72, .inl tb)), (AM 2, .inl (cY 0, 22, .inl sA)), (AM 3, .inl (cY 0, 22, .inl rd)), (AM 4, .inl (cY 0, 110, .inl kp)), (AM 5, .inl (cY 0, 8414, .inl td)), (AM 6, .inl (cY 0, 2, .inl wn)), (AM 13, .inl (cY 0, 4, .inl rw)), (AM 14, .inl (cY 0, 4, .inl br))] sz)) (va_A [(m0, .inr (8, mdL AM g)), (AM 0, .inl (cY 0, 72, .inl tb)), (AM 2, .inl (cY 0, 22, .inl sA)), (AM 3, .inl (cY 0, 22, .inl rd)), (AM 4, .inl (cY 0, 110, .inl kp)), (AM 5, .inl (cY 0, 8414, .inl td)), (AM 6, .inl (cY 0, 2, .inl wn)), (AM 13, .inl (cY 0, 4, .inl rw)), (AM 14, .inl (cY 0, 4, .inl br))] sz)) 0 0 (va_A [(m0, .inr (8, mdL AM g)), (AM 0, .inl (cY 0, 72, .inl tb)), (AM 2, .inl (cY 0, 22, .inl sA)), (AM 3, .inl (cY 0, 22, .inl rd)), (AM 4, .inl (cY 0, 110, .inl kp)), (AM 5, .inl (cY 0, 8414, .inl td)), (AM 6, .inl (cY 0, 2, .inl wn)), (AM 13, .inl (cY 0, 4, .inl rw)), (AM 14, .inl (cY 0, 4, .inl br))] sz) := by
  refine Met.ofW (cc := cX8_goBack) (maxL := 5) (ret := (some .int)) (by decide) rfl ?_
  intro p e s m args below meth c s₁ B hml hv
  obtain ⟨rfl, hsz, hP, hK, hN, hD0⟩ := hv
  have hx := B.exec
  have hb := B.bytes
  have hr := B.returns
  have hts := atoms_spec (ws := wsX8_goBack) B.pre
  have hown : s.vm.findClass RX8 = some m.cls := findClass_of_methodNamed B.named
  have hlocks := B.notSynchronized
  subst hsz
  have hD := hD0.self (sz := s.heap.size)
  generalize hAe : va_A [(m0, .inr (8, mdL AM g)), (AM 0, .inl (cY 0, 72, .inl tb)), (AM 2, .inl (cY 0, 22, .inl sA)), (AM 3, .inl (cY 0, 22, .inl rd)), (AM 4, .inl (cY 0, 110, .inl kp)), (AM 5, .inl (cY 0, 8414, .inl td)), (AM 6, .inl (cY 0, 2, .inl wn)), (AM 13, .inl (cY 0, 4, .inl rw)), (AM 14, .inl (cY 0, 4, .inl br))] s.heap.size = A at hD ⊢
  have hA : ∀ q : Nat, s.heap.size ≤ q → A q := fun q h => by rw [← hAe]; exact Or.inr h
  have hS : va_S A s.heap s.heap [] := va_S.rf
  have hP : va_P (dC, dI) vwCl [(m0, .inr (8, mdL AM g)), (AM 0, .inl (cY 0, 72, .inl tb)), (AM 2, .inl (cY 0, 22, .inl sA)), (AM 3, .inl (cY 0, 22, .inl rd)), (AM 4, .inl (cY 0, 110, .inl kp)), (AM 5, .inl (cY 0, 8414, .inl td)), (AM 6, .inl (cY 0, 2, .inl wn)), (AM 13, .inl (cY 0, 4, .inl rw)), (AM 14, .inl (cY 0, 4, .inl br))] s.heap := hP
  have hl := lv_entry ([.ref m0, .int 11, .int by_]) (n := 5) (Nat.le_of_ble_eq_true rfl)
  rw [lg_entry_eq]
  generalize (lg_sl ([.ref m0, .int 11, .int by_]) ++ List.replicate (5 - (lg_sl ([.ref m0, .int 11, .int by_])).length) Slot.unset).toArray = ls at hl ⊢
  have hl : lv_has ls 5 [(0, .ref m0), (1, .int 11), (2, .int by_)] := hl
  refine lv_iload_n hx hb dX8_goBack_0 rfl (lv_at hl 1 rfl) ?_
  refine lv_if_ne (tgt := 13) hx hb dX8_goBack_1 (by decide) (fun c_1 => ?_) (fun c_1 => ?_)
  rotate_left
  · exact absurd c_1 (by decide)
  refine lv_sipush (v := 600) hx hb dX8_goBack_13 (by decide) ?_
  refine lv_aload_n hx hb dX8_goBack_16 rfl (lv_at hl 0 rfl) ?_
  refine va_get (D := (dC, dI)) (ci := 8) (v := .ref (AM 2)) (C := RX8) (T := TX8) (N := 17) hx hb hts inw_X8_goBack_X8 hown hK hP 0 rfl rfl 2 (by decide) (hts (.fieldLink RX8 13 "DuelFramesModel" "s" "[I") (List.mem_of_getElem? (i := 1) rfl)) (fun _ h9 => h9) rfl dX8_goBack_17 ?_
  refine lv_bipush (v := 11) hx hb dX8_goBack_20 (by decide) ?_
  refine va_iald hx hb hK hP 2 0 rfl rfl (vin rfl) dX8_goBack_22 ?_
  refine lv_topi (fun x_2 ex_2 => ?_)
  obtain rfl : x_2 = (sA 11) := ex_2
  refine lv_isub hx hb dX8_goBack_23 ?_
  refine lv_istore_n (lv' := [(3, .int (600 - (sA 11))), (0, .ref m0), (1, .int 11), (2, .int by_)]) hx hb dX8_goBack_24 rfl hl (by decide) rfl (fun ls hl => ?_)
  refine lv_iload_n hx hb dX8_goBack_25 rfl (lv_at hl 3 rfl) ?_
  refine lv_iload_n hx hb dX8_goBack_26 rfl (lv_at hl 0 rfl) ?_
  refine jnW (D := (dC, dI)) (ws := [(m0, .inr (8, mdL AM g)), (AM 0, .inl (cY 0, 72, .inl tb)), (AM 2, .inl (cY 0, 22, .inl sA)), (AM 3, .inl (cY 0, 22, .inl rd)), (AM 4, .inl (cY 0, 110, .inl kp)), (AM 5, .inl (cY 0, 8414, .inl td)), (AM 6, .inl (cY 0, 2, .inl wn)), (AM 13, .inl (cY 0, 4, .inl rw)), (AM 14, .inl (cY 0, 4, .inl br))]) (lv := [(0, .ref m0), (1, .int 11), (2, .int by_)]) (st := [.int (X8_goBack11_j35 sA by_)]) (J := 35) (n := 5) (A := A) (H0 := s.heap) ?_ ?_
  · intro H locs ls hP hD hS hl
    refine lv_istore (lv' := [(4, .int (X8_goBack11_j35 sA by_)), (0, .ref m0), (1, .int 11), (2, .int by_)]) hx hb dX8_goBack_35 hl (by decide) rfl (fun ls hl => ?_)
    refine lv_aload_n hx hb dX8_goBack_37 rfl (lv_at hl 1 rfl) ?_
    refine va_get (D := (dC, dI)) (ci := 8) (v := .ref (AM 2)) (C := RX8) (T := TX8) (N := 17) hx hb hts inw_X8_goBack_X8 hown hK hP 0 rfl rfl 2 (by decide) (hts (.fieldLink RX8 13 "DuelFramesModel" "s" "[I") (List.mem_of_getElem? (i := 1) rfl)) (fun _ h9 => h9) rfl dX8_goBack_38 ?_
    refine lv_iload_n hx hb dX8_goBack_41 rfl (lv_at hl 2 rfl) ?_
    refine lv_iconst (v := 0) hx hb dX8_goBack_42 (by decide) ?_
    refine lv_iadd hx hb dX8_goBack_43 ?_
    refine lv_topi (fun x_5 ex_5 => ?_)
    obtain rfl : x_5 = 11 := ex_5.trans (by decide)
    refine lv_dup2_11 hx hb dX8_goBack_44 rfl rfl ?_
    refine va_iald hx hb hK hP 2 0 rfl rfl (vin rfl) dX8_goBack_45 ?_
    refine lv_topi (fun x_6 ex_6 => ?_)
    obtain rfl : x_6 = (sA 11) := ex_6
    refine lv_iload_n hx hb dX8_goBack_46 rfl (lv_at hl 2 rfl) ?_
    refine lv_if_ne (tgt := 56) hx hb dX8_goBack_47 (by decide) (fun c_7 => ?_) (fun c_7 => ?_)
    rotate_left
    · exact absurd c_7 (by decide)
    refine lv_iload hx hb dX8_goBack_56 (lv_at hl 0 rfl) ?_
    refine lv_iadd hx hb dX8_goBack_58 ?_
    refine va_iast hx hb hK hP hD hS 2 0 rfl rfl (vin rfl) dX8_goBack_59 (fun H locs hP1 hD1 hS1 => ?_)
    clear hP hD hS
    have hP : va_P (dC, dI) vwCl [(m0, .inr (8, mdL AM g)), (AM 0, .inl (cY 0, 72, .inl tb)), (AM 2, .inl (cY 0, 22, .inl (upd sA 11 ((sA 11) + (X8_goBack11_j35 sA by_))))), (AM 3, .inl (cY 0, 22, .inl rd)), (AM 4, .inl (cY 0, 110, .inl kp)), (AM 5, .inl (cY 0, 8414, .inl td)), (AM 6, .inl (cY 0, 2, .inl wn)), (AM 13, .inl (cY 0, 4, .inl rw)), (AM 14, .inl (cY 0, 4, .inl br))] H := hP1
    have hD : va_D A [(m0, .inr (8, mdL AM g)), (AM 0, .inl (cY 0, 72, .inl tb)), (AM 2, .inl (cY 0, 22, .inl (upd sA 11 ((sA 11) + (X8_goBack11_j35 sA by_))))), (AM 3, .inl (cY 0, 22, .inl rd)), (AM 4, .inl (cY 0, 110, .inl kp)), (AM 5, .inl (cY 0, 8414, .inl td)), (AM 6, .inl (cY 0, 2, .inl wn)), (AM 13, .inl (cY 0, 4, .inl rw)), (AM 14, .inl (cY 0, 4, .inl br))] := hD1
    have hS := hS1
    clear hP1 hD1 hS1
    refine lv_iload_n hx hb dX8_goBack_60 rfl (lv_at hl 3 rfl) ?_
    refine lv_iload hx hb dX8_goBack_61 (lv_at hl 0 rfl) ?_
    refine lv_isub hx hb dX8_goBack_63 ?_
    have eo_8 : (X8_goBack11_r sA by_) = (by_ - (X8_goBack11_j35 sA by_)) := by rw [X8_goBack11_r]
    have eo_9 : (X8_goBack11_w2 sA by_) = (upd sA 11 ((sA 11) + (X8_goBack11_j35 sA by_))) := by rw [X8_goBack11_w2]
    have hP9 : va_P (dC, dI) vwCl [(m0, .inr (8, mdL AM g)), (AM 0, .inl (cY 0, 72, .inl tb)), (AM 2, .inl (cY 0, 22, .inl (X8_goBack11_w2 sA by_))), (AM 3, .inl (cY 0, 22, .inl rd)), (AM 4, .inl (cY 0, 110, .inl kp)), (AM 5, .inl (cY 0, 8414, .inl td)), (AM 6, .inl (cY 0, 2, .inl wn)), (AM 13, .inl (cY 0, 4, .inl rw)), (AM 14, .inl (cY 0, 4, .inl br))] H := by simp only [eo_9]; exact hP
    have hD9 : va_D A [(m0, .inr (8, mdL AM g)), (AM 0, .inl (cY 0, 72, .inl tb)), (AM 2, .inl (cY 0, 22, .inl (X8_goBack11_w2 sA by_))), (AM 3, .inl (cY 0, 22, .inl rd)), (AM 4, .inl (cY 0, 110, .inl kp)), (AM 5, .inl (cY 0, 8414, .inl td)), (AM 6, .inl (cY 0, 2, .inl wn)), (AM 13, .inl (cY 0, 4, .inl rw)), (AM 14, .inl (cY 0, 4, .inl br))] := by simp only [eo_9]; exact hD
    exact W.iret (v := (by_ - (X8_goBack11_j35 sA by_))) hx hb hr (fun t ht hW => ⟨⟨_, (), rfl, eo_8.symm, wPost_of hP9 hD9 ht⟩, hS.F ht⟩) hS.2.2 dX8_goBack_64
  · intro jn_4
    refine lv_icmp_ge (tgt := 34) hx hb dX8_goBack_27 (by decide) (fun c_3 => ?_) (fun c_3 => ?_)
    · refine lv_iload_n hx hb dX8_goBack_34 rfl (lv_at hl 0 rfl) ?_
      have e_10 : (X8_goBack11_j35 sA by_) = (600 - (sA 11)) := by rw [X8_goBack11_j35]; simp only [eq_true c_3, ↓reduceIte]
      refine W.eq (g2 := F0 m 35 ls [.int (X8_goBack11_j35 sA by_)]) (by simp only [e_10]) ?_
      exact jn_4 _ _ _ (by (try simp only [e_10]); exact hP) (by (try simp only [e_10]); exact hD) hS (by (try simp only [e_10]); exact (lv_sub hl [1, 2, 3] rfl))
    · refine lv_iload_n hx hb dX8_goBack_30 rfl (lv_at hl 3 rfl) ?_
      refine lv_goto (tgt := 35) hx hb dX8_goBack_31 (by decide) ?_
      have e_11 : (X8_goBack11_j35 sA by_) = by_ := by rw [X8_goBack11_j35]; simp only [eq_false c_3, ↓reduceIte]
      refine W.eq (g2 := F0 m 35 ls [.int (X8_goBack11_j35 sA by_)]) (by simp only [e_11]) ?_
      exact jn_4 _ _ _ (by (try simp only [e_11]); exact hP) (by (try simp only [e_11]); exact hD) hS (by (try simp only [e_11]); exact (lv_sub hl [1, 2, 3] rfl))
theorem inw_X8_touch_X8 : ∀ w ∈ u_ws RX8 TX8 17, w ∈ wsX8_touch := fun _ h => List.mem_cons_of_mem _ (List.mem_append_right _ h)
def X8_touch0_j53 (tb : Nat → Int32) (sA : Nat → Int32) (move : Int32) : Int32 := (if ((sA 2) + (X8_ofMove_r tb move 10)) ≤ 100 then ((sA 2) + (X8_ofMove_r tb move 10)) else 100)
def X8_touch0_j94 (tb : Nat → Int32) (input : Int32) (move : Int32) : Int32 := (if input = 2 then (if (X8_ofMove_r tb move 4) = 0 then 1 else (if (X8_ofMove_r tb move 4) = 2 then 1 else 0)) else (if input = 4 then (if (X8_ofMove_r tb move 4) = 1 then 1 else (if (X8_ofMove_r tb move 4) = 2 then 1 else 0)) else 0))
def X8_touch0_j173 (count : Int32) (did : Int32) : Int32 := (if did = 2 then (count + 1) else 1)
def X8_touch0_j197 (count : Int32) (did : Int32) : Int32 := (if (X8_touch0_j173 count did) ≤ 10 then (11 - (X8_touch0_j173 count did)) else 1)
def X8_touch0_j227 (did : Int32) : Int32 := (if did = 1 then 4 else 0)
def X8_touch0_j257 (tb : Nat → Int32) (count : Int32) (did : Int32) (move : Int32) : Int32 := (if did = 1 then (((((X8_ofMove_r tb move 5) * (X8_touch0_j197 count did)) / 10) * 6) / 5) else (((X8_ofMove_r tb move 5) * (X8_touch0_j197 count did)) / 10))
def X8_touch0_j288 (tb : Nat → Int32) (count : Int32) (did : Int32) (move : Int32) : Int32 := (if 0 ≤ (((X8_ofMove_r tb move 6) - (2 * ((X8_touch0_j173 count did) - 1))) + (X8_touch0_j227 did)) then (((X8_ofMove_r tb move 6) - (2 * ((X8_touch0_j173 count did) - 1))) + (X8_touch0_j227 did)) else 0)
def X8_touch0_j301 (tb : Nat → Int32) (sA : Nat → Int32) (count : Int32) (did : Int32) (input : Int32) (move : Int32) : Nat → Int32 := (if (X8_touch0_j94 tb input move) = 0 then (upd (upd (upd (upd (upd sA 2 (X8_touch0_j53 tb sA move)) 12 ((sA 12) - (X8_touch0_j257 tb count did move))) 14 2) 16 (X8_touch0_j288 tb count did move)) 17 (X8_touch0_j173 count did)) else (if did = 0 then (upd (upd (upd (upd sA 2 (X8_touch0_j53 tb sA move)) 12 ((sA 12) - ((X8_ofMove_r tb move 5) / 10))) 14 3) 16 (X8_ofMove_r tb move 7)) else (if did = 3 then (upd (upd (upd (upd sA 2 (X8_touch0_j53 tb sA move)) 12 ((sA 12) - ((X8_ofMove_r tb move 5) / 10))) 14 3) 16 (X8_ofMove_r tb move 7)) else (upd (upd (upd (upd (upd sA 2 (X8_touch0_j53 tb sA move)) 12 ((sA 12) - (X8_touch0_j257 tb count did move))) 14 2) 16 (X8_touch0_j288 tb count did move)) 17 (X8_touch0_j173 count did)))))
def X8_touch0_w2 (tb : Nat → Int32) (sA : Nat → Int32) (count : Int32) (did : Int32) (input : Int32) (move : Int32) : Nat → Int32 := (X8_goBack0_w2 (X8_goBack11_w2 (upd (X8_touch0_j301 tb sA count did input move) 15 (-1)) (X8_ofMove_r tb move 8)) (X8_goBack11_r (upd (X8_touch0_j301 tb sA count did input move) 15 (-1)) (X8_ofMove_r tb move 8)))
set_option maxHeartbeats 4000000 in
set_option maxRecDepth 100000 in
theorem c_X8_touch0 (l : Launch) (dC : Nat → ClassId) (dI : Nat → Nat → Nat) (cY : Nat → ClassId) (m0 : Nat) (AM : Nat → Nat) (g : Nat → Int32) (tb : Nat → Int32) (sA : Nat → Int32) (rd : Nat → Int32) (kp : Nat → Int32) (td : Nat → Int32) (wn : Nat → Int32) (rw : Nat → Int32) (br : Nat → Int32) (move : Int32) (did : Int32) (count : Int32) (input : Int32) (hm : okM move) (sz : Nat) : Met l yX8_touch wsX8_touch ({ frames := 1, cells := 0, slots := 0, locals := 24 } : Room) (va_Pc [.ref m0, .int 0, .int move, .int did, .int count, .int input] (wPre (dC, dI) (tyL cY) [(m0, .inr (8, mdL AM g)), (AM 0, .inl (cY 0, 72, .inl tb)), (AM 2, .inl (cY 0, 22, .inl sA)), (AM 3, .inl (cY 0, 22, .inl rd)), (AM 4, .inl (cY 0, 110, .inl kp)), (AM 5, .inl (cY 0, 8414, .inl td)), (AM 6, .inl (cY 0, 2, .inl wn)), (AM 13, .inl (cY 0, 4, .inl rw)), (AM 14, .inl (cY 0, 4, .inl br))] sz)) (va_Qv (fun _ : Unit => True) (wPost (dC, dI) [(m0, .inr (8, mdL AM g)), (AM 0, .inl (cY 0, 72, .inl tb)), (AM 2, .inl (cY 0, 22, .inl (X8_touch0_w2 tb sA count did input move))), (AM 3, .inl (cY 0, 22, .inl rd)), (AM 4, .inl (cY 0, 110, .inl kp)), (AM 5, .inl (cY 0, 8414, .inl td)), (AM 6, .inl (cY 0, 2, .inl wn)), (AM 13, .inl (cY 0, 4, .inl rw)), (AM 14, .inl (cY 0, 4, .inl br))] (va_A [(m0, .inr (8, mdL AM g)), (AM 0, .inl (cY 0, 72, .inl tb)), (AM 2, .inl (cY 0, 22, .inl sA)), (AM 3, .inl (cY 0, 22, .inl rd)), (AM 4, .inl (cY 0, 110, .inl kp)), (AM 5, .inl (cY 0, 8414, .inl td)), (AM 6, .inl (cY 0, 2, .inl wn)), (AM 13, .inl (cY 0, 4, .inl rw)), (AM 14, .inl (cY 0, 4, .inl br))] sz)) (va_A [(m0, .inr (8, mdL AM g)), (AM 0, .inl (cY 0, 72, .inl tb)), (AM 2, .inl (cY 0, 22, .inl sA)), (AM 3, .inl (cY 0, 22, .inl rd)), (AM 4, .inl (cY 0, 110, .inl kp)), (AM 5, .inl (cY 0, 8414, .inl td)), (AM 6, .inl (cY 0, 2, .inl wn)), (AM 13, .inl (cY 0, 4, .inl rw)), (AM 14, .inl (cY 0, 4, .inl br))] sz)) 0 0 (va_A [(m0, .inr (8, mdL AM g)), (AM 0, .inl (cY 0, 72, .inl tb)), (AM 2, .inl (cY 0, 22, .inl sA)), (AM 3, .inl (cY 0, 22, .inl rd)), (AM 4, .inl (cY 0, 110, .inl kp)), (AM 5, .inl (cY 0, 8414, .inl td)), (AM 6, .inl (cY 0, 2, .inl wn)), (AM 13, .inl (cY 0, 4, .inl rw)), (AM 14, .inl (cY 0, 4, .inl br))] sz) := by
  refine Met.ofW (cc := cX8_touch) (maxL := 13) (ret := none) (by decide) rfl ?_
  intro p e s m args below meth c s₁ B hml hv
  obtain ⟨rfl, hsz, hP, hK, hN, hD0⟩ := hv
  have hx := B.exec
  have hb := B.bytes
  have hr := B.returns
  have hts := atoms_spec (ws := wsX8_touch) B.pre
  have hown : s.vm.findClass RX8 = some m.cls := findClass_of_methodNamed B.named
  have hlocks := B.notSynchronized
  subst hsz
  have hD := hD0.self (sz := s.heap.size)
  generalize hAe : va_A [(m0, .inr (8, mdL AM g)), (AM 0, .inl (cY 0, 72, .inl tb)), (AM 2, .inl (cY 0, 22, .inl sA)), (AM 3, .inl (cY 0, 22, .inl rd)), (AM 4, .inl (cY 0, 110, .inl kp)), (AM 5, .inl (cY 0, 8414, .inl td)), (AM 6, .inl (cY 0, 2, .inl wn)), (AM 13, .inl (cY 0, 4, .inl rw)), (AM 14, .inl (cY 0, 4, .inl br))] s.heap.size = A at hD ⊢
  have hA : ∀ q : Nat, s.heap.size ≤ q → A q := fun q h => by rw [← hAe]; exact Or.inr h
  have hS : va_S A s.heap s.heap [] := va_S.rf
  have hP : va_P (dC, dI) vwCl [(m0, .inr (8, mdL AM g)), (AM 0, .inl (cY 0, 72, .inl tb)), (AM 2, .inl (cY 0, 22, .inl sA)), (AM 3, .inl (cY 0, 22, .inl rd)), (AM 4, .inl (cY 0, 110, .inl kp)), (AM 5, .inl (cY 0, 8414, .inl td)), (AM 6, .inl (cY 0, 2, .inl wn)), (AM 13, .inl (cY 0, 4, .inl rw)), (AM 14, .inl (cY 0, 4, .inl br))] s.heap := hP
  have hl := lv_entry ([.ref m0, .int 0, .int move, .int did, .int count, .int input]) (n := 13) (Nat.le_of_ble_eq_true rfl)
  rw [lg_entry_eq]
  generalize (lg_sl ([.ref m0, .int 0, .int move, .int did, .int count, .int input]) ++ List.replicate (13 - (lg_sl ([.ref m0, .int 0, .int move, .int did, .int count, .int input])).length) Slot.unset).toArray = ls at hl ⊢
  have hl : lv_has ls 13 [(0, .ref m0), (1, .int 0), (2, .int move), (3, .int did), (4, .int count), (5, .int input)] := hl
  refine lv_bipush (v := 11) hx hb dX8_touch_0 (by decide) ?_
  refine lv_iload_n hx hb dX8_touch_2 rfl (lv_at hl 1 rfl) ?_
  refine lv_isub hx hb dX8_touch_3 ?_
  refine lv_topi (fun x_1 ex_1 => ?_)
  obtain rfl : x_1 = 11 := ex_1.trans (by decide)
  refine lv_istore (lv' := [(6, .int 11), (0, .ref m0), (1, .int 0), (2, .int move), (3, .int did), (4, .int count), (5, .int input)]) hx hb dX8_touch_4 hl (by decide) rfl (fun ls hl => ?_)
  refine lv_aload_n hx hb dX8_touch_6 rfl (lv_at hl 1 rfl) ?_
  refine lv_iload_n hx hb dX8_touch_7 rfl (lv_at hl 3 rfl) ?_
  refine lv_iconst (v := 4) hx hb dX8_touch_8 (by decide) ?_
  refine vp_callSi (W.runV (As := [.int move, .int 4]) (rest := []) ⟨hx, hb, hml, hown, hts⟩ (c_X8_ofMove l dC dI cY m0 AM g tb sA rd kp td wn rw br move 4 (tb_in hm (vin rfl))) (cwV 2 hts gX8_touch_X8_ofMove rfl rfl rfl (by decide +kernel) ⟨Nat.le_of_ble_eq_true rfl, Nat.le_of_ble_eq_true rfl⟩) ⟨blindR, va_recv hK hP (ci := 8) (q0 := 0) rfl rfl, fun U hU hW => ⟨rfl, rPre_of hP hK hN U hU hW⟩⟩ rfl rfl hl.1 rfl (lv_room (Nat.le_of_ble_eq_true rfl)) dX8_touch_9 ⟨Nat.zero_le _, Nat.zero_le _⟩) (fun r_2 hw => ?_)
  subst hw
  refine lv_istore (lv' := [(7, .int (X8_ofMove_r tb move 4)), (6, .int 11), (0, .ref m0), (1, .int 0), (2, .int move), (3, .int did), (4, .int count), (5, .int input)]) hx hb dX8_touch_12 hl (by decide) rfl (fun ls hl => ?_)
  refine lv_aload_n hx hb dX8_touch_14 rfl (lv_at hl 2 rfl) ?_
  refine va_get (D := (dC, dI)) (ci := 8) (v := .ref (AM 2)) (C := RX8) (T := TX8) (N := 17) hx hb hts inw_X8_touch_X8 hown hK hP 0 rfl rfl 2 (by decide) (hts (.fieldLink RX8 13 "DuelFramesModel" "s" "[I") (List.mem_of_getElem? (i := 1) rfl)) (fun _ h9 => h9) rfl dX8_touch_15 ?_
  refine lv_iload_n hx hb dX8_touch_18 rfl (lv_at hl 3 rfl) ?_
  refine lv_iconst (v := 2) hx hb dX8_touch_19 (by decide) ?_
  refine lv_iadd hx hb dX8_touch_20 ?_
  refine lv_topi (fun x_3 ex_3 => ?_)
  obtain rfl : x_3 = 2 := ex_3.trans (by decide)
  refine va_iald hx hb hK hP 2 0 rfl rfl (vin rfl) dX8_touch_21 ?_
  refine lv_topi (fun x_4 ex_4 => ?_)
  obtain rfl : x_4 = (sA 2) := ex_4
  refine lv_aload_n hx hb dX8_touch_22 rfl (lv_at hl 2 rfl) ?_
  refine lv_iload_n hx hb dX8_touch_23 rfl (lv_at hl 4 rfl) ?_
  refine lv_bipush (v := 10) hx hb dX8_touch_24 (by decide) ?_
  refine vp_callSi (W.runV (As := [.int move, .int 10]) (rest := [.int (sA 2)]) ⟨hx, hb, hml, hown, hts⟩ (c_X8_ofMove l dC dI cY m0 AM g tb sA rd kp td wn rw br move 10 (tb_in hm (vin rfl))) (cwV 2 hts gX8_touch_X8_ofMove rfl rfl rfl (by decide +kernel) ⟨Nat.le_of_ble_eq_true rfl, Nat.le_of_ble_eq_true rfl⟩) ⟨blindR, va_recv hK hP (ci := 8) (q0 := 0) rfl rfl, fun U hU hW => ⟨rfl, rPre_of hP hK hN U hU hW⟩⟩ rfl rfl hl.1 rfl (lv_room (Nat.le_of_ble_eq_true rfl)) dX8_touch_26 ⟨Nat.zero_le _, Nat.zero_le _⟩) (fun r_5 hw => ?_)
  subst hw
  refine lv_iadd hx hb dX8_touch_29 ?_
  refine lv_istore (lv' := [(8, .int ((sA 2) + (X8_ofMove_r tb move 10))), (7, .int (X8_ofMove_r tb move 4)), (6, .int 11), (0, .ref m0), (1, .int 0), (2, .int move), (3, .int did), (4, .int count), (5, .int input)]) hx hb dX8_touch_30 hl (by decide) rfl (fun ls hl => ?_)
  refine lv_aload_n hx hb dX8_touch_32 rfl (lv_at hl 3 rfl) ?_
  refine va_get (D := (dC, dI)) (ci := 8) (v := .ref (AM 2)) (C := RX8) (T := TX8) (N := 17) hx hb hts inw_X8_touch_X8 hown hK hP 0 rfl rfl 2 (by decide) (hts (.fieldLink RX8 13 "DuelFramesModel" "s" "[I") (List.mem_of_getElem? (i := 1) rfl)) (fun _ h9 => h9) rfl dX8_touch_33 ?_
  refine lv_iload_n hx hb dX8_touch_36 rfl (lv_at hl 4 rfl) ?_
  refine lv_iconst (v := 2) hx hb dX8_touch_37 (by decide) ?_
  refine lv_iadd hx hb dX8_touch_38 ?_
  refine lv_topi (fun x_6 ex_6 => ?_)
  obtain rfl : x_6 = 2 := ex_6.trans (by decide)
  refine lv_iload hx hb dX8_touch_39 (lv_at hl 0 rfl) ?_
  refine lv_bipush (v := 100) hx hb dX8_touch_41 (by decide) ?_
  refine jnW (D := (dC, dI)) (ws := [(m0, .inr (8, mdL AM g)), (AM 0, .inl (cY 0, 72, .inl tb)), (AM 2, .inl (cY 0, 22, .inl sA)), (AM 3, .inl (cY 0, 22, .inl rd)), (AM 4, .inl (cY 0, 110, .inl kp)), (AM 5, .inl (cY 0, 8414, .inl td)), (AM 6, .inl (cY 0, 2, .inl wn)), (AM 13, .inl (cY 0, 4, .inl rw)), (AM 14, .inl (cY 0, 4, .inl br))]) (lv := [(7, .int (X8_ofMove_r tb move 4)), (6, .int 11), (0, .ref m0), (1, .int 0), (2, .int move), (3, .int did), (4, .int count), (5, .int input)]) (st := [.int (X8_touch0_j53 tb sA move), .int 2, .ref (AM 2)]) (J := 53) (n := 13) (A := A) (H0 := s.heap) ?_ ?_
  · intro H locs ls hP hD hS hl
    refine va_iast hx hb hK hP hD hS 2 0 rfl rfl (vin rfl) dX8_touch_53 (fun H locs hP1 hD1 hS1 => ?_)
    clear hP hD hS
    have hP : va_P (dC, dI) vwCl [(m0, .inr (8, mdL AM g)), (AM 0, .inl (cY 0, 72, .inl tb)), (AM 2, .inl (cY 0, 22, .inl (upd sA 2 (X8_touch0_j53 tb sA move)))), (AM 3, .inl (cY 0, 22, .inl rd)), (AM 4, .inl (cY 0, 110, .inl kp)), (AM 5, .inl (cY 0, 8414, .inl td)), (AM 6, .inl (cY 0, 2, .inl wn)), (AM 13, .inl (cY 0, 4, .inl rw)), (AM 14, .inl (cY 0, 4, .inl br))] H := hP1
    have hD : va_D A [(m0, .inr (8, mdL AM g)), (AM 0, .inl (cY 0, 72, .inl tb)), (AM 2, .inl (cY 0, 22, .inl (upd sA 2 (X8_touch0_j53 tb sA move)))), (AM 3, .inl (cY 0, 22, .inl rd)), (AM 4, .inl (cY 0, 110, .inl kp)), (AM 5, .inl (cY 0, 8414, .inl td)), (AM 6, .inl (cY 0, 2, .inl wn)), (AM 13, .inl (cY 0, 4, .inl rw)), (AM 14, .inl (cY 0, 4, .inl br))] := hD1
    have hS := hS1
    clear hP1 hD1 hS1
    refine lv_iload hx hb dX8_touch_54 (lv_at hl 7 rfl) ?_
    refine lv_iconst (v := 2) hx hb dX8_touch_56 (by decide) ?_
    refine jnW (D := (dC, dI)) (ws := [(m0, .inr (8, mdL AM g)), (AM 0, .inl (cY 0, 72, .inl tb)), (AM 2, .inl (cY 0, 22, .inl (upd sA 2 (X8_touch0_j53 tb sA move)))), (AM 3, .inl (cY 0, 22, .inl rd)), (AM 4, .inl (cY 0, 110, .inl kp)), (AM 5, .inl (cY 0, 8414, .inl td)), (AM 6, .inl (cY 0, 2, .inl wn)), (AM 13, .inl (cY 0, 4, .inl rw)), (AM 14, .inl (cY 0, 4, .inl br))]) (lv := [(6, .int 11), (0, .ref m0), (1, .int 0), (2, .int move), (3, .int did), (4, .int count)]) (st := [.int (X8_touch0_j94 tb input move)]) (J := 94) (n := 13) (A := A) (H0 := s.heap) ?_ ?_
    · intro H locs ls hP hD hS hl
      refine lv_istore (lv' := [(9, .int (X8_touch0_j94 tb input move)), (6, .int 11), (0, .ref m0), (1, .int 0), (2, .int move), (3, .int did), (4, .int count)]) hx hb dX8_touch_94 hl (by decide) rfl (fun ls hl => ?_)
      refine lv_iload hx hb dX8_touch_96 (lv_at hl 0 rfl) ?_
      refine jnW (D := (dC, dI)) (ws := [(m0, .inr (8, mdL AM g)), (AM 0, .inl (cY 0, 72, .inl tb)), (AM 2, .inl (cY 0, 22, .inl (X8_touch0_j301 tb sA count did input move))), (AM 3, .inl (cY 0, 22, .inl rd)), (AM 4, .inl (cY 0, 110, .inl kp)), (AM 5, .inl (cY 0, 8414, .inl td)), (AM 6, .inl (cY 0, 2, .inl wn)), (AM 13, .inl (cY 0, 4, .inl rw)), (AM 14, .inl (cY 0, 4, .inl br))]) (lv := [(6, .int 11), (0, .ref m0), (1, .int 0), (2, .int move)]) (st := []) (J := 301) (n := 13) (A := A) (H0 := s.heap) ?_ ?_
      · intro H locs ls hP hD hS hl
        obtain ⟨z_13, ez_13⟩ : ∃ z, z = (X8_touch0_j301 tb sA count did input move) := ⟨_, rfl⟩
        rw [← ez_13] at hP hD
        refine lv_aload_n hx hb dX8_touch_301 rfl (lv_at hl 1 rfl) ?_
        refine va_get (D := (dC, dI)) (ci := 8) (v := .ref (AM 2)) (C := RX8) (T := TX8) (N := 17) hx hb hts inw_X8_touch_X8 hown hK hP 0 rfl rfl 2 (by decide) (hts (.fieldLink RX8 13 "DuelFramesModel" "s" "[I") (List.mem_of_getElem? (i := 1) rfl)) (fun _ h9 => h9) rfl dX8_touch_302 ?_
        refine lv_iload hx hb dX8_touch_305 (lv_at hl 0 rfl) ?_
        refine lv_iconst (v := 4) hx hb dX8_touch_307 (by decide) ?_
        refine lv_iadd hx hb dX8_touch_308 ?_
        refine lv_topi (fun x_14 ex_14 => ?_)
        obtain rfl : x_14 = 15 := ex_14.trans (by decide)
        refine lv_iconst (v := (-1)) hx hb dX8_touch_309 (by decide) ?_
        refine va_iast hx hb hK hP hD hS 2 0 rfl rfl (vin rfl) dX8_touch_310 (fun H locs hP1 hD1 hS1 => ?_)
        clear hP hD hS
        have hP : va_P (dC, dI) vwCl [(m0, .inr (8, mdL AM g)), (AM 0, .inl (cY 0, 72, .inl tb)), (AM 2, .inl (cY 0, 22, .inl (upd z_13 15 (-1)))), (AM 3, .inl (cY 0, 22, .inl rd)), (AM 4, .inl (cY 0, 110, .inl kp)), (AM 5, .inl (cY 0, 8414, .inl td)), (AM 6, .inl (cY 0, 2, .inl wn)), (AM 13, .inl (cY 0, 4, .inl rw)), (AM 14, .inl (cY 0, 4, .inl br))] H := hP1
        have hD : va_D A [(m0, .inr (8, mdL AM g)), (AM 0, .inl (cY 0, 72, .inl tb)), (AM 2, .inl (cY 0, 22, .inl (upd z_13 15 (-1)))), (AM 3, .inl (cY 0, 22, .inl rd)), (AM 4, .inl (cY 0, 110, .inl kp)), (AM 5, .inl (cY 0, 8414, .inl td)), (AM 6, .inl (cY 0, 2, .inl wn)), (AM 13, .inl (cY 0, 4, .inl rw)), (AM 14, .inl (cY 0, 4, .inl br))] := hD1
        have hS := hS1
        clear hP1 hD1 hS1
        refine lv_aload_n hx hb dX8_touch_311 rfl (lv_at hl 1 rfl) ?_
        refine lv_iload hx hb dX8_touch_312 (lv_at hl 0 rfl) ?_
        refine lv_aload_n hx hb dX8_touch_314 rfl (lv_at hl 1 rfl) ?_
        refine lv_iload_n hx hb dX8_touch_315 rfl (lv_at hl 3 rfl) ?_
        refine lv_bipush (v := 8) hx hb dX8_touch_316 (by decide) ?_
        refine vp_callSi (W.runV (As := [.int move, .int 8]) (rest := [.int 11, .ref m0]) ⟨hx, hb, hml, hown, hts⟩ (c_X8_ofMove l dC dI cY m0 AM g tb (upd z_13 15 (-1)) rd kp td wn rw br move 8 (by (try simp only [ez_13]); exact (tb_in hm (vin rfl)))) (cwV 2 hts gX8_touch_X8_ofMove rfl rfl rfl (by decide +kernel) ⟨Nat.le_of_ble_eq_true rfl, Nat.le_of_ble_eq_true rfl⟩) ⟨blindR, va_recv hK hP (ci := 8) (q0 := 0) rfl rfl, fun U hU hW => ⟨rfl, rPre_of hP hK hN U hU hW⟩⟩ rfl rfl hl.1 rfl (lv_room (Nat.le_of_ble_eq_true rfl)) dX8_touch_318 ⟨Nat.zero_le _, Nat.zero_le _⟩) (fun r_15 hw => ?_)
        subst hw
        have hPc := hP.sub (ws' := [(m0, .inr (8, mdL AM g)), (AM 0, .inl (cY 0, 72, .inl tb)), (AM 2, .inl (cY 0, 22, .inl (upd z_13 15 (-1)))), (AM 3, .inl (cY 0, 22, .inl rd)), (AM 4, .inl (cY 0, 110, .inl kp)), (AM 5, .inl (cY 0, 8414, .inl td)), (AM 6, .inl (cY 0, 2, .inl wn)), (AM 13, .inl (cY 0, 4, .inl rw)), (AM 14, .inl (cY 0, 4, .inl br))]) [0, 1, 2, 3, 4, 5, 6, 7, 8] rfl
        have hDc := hD.sub (ws' := [(m0, .inr (8, mdL AM g)), (AM 0, .inl (cY 0, 72, .inl tb)), (AM 2, .inl (cY 0, 22, .inl (upd z_13 15 (-1)))), (AM 3, .inl (cY 0, 22, .inl rd)), (AM 4, .inl (cY 0, 110, .inl kp)), (AM 5, .inl (cY 0, 8414, .inl td)), (AM 6, .inl (cY 0, 2, .inl wn)), (AM 13, .inl (cY 0, 4, .inl rw)), (AM 14, .inl (cY 0, 4, .inl br))]) [0, 1, 2, 3, 4, 5, 6, 7, 8] (by decide) rfl
        have hFc := va_free (wc := [(m0, .inr (8, mdL AM g)), (AM 0, .inl (cY 0, 72, .inl tb)), (AM 2, .inl (cY 0, 22, .inl (upd z_13 15 (-1)))), (AM 3, .inl (cY 0, 22, .inl rd)), (AM 4, .inl (cY 0, 110, .inl kp)), (AM 5, .inl (cY 0, 8414, .inl td)), (AM 6, .inl (cY 0, 2, .inl wn)), (AM 13, .inl (cY 0, 4, .inl rw)), (AM 14, .inl (cY 0, 4, .inl br))]) hD hS hA [0, 1, 2, 3, 4, 5, 6, 7, 8] rfl
        refine va_calli (va_runV (As := [.int 11, .int (X8_ofMove_r tb move 8)]) (rest := []) ⟨hx, hb, hml, hown, hts⟩ (c_X8_goBack11 l dC dI cY m0 AM g tb (upd z_13 15 (-1)) rd kp td wn rw br (X8_ofMove_r tb move 8) H.size) (cwV 2 hts gX8_touch_X8_goBack rfl rfl rfl (by decide +kernel) ⟨Nat.le_of_ble_eq_true rfl, Nat.le_of_ble_eq_true rfl⟩) ⟨blindW, va_recv hK hPc (ci := 8) (q0 := 0) rfl rfl, fun U hU hW => ⟨rfl, wPre_of hPc hK hN hDc U hU hW⟩⟩ rfl rfl hl.1 rfl (lv_room (Nat.le_of_ble_eq_true rfl)) dX8_touch_321 ⟨Nat.zero_le _, Nat.zero_le _⟩) hS (fun q _ h => hFc q h) hFc (fun r_16 u t H1 locs ht hvm hw hB hz1 hk1 hS1 => ?_)
        subst hw
        have hJ := wJoin (wr := []) (w1 := [(m0, .inr (8, mdL AM g)), (AM 0, .inl (cY 0, 72, .inl tb)), (AM 2, .inl (cY 0, 22, .inl (X8_goBack11_w2 (upd z_13 15 (-1)) (X8_ofMove_r tb move 8)))), (AM 3, .inl (cY 0, 22, .inl rd)), (AM 4, .inl (cY 0, 110, .inl kp)), (AM 5, .inl (cY 0, 8414, .inl td)), (AM 6, .inl (cY 0, 2, .inl wn)), (AM 13, .inl (cY 0, 4, .inl rw)), (AM 14, .inl (cY 0, 4, .inl br))]) (wn := [(m0, .inr (8, mdL AM g)), (AM 0, .inl (cY 0, 72, .inl tb)), (AM 2, .inl (cY 0, 22, .inl (X8_goBack11_w2 (upd z_13 15 (-1)) (X8_ofMove_r tb move 8)))), (AM 3, .inl (cY 0, 22, .inl rd)), (AM 4, .inl (cY 0, 110, .inl kp)), (AM 5, .inl (cY 0, 8414, .inl td)), (AM 6, .inl (cY 0, 2, .inl wn)), (AM 13, .inl (cY 0, 4, .inl rw)), (AM 14, .inl (cY 0, 4, .inl br))]) hP hD [0, 1, 2, 3, 4, 5, 6, 7, 8] [] rfl rfl (by decide) (by decide) hk1 hFc hB ht [0, 1, 2, 3, 4, 5, 6, 7, 8] rfl (by decide)
        clear hB hk1 hFc hPc hDc hP hD hS hz1 hvm ht t
        obtain ⟨hP1, hD1⟩ := hJ
        generalize H1 = H at hP1 hS1 ⊢
        have hP : va_P (dC, dI) vwCl [(m0, .inr (8, mdL AM g)), (AM 0, .inl (cY 0, 72, .inl tb)), (AM 2, .inl (cY 0, 22, .inl (X8_goBack11_w2 (upd z_13 15 (-1)) (X8_ofMove_r tb move 8)))), (AM 3, .inl (cY 0, 22, .inl rd)), (AM 4, .inl (cY 0, 110, .inl kp)), (AM 5, .inl (cY 0, 8414, .inl td)), (AM 6, .inl (cY 0, 2, .inl wn)), (AM 13, .inl (cY 0, 4, .inl rw)), (AM 14, .inl (cY 0, 4, .inl br))] H := hP1
        have hD : va_D A [(m0, .inr (8, mdL AM g)), (AM 0, .inl (cY 0, 72, .inl tb)), (AM 2, .inl (cY 0, 22, .inl (X8_goBack11_w2 (upd z_13 15 (-1)) (X8_ofMove_r tb move 8)))), (AM 3, .inl (cY 0, 22, .inl rd)), (AM 4, .inl (cY 0, 110, .inl kp)), (AM 5, .inl (cY 0, 8414, .inl td)), (AM 6, .inl (cY 0, 2, .inl wn)), (AM 13, .inl (cY 0, 4, .inl rw)), (AM 14, .inl (cY 0, 4, .inl br))] := hD1
        have hS := hS1
        clear hP1 hD1 hS1
        obtain ⟨z_17, ez_17⟩ : ∃ z, z = (X8_goBack11_w2 (upd z_13 15 (-1)) (X8_ofMove_r tb move 8)) := ⟨_, rfl⟩
        rw [← ez_17] at hP hD
        refine lv_istore (lv' := [(10, .int (X8_goBack11_r (upd z_13 15 (-1)) (X8_ofMove_r tb move 8))), (6, .int 11), (0, .ref m0), (1, .int 0), (2, .int move)]) hx hb dX8_touch_324 hl (by decide) rfl (fun ls hl => ?_)
        refine lv_aload_n hx hb dX8_touch_326 rfl (lv_at hl 2 rfl) ?_
        refine lv_iload_n hx hb dX8_touch_327 rfl (lv_at hl 3 rfl) ?_
        refine lv_iload hx hb dX8_touch_328 (lv_at hl 0 rfl) ?_
        have hPc := hP.sub (ws' := [(m0, .inr (8, mdL AM g)), (AM 0, .inl (cY 0, 72, .inl tb)), (AM 2, .inl (cY 0, 22, .inl z_17)), (AM 3, .inl (cY 0, 22, .inl rd)), (AM 4, .inl (cY 0, 110, .inl kp)), (AM 5, .inl (cY 0, 8414, .inl td)), (AM 6, .inl (cY 0, 2, .inl wn)), (AM 13, .inl (cY 0, 4, .inl rw)), (AM 14, .inl (cY 0, 4, .inl br))]) [0, 1, 2, 3, 4, 5, 6, 7, 8] rfl
        have hDc := hD.sub (ws' := [(m0, .inr (8, mdL AM g)), (AM 0, .inl (cY 0, 72, .inl tb)), (AM 2, .inl (cY 0, 22, .inl z_17)), (AM 3, .inl (cY 0, 22, .inl rd)), (AM 4, .inl (cY 0, 110, .inl kp)), (AM 5, .inl (cY 0, 8414, .inl td)), (AM 6, .inl (cY 0, 2, .inl wn)), (AM 13, .inl (cY 0, 4, .inl rw)), (AM 14, .inl (cY 0, 4, .inl br))]) [0, 1, 2, 3, 4, 5, 6, 7, 8] (by decide) rfl
        have hFc := va_free (wc := [(m0, .inr (8, mdL AM g)), (AM 0, .inl (cY 0, 72, .inl tb)), (AM 2, .inl (cY 0, 22, .inl z_17)), (AM 3, .inl (cY 0, 22, .inl rd)), (AM 4, .inl (cY 0, 110, .inl kp)), (AM 5, .inl (cY 0, 8414, .inl td)), (AM 6, .inl (cY 0, 2, .inl wn)), (AM 13, .inl (cY 0, 4, .inl rw)), (AM 14, .inl (cY 0, 4, .inl br))]) hD hS hA [0, 1, 2, 3, 4, 5, 6, 7, 8] rfl
        refine va_calli (va_runV (As := [.int 0, .int (X8_goBack11_r (upd z_13 15 (-1)) (X8_ofMove_r tb move 8))]) (rest := []) ⟨hx, hb, hml, hown, hts⟩ (c_X8_goBack0 l dC dI cY m0 AM g tb z_17 rd kp td wn rw br (X8_goBack11_r (upd z_13 15 (-1)) (X8_ofMove_r tb move 8)) H.size) (cwV 2 hts gX8_touch_X8_goBack rfl rfl rfl (by decide +kernel) ⟨Nat.le_of_ble_eq_true rfl, Nat.le_of_ble_eq_true rfl⟩) ⟨blindW, va_recv hK hPc (ci := 8) (q0 := 0) rfl rfl, fun U hU hW => ⟨rfl, wPre_of hPc hK hN hDc U hU hW⟩⟩ rfl rfl hl.1 rfl (lv_room (Nat.le_of_ble_eq_true rfl)) dX8_touch_330 ⟨Nat.zero_le _, Nat.zero_le _⟩) hS (fun q _ h => hFc q h) hFc (fun r_18 u t H1 locs ht hvm hw hB hz1 hk1 hS1 => ?_)
        subst hw
        have hJ := wJoin (wr := []) (w1 := [(m0, .inr (8, mdL AM g)), (AM 0, .inl (cY 0, 72, .inl tb)), (AM 2, .inl (cY 0, 22, .inl (X8_goBack0_w2 z_17 (X8_goBack11_r (upd z_13 15 (-1)) (X8_ofMove_r tb move 8))))), (AM 3, .inl (cY 0, 22, .inl rd)), (AM 4, .inl (cY 0, 110, .inl kp)), (AM 5, .inl (cY 0, 8414, .inl td)), (AM 6, .inl (cY 0, 2, .inl wn)), (AM 13, .inl (cY 0, 4, .inl rw)), (AM 14, .inl (cY 0, 4, .inl br))]) (wn := [(m0, .inr (8, mdL AM g)), (AM 0, .inl (cY 0, 72, .inl tb)), (AM 2, .inl (cY 0, 22, .inl (X8_goBack0_w2 z_17 (X8_goBack11_r (upd z_13 15 (-1)) (X8_ofMove_r tb move 8))))), (AM 3, .inl (cY 0, 22, .inl rd)), (AM 4, .inl (cY 0, 110, .inl kp)), (AM 5, .inl (cY 0, 8414, .inl td)), (AM 6, .inl (cY 0, 2, .inl wn)), (AM 13, .inl (cY 0, 4, .inl rw)), (AM 14, .inl (cY 0, 4, .inl br))]) hP hD [0, 1, 2, 3, 4, 5, 6, 7, 8] [] rfl rfl (by decide) (by decide) hk1 hFc hB ht [0, 1, 2, 3, 4, 5, 6, 7, 8] rfl (by decide)
        clear hB hk1 hFc hPc hDc hP hD hS hz1 hvm ht t
        obtain ⟨hP1, hD1⟩ := hJ
        generalize H1 = H at hP1 hS1 ⊢
        have hP : va_P (dC, dI) vwCl [(m0, .inr (8, mdL AM g)), (AM 0, .inl (cY 0, 72, .inl tb)), (AM 2, .inl (cY 0, 22, .inl (X8_goBack0_w2 z_17 (X8_goBack11_r (upd z_13 15 (-1)) (X8_ofMove_r tb move 8))))), (AM 3, .inl (cY 0, 22, .inl rd)), (AM 4, .inl (cY 0, 110, .inl kp)), (AM 5, .inl (cY 0, 8414, .inl td)), (AM 6, .inl (cY 0, 2, .inl wn)), (AM 13, .inl (cY 0, 4, .inl rw)), (AM 14, .inl (cY 0, 4, .inl br))] H := hP1
        have hD : va_D A [(m0, .inr (8, mdL AM g)), (AM 0, .inl (cY 0, 72, .inl tb)), (AM 2, .inl (cY 0, 22, .inl (X8_goBack0_w2 z_17 (X8_goBack11_r (upd z_13 15 (-1)) (X8_ofMove_r tb move 8))))), (AM 3, .inl (cY 0, 22, .inl rd)), (AM 4, .inl (cY 0, 110, .inl kp)), (AM 5, .inl (cY 0, 8414, .inl td)), (AM 6, .inl (cY 0, 2, .inl wn)), (AM 13, .inl (cY 0, 4, .inl rw)), (AM 14, .inl (cY 0, 4, .inl br))] := hD1
        have hS := hS1
        clear hP1 hD1 hS1
        obtain ⟨z_19, ez_19⟩ : ∃ z, z = (X8_goBack0_w2 z_17 (X8_goBack11_r (upd z_13 15 (-1)) (X8_ofMove_r tb move 8))) := ⟨_, rfl⟩
        rw [← ez_19] at hP hD
        refine lv_pop hx hb dX8_touch_333 rfl ?_
        have eo_20 : (X8_touch0_w2 tb sA count did input move) = z_19 := by rw [X8_touch0_w2]; (try simp only [← ez_13, ← ez_17, ← ez_19])
        have hP9 : va_P (dC, dI) vwCl [(m0, .inr (8, mdL AM g)), (AM 0, .inl (cY 0, 72, .inl tb)), (AM 2, .inl (cY 0, 22, .inl (X8_touch0_w2 tb sA count did input move))), (AM 3, .inl (cY 0, 22, .inl rd)), (AM 4, .inl (cY 0, 110, .inl kp)), (AM 5, .inl (cY 0, 8414, .inl td)), (AM 6, .inl (cY 0, 2, .inl wn)), (AM 13, .inl (cY 0, 4, .inl rw)), (AM 14, .inl (cY 0, 4, .inl br))] H := by simp only [eo_20]; exact hP
        have hD9 : va_D A [(m0, .inr (8, mdL AM g)), (AM 0, .inl (cY 0, 72, .inl tb)), (AM 2, .inl (cY 0, 22, .inl (X8_touch0_w2 tb sA count did input move))), (AM 3, .inl (cY 0, 22, .inl rd)), (AM 4, .inl (cY 0, 110, .inl kp)), (AM 5, .inl (cY 0, 8414, .inl td)), (AM 6, .inl (cY 0, 2, .inl wn)), (AM 13, .inl (cY 0, 4, .inl rw)), (AM 14, .inl (cY 0, 4, .inl br))] := by simp only [eo_20]; exact hD
        exact W.vret hx hb hr (fun t ht hW => ⟨⟨(), rfl, trivial, wPost_of hP9 hD9 ht⟩, hS.F ht⟩) hS.2.2 dX8_touch_334
      · intro jn_12
        refine lv_if_eq (tgt := 160) hx hb dX8_touch_98 (by decide) (fun c_11 => ?_) (fun c_11 => ?_)
        · refine lv_iload_n hx hb dX8_touch_160 rfl (lv_at hl 5 rfl) ?_
          refine lv_iconst (v := 2) hx hb dX8_touch_161 (by decide) ?_
          refine jnW (D := (dC, dI)) (ws := [(m0, .inr (8, mdL AM g)), (AM 0, .inl (cY 0, 72, .inl tb)), (AM 2, .inl (cY 0, 22, .inl (upd sA 2 (X8_touch0_j53 tb sA move)))), (AM 3, .inl (cY 0, 22, .inl rd)), (AM 4, .inl (cY 0, 110, .inl kp)), (AM 5, .inl (cY 0, 8414, .inl td)), (AM 6, .inl (cY 0, 2, .inl wn)), (AM 13, .inl (cY 0, 4, .inl rw)), (AM 14, .inl (cY 0, 4, .inl br))]) (lv := [(6, .int 11), (0, .ref m0), (1, .int 0), (2, .int move), (3, .int did)]) (st := [.int (X8_touch0_j173 count did)]) (J := 173) (n := 13) (A := A) (H0 := s.heap) ?_ ?_
          · intro H locs ls hP hD hS hl
            refine lv_istore (lv' := [(10, .int (X8_touch0_j173 count did)), (6, .int 11), (0, .ref m0), (1, .int 0), (2, .int move), (3, .int did)]) hx hb dX8_touch_173 hl (by decide) rfl (fun ls hl => ?_)
            refine lv_aload_n hx hb dX8_touch_175 rfl (lv_at hl 2 rfl) ?_
            refine lv_iload_n hx hb dX8_touch_176 rfl (lv_at hl 4 rfl) ?_
            refine lv_iconst (v := 5) hx hb dX8_touch_177 (by decide) ?_
            refine vp_callSi (W.runV (As := [.int move, .int 5]) (rest := []) ⟨hx, hb, hml, hown, hts⟩ (c_X8_ofMove l dC dI cY m0 AM g tb (upd sA 2 (X8_touch0_j53 tb sA move)) rd kp td wn rw br move 5 (tb_in hm (vin rfl))) (cwV 2 hts gX8_touch_X8_ofMove rfl rfl rfl (by decide +kernel) ⟨Nat.le_of_ble_eq_true rfl, Nat.le_of_ble_eq_true rfl⟩) ⟨blindR, va_recv hK hP (ci := 8) (q0 := 0) rfl rfl, fun U hU hW => ⟨rfl, rPre_of hP hK hN U hU hW⟩⟩ rfl rfl hl.1 rfl (lv_room (Nat.le_of_ble_eq_true rfl)) dX8_touch_178 ⟨Nat.zero_le _, Nat.zero_le _⟩) (fun r_23 hw => ?_)
            subst hw
            refine lv_iload hx hb dX8_touch_181 (lv_at hl 0 rfl) ?_
            refine lv_bipush (v := 10) hx hb dX8_touch_183 (by decide) ?_
            refine jnW (D := (dC, dI)) (ws := [(m0, .inr (8, mdL AM g)), (AM 0, .inl (cY 0, 72, .inl tb)), (AM 2, .inl (cY 0, 22, .inl (upd sA 2 (X8_touch0_j53 tb sA move)))), (AM 3, .inl (cY 0, 22, .inl rd)), (AM 4, .inl (cY 0, 110, .inl kp)), (AM 5, .inl (cY 0, 8414, .inl td)), (AM 6, .inl (cY 0, 2, .inl wn)), (AM 13, .inl (cY 0, 4, .inl rw)), (AM 14, .inl (cY 0, 4, .inl br))]) (lv := [(10, .int (X8_touch0_j173 count did)), (6, .int 11), (0, .ref m0), (1, .int 0), (2, .int move), (3, .int did)]) (st := [.int (X8_touch0_j197 count did), .int (X8_ofMove_r tb move 5)]) (J := 197) (n := 13) (A := A) (H0 := s.heap) ?_ ?_
            · intro H locs ls hP hD hS hl
              refine lv_imul hx hb dX8_touch_197 ?_
              refine lv_bipush (v := 10) hx hb dX8_touch_198 (by decide) ?_
              refine lv_idiv hx hb dX8_touch_200 (by decide) ?_
              refine lv_istore (lv' := [(11, .int (((X8_ofMove_r tb move 5) * (X8_touch0_j197 count did)) / 10)), (10, .int (X8_touch0_j173 count did)), (6, .int 11), (0, .ref m0), (1, .int 0), (2, .int move), (3, .int did)]) hx hb dX8_touch_201 hl (by decide) rfl (fun ls hl => ?_)
              refine lv_aload_n hx hb dX8_touch_203 rfl (lv_at hl 3 rfl) ?_
              refine lv_iload_n hx hb dX8_touch_204 rfl (lv_at hl 5 rfl) ?_
              refine lv_bipush (v := 6) hx hb dX8_touch_205 (by decide) ?_
              refine vp_callSi (W.runV (As := [.int move, .int 6]) (rest := []) ⟨hx, hb, hml, hown, hts⟩ (c_X8_ofMove l dC dI cY m0 AM g tb (upd sA 2 (X8_touch0_j53 tb sA move)) rd kp td wn rw br move 6 (tb_in hm (vin rfl))) (cwV 2 hts gX8_touch_X8_ofMove rfl rfl rfl (by decide +kernel) ⟨Nat.le_of_ble_eq_true rfl, Nat.le_of_ble_eq_true rfl⟩) ⟨blindR, va_recv hK hP (ci := 8) (q0 := 0) rfl rfl, fun U hU hW => ⟨rfl, rPre_of hP hK hN U hU hW⟩⟩ rfl rfl hl.1 rfl (lv_room (Nat.le_of_ble_eq_true rfl)) dX8_touch_207 ⟨Nat.zero_le _, Nat.zero_le _⟩) (fun r_26 hw => ?_)
              subst hw
              refine lv_iconst (v := 2) hx hb dX8_touch_210 (by decide) ?_
              refine lv_iload hx hb dX8_touch_211 (lv_at hl 1 rfl) ?_
              refine lv_iconst (v := 1) hx hb dX8_touch_213 (by decide) ?_
              refine lv_isub hx hb dX8_touch_214 ?_
              refine lv_imul hx hb dX8_touch_215 ?_
              refine lv_isub hx hb dX8_touch_216 ?_
              refine lv_iload_n hx hb dX8_touch_217 rfl (lv_at hl 6 rfl) ?_
              refine lv_iconst (v := 1) hx hb dX8_touch_218 (by decide) ?_
              refine jnW (D := (dC, dI)) (ws := [(m0, .inr (8, mdL AM g)), (AM 0, .inl (cY 0, 72, .inl tb)), (AM 2, .inl (cY 0, 22, .inl (upd sA 2 (X8_touch0_j53 tb sA move)))), (AM 3, .inl (cY 0, 22, .inl rd)), (AM 4, .inl (cY 0, 110, .inl kp)), (AM 5, .inl (cY 0, 8414, .inl td)), (AM 6, .inl (cY 0, 2, .inl wn)), (AM 13, .inl (cY 0, 4, .inl rw)), (AM 14, .inl (cY 0, 4, .inl br))]) (lv := [(11, .int (((X8_ofMove_r tb move 5) * (X8_touch0_j197 count did)) / 10)), (10, .int (X8_touch0_j173 count did)), (6, .int 11), (0, .ref m0), (1, .int 0), (2, .int move), (3, .int did)]) (st := [.int (X8_touch0_j227 did), .int ((X8_ofMove_r tb move 6) - (2 * ((X8_touch0_j173 count did) - 1)))]) (J := 227) (n := 13) (A := A) (H0 := s.heap) ?_ ?_
              · intro H locs ls hP hD hS hl
                refine lv_iadd hx hb dX8_touch_227 ?_
                refine lv_istore (lv' := [(12, .int (((X8_ofMove_r tb move 6) - (2 * ((X8_touch0_j173 count did) - 1))) + (X8_touch0_j227 did))), (11, .int (((X8_ofMove_r tb move 5) * (X8_touch0_j197 count did)) / 10)), (10, .int (X8_touch0_j173 count did)), (6, .int 11), (0, .ref m0), (1, .int 0), (2, .int move), (3, .int did)]) hx hb dX8_touch_228 hl (by decide) rfl (fun ls hl => ?_)
                refine lv_aload_n hx hb dX8_touch_230 rfl (lv_at hl 4 rfl) ?_
                refine va_get (D := (dC, dI)) (ci := 8) (v := .ref (AM 2)) (C := RX8) (T := TX8) (N := 17) hx hb hts inw_X8_touch_X8 hown hK hP 0 rfl rfl 2 (by decide) (hts (.fieldLink RX8 13 "DuelFramesModel" "s" "[I") (List.mem_of_getElem? (i := 1) rfl)) (fun _ h9 => h9) rfl dX8_touch_231 ?_
                refine lv_iload hx hb dX8_touch_234 (lv_at hl 3 rfl) ?_
                refine lv_iconst (v := 1) hx hb dX8_touch_236 (by decide) ?_
                refine lv_iadd hx hb dX8_touch_237 ?_
                refine lv_topi (fun x_29 ex_29 => ?_)
                obtain rfl : x_29 = 12 := ex_29.trans (by decide)
                refine lv_dup2_11 hx hb dX8_touch_238 rfl rfl ?_
                refine va_iald hx hb hK hP 2 0 rfl rfl (vin rfl) dX8_touch_239 ?_
                refine lv_topi (fun x_30 ex_30 => ?_)
                obtain rfl : x_30 = (sA 12) := ex_30
                refine lv_iload_n hx hb dX8_touch_240 rfl (lv_at hl 7 rfl) ?_
                refine lv_iconst (v := 1) hx hb dX8_touch_241 (by decide) ?_
                refine jnW (D := (dC, dI)) (ws := [(m0, .inr (8, mdL AM g)), (AM 0, .inl (cY 0, 72, .inl tb)), (AM 2, .inl (cY 0, 22, .inl (upd sA 2 (X8_touch0_j53 tb sA move)))), (AM 3, .inl (cY 0, 22, .inl rd)), (AM 4, .inl (cY 0, 110, .inl kp)), (AM 5, .inl (cY 0, 8414, .inl td)), (AM 6, .inl (cY 0, 2, .inl wn)), (AM 13, .inl (cY 0, 4, .inl rw)), (AM 14, .inl (cY 0, 4, .inl br))]) (lv := [(12, .int (((X8_ofMove_r tb move 6) - (2 * ((X8_touch0_j173 count did) - 1))) + (X8_touch0_j227 did))), (10, .int (X8_touch0_j173 count did)), (6, .int 11), (0, .ref m0), (1, .int 0), (2, .int move)]) (st := [.int (X8_touch0_j257 tb count did move), .int (sA 12), .int 12, .ref (AM 2)]) (J := 257) (n := 13) (A := A) (H0 := s.heap) ?_ ?_
                · intro H locs ls hP hD hS hl
                  refine lv_isub hx hb dX8_touch_257 ?_
                  refine va_iast hx hb hK hP hD hS 2 0 rfl rfl (vin rfl) dX8_touch_258 (fun H locs hP1 hD1 hS1 => ?_)
                  clear hP hD hS
                  have hP : va_P (dC, dI) vwCl [(m0, .inr (8, mdL AM g)), (AM 0, .inl (cY 0, 72, .inl tb)), (AM 2, .inl (cY 0, 22, .inl (upd (upd sA 2 (X8_touch0_j53 tb sA move)) 12 ((sA 12) - (X8_touch0_j257 tb count did move))))), (AM 3, .inl (cY 0, 22, .inl rd)), (AM 4, .inl (cY 0, 110, .inl kp)), (AM 5, .inl (cY 0, 8414, .inl td)), (AM 6, .inl (cY 0, 2, .inl wn)), (AM 13, .inl (cY 0, 4, .inl rw)), (AM 14, .inl (cY 0, 4, .inl br))] H := hP1
                  have hD : va_D A [(m0, .inr (8, mdL AM g)), (AM 0, .inl (cY 0, 72, .inl tb)), (AM 2, .inl (cY 0, 22, .inl (upd (upd sA 2 (X8_touch0_j53 tb sA move)) 12 ((sA 12) - (X8_touch0_j257 tb count did move))))), (AM 3, .inl (cY 0, 22, .inl rd)), (AM 4, .inl (cY 0, 110, .inl kp)), (AM 5, .inl (cY 0, 8414, .inl td)), (AM 6, .inl (cY 0, 2, .inl wn)), (AM 13, .inl (cY 0, 4, .inl rw)), (AM 14, .inl (cY 0, 4, .inl br))] := hD1
                  have hS := hS1
                  clear hP1 hD1 hS1
                  refine lv_aload_n hx hb dX8_touch_259 rfl (lv_at hl 3 rfl) ?_
                  refine va_get (D := (dC, dI)) (ci := 8) (v := .ref (AM 2)) (C := RX8) (T := TX8) (N := 17) hx hb hts inw_X8_touch_X8 hown hK hP 0 rfl rfl 2 (by decide) (hts (.fieldLink RX8 13 "DuelFramesModel" "s" "[I") (List.mem_of_getElem? (i := 1) rfl)) (fun _ h9 => h9) rfl dX8_touch_260 ?_
                  refine lv_iload hx hb dX8_touch_263 (lv_at hl 2 rfl) ?_
                  refine lv_iconst (v := 3) hx hb dX8_touch_265 (by decide) ?_
                  refine lv_iadd hx hb dX8_touch_266 ?_
                  refine lv_topi (fun x_33 ex_33 => ?_)
                  obtain rfl : x_33 = 14 := ex_33.trans (by decide)
                  refine lv_iconst (v := 2) hx hb dX8_touch_267 (by decide) ?_
                  refine va_iast hx hb hK hP hD hS 2 0 rfl rfl (vin rfl) dX8_touch_268 (fun H locs hP1 hD1 hS1 => ?_)
                  clear hP hD hS
                  have hP : va_P (dC, dI) vwCl [(m0, .inr (8, mdL AM g)), (AM 0, .inl (cY 0, 72, .inl tb)), (AM 2, .inl (cY 0, 22, .inl (upd (upd (upd sA 2 (X8_touch0_j53 tb sA move)) 12 ((sA 12) - (X8_touch0_j257 tb count did move))) 14 2))), (AM 3, .inl (cY 0, 22, .inl rd)), (AM 4, .inl (cY 0, 110, .inl kp)), (AM 5, .inl (cY 0, 8414, .inl td)), (AM 6, .inl (cY 0, 2, .inl wn)), (AM 13, .inl (cY 0, 4, .inl rw)), (AM 14, .inl (cY 0, 4, .inl br))] H := hP1
                  have hD : va_D A [(m0, .inr (8, mdL AM g)), (AM 0, .inl (cY 0, 72, .inl tb)), (AM 2, .inl (cY 0, 22, .inl (upd (upd (upd sA 2 (X8_touch0_j53 tb sA move)) 12 ((sA 12) - (X8_touch0_j257 tb count did move))) 14 2))), (AM 3, .inl (cY 0, 22, .inl rd)), (AM 4, .inl (cY 0, 110, .inl kp)), (AM 5, .inl (cY 0, 8414, .inl td)), (AM 6, .inl (cY 0, 2, .inl wn)), (AM 13, .inl (cY 0, 4, .inl rw)), (AM 14, .inl (cY 0, 4, .inl br))] := hD1
                  have hS := hS1
                  clear hP1 hD1 hS1
                  refine lv_aload_n hx hb dX8_touch_269 rfl (lv_at hl 3 rfl) ?_
                  refine va_get (D := (dC, dI)) (ci := 8) (v := .ref (AM 2)) (C := RX8) (T := TX8) (N := 17) hx hb hts inw_X8_touch_X8 hown hK hP 0 rfl rfl 2 (by decide) (hts (.fieldLink RX8 13 "DuelFramesModel" "s" "[I") (List.mem_of_getElem? (i := 1) rfl)) (fun _ h9 => h9) rfl dX8_touch_270 ?_
                  refine lv_iload hx hb dX8_touch_273 (lv_at hl 2 rfl) ?_
                  refine lv_iconst (v := 5) hx hb dX8_touch_275 (by decide) ?_
                  refine lv_iadd hx hb dX8_touch_276 ?_
                  refine lv_topi (fun x_34 ex_34 => ?_)
                  obtain rfl : x_34 = 16 := ex_34.trans (by decide)
                  refine lv_iload hx hb dX8_touch_277 (lv_at hl 0 rfl) ?_
                  refine jnW (D := (dC, dI)) (ws := [(m0, .inr (8, mdL AM g)), (AM 0, .inl (cY 0, 72, .inl tb)), (AM 2, .inl (cY 0, 22, .inl (upd (upd (upd sA 2 (X8_touch0_j53 tb sA move)) 12 ((sA 12) - (X8_touch0_j257 tb count did move))) 14 2))), (AM 3, .inl (cY 0, 22, .inl rd)), (AM 4, .inl (cY 0, 110, .inl kp)), (AM 5, .inl (cY 0, 8414, .inl td)), (AM 6, .inl (cY 0, 2, .inl wn)), (AM 13, .inl (cY 0, 4, .inl rw)), (AM 14, .inl (cY 0, 4, .inl br))]) (lv := [(10, .int (X8_touch0_j173 count did)), (6, .int 11), (0, .ref m0), (1, .int 0), (2, .int move)]) (st := [.int (X8_touch0_j288 tb count did move), .int 16, .ref (AM 2)]) (J := 288) (n := 13) (A := A) (H0 := s.heap) ?_ ?_
                  · intro H locs ls hP hD hS hl
                    refine va_iast hx hb hK hP hD hS 2 0 rfl rfl (vin rfl) dX8_touch_288 (fun H locs hP1 hD1 hS1 => ?_)
                    clear hP hD hS
                    have hP : va_P (dC, dI) vwCl [(m0, .inr (8, mdL AM g)), (AM 0, .inl (cY 0, 72, .inl tb)), (AM 2, .inl (cY 0, 22, .inl (upd (upd (upd (upd sA 2 (X8_touch0_j53 tb sA move)) 12 ((sA 12) - (X8_touch0_j257 tb count did move))) 14 2) 16 (X8_touch0_j288 tb count did move)))), (AM 3, .inl (cY 0, 22, .inl rd)), (AM 4, .inl (cY 0, 110, .inl kp)), (AM 5, .inl (cY 0, 8414, .inl td)), (AM 6, .inl (cY 0, 2, .inl wn)), (AM 13, .inl (cY 0, 4, .inl rw)), (AM 14, .inl (cY 0, 4, .inl br))] H := hP1
                    have hD : va_D A [(m0, .inr (8, mdL AM g)), (AM 0, .inl (cY 0, 72, .inl tb)), (AM 2, .inl (cY 0, 22, .inl (upd (upd (upd (upd sA 2 (X8_touch0_j53 tb sA move)) 12 ((sA 12) - (X8_touch0_j257 tb count did move))) 14 2) 16 (X8_touch0_j288 tb count did move)))), (AM 3, .inl (cY 0, 22, .inl rd)), (AM 4, .inl (cY 0, 110, .inl kp)), (AM 5, .inl (cY 0, 8414, .inl td)), (AM 6, .inl (cY 0, 2, .inl wn)), (AM 13, .inl (cY 0, 4, .inl rw)), (AM 14, .inl (cY 0, 4, .inl br))] := hD1
                    have hS := hS1
                    clear hP1 hD1 hS1
                    refine lv_aload_n hx hb dX8_touch_289 rfl (lv_at hl 2 rfl) ?_
                    refine va_get (D := (dC, dI)) (ci := 8) (v := .ref (AM 2)) (C := RX8) (T := TX8) (N := 17) hx hb hts inw_X8_touch_X8 hown hK hP 0 rfl rfl 2 (by decide) (hts (.fieldLink RX8 13 "DuelFramesModel" "s" "[I") (List.mem_of_getElem? (i := 1) rfl)) (fun _ h9 => h9) rfl dX8_touch_290 ?_
                    refine lv_iload hx hb dX8_touch_293 (lv_at hl 1 rfl) ?_
                    refine lv_bipush (v := 6) hx hb dX8_touch_295 (by decide) ?_
                    refine lv_iadd hx hb dX8_touch_297 ?_
                    refine lv_topi (fun x_37 ex_37 => ?_)
                    obtain rfl : x_37 = 17 := ex_37.trans (by decide)
                    refine lv_iload hx hb dX8_touch_298 (lv_at hl 0 rfl) ?_
                    refine va_iast hx hb hK hP hD hS 2 0 rfl rfl (vin rfl) dX8_touch_300 (fun H locs hP1 hD1 hS1 => ?_)
                    clear hP hD hS
                    have hP : va_P (dC, dI) vwCl [(m0, .inr (8, mdL AM g)), (AM 0, .inl (cY 0, 72, .inl tb)), (AM 2, .inl (cY 0, 22, .inl (upd (upd (upd (upd (upd sA 2 (X8_touch0_j53 tb sA move)) 12 ((sA 12) - (X8_touch0_j257 tb count did move))) 14 2) 16 (X8_touch0_j288 tb count did move)) 17 (X8_touch0_j173 count did)))), (AM 3, .inl (cY 0, 22, .inl rd)), (AM 4, .inl (cY 0, 110, .inl kp)), (AM 5, .inl (cY 0, 8414, .inl td)), (AM 6, .inl (cY 0, 2, .inl wn)), (AM 13, .inl (cY 0, 4, .inl rw)), (AM 14, .inl (cY 0, 4, .inl br))] H := hP1
                    have hD : va_D A [(m0, .inr (8, mdL AM g)), (AM 0, .inl (cY 0, 72, .inl tb)), (AM 2, .inl (cY 0, 22, .inl (upd (upd (upd (upd (upd sA 2 (X8_touch0_j53 tb sA move)) 12 ((sA 12) - (X8_touch0_j257 tb count did move))) 14 2) 16 (X8_touch0_j288 tb count did move)) 17 (X8_touch0_j173 count did)))), (AM 3, .inl (cY 0, 22, .inl rd)), (AM 4, .inl (cY 0, 110, .inl kp)), (AM 5, .inl (cY 0, 8414, .inl td)), (AM 6, .inl (cY 0, 2, .inl wn)), (AM 13, .inl (cY 0, 4, .inl rw)), (AM 14, .inl (cY 0, 4, .inl br))] := hD1
                    have hS := hS1
                    clear hP1 hD1 hS1
                    have e_38 : (X8_touch0_j301 tb sA count did input move) = (upd (upd (upd (upd (upd sA 2 (X8_touch0_j53 tb sA move)) 12 ((sA 12) - (X8_touch0_j257 tb count did move))) 14 2) 16 (X8_touch0_j288 tb count did move)) 17 (X8_touch0_j173 count did)) := by rw [X8_touch0_j301]; simp only [eq_true c_11, ↓reduceIte]
                    exact jn_12 _ _ _ (by (try simp only [e_38]); exact hP) (by (try simp only [e_38]); exact hD) hS (by (try simp only [e_38]); exact (lv_sub hl [1, 2, 3, 4] rfl))
                  · intro jn_36
                    refine lv_if_ge (tgt := 286) hx hb dX8_touch_279 (by decide) (fun c_35 => ?_) (fun c_35 => ?_)
                    · refine lv_iload hx hb dX8_touch_286 (lv_at hl 0 rfl) ?_
                      have e_39 : (X8_touch0_j288 tb count did move) = (((X8_ofMove_r tb move 6) - (2 * ((X8_touch0_j173 count did) - 1))) + (X8_touch0_j227 did)) := by rw [X8_touch0_j288]; simp only [eq_true c_35, ↓reduceIte]
                      refine W.eq (g2 := F0 m 288 ls [.int (X8_touch0_j288 tb count did move), .int 16, .ref (AM 2)]) (by simp only [e_39]) ?_
                      exact jn_36 _ _ _ (by (try simp only [e_39]); exact hP) (by (try simp only [e_39]); exact hD) hS (by (try simp only [e_39]); exact (lv_sub hl [1, 2, 3, 4, 5] rfl))
                    · refine lv_iconst (v := 0) hx hb dX8_touch_282 (by decide) ?_
                      refine lv_goto (tgt := 288) hx hb dX8_touch_283 (by decide) ?_
                      have e_40 : (X8_touch0_j288 tb count did move) = 0 := by rw [X8_touch0_j288]; simp only [eq_false c_35, ↓reduceIte]
                      refine W.eq (g2 := F0 m 288 ls [.int (X8_touch0_j288 tb count did move), .int 16, .ref (AM 2)]) (by simp only [e_40]) ?_
                      exact jn_36 _ _ _ (by (try simp only [e_40]); exact hP) (by (try simp only [e_40]); exact hD) hS (by (try simp only [e_40]); exact (lv_sub hl [1, 2, 3, 4, 5] rfl))
                · intro jn_32
                  refine lv_icmp_ne (tgt := 255) hx hb dX8_touch_242 (by decide) (fun c_31 => ?_) (fun c_31 => ?_)
                  · refine lv_iload hx hb dX8_touch_255 (lv_at hl 1 rfl) ?_
                    have e_41 : (X8_touch0_j257 tb count did move) = (((X8_ofMove_r tb move 5) * (X8_touch0_j197 count did)) / 10) := by rw [X8_touch0_j257]; simp only [eq_false c_31, ↓reduceIte]
                    refine W.eq (g2 := F0 m 257 ls [.int (X8_touch0_j257 tb count did move), .int (sA 12), .int 12, .ref (AM 2)]) (by simp only [e_41]) ?_
                    exact jn_32 _ _ _ (by (try simp only [e_41]); exact hP) (by (try simp only [e_41]); exact hD) hS (by (try simp only [e_41]); exact (lv_sub hl [0, 2, 3, 4, 5, 6] rfl))
                  · refine lv_iload hx hb dX8_touch_245 (lv_at hl 1 rfl) ?_
                    refine lv_bipush (v := 6) hx hb dX8_touch_247 (by decide) ?_
                    refine lv_imul hx hb dX8_touch_249 ?_
                    refine lv_iconst (v := 5) hx hb dX8_touch_250 (by decide) ?_
                    refine lv_idiv hx hb dX8_touch_251 (by decide) ?_
                    refine lv_goto (tgt := 257) hx hb dX8_touch_252 (by decide) ?_
                    have e_42 : (X8_touch0_j257 tb count did move) = (((((X8_ofMove_r tb move 5) * (X8_touch0_j197 count did)) / 10) * 6) / 5) := by rw [X8_touch0_j257]; simp only [eq_true c_31, ↓reduceIte]
                    refine W.eq (g2 := F0 m 257 ls [.int (X8_touch0_j257 tb count did move), .int (sA 12), .int 12, .ref (AM 2)]) (by simp only [e_42]) ?_
                    exact jn_32 _ _ _ (by (try simp only [e_42]); exact hP) (by (try simp only [e_42]); exact hD) hS (by (try simp only [e_42]); exact (lv_sub hl [0, 2, 3, 4, 5, 6] rfl))
              · intro jn_28
                refine lv_icmp_ne (tgt := 226) hx hb dX8_touch_219 (by decide) (fun c_27 => ?_) (fun c_27 => ?_)
                · refine lv_iconst (v := 0) hx hb dX8_touch_226 (by decide) ?_
                  have e_43 : (X8_touch0_j227 did) = 0 := by rw [X8_touch0_j227]; simp only [eq_false c_27, ↓reduceIte]
                  refine W.eq (g2 := F0 m 227 ls [.int (X8_touch0_j227 did), .int ((X8_ofMove_r tb move 6) - (2 * ((X8_touch0_j173 count did) - 1)))]) (by simp only [e_43]) ?_
                  exact jn_28 _ _ _ (by (try simp only [e_43]); exact hP) (by (try simp only [e_43]); exact hD) hS (by (try simp only [e_43]); exact (lv_sub hl [0, 1, 2, 3, 4, 5, 6] rfl))
                · refine lv_iconst (v := 4) hx hb dX8_touch_222 (by decide) ?_
                  refine lv_goto (tgt := 227) hx hb dX8_touch_223 (by decide) ?_
                  have e_44 : (X8_touch0_j227 did) = 4 := by rw [X8_touch0_j227]; simp only [eq_true c_27, ↓reduceIte]
                  refine W.eq (g2 := F0 m 227 ls [.int (X8_touch0_j227 did), .int ((X8_ofMove_r tb move 6) - (2 * ((X8_touch0_j173 count did) - 1)))]) (by simp only [e_44]) ?_
                  exact jn_28 _ _ _ (by (try simp only [e_44]); exact hP) (by (try simp only [e_44]); exact hD) hS (by (try simp only [e_44]); exact (lv_sub hl [0, 1, 2, 3, 4, 5, 6] rfl))
            · intro jn_25
              refine lv_icmp_le (tgt := 192) hx hb dX8_touch_185 (by decide) (fun c_24 => ?_) (fun c_24 => ?_)
              · refine lv_bipush (v := 11) hx hb dX8_touch_192 (by decide) ?_
                refine lv_iload hx hb dX8_touch_194 (lv_at hl 0 rfl) ?_
                refine lv_isub hx hb dX8_touch_196 ?_
                have e_45 : (X8_touch0_j197 count did) = (11 - (X8_touch0_j173 count did)) := by rw [X8_touch0_j197]; simp only [eq_true c_24, ↓reduceIte]
                refine W.eq (g2 := F0 m 197 ls [.int (X8_touch0_j197 count did), .int (X8_ofMove_r tb move 5)]) (by simp only [e_45]) ?_
                exact jn_25 _ _ _ (by (try simp only [e_45]); exact hP) (by (try simp only [e_45]); exact hD) hS (by (try simp only [e_45]); exact (lv_sub hl [0, 1, 2, 3, 4, 5] rfl))
              · refine lv_iconst (v := 1) hx hb dX8_touch_188 (by decide) ?_
                refine lv_goto (tgt := 197) hx hb dX8_touch_189 (by decide) ?_
                have e_46 : (X8_touch0_j197 count did) = 1 := by rw [X8_touch0_j197]; simp only [eq_false c_24, ↓reduceIte]
                refine W.eq (g2 := F0 m 197 ls [.int (X8_touch0_j197 count did), .int (X8_ofMove_r tb move 5)]) (by simp only [e_46]) ?_
                exact jn_25 _ _ _ (by (try simp only [e_46]); exact hP) (by (try simp only [e_46]); exact hD) hS (by (try simp only [e_46]); exact (lv_sub hl [0, 1, 2, 3, 4, 5] rfl))
          · intro jn_22
            refine lv_icmp_ne (tgt := 172) hx hb dX8_touch_162 (by decide) (fun c_21 => ?_) (fun c_21 => ?_)
            · refine lv_iconst (v := 1) hx hb dX8_touch_172 (by decide) ?_
              have e_47 : (X8_touch0_j173 count did) = 1 := by rw [X8_touch0_j173]; simp only [eq_false c_21, ↓reduceIte]
              refine W.eq (g2 := F0 m 173 ls [.int (X8_touch0_j173 count did)]) (by simp only [e_47]) ?_
              exact jn_22 _ _ _ (by (try simp only [e_47]); exact hP) (by (try simp only [e_47]); exact hD) hS (by (try simp only [e_47]); exact (lv_sub hl [1, 2, 3, 4, 5] rfl))
            · refine lv_iload hx hb dX8_touch_165 (lv_at hl 6 rfl) ?_
              refine lv_iconst (v := 1) hx hb dX8_touch_167 (by decide) ?_
              refine lv_iadd hx hb dX8_touch_168 ?_
              refine lv_goto (tgt := 173) hx hb dX8_touch_169 (by decide) ?_
              have e_48 : (X8_touch0_j173 count did) = (count + 1) := by rw [X8_touch0_j173]; simp only [eq_true c_21, ↓reduceIte]
              refine W.eq (g2 := F0 m 173 ls [.int (X8_touch0_j173 count did)]) (by simp only [e_48]) ?_
              exact jn_22 _ _ _ (by (try simp only [e_48]); exact hP) (by (try simp only [e_48]); exact hD) hS (by (try simp only [e_48]); exact (lv_sub hl [1, 2, 3, 4, 5] rfl))
        · refine lv_iload_n hx hb dX8_touch_101 rfl (lv_at hl 5 rfl) ?_
          refine lv_if_eq (tgt := 110) hx hb dX8_touch_102 (by decide) (fun c_49 => ?_) (fun c_49 => ?_)
          · refine lv_aload_n hx hb dX8_touch_110 rfl (lv_at hl 2 rfl) ?_
            refine va_get (D := (dC, dI)) (ci := 8) (v := .ref (AM 2)) (C := RX8) (T := TX8) (N := 17) hx hb hts inw_X8_touch_X8 hown hK hP 0 rfl rfl 2 (by decide) (hts (.fieldLink RX8 13 "DuelFramesModel" "s" "[I") (List.mem_of_getElem? (i := 1) rfl)) (fun _ h9 => h9) rfl dX8_touch_111 ?_
            refine lv_iload hx hb dX8_touch_114 (lv_at hl 1 rfl) ?_
            refine lv_iconst (v := 1) hx hb dX8_touch_116 (by decide) ?_
            refine lv_iadd hx hb dX8_touch_117 ?_
            refine lv_topi (fun x_50 ex_50 => ?_)
            obtain rfl : x_50 = 12 := ex_50.trans (by decide)
            refine lv_dup2_11 hx hb dX8_touch_118 rfl rfl ?_
            refine va_iald hx hb hK hP 2 0 rfl rfl (vin rfl) dX8_touch_119 ?_
            refine lv_topi (fun x_51 ex_51 => ?_)
            obtain rfl : x_51 = (sA 12) := ex_51
            refine lv_aload_n hx hb dX8_touch_120 rfl (lv_at hl 2 rfl) ?_
            refine lv_iload_n hx hb dX8_touch_121 rfl (lv_at hl 4 rfl) ?_
            refine lv_iconst (v := 5) hx hb dX8_touch_122 (by decide) ?_
            refine vp_callSi (W.runV (As := [.int move, .int 5]) (rest := [.int (sA 12), .int 12, .ref (AM 2)]) ⟨hx, hb, hml, hown, hts⟩ (c_X8_ofMove l dC dI cY m0 AM g tb (upd sA 2 (X8_touch0_j53 tb sA move)) rd kp td wn rw br move 5 (tb_in hm (vin rfl))) (cwV 2 hts gX8_touch_X8_ofMove rfl rfl rfl (by decide +kernel) ⟨Nat.le_of_ble_eq_true rfl, Nat.le_of_ble_eq_true rfl⟩) ⟨blindR, va_recv hK hP (ci := 8) (q0 := 0) rfl rfl, fun U hU hW => ⟨rfl, rPre_of hP hK hN U hU hW⟩⟩ rfl rfl hl.1 rfl (lv_room (Nat.le_of_ble_eq_true rfl)) dX8_touch_123 ⟨Nat.zero_le _, Nat.zero_le _⟩) (fun r_52 hw => ?_)
            subst hw
            refine lv_bipush (v := 10) hx hb dX8_touch_126 (by decide) ?_
            refine lv_idiv hx hb dX8_touch_128 (by decide) ?_
            refine lv_isub hx hb dX8_touch_129 ?_
            refine va_iast hx hb hK hP hD hS 2 0 rfl rfl (vin rfl) dX8_touch_130 (fun H locs hP1 hD1 hS1 => ?_)
            clear hP hD hS
            have hP : va_P (dC, dI) vwCl [(m0, .inr (8, mdL AM g)), (AM 0, .inl (cY 0, 72, .inl tb)), (AM 2, .inl (cY 0, 22, .inl (upd (upd sA 2 (X8_touch0_j53 tb sA move)) 12 ((sA 12) - ((X8_ofMove_r tb move 5) / 10))))), (AM 3, .inl (cY 0, 22, .inl rd)), (AM 4, .inl (cY 0, 110, .inl kp)), (AM 5, .inl (cY 0, 8414, .inl td)), (AM 6, .inl (cY 0, 2, .inl wn)), (AM 13, .inl (cY 0, 4, .inl rw)), (AM 14, .inl (cY 0, 4, .inl br))] H := hP1
            have hD : va_D A [(m0, .inr (8, mdL AM g)), (AM 0, .inl (cY 0, 72, .inl tb)), (AM 2, .inl (cY 0, 22, .inl (upd (upd sA 2 (X8_touch0_j53 tb sA move)) 12 ((sA 12) - ((X8_ofMove_r tb move 5) / 10))))), (AM 3, .inl (cY 0, 22, .inl rd)), (AM 4, .inl (cY 0, 110, .inl kp)), (AM 5, .inl (cY 0, 8414, .inl td)), (AM 6, .inl (cY 0, 2, .inl wn)), (AM 13, .inl (cY 0, 4, .inl rw)), (AM 14, .inl (cY 0, 4, .inl br))] := hD1
            have hS := hS1
            clear hP1 hD1 hS1
            refine lv_aload_n hx hb dX8_touch_131 rfl (lv_at hl 2 rfl) ?_
            refine va_get (D := (dC, dI)) (ci := 8) (v := .ref (AM 2)) (C := RX8) (T := TX8) (N := 17) hx hb hts inw_X8_touch_X8 hown hK hP 0 rfl rfl 2 (by decide) (hts (.fieldLink RX8 13 "DuelFramesModel" "s" "[I") (List.mem_of_getElem? (i := 1) rfl)) (fun _ h9 => h9) rfl dX8_touch_132 ?_
            refine lv_iload hx hb dX8_touch_135 (lv_at hl 1 rfl) ?_
            refine lv_iconst (v := 3) hx hb dX8_touch_137 (by decide) ?_
            refine lv_iadd hx hb dX8_touch_138 ?_
            refine lv_topi (fun x_53 ex_53 => ?_)
            obtain rfl : x_53 = 14 := ex_53.trans (by decide)
            refine lv_iconst (v := 3) hx hb dX8_touch_139 (by decide) ?_
            refine va_iast hx hb hK hP hD hS 2 0 rfl rfl (vin rfl) dX8_touch_140 (fun H locs hP1 hD1 hS1 => ?_)
            clear hP hD hS
            have hP : va_P (dC, dI) vwCl [(m0, .inr (8, mdL AM g)), (AM 0, .inl (cY 0, 72, .inl tb)), (AM 2, .inl (cY 0, 22, .inl (upd (upd (upd sA 2 (X8_touch0_j53 tb sA move)) 12 ((sA 12) - ((X8_ofMove_r tb move 5) / 10))) 14 3))), (AM 3, .inl (cY 0, 22, .inl rd)), (AM 4, .inl (cY 0, 110, .inl kp)), (AM 5, .inl (cY 0, 8414, .inl td)), (AM 6, .inl (cY 0, 2, .inl wn)), (AM 13, .inl (cY 0, 4, .inl rw)), (AM 14, .inl (cY 0, 4, .inl br))] H := hP1
            have hD : va_D A [(m0, .inr (8, mdL AM g)), (AM 0, .inl (cY 0, 72, .inl tb)), (AM 2, .inl (cY 0, 22, .inl (upd (upd (upd sA 2 (X8_touch0_j53 tb sA move)) 12 ((sA 12) - ((X8_ofMove_r tb move 5) / 10))) 14 3))), (AM 3, .inl (cY 0, 22, .inl rd)), (AM 4, .inl (cY 0, 110, .inl kp)), (AM 5, .inl (cY 0, 8414, .inl td)), (AM 6, .inl (cY 0, 2, .inl wn)), (AM 13, .inl (cY 0, 4, .inl rw)), (AM 14, .inl (cY 0, 4, .inl br))] := hD1
            have hS := hS1
            clear hP1 hD1 hS1
            refine lv_aload_n hx hb dX8_touch_141 rfl (lv_at hl 2 rfl) ?_
            refine va_get (D := (dC, dI)) (ci := 8) (v := .ref (AM 2)) (C := RX8) (T := TX8) (N := 17) hx hb hts inw_X8_touch_X8 hown hK hP 0 rfl rfl 2 (by decide) (hts (.fieldLink RX8 13 "DuelFramesModel" "s" "[I") (List.mem_of_getElem? (i := 1) rfl)) (fun _ h9 => h9) rfl dX8_touch_142 ?_
            refine lv_iload hx hb dX8_touch_145 (lv_at hl 1 rfl) ?_
            refine lv_iconst (v := 5) hx hb dX8_touch_147 (by decide) ?_
            refine lv_iadd hx hb dX8_touch_148 ?_
            refine lv_topi (fun x_54 ex_54 => ?_)
            obtain rfl : x_54 = 16 := ex_54.trans (by decide)
            refine lv_aload_n hx hb dX8_touch_149 rfl (lv_at hl 2 rfl) ?_
            refine lv_iload_n hx hb dX8_touch_150 rfl (lv_at hl 4 rfl) ?_
            refine lv_bipush (v := 7) hx hb dX8_touch_151 (by decide) ?_
            refine vp_callSi (W.runV (As := [.int move, .int 7]) (rest := [.int 16, .ref (AM 2)]) ⟨hx, hb, hml, hown, hts⟩ (c_X8_ofMove l dC dI cY m0 AM g tb (upd (upd (upd sA 2 (X8_touch0_j53 tb sA move)) 12 ((sA 12) - ((X8_ofMove_r tb move 5) / 10))) 14 3) rd kp td wn rw br move 7 (tb_in hm (vin rfl))) (cwV 2 hts gX8_touch_X8_ofMove rfl rfl rfl (by decide +kernel) ⟨Nat.le_of_ble_eq_true rfl, Nat.le_of_ble_eq_true rfl⟩) ⟨blindR, va_recv hK hP (ci := 8) (q0 := 0) rfl rfl, fun U hU hW => ⟨rfl, rPre_of hP hK hN U hU hW⟩⟩ rfl rfl hl.1 rfl (lv_room (Nat.le_of_ble_eq_true rfl)) dX8_touch_153 ⟨Nat.zero_le _, Nat.zero_le _⟩) (fun r_55 hw => ?_)
            subst hw
            refine va_iast hx hb hK hP hD hS 2 0 rfl rfl (vin rfl) dX8_touch_156 (fun H locs hP1 hD1 hS1 => ?_)
            clear hP hD hS
            have hP : va_P (dC, dI) vwCl [(m0, .inr (8, mdL AM g)), (AM 0, .inl (cY 0, 72, .inl tb)), (AM 2, .inl (cY 0, 22, .inl (upd (upd (upd (upd sA 2 (X8_touch0_j53 tb sA move)) 12 ((sA 12) - ((X8_ofMove_r tb move 5) / 10))) 14 3) 16 (X8_ofMove_r tb move 7)))), (AM 3, .inl (cY 0, 22, .inl rd)), (AM 4, .inl (cY 0, 110, .inl kp)), (AM 5, .inl (cY 0, 8414, .inl td)), (AM 6, .inl (cY 0, 2, .inl wn)), (AM 13, .inl (cY 0, 4, .inl rw)), (AM 14, .inl (cY 0, 4, .inl br))] H := hP1
            have hD : va_D A [(m0, .inr (8, mdL AM g)), (AM 0, .inl (cY 0, 72, .inl tb)), (AM 2, .inl (cY 0, 22, .inl (upd (upd (upd (upd sA 2 (X8_touch0_j53 tb sA move)) 12 ((sA 12) - ((X8_ofMove_r tb move 5) / 10))) 14 3) 16 (X8_ofMove_r tb move 7)))), (AM 3, .inl (cY 0, 22, .inl rd)), (AM 4, .inl (cY 0, 110, .inl kp)), (AM 5, .inl (cY 0, 8414, .inl td)), (AM 6, .inl (cY 0, 2, .inl wn)), (AM 13, .inl (cY 0, 4, .inl rw)), (AM 14, .inl (cY 0, 4, .inl br))] := hD1
            have hS := hS1
            clear hP1 hD1 hS1
            refine lv_goto (tgt := 301) hx hb dX8_touch_157 (by decide) ?_
            have e_56 : (X8_touch0_j301 tb sA count did input move) = (upd (upd (upd (upd sA 2 (X8_touch0_j53 tb sA move)) 12 ((sA 12) - ((X8_ofMove_r tb move 5) / 10))) 14 3) 16 (X8_ofMove_r tb move 7)) := by rw [X8_touch0_j301]; simp only [eq_false c_11, eq_true c_49, ↓reduceIte]
            exact jn_12 _ _ _ (by (try simp only [e_56]); exact hP) (by (try simp only [e_56]); exact hD) hS (by (try simp only [e_56]); exact (lv_sub hl [1, 2, 3, 4] rfl))
          · refine lv_iload_n hx hb dX8_touch_105 rfl (lv_at hl 5 rfl) ?_
            refine lv_iconst (v := 3) hx hb dX8_touch_106 (by decide) ?_
            refine lv_icmp_ne (tgt := 160) hx hb dX8_touch_107 (by decide) (fun c_57 => ?_) (fun c_57 => ?_)
            · refine lv_iload_n hx hb dX8_touch_160 rfl (lv_at hl 5 rfl) ?_
              refine lv_iconst (v := 2) hx hb dX8_touch_161 (by decide) ?_
              refine jnW (D := (dC, dI)) (ws := [(m0, .inr (8, mdL AM g)), (AM 0, .inl (cY 0, 72, .inl tb)), (AM 2, .inl (cY 0, 22, .inl (upd sA 2 (X8_touch0_j53 tb sA move)))), (AM 3, .inl (cY 0, 22, .inl rd)), (AM 4, .inl (cY 0, 110, .inl kp)), (AM 5, .inl (cY 0, 8414, .inl td)), (AM 6, .inl (cY 0, 2, .inl wn)), (AM 13, .inl (cY 0, 4, .inl rw)), (AM 14, .inl (cY 0, 4, .inl br))]) (lv := [(6, .int 11), (0, .ref m0), (1, .int 0), (2, .int move), (3, .int did)]) (st := [.int (X8_touch0_j173 count did)]) (J := 173) (n := 13) (A := A) (H0 := s.heap) ?_ ?_
              · intro H locs ls hP hD hS hl
                refine lv_istore (lv' := [(10, .int (X8_touch0_j173 count did)), (6, .int 11), (0, .ref m0), (1, .int 0), (2, .int move), (3, .int did)]) hx hb dX8_touch_173 hl (by decide) rfl (fun ls hl => ?_)
                refine lv_aload_n hx hb dX8_touch_175 rfl (lv_at hl 2 rfl) ?_
                refine lv_iload_n hx hb dX8_touch_176 rfl (lv_at hl 4 rfl) ?_
                refine lv_iconst (v := 5) hx hb dX8_touch_177 (by decide) ?_
                refine vp_callSi (W.runV (As := [.int move, .int 5]) (rest := []) ⟨hx, hb, hml, hown, hts⟩ (c_X8_ofMove l dC dI cY m0 AM g tb (upd sA 2 (X8_touch0_j53 tb sA move)) rd kp td wn rw br move 5 (tb_in hm (vin rfl))) (cwV 2 hts gX8_touch_X8_ofMove rfl rfl rfl (by decide +kernel) ⟨Nat.le_of_ble_eq_true rfl, Nat.le_of_ble_eq_true rfl⟩) ⟨blindR, va_recv hK hP (ci := 8) (q0 := 0) rfl rfl, fun U hU hW => ⟨rfl, rPre_of hP hK hN U hU hW⟩⟩ rfl rfl hl.1 rfl (lv_room (Nat.le_of_ble_eq_true rfl)) dX8_touch_178 ⟨Nat.zero_le _, Nat.zero_le _⟩) (fun r_60 hw => ?_)
                subst hw
                refine lv_iload hx hb dX8_touch_181 (lv_at hl 0 rfl) ?_
                refine lv_bipush (v := 10) hx hb dX8_touch_183 (by decide) ?_
                refine jnW (D := (dC, dI)) (ws := [(m0, .inr (8, mdL AM g)), (AM 0, .inl (cY 0, 72, .inl tb)), (AM 2, .inl (cY 0, 22, .inl (upd sA 2 (X8_touch0_j53 tb sA move)))), (AM 3, .inl (cY 0, 22, .inl rd)), (AM 4, .inl (cY 0, 110, .inl kp)), (AM 5, .inl (cY 0, 8414, .inl td)), (AM 6, .inl (cY 0, 2, .inl wn)), (AM 13, .inl (cY 0, 4, .inl rw)), (AM 14, .inl (cY 0, 4, .inl br))]) (lv := [(10, .int (X8_touch0_j173 count did)), (6, .int 11), (0, .ref m0), (1, .int 0), (2, .int move), (3, .int did)]) (st := [.int (X8_touch0_j197 count did), .int (X8_ofMove_r tb move 5)]) (J := 197) (n := 13) (A := A) (H0 := s.heap) ?_ ?_
                · intro H locs ls hP hD hS hl
                  refine lv_imul hx hb dX8_touch_197 ?_
                  refine lv_bipush (v := 10) hx hb dX8_touch_198 (by decide) ?_
                  refine lv_idiv hx hb dX8_touch_200 (by decide) ?_
                  refine lv_istore (lv' := [(11, .int (((X8_ofMove_r tb move 5) * (X8_touch0_j197 count did)) / 10)), (10, .int (X8_touch0_j173 count did)), (6, .int 11), (0, .ref m0), (1, .int 0), (2, .int move), (3, .int did)]) hx hb dX8_touch_201 hl (by decide) rfl (fun ls hl => ?_)
                  refine lv_aload_n hx hb dX8_touch_203 rfl (lv_at hl 3 rfl) ?_
                  refine lv_iload_n hx hb dX8_touch_204 rfl (lv_at hl 5 rfl) ?_
                  refine lv_bipush (v := 6) hx hb dX8_touch_205 (by decide) ?_
                  refine vp_callSi (W.runV (As := [.int move, .int 6]) (rest := []) ⟨hx, hb, hml, hown, hts⟩ (c_X8_ofMove l dC dI cY m0 AM g tb (upd sA 2 (X8_touch0_j53 tb sA move)) rd kp td wn rw br move 6 (tb_in hm (vin rfl))) (cwV 2 hts gX8_touch_X8_ofMove rfl rfl rfl (by decide +kernel) ⟨Nat.le_of_ble_eq_true rfl, Nat.le_of_ble_eq_true rfl⟩) ⟨blindR, va_recv hK hP (ci := 8) (q0 := 0) rfl rfl, fun U hU hW => ⟨rfl, rPre_of hP hK hN U hU hW⟩⟩ rfl rfl hl.1 rfl (lv_room (Nat.le_of_ble_eq_true rfl)) dX8_touch_207 ⟨Nat.zero_le _, Nat.zero_le _⟩) (fun r_63 hw => ?_)
                  subst hw
                  refine lv_iconst (v := 2) hx hb dX8_touch_210 (by decide) ?_
                  refine lv_iload hx hb dX8_touch_211 (lv_at hl 1 rfl) ?_
                  refine lv_iconst (v := 1) hx hb dX8_touch_213 (by decide) ?_
                  refine lv_isub hx hb dX8_touch_214 ?_
                  refine lv_imul hx hb dX8_touch_215 ?_
                  refine lv_isub hx hb dX8_touch_216 ?_
                  refine lv_iload_n hx hb dX8_touch_217 rfl (lv_at hl 6 rfl) ?_
                  refine lv_iconst (v := 1) hx hb dX8_touch_218 (by decide) ?_
                  refine jnW (D := (dC, dI)) (ws := [(m0, .inr (8, mdL AM g)), (AM 0, .inl (cY 0, 72, .inl tb)), (AM 2, .inl (cY 0, 22, .inl (upd sA 2 (X8_touch0_j53 tb sA move)))), (AM 3, .inl (cY 0, 22, .inl rd)), (AM 4, .inl (cY 0, 110, .inl kp)), (AM 5, .inl (cY 0, 8414, .inl td)), (AM 6, .inl (cY 0, 2, .inl wn)), (AM 13, .inl (cY 0, 4, .inl rw)), (AM 14, .inl (cY 0, 4, .inl br))]) (lv := [(11, .int (((X8_ofMove_r tb move 5) * (X8_touch0_j197 count did)) / 10)), (10, .int (X8_touch0_j173 count did)), (6, .int 11), (0, .ref m0), (1, .int 0), (2, .int move), (3, .int did)]) (st := [.int (X8_touch0_j227 did), .int ((X8_ofMove_r tb move 6) - (2 * ((X8_touch0_j173 count did) - 1)))]) (J := 227) (n := 13) (A := A) (H0 := s.heap) ?_ ?_
                  · intro H locs ls hP hD hS hl
                    refine lv_iadd hx hb dX8_touch_227 ?_
                    refine lv_istore (lv' := [(12, .int (((X8_ofMove_r tb move 6) - (2 * ((X8_touch0_j173 count did) - 1))) + (X8_touch0_j227 did))), (11, .int (((X8_ofMove_r tb move 5) * (X8_touch0_j197 count did)) / 10)), (10, .int (X8_touch0_j173 count did)), (6, .int 11), (0, .ref m0), (1, .int 0), (2, .int move), (3, .int did)]) hx hb dX8_touch_228 hl (by decide) rfl (fun ls hl => ?_)
                    refine lv_aload_n hx hb dX8_touch_230 rfl (lv_at hl 4 rfl) ?_
                    refine va_get (D := (dC, dI)) (ci := 8) (v := .ref (AM 2)) (C := RX8) (T := TX8) (N := 17) hx hb hts inw_X8_touch_X8 hown hK hP 0 rfl rfl 2 (by decide) (hts (.fieldLink RX8 13 "DuelFramesModel" "s" "[I") (List.mem_of_getElem? (i := 1) rfl)) (fun _ h9 => h9) rfl dX8_touch_231 ?_
                    refine lv_iload hx hb dX8_touch_234 (lv_at hl 3 rfl) ?_
                    refine lv_iconst (v := 1) hx hb dX8_touch_236 (by decide) ?_
                    refine lv_iadd hx hb dX8_touch_237 ?_
                    refine lv_topi (fun x_66 ex_66 => ?_)
                    obtain rfl : x_66 = 12 := ex_66.trans (by decide)
                    refine lv_dup2_11 hx hb dX8_touch_238 rfl rfl ?_
                    refine va_iald hx hb hK hP 2 0 rfl rfl (vin rfl) dX8_touch_239 ?_
                    refine lv_topi (fun x_67 ex_67 => ?_)
                    obtain rfl : x_67 = (sA 12) := ex_67
                    refine lv_iload_n hx hb dX8_touch_240 rfl (lv_at hl 7 rfl) ?_
                    refine lv_iconst (v := 1) hx hb dX8_touch_241 (by decide) ?_
                    refine jnW (D := (dC, dI)) (ws := [(m0, .inr (8, mdL AM g)), (AM 0, .inl (cY 0, 72, .inl tb)), (AM 2, .inl (cY 0, 22, .inl (upd sA 2 (X8_touch0_j53 tb sA move)))), (AM 3, .inl (cY 0, 22, .inl rd)), (AM 4, .inl (cY 0, 110, .inl kp)), (AM 5, .inl (cY 0, 8414, .inl td)), (AM 6, .inl (cY 0, 2, .inl wn)), (AM 13, .inl (cY 0, 4, .inl rw)), (AM 14, .inl (cY 0, 4, .inl br))]) (lv := [(12, .int (((X8_ofMove_r tb move 6) - (2 * ((X8_touch0_j173 count did) - 1))) + (X8_touch0_j227 did))), (10, .int (X8_touch0_j173 count did)), (6, .int 11), (0, .ref m0), (1, .int 0), (2, .int move)]) (st := [.int (X8_touch0_j257 tb count did move), .int (sA 12), .int 12, .ref (AM 2)]) (J := 257) (n := 13) (A := A) (H0 := s.heap) ?_ ?_
                    · intro H locs ls hP hD hS hl
                      refine lv_isub hx hb dX8_touch_257 ?_
                      refine va_iast hx hb hK hP hD hS 2 0 rfl rfl (vin rfl) dX8_touch_258 (fun H locs hP1 hD1 hS1 => ?_)
                      clear hP hD hS
                      have hP : va_P (dC, dI) vwCl [(m0, .inr (8, mdL AM g)), (AM 0, .inl (cY 0, 72, .inl tb)), (AM 2, .inl (cY 0, 22, .inl (upd (upd sA 2 (X8_touch0_j53 tb sA move)) 12 ((sA 12) - (X8_touch0_j257 tb count did move))))), (AM 3, .inl (cY 0, 22, .inl rd)), (AM 4, .inl (cY 0, 110, .inl kp)), (AM 5, .inl (cY 0, 8414, .inl td)), (AM 6, .inl (cY 0, 2, .inl wn)), (AM 13, .inl (cY 0, 4, .inl rw)), (AM 14, .inl (cY 0, 4, .inl br))] H := hP1
                      have hD : va_D A [(m0, .inr (8, mdL AM g)), (AM 0, .inl (cY 0, 72, .inl tb)), (AM 2, .inl (cY 0, 22, .inl (upd (upd sA 2 (X8_touch0_j53 tb sA move)) 12 ((sA 12) - (X8_touch0_j257 tb count did move))))), (AM 3, .inl (cY 0, 22, .inl rd)), (AM 4, .inl (cY 0, 110, .inl kp)), (AM 5, .inl (cY 0, 8414, .inl td)), (AM 6, .inl (cY 0, 2, .inl wn)), (AM 13, .inl (cY 0, 4, .inl rw)), (AM 14, .inl (cY 0, 4, .inl br))] := hD1
                      have hS := hS1
                      clear hP1 hD1 hS1
                      refine lv_aload_n hx hb dX8_touch_259 rfl (lv_at hl 3 rfl) ?_
                      refine va_get (D := (dC, dI)) (ci := 8) (v := .ref (AM 2)) (C := RX8) (T := TX8) (N := 17) hx hb hts inw_X8_touch_X8 hown hK hP 0 rfl rfl 2 (by decide) (hts (.fieldLink RX8 13 "DuelFramesModel" "s" "[I") (List.mem_of_getElem? (i := 1) rfl)) (fun _ h9 => h9) rfl dX8_touch_260 ?_
                      refine lv_iload hx hb dX8_touch_263 (lv_at hl 2 rfl) ?_
                      refine lv_iconst (v := 3) hx hb dX8_touch_265 (by decide) ?_
                      refine lv_iadd hx hb dX8_touch_266 ?_
                      refine lv_topi (fun x_70 ex_70 => ?_)
                      obtain rfl : x_70 = 14 := ex_70.trans (by decide)
                      refine lv_iconst (v := 2) hx hb dX8_touch_267 (by decide) ?_
                      refine va_iast hx hb hK hP hD hS 2 0 rfl rfl (vin rfl) dX8_touch_268 (fun H locs hP1 hD1 hS1 => ?_)
                      clear hP hD hS
                      have hP : va_P (dC, dI) vwCl [(m0, .inr (8, mdL AM g)), (AM 0, .inl (cY 0, 72, .inl tb)), (AM 2, .inl (cY 0, 22, .inl (upd (upd (upd sA 2 (X8_touch0_j53 tb sA move)) 12 ((sA 12) - (X8_touch0_j257 tb count did move))) 14 2))), (AM 3, .inl (cY 0, 22, .inl rd)), (AM 4, .inl (cY 0, 110, .inl kp)), (AM 5, .inl (cY 0, 8414, .inl td)), (AM 6, .inl (cY 0, 2, .inl wn)), (AM 13, .inl (cY 0, 4, .inl rw)), (AM 14, .inl (cY 0, 4, .inl br))] H := hP1
                      have hD : va_D A [(m0, .inr (8, mdL AM g)), (AM 0, .inl (cY 0, 72, .inl tb)), (AM 2, .inl (cY 0, 22, .inl (upd (upd (upd sA 2 (X8_touch0_j53 tb sA move)) 12 ((sA 12) - (X8_touch0_j257 tb count did move))) 14 2))), (AM 3, .inl (cY 0, 22, .inl rd)), (AM 4, .inl (cY 0, 110, .inl kp)), (AM 5, .inl (cY 0, 8414, .inl td)), (AM 6, .inl (cY 0, 2, .inl wn)), (AM 13, .inl (cY 0, 4, .inl rw)), (AM 14, .inl (cY 0, 4, .inl br))] := hD1
                      have hS := hS1
                      clear hP1 hD1 hS1
                      refine lv_aload_n hx hb dX8_touch_269 rfl (lv_at hl 3 rfl) ?_
                      refine va_get (D := (dC, dI)) (ci := 8) (v := .ref (AM 2)) (C := RX8) (T := TX8) (N := 17) hx hb hts inw_X8_touch_X8 hown hK hP 0 rfl rfl 2 (by decide) (hts (.fieldLink RX8 13 "DuelFramesModel" "s" "[I") (List.mem_of_getElem? (i := 1) rfl)) (fun _ h9 => h9) rfl dX8_touch_270 ?_
                      refine lv_iload hx hb dX8_touch_273 (lv_at hl 2 rfl) ?_
                      refine lv_iconst (v := 5) hx hb dX8_touch_275 (by decide) ?_
                      refine lv_iadd hx hb dX8_touch_276 ?_
                      refine lv_topi (fun x_71 ex_71 => ?_)
                      obtain rfl : x_71 = 16 := ex_71.trans (by decide)
                      refine lv_iload hx hb dX8_touch_277 (lv_at hl 0 rfl) ?_
                      refine jnW (D := (dC, dI)) (ws := [(m0, .inr (8, mdL AM g)), (AM 0, .inl (cY 0, 72, .inl tb)), (AM 2, .inl (cY 0, 22, .inl (upd (upd (upd sA 2 (X8_touch0_j53 tb sA move)) 12 ((sA 12) - (X8_touch0_j257 tb count did move))) 14 2))), (AM 3, .inl (cY 0, 22, .inl rd)), (AM 4, .inl (cY 0, 110, .inl kp)), (AM 5, .inl (cY 0, 8414, .inl td)), (AM 6, .inl (cY 0, 2, .inl wn)), (AM 13, .inl (cY 0, 4, .inl rw)), (AM 14, .inl (cY 0, 4, .inl br))]) (lv := [(10, .int (X8_touch0_j173 count did)), (6, .int 11), (0, .ref m0), (1, .int 0), (2, .int move)]) (st := [.int (X8_touch0_j288 tb count did move), .int 16, .ref (AM 2)]) (J := 288) (n := 13) (A := A) (H0 := s.heap) ?_ ?_
                      · intro H locs ls hP hD hS hl
                        refine va_iast hx hb hK hP hD hS 2 0 rfl rfl (vin rfl) dX8_touch_288 (fun H locs hP1 hD1 hS1 => ?_)
                        clear hP hD hS
                        have hP : va_P (dC, dI) vwCl [(m0, .inr (8, mdL AM g)), (AM 0, .inl (cY 0, 72, .inl tb)), (AM 2, .inl (cY 0, 22, .inl (upd (upd (upd (upd sA 2 (X8_touch0_j53 tb sA move)) 12 ((sA 12) - (X8_touch0_j257 tb count did move))) 14 2) 16 (X8_touch0_j288 tb count did move)))), (AM 3, .inl (cY 0, 22, .inl rd)), (AM 4, .inl (cY 0, 110, .inl kp)), (AM 5, .inl (cY 0, 8414, .inl td)), (AM 6, .inl (cY 0, 2, .inl wn)), (AM 13, .inl (cY 0, 4, .inl rw)), (AM 14, .inl (cY 0, 4, .inl br))] H := hP1
                        have hD : va_D A [(m0, .inr (8, mdL AM g)), (AM 0, .inl (cY 0, 72, .inl tb)), (AM 2, .inl (cY 0, 22, .inl (upd (upd (upd (upd sA 2 (X8_touch0_j53 tb sA move)) 12 ((sA 12) - (X8_touch0_j257 tb count did move))) 14 2) 16 (X8_touch0_j288 tb count did move)))), (AM 3, .inl (cY 0, 22, .inl rd)), (AM 4, .inl (cY 0, 110, .inl kp)), (AM 5, .inl (cY 0, 8414, .inl td)), (AM 6, .inl (cY 0, 2, .inl wn)), (AM 13, .inl (cY 0, 4, .inl rw)), (AM 14, .inl (cY 0, 4, .inl br))] := hD1
                        have hS := hS1
                        clear hP1 hD1 hS1
                        refine lv_aload_n hx hb dX8_touch_289 rfl (lv_at hl 2 rfl) ?_
                        refine va_get (D := (dC, dI)) (ci := 8) (v := .ref (AM 2)) (C := RX8) (T := TX8) (N := 17) hx hb hts inw_X8_touch_X8 hown hK hP 0 rfl rfl 2 (by decide) (hts (.fieldLink RX8 13 "DuelFramesModel" "s" "[I") (List.mem_of_getElem? (i := 1) rfl)) (fun _ h9 => h9) rfl dX8_touch_290 ?_
                        refine lv_iload hx hb dX8_touch_293 (lv_at hl 1 rfl) ?_
                        refine lv_bipush (v := 6) hx hb dX8_touch_295 (by decide) ?_
                        refine lv_iadd hx hb dX8_touch_297 ?_
                        refine lv_topi (fun x_74 ex_74 => ?_)
                        obtain rfl : x_74 = 17 := ex_74.trans (by decide)
                        refine lv_iload hx hb dX8_touch_298 (lv_at hl 0 rfl) ?_
                        refine va_iast hx hb hK hP hD hS 2 0 rfl rfl (vin rfl) dX8_touch_300 (fun H locs hP1 hD1 hS1 => ?_)
                        clear hP hD hS
                        have hP : va_P (dC, dI) vwCl [(m0, .inr (8, mdL AM g)), (AM 0, .inl (cY 0, 72, .inl tb)), (AM 2, .inl (cY 0, 22, .inl (upd (upd (upd (upd (upd sA 2 (X8_touch0_j53 tb sA move)) 12 ((sA 12) - (X8_touch0_j257 tb count did move))) 14 2) 16 (X8_touch0_j288 tb count did move)) 17 (X8_touch0_j173 count did)))), (AM 3, .inl (cY 0, 22, .inl rd)), (AM 4, .inl (cY 0, 110, .inl kp)), (AM 5, .inl (cY 0, 8414, .inl td)), (AM 6, .inl (cY 0, 2, .inl wn)), (AM 13, .inl (cY 0, 4, .inl rw)), (AM 14, .inl (cY 0, 4, .inl br))] H := hP1
                        have hD : va_D A [(m0, .inr (8, mdL AM g)), (AM 0, .inl (cY 0, 72, .inl tb)), (AM 2, .inl (cY 0, 22, .inl (upd (upd (upd (upd (upd sA 2 (X8_touch0_j53 tb sA move)) 12 ((sA 12) - (X8_touch0_j257 tb count did move))) 14 2) 16 (X8_touch0_j288 tb count did move)) 17 (X8_touch0_j173 count did)))), (AM 3, .inl (cY 0, 22, .inl rd)), (AM 4, .inl (cY 0, 110, .inl kp)), (AM 5, .inl (cY 0, 8414, .inl td)), (AM 6, .inl (cY 0, 2, .inl wn)), (AM 13, .inl (cY 0, 4, .inl rw)), (AM 14, .inl (cY 0, 4, .inl br))] := hD1
                        have hS := hS1
                        clear hP1 hD1 hS1
                        have e_75 : (X8_touch0_j301 tb sA count did input move) = (upd (upd (upd (upd (upd sA 2 (X8_touch0_j53 tb sA move)) 12 ((sA 12) - (X8_touch0_j257 tb count did move))) 14 2) 16 (X8_touch0_j288 tb count did move)) 17 (X8_touch0_j173 count did)) := by rw [X8_touch0_j301]; simp only [eq_false c_11, eq_false c_49, eq_false c_57, ↓reduceIte]
                        exact jn_12 _ _ _ (by (try simp only [e_75]); exact hP) (by (try simp only [e_75]); exact hD) hS (by (try simp only [e_75]); exact (lv_sub hl [1, 2, 3, 4] rfl))
                      · intro jn_73
                        refine lv_if_ge (tgt := 286) hx hb dX8_touch_279 (by decide) (fun c_72 => ?_) (fun c_72 => ?_)
                        · refine lv_iload hx hb dX8_touch_286 (lv_at hl 0 rfl) ?_
                          have e_76 : (X8_touch0_j288 tb count did move) = (((X8_ofMove_r tb move 6) - (2 * ((X8_touch0_j173 count did) - 1))) + (X8_touch0_j227 did)) := by rw [X8_touch0_j288]; simp only [eq_true c_72, ↓reduceIte]
                          refine W.eq (g2 := F0 m 288 ls [.int (X8_touch0_j288 tb count did move), .int 16, .ref (AM 2)]) (by simp only [e_76]) ?_
                          exact jn_73 _ _ _ (by (try simp only [e_76]); exact hP) (by (try simp only [e_76]); exact hD) hS (by (try simp only [e_76]); exact (lv_sub hl [1, 2, 3, 4, 5] rfl))
                        · refine lv_iconst (v := 0) hx hb dX8_touch_282 (by decide) ?_
                          refine lv_goto (tgt := 288) hx hb dX8_touch_283 (by decide) ?_
                          have e_77 : (X8_touch0_j288 tb count did move) = 0 := by rw [X8_touch0_j288]; simp only [eq_false c_72, ↓reduceIte]
                          refine W.eq (g2 := F0 m 288 ls [.int (X8_touch0_j288 tb count did move), .int 16, .ref (AM 2)]) (by simp only [e_77]) ?_
                          exact jn_73 _ _ _ (by (try simp only [e_77]); exact hP) (by (try simp only [e_77]); exact hD) hS (by (try simp only [e_77]); exact (lv_sub hl [1, 2, 3, 4, 5] rfl))
                    · intro jn_69
                      refine lv_icmp_ne (tgt := 255) hx hb dX8_touch_242 (by decide) (fun c_68 => ?_) (fun c_68 => ?_)
                      · refine lv_iload hx hb dX8_touch_255 (lv_at hl 1 rfl) ?_
                        have e_78 : (X8_touch0_j257 tb count did move) = (((X8_ofMove_r tb move 5) * (X8_touch0_j197 count did)) / 10) := by rw [X8_touch0_j257]; simp only [eq_false c_68, ↓reduceIte]
                        refine W.eq (g2 := F0 m 257 ls [.int (X8_touch0_j257 tb count did move), .int (sA 12), .int 12, .ref (AM 2)]) (by simp only [e_78]) ?_
                        exact jn_69 _ _ _ (by (try simp only [e_78]); exact hP) (by (try simp only [e_78]); exact hD) hS (by (try simp only [e_78]); exact (lv_sub hl [0, 2, 3, 4, 5, 6] rfl))
                      · refine lv_iload hx hb dX8_touch_245 (lv_at hl 1 rfl) ?_
                        refine lv_bipush (v := 6) hx hb dX8_touch_247 (by decide) ?_
                        refine lv_imul hx hb dX8_touch_249 ?_
                        refine lv_iconst (v := 5) hx hb dX8_touch_250 (by decide) ?_
                        refine lv_idiv hx hb dX8_touch_251 (by decide) ?_
                        refine lv_goto (tgt := 257) hx hb dX8_touch_252 (by decide) ?_
                        have e_79 : (X8_touch0_j257 tb count did move) = (((((X8_ofMove_r tb move 5) * (X8_touch0_j197 count did)) / 10) * 6) / 5) := by rw [X8_touch0_j257]; simp only [eq_true c_68, ↓reduceIte]
                        refine W.eq (g2 := F0 m 257 ls [.int (X8_touch0_j257 tb count did move), .int (sA 12), .int 12, .ref (AM 2)]) (by simp only [e_79]) ?_
                        exact jn_69 _ _ _ (by (try simp only [e_79]); exact hP) (by (try simp only [e_79]); exact hD) hS (by (try simp only [e_79]); exact (lv_sub hl [0, 2, 3, 4, 5, 6] rfl))
                  · intro jn_65
                    refine lv_icmp_ne (tgt := 226) hx hb dX8_touch_219 (by decide) (fun c_64 => ?_) (fun c_64 => ?_)
                    · refine lv_iconst (v := 0) hx hb dX8_touch_226 (by decide) ?_
                      have e_80 : (X8_touch0_j227 did) = 0 := by rw [X8_touch0_j227]; simp only [eq_false c_64, ↓reduceIte]
                      refine W.eq (g2 := F0 m 227 ls [.int (X8_touch0_j227 did), .int ((X8_ofMove_r tb move 6) - (2 * ((X8_touch0_j173 count did) - 1)))]) (by simp only [e_80]) ?_
                      exact jn_65 _ _ _ (by (try simp only [e_80]); exact hP) (by (try simp only [e_80]); exact hD) hS (by (try simp only [e_80]); exact (lv_sub hl [0, 1, 2, 3, 4, 5, 6] rfl))
                    · refine lv_iconst (v := 4) hx hb dX8_touch_222 (by decide) ?_
                      refine lv_goto (tgt := 227) hx hb dX8_touch_223 (by decide) ?_
                      have e_81 : (X8_touch0_j227 did) = 4 := by rw [X8_touch0_j227]; simp only [eq_true c_64, ↓reduceIte]
                      refine W.eq (g2 := F0 m 227 ls [.int (X8_touch0_j227 did), .int ((X8_ofMove_r tb move 6) - (2 * ((X8_touch0_j173 count did) - 1)))]) (by simp only [e_81]) ?_
                      exact jn_65 _ _ _ (by (try simp only [e_81]); exact hP) (by (try simp only [e_81]); exact hD) hS (by (try simp only [e_81]); exact (lv_sub hl [0, 1, 2, 3, 4, 5, 6] rfl))
                · intro jn_62
                  refine lv_icmp_le (tgt := 192) hx hb dX8_touch_185 (by decide) (fun c_61 => ?_) (fun c_61 => ?_)
                  · refine lv_bipush (v := 11) hx hb dX8_touch_192 (by decide) ?_
                    refine lv_iload hx hb dX8_touch_194 (lv_at hl 0 rfl) ?_
                    refine lv_isub hx hb dX8_touch_196 ?_
                    have e_82 : (X8_touch0_j197 count did) = (11 - (X8_touch0_j173 count did)) := by rw [X8_touch0_j197]; simp only [eq_true c_61, ↓reduceIte]
                    refine W.eq (g2 := F0 m 197 ls [.int (X8_touch0_j197 count did), .int (X8_ofMove_r tb move 5)]) (by simp only [e_82]) ?_
                    exact jn_62 _ _ _ (by (try simp only [e_82]); exact hP) (by (try simp only [e_82]); exact hD) hS (by (try simp only [e_82]); exact (lv_sub hl [0, 1, 2, 3, 4, 5] rfl))
                  · refine lv_iconst (v := 1) hx hb dX8_touch_188 (by decide) ?_
                    refine lv_goto (tgt := 197) hx hb dX8_touch_189 (by decide) ?_
                    have e_83 : (X8_touch0_j197 count did) = 1 := by rw [X8_touch0_j197]; simp only [eq_false c_61, ↓reduceIte]
                    refine W.eq (g2 := F0 m 197 ls [.int (X8_touch0_j197 count did), .int (X8_ofMove_r tb move 5)]) (by simp only [e_83]) ?_
                    exact jn_62 _ _ _ (by (try simp only [e_83]); exact hP) (by (try simp only [e_83]); exact hD) hS (by (try simp only [e_83]); exact (lv_sub hl [0, 1, 2, 3, 4, 5] rfl))
              · intro jn_59
                refine lv_icmp_ne (tgt := 172) hx hb dX8_touch_162 (by decide) (fun c_58 => ?_) (fun c_58 => ?_)
                · refine lv_iconst (v := 1) hx hb dX8_touch_172 (by decide) ?_
                  have e_84 : (X8_touch0_j173 count did) = 1 := by rw [X8_touch0_j173]; simp only [eq_false c_58, ↓reduceIte]
                  refine W.eq (g2 := F0 m 173 ls [.int (X8_touch0_j173 count did)]) (by simp only [e_84]) ?_
                  exact jn_59 _ _ _ (by (try simp only [e_84]); exact hP) (by (try simp only [e_84]); exact hD) hS (by (try simp only [e_84]); exact (lv_sub hl [1, 2, 3, 4, 5] rfl))
                · refine lv_iload hx hb dX8_touch_165 (lv_at hl 6 rfl) ?_
                  refine lv_iconst (v := 1) hx hb dX8_touch_167 (by decide) ?_
                  refine lv_iadd hx hb dX8_touch_168 ?_
                  refine lv_goto (tgt := 173) hx hb dX8_touch_169 (by decide) ?_
                  have e_85 : (X8_touch0_j173 count did) = (count + 1) := by rw [X8_touch0_j173]; simp only [eq_true c_58, ↓reduceIte]
                  refine W.eq (g2 := F0 m 173 ls [.int (X8_touch0_j173 count did)]) (by simp only [e_85]) ?_
                  exact jn_59 _ _ _ (by (try simp only [e_85]); exact hP) (by (try simp only [e_85]); exact hD) hS (by (try simp only [e_85]); exact (lv_sub hl [1, 2, 3, 4, 5] rfl))
            · refine lv_aload_n hx hb dX8_touch_110 rfl (lv_at hl 2 rfl) ?_
              refine va_get (D := (dC, dI)) (ci := 8) (v := .ref (AM 2)) (C := RX8) (T := TX8) (N := 17) hx hb hts inw_X8_touch_X8 hown hK hP 0 rfl rfl 2 (by decide) (hts (.fieldLink RX8 13 "DuelFramesModel" "s" "[I") (List.mem_of_getElem? (i := 1) rfl)) (fun _ h9 => h9) rfl dX8_touch_111 ?_
              refine lv_iload hx hb dX8_touch_114 (lv_at hl 1 rfl) ?_
              refine lv_iconst (v := 1) hx hb dX8_touch_116 (by decide) ?_
              refine lv_iadd hx hb dX8_touch_117 ?_
              refine lv_topi (fun x_86 ex_86 => ?_)
              obtain rfl : x_86 = 12 := ex_86.trans (by decide)
              refine lv_dup2_11 hx hb dX8_touch_118 rfl rfl ?_
              refine va_iald hx hb hK hP 2 0 rfl rfl (vin rfl) dX8_touch_119 ?_
              refine lv_topi (fun x_87 ex_87 => ?_)
              obtain rfl : x_87 = (sA 12) := ex_87
              refine lv_aload_n hx hb dX8_touch_120 rfl (lv_at hl 2 rfl) ?_
              refine lv_iload_n hx hb dX8_touch_121 rfl (lv_at hl 4 rfl) ?_
              refine lv_iconst (v := 5) hx hb dX8_touch_122 (by decide) ?_
              refine vp_callSi (W.runV (As := [.int move, .int 5]) (rest := [.int (sA 12), .int 12, .ref (AM 2)]) ⟨hx, hb, hml, hown, hts⟩ (c_X8_ofMove l dC dI cY m0 AM g tb (upd sA 2 (X8_touch0_j53 tb sA move)) rd kp td wn rw br move 5 (tb_in hm (vin rfl))) (cwV 2 hts gX8_touch_X8_ofMove rfl rfl rfl (by decide +kernel) ⟨Nat.le_of_ble_eq_true rfl, Nat.le_of_ble_eq_true rfl⟩) ⟨blindR, va_recv hK hP (ci := 8) (q0 := 0) rfl rfl, fun U hU hW => ⟨rfl, rPre_of hP hK hN U hU hW⟩⟩ rfl rfl hl.1 rfl (lv_room (Nat.le_of_ble_eq_true rfl)) dX8_touch_123 ⟨Nat.zero_le _, Nat.zero_le _⟩) (fun r_88 hw => ?_)
              subst hw
              refine lv_bipush (v := 10) hx hb dX8_touch_126 (by decide) ?_
              refine lv_idiv hx hb dX8_touch_128 (by decide) ?_
              refine lv_isub hx hb dX8_touch_129 ?_
              refine va_iast hx hb hK hP hD hS 2 0 rfl rfl (vin rfl) dX8_touch_130 (fun H locs hP1 hD1 hS1 => ?_)
              clear hP hD hS
              have hP : va_P (dC, dI) vwCl [(m0, .inr (8, mdL AM g)), (AM 0, .inl (cY 0, 72, .inl tb)), (AM 2, .inl (cY 0, 22, .inl (upd (upd sA 2 (X8_touch0_j53 tb sA move)) 12 ((sA 12) - ((X8_ofMove_r tb move 5) / 10))))), (AM 3, .inl (cY 0, 22, .inl rd)), (AM 4, .inl (cY 0, 110, .inl kp)), (AM 5, .inl (cY 0, 8414, .inl td)), (AM 6, .inl (cY 0, 2, .inl wn)), (AM 13, .inl (cY 0, 4, .inl rw)), (AM 14, .inl (cY 0, 4, .inl br))] H := hP1
              have hD : va_D A [(m0, .inr (8, mdL AM g)), (AM 0, .inl (cY 0, 72, .inl tb)), (AM 2, .inl (cY 0, 22, .inl (upd (upd sA 2 (X8_touch0_j53 tb sA move)) 12 ((sA 12) - ((X8_ofMove_r tb move 5) / 10))))), (AM 3, .inl (cY 0, 22, .inl rd)), (AM 4, .inl (cY 0, 110, .inl kp)), (AM 5, .inl (cY 0, 8414, .inl td)), (AM 6, .inl (cY 0, 2, .inl wn)), (AM 13, .inl (cY 0, 4, .inl rw)), (AM 14, .inl (cY 0, 4, .inl br))] := hD1
              have hS := hS1
              clear hP1 hD1 hS1
              refine lv_aload_n hx hb dX8_touch_131 rfl (lv_at hl 2 rfl) ?_
              refine va_get (D := (dC, dI)) (ci := 8) (v := .ref (AM 2)) (C := RX8) (T := TX8) (N := 17) hx hb hts inw_X8_touch_X8 hown hK hP 0 rfl rfl 2 (by decide) (hts (.fieldLink RX8 13 "DuelFramesModel" "s" "[I") (List.mem_of_getElem? (i := 1) rfl)) (fun _ h9 => h9) rfl dX8_touch_132 ?_
              refine lv_iload hx hb dX8_touch_135 (lv_at hl 1 rfl) ?_
              refine lv_iconst (v := 3) hx hb dX8_touch_137 (by decide) ?_
              refine lv_iadd hx hb dX8_touch_138 ?_
              refine lv_topi (fun x_89 ex_89 => ?_)
              obtain rfl : x_89 = 14 := ex_89.trans (by decide)
              refine lv_iconst (v := 3) hx hb dX8_touch_139 (by decide) ?_
              refine va_iast hx hb hK hP hD hS 2 0 rfl rfl (vin rfl) dX8_touch_140 (fun H locs hP1 hD1 hS1 => ?_)
              clear hP hD hS
              have hP : va_P (dC, dI) vwCl [(m0, .inr (8, mdL AM g)), (AM 0, .inl (cY 0, 72, .inl tb)), (AM 2, .inl (cY 0, 22, .inl (upd (upd (upd sA 2 (X8_touch0_j53 tb sA move)) 12 ((sA 12) - ((X8_ofMove_r tb move 5) / 10))) 14 3))), (AM 3, .inl (cY 0, 22, .inl rd)), (AM 4, .inl (cY 0, 110, .inl kp)), (AM 5, .inl (cY 0, 8414, .inl td)), (AM 6, .inl (cY 0, 2, .inl wn)), (AM 13, .inl (cY 0, 4, .inl rw)), (AM 14, .inl (cY 0, 4, .inl br))] H := hP1
              have hD : va_D A [(m0, .inr (8, mdL AM g)), (AM 0, .inl (cY 0, 72, .inl tb)), (AM 2, .inl (cY 0, 22, .inl (upd (upd (upd sA 2 (X8_touch0_j53 tb sA move)) 12 ((sA 12) - ((X8_ofMove_r tb move 5) / 10))) 14 3))), (AM 3, .inl (cY 0, 22, .inl rd)), (AM 4, .inl (cY 0, 110, .inl kp)), (AM 5, .inl (cY 0, 8414, .inl td)), (AM 6, .inl (cY 0, 2, .inl wn)), (AM 13, .inl (cY 0, 4, .inl rw)), (AM 14, .inl (cY 0, 4, .inl br))] := hD1
              have hS := hS1
              clear hP1 hD1 hS1
              refine lv_aload_n hx hb dX8_touch_141 rfl (lv_at hl 2 rfl) ?_
              refine va_get (D := (dC, dI)) (ci := 8) (v := .ref (AM 2)) (C := RX8) (T := TX8) (N := 17) hx hb hts inw_X8_touch_X8 hown hK hP 0 rfl rfl 2 (by decide) (hts (.fieldLink RX8 13 "DuelFramesModel" "s" "[I") (List.mem_of_getElem? (i := 1) rfl)) (fun _ h9 => h9) rfl dX8_touch_142 ?_
              refine lv_iload hx hb dX8_touch_145 (lv_at hl 1 rfl) ?_
              refine lv_iconst (v := 5) hx hb dX8_touch_147 (by decide) ?_
              refine lv_iadd hx hb dX8_touch_148 ?_
              refine lv_topi (fun x_90 ex_90 => ?_)
              obtain rfl : x_90 = 16 := ex_90.trans (by decide)
              refine lv_aload_n hx hb dX8_touch_149 rfl (lv_at hl 2 rfl) ?_
              refine lv_iload_n hx hb dX8_touch_150 rfl (lv_at hl 4 rfl) ?_
              refine lv_bipush (v := 7) hx hb dX8_touch_151 (by decide) ?_
              refine vp_callSi (W.runV (As := [.int move, .int 7]) (rest := [.int 16, .ref (AM 2)]) ⟨hx, hb, hml, hown, hts⟩ (c_X8_ofMove l dC dI cY m0 AM g tb (upd (upd (upd sA 2 (X8_touch0_j53 tb sA move)) 12 ((sA 12) - ((X8_ofMove_r tb move 5) / 10))) 14 3) rd kp td wn rw br move 7 (tb_in hm (vin rfl))) (cwV 2 hts gX8_touch_X8_ofMove rfl rfl rfl (by decide +kernel) ⟨Nat.le_of_ble_eq_true rfl, Nat.le_of_ble_eq_true rfl⟩) ⟨blindR, va_recv hK hP (ci := 8) (q0 := 0) rfl rfl, fun U hU hW => ⟨rfl, rPre_of hP hK hN U hU hW⟩⟩ rfl rfl hl.1 rfl (lv_room (Nat.le_of_ble_eq_true rfl)) dX8_touch_153 ⟨Nat.zero_le _, Nat.zero_le _⟩) (fun r_91 hw => ?_)
              subst hw
              refine va_iast hx hb hK hP hD hS 2 0 rfl rfl (vin rfl) dX8_touch_156 (fun H locs hP1 hD1 hS1 => ?_)
              clear hP hD hS
              have hP : va_P (dC, dI) vwCl [(m0, .inr (8, mdL AM g)), (AM 0, .inl (cY 0, 72, .inl tb)), (AM 2, .inl (cY 0, 22, .inl (upd (upd (upd (upd sA 2 (X8_touch0_j53 tb sA move)) 12 ((sA 12) - ((X8_ofMove_r tb move 5) / 10))) 14 3) 16 (X8_ofMove_r tb move 7)))), (AM 3, .inl (cY 0, 22, .inl rd)), (AM 4, .inl (cY 0, 110, .inl kp)), (AM 5, .inl (cY 0, 8414, .inl td)), (AM 6, .inl (cY 0, 2, .inl wn)), (AM 13, .inl (cY 0, 4, .inl rw)), (AM 14, .inl (cY 0, 4, .inl br))] H := hP1
              have hD : va_D A [(m0, .inr (8, mdL AM g)), (AM 0, .inl (cY 0, 72, .inl tb)), (AM 2, .inl (cY 0, 22, .inl (upd (upd (upd (upd sA 2 (X8_touch0_j53 tb sA move)) 12 ((sA 12) - ((X8_ofMove_r tb move 5) / 10))) 14 3) 16 (X8_ofMove_r tb move 7)))), (AM 3, .inl (cY 0, 22, .inl rd)), (AM 4, .inl (cY 0, 110, .inl kp)), (AM 5, .inl (cY 0, 8414, .inl td)), (AM 6, .inl (cY 0, 2, .inl wn)), (AM 13, .inl (cY 0, 4, .inl rw)), (AM 14, .inl (cY 0, 4, .inl br))] := hD1
              have hS := hS1
              clear hP1 hD1 hS1
              refine lv_goto (tgt := 301) hx hb dX8_touch_157 (by decide) ?_
              have e_92 : (X8_touch0_j301 tb sA count did input move) = (upd (upd (upd (upd sA 2 (X8_touch0_j53 tb sA move)) 12 ((sA 12) - ((X8_ofMove_r tb move 5) / 10))) 14 3) 16 (X8_ofMove_r tb move 7)) := by rw [X8_touch0_j301]; simp only [eq_false c_11, eq_false c_49, eq_true c_57, ↓reduceIte]
              exact jn_12 _ _ _ (by (try simp only [e_92]); exact hP) (by (try simp only [e_92]); exact hD) hS (by (try simp only [e_92]); exact (lv_sub hl [1, 2, 3, 4] rfl))
    · intro jn_10
      refine lv_icmp_ne (tgt := 71) hx hb dX8_touch_57 (by decide) (fun c_9 => ?_) (fun c_9 => ?_)
      · refine lv_iload hx hb dX8_touch_71 (lv_at hl 7 rfl) ?_
        refine lv_iconst (v := 4) hx hb dX8_touch_73 (by decide) ?_
        refine lv_icmp_ne (tgt := 93) hx hb dX8_touch_74 (by decide) (fun c_93 => ?_) (fun c_93 => ?_)
        · refine lv_iconst (v := 0) hx hb dX8_touch_93 (by decide) ?_
          have e_94 : (X8_touch0_j94 tb input move) = 0 := by rw [X8_touch0_j94]; simp only [eq_false c_9, eq_false c_93, ↓reduceIte]
          refine W.eq (g2 := F0 m 94 ls [.int (X8_touch0_j94 tb input move)]) (by simp only [e_94]) ?_
          exact jn_10 _ _ _ (by (try simp only [e_94]); exact hP) (by (try simp only [e_94]); exact hD) hS (by (try simp only [e_94]); exact (lv_sub hl [1, 2, 3, 4, 5, 6] rfl))
        · refine lv_iload hx hb dX8_touch_77 (lv_at hl 0 rfl) ?_
          refine lv_iconst (v := 1) hx hb dX8_touch_79 (by decide) ?_
          refine lv_icmp_eq (tgt := 89) hx hb dX8_touch_80 (by decide) (fun c_95 => ?_) (fun c_95 => ?_)
          · refine lv_iconst (v := 1) hx hb dX8_touch_89 (by decide) ?_
            refine lv_goto (tgt := 94) hx hb dX8_touch_90 (by decide) ?_
            have e_96 : (X8_touch0_j94 tb input move) = 1 := by rw [X8_touch0_j94]; simp only [eq_false c_9, eq_true c_93, eq_true c_95, ↓reduceIte]
            refine W.eq (g2 := F0 m 94 ls [.int (X8_touch0_j94 tb input move)]) (by simp only [e_96]) ?_
            exact jn_10 _ _ _ (by (try simp only [e_96]); exact hP) (by (try simp only [e_96]); exact hD) hS (by (try simp only [e_96]); exact (lv_sub hl [1, 2, 3, 4, 5, 6] rfl))
          · refine lv_iload hx hb dX8_touch_83 (lv_at hl 0 rfl) ?_
            refine lv_iconst (v := 2) hx hb dX8_touch_85 (by decide) ?_
            refine lv_icmp_ne (tgt := 93) hx hb dX8_touch_86 (by decide) (fun c_97 => ?_) (fun c_97 => ?_)
            · refine lv_iconst (v := 0) hx hb dX8_touch_93 (by decide) ?_
              have e_98 : (X8_touch0_j94 tb input move) = 0 := by rw [X8_touch0_j94]; simp only [eq_false c_9, eq_true c_93, eq_false c_95, eq_false c_97, ↓reduceIte]
              refine W.eq (g2 := F0 m 94 ls [.int (X8_touch0_j94 tb input move)]) (by simp only [e_98]) ?_
              exact jn_10 _ _ _ (by (try simp only [e_98]); exact hP) (by (try simp only [e_98]); exact hD) hS (by (try simp only [e_98]); exact (lv_sub hl [1, 2, 3, 4, 5, 6] rfl))
            · refine lv_iconst (v := 1) hx hb dX8_touch_89 (by decide) ?_
              refine lv_goto (tgt := 94) hx hb dX8_touch_90 (by decide) ?_
              have e_99 : (X8_touch0_j94 tb input move) = 1 := by rw [X8_touch0_j94]; simp only [eq_false c_9, eq_true c_93, eq_false c_95, eq_true c_97, ↓reduceIte]
              refine W.eq (g2 := F0 m 94 ls [.int (X8_touch0_j94 tb input move)]) (by simp only [e_99]) ?_
              exact jn_10 _ _ _ (by (try simp only [e_99]); exact hP) (by (try simp only [e_99]); exact hD) hS (by (try simp only [e_99]); exact (lv_sub hl [1, 2, 3, 4, 5, 6] rfl))
      · refine lv_iload hx hb dX8_touch_60 (lv_at hl 0 rfl) ?_
        refine lv_if_eq (tgt := 89) hx hb dX8_touch_62 (by decide) (fun c_100 => ?_) (fun c_100 => ?_)
        · refine lv_iconst (v := 1) hx hb dX8_touch_89 (by decide) ?_
          refine lv_goto (tgt := 94) hx hb dX8_touch_90 (by decide) ?_
          have e_101 : (X8_touch0_j94 tb input move) = 1 := by rw [X8_touch0_j94]; simp only [eq_true c_9, eq_true c_100, ↓reduceIte]
          refine W.eq (g2 := F0 m 94 ls [.int (X8_touch0_j94 tb input move)]) (by simp only [e_101]) ?_
          exact jn_10 _ _ _ (by (try simp only [e_101]); exact hP) (by (try simp only [e_101]); exact hD) hS (by (try simp only [e_101]); exact (lv_sub hl [1, 2, 3, 4, 5, 6] rfl))
        · refine lv_iload hx hb dX8_touch_65 (lv_at hl 0 rfl) ?_
          refine lv_iconst (v := 2) hx hb dX8_touch_67 (by decide) ?_
          refine lv_icmp_eq (tgt := 89) hx hb dX8_touch_68 (by decide) (fun c_102 => ?_) (fun c_102 => ?_)
          · refine lv_iconst (v := 1) hx hb dX8_touch_89 (by decide) ?_
            refine lv_goto (tgt := 94) hx hb dX8_touch_90 (by decide) ?_
            have e_103 : (X8_touch0_j94 tb input move) = 1 := by rw [X8_touch0_j94]; simp only [eq_true c_9, eq_false c_100, eq_true c_102, ↓reduceIte]
            refine W.eq (g2 := F0 m 94 ls [.int (X8_touch0_j94 tb input move)]) (by simp only [e_103]) ?_
            exact jn_10 _ _ _ (by (try simp only [e_103]); exact hP) (by (try simp only [e_103]); exact hD) hS (by (try simp only [e_103]); exact (lv_sub hl [1, 2, 3, 4, 5, 6] rfl))
          · refine lv_iload hx hb dX8_touch_71 (lv_at hl 7 rfl) ?_
            refine lv_iconst (v := 4) hx hb dX8_touch_73 (by decide) ?_
            refine lv_icmp_ne (tgt := 93) hx hb dX8_touch_74 (by decide) (fun c_104 => ?_) (fun c_104 => ?_)
            rotate_left
            · exact absurd c_104 (fun h9 => absurd (c_9.symm.trans h9) (by decide))
            refine lv_iconst (v := 0) hx hb dX8_touch_93 (by decide) ?_
            have e_105 : (X8_touch0_j94 tb input move) = 0 := by rw [X8_touch0_j94]; simp only [eq_true c_9, eq_false c_100, eq_false c_102, ↓reduceIte]
            refine W.eq (g2 := F0 m 94 ls [.int (X8_touch0_j94 tb input move)]) (by simp only [e_105]) ?_
            exact jn_10 _ _ _ (by (try simp only [e_105]); exact hP) (by (try simp only [e_105]); exact hD) hS (by (try simp only [e_105]); exact (lv_sub hl [1, 2, 3, 4, 5, 6] rfl))
  · intro jn_8
    refine lv_icmp_le (tgt := 51) hx hb dX8_touch_43 (by decide) (fun c_7 => ?_) (fun c_7 => ?_)
    · refine lv_iload hx hb dX8_touch_51 (lv_at hl 0 rfl) ?_
      have e_106 : (X8_touch0_j53 tb sA move) = ((sA 2) + (X8_ofMove_r tb move 10)) := by rw [X8_touch0_j53]; simp only [eq_true c_7, ↓reduceIte]
      refine W.eq (g2 := F0 m 53 ls [.int (X8_touch0_j53 tb sA move), .int 2, .ref (AM 2)]) (by simp only [e_106]) ?_
      exact jn_8 _ _ _ (by (try simp only [e_106]); exact hP) (by (try simp only [e_106]); exact hD) hS (by (try simp only [e_106]); exact (lv_sub hl [1, 2, 3, 4, 5, 6, 7, 8] rfl))
    · refine lv_bipush (v := 100) hx hb dX8_touch_46 (by decide) ?_
      refine lv_goto (tgt := 53) hx hb dX8_touch_48 (by decide) ?_
      have e_107 : (X8_touch0_j53 tb sA move) = 100 := by rw [X8_touch0_j53]; simp only [eq_false c_7, ↓reduceIte]
      refine W.eq (g2 := F0 m 53 ls [.int (X8_touch0_j53 tb sA move), .int 2, .ref (AM 2)]) (by simp only [e_107]) ?_
      exact jn_8 _ _ _ (by (try simp only [e_107]); exact hP) (by (try simp only [e_107]); exact hD) hS (by (try simp only [e_107]); exact (lv_sub hl [1, 2, 3, 4, 5, 6, 7, 8] rfl))
def X8_touch11_j53 (tb : Nat → Int32) (sA : Nat → Int32) (move : Int32) : Int32 := (if ((sA 13) + (X8_ofMove_r tb move 10)) ≤ 100 then ((sA 13) + (X8_ofMove_r tb move 10)) else 100)
def X8_touch11_j94 (tb : Nat → Int32) (input : Int32) (move : Int32) : Int32 := (if input = 2 then (if (X8_ofMove_r tb move 4) = 0 then 1 else (if (X8_ofMove_r tb move 4) = 2 then 1 else 0)) else (if input = 4 then (if (X8_ofMove_r tb move 4) = 1 then 1 else (if (X8_ofMove_r tb move 4) = 2 then 1 else 0)) else 0))
def X8_touch11_j173 (count : Int32) (did : Int32) : Int32 := (if did = 2 then (count + 1) else 1)
def X8_touch11_j197 (count : Int32) (did : Int32) : Int32 := (if (X8_touch11_j173 count did) ≤ 10 then (11 - (X8_touch11_j173 count did)) else 1)
def X8_touch11_j227 (did : Int32) : Int32 := (if did = 1 then 4 else 0)
def X8_touch11_j257 (tb : Nat → Int32) (count : Int32) (did : Int32) (move : Int32) : Int32 := (if did = 1 then (((((X8_ofMove_r tb move 5) * (X8_touch11_j197 count did)) / 10) * 6) / 5) else (((X8_ofMove_r tb move 5) * (X8_touch11_j197 count did)) / 10))
def X8_touch11_j288 (tb : Nat → Int32) (count : Int32) (did : Int32) (move : Int32) : Int32 := (if 0 ≤ (((X8_ofMove_r tb move 6) - (2 * ((X8_touch11_j173 count did) - 1))) + (X8_touch11_j227 did)) then (((X8_ofMove_r tb move 6) - (2 * ((X8_touch11_j173 count did) - 1))) + (X8_touch11_j227 did)) else 0)
def X8_touch11_j301 (tb : Nat → Int32) (sA : Nat → Int32) (count : Int32) (did : Int32) (input : Int32) (move : Int32) : Nat → Int32 := (if (X8_touch11_j94 tb input move) = 0 then (upd (upd (upd (upd (upd sA 13 (X8_touch11_j53 tb sA move)) 1 ((sA 1) - (X8_touch11_j257 tb count did move))) 3 2) 5 (X8_touch11_j288 tb count did move)) 6 (X8_touch11_j173 count did)) else (if did = 0 then (upd (upd (upd (upd sA 13 (X8_touch11_j53 tb sA move)) 1 ((sA 1) - ((X8_ofMove_r tb move 5) / 10))) 3 3) 5 (X8_ofMove_r tb move 7)) else (if did = 3 then (upd (upd (upd (upd sA 13 (X8_touch11_j53 tb sA move)) 1 ((sA 1) - ((X8_ofMove_r tb move 5) / 10))) 3 3) 5 (X8_ofMove_r tb move 7)) else (upd (upd (upd (upd (upd sA 13 (X8_touch11_j53 tb sA move)) 1 ((sA 1) - (X8_touch11_j257 tb count did move))) 3 2) 5 (X8_touch11_j288 tb count did move)) 6 (X8_touch11_j173 count did)))))
def X8_touch11_w2 (tb : Nat → Int32) (sA : Nat → Int32) (count : Int32) (did : Int32) (input : Int32) (move : Int32) : Nat → Int32 := (X8_goBack11_w2 (X8_goBack0_w2 (upd (X8_touch11_j301 tb sA count did input move) 4 (-1)) (X8_ofMove_r tb move 8)) (X8_goBack0_r (upd (X8_touch11_j301 tb sA count did input move) 4 (-1)) (X8_ofMove_r tb move 8)))
set_option maxHeartbeats 4000000 in
set_option maxRecDepth 100000 in
theorem c_X8_touch11 (l : Launch) (dC : Nat → ClassId) (dI : Nat → Nat → Nat) (cY : Nat → ClassId) (m0 : Nat) (AM : Nat → Nat) (g : Nat → Int32) (tb : Nat → Int32) (sA : Nat → Int32) (rd : Nat → Int32) (kp : Nat → Int32) (td : Nat → Int32) (wn : Nat → Int32) (rw : Nat → Int32) (br : Nat → Int32) (move : Int32) (did : Int32) (count : Int32) (input : Int32) (hm : okM move) (sz : Nat) : Met l yX8_touch wsX8_touch ({ frames := 1, cells := 0, slots := 0, locals := 24 } : Room) (va_Pc [.ref m0, .int 11, .int move, .int did, .int count, .int input] (wPre (dC, dI) (tyL cY) [(m0, .inr (8, mdL AM g)), (AM 0, .inl (cY 0, 72, .inl tb)), (AM 2, .inl (cY 0, 22, .inl sA)), (AM 3, .inl (cY 0, 22, .inl rd)), (AM 4, .inl (cY 0, 110, .inl kp)), (AM 5, .inl (cY 0, 8414, .inl td)), (AM 6, .inl (cY 0, 2, .inl wn)), (AM 13, .inl (cY 0, 4, .inl rw)), (AM 14, .inl (cY 0, 4, .inl br))] sz)) (va_Qv (fun _ : Unit => True) (wPost (dC, dI) [(m0, .inr (8, mdL AM g)), (AM 0, .inl (cY 0, 72, .inl tb)), (AM 2, .inl (cY 0, 22, .inl (X8_touch11_w2 tb sA count did input move))), (AM 3, .inl (cY 0, 22, .inl rd)), (AM 4, .inl (cY 0, 110, .inl kp)), (AM 5, .inl (cY 0, 8414, .inl td)), (AM 6, .inl (cY 0, 2, .inl wn)), (AM 13, .inl (cY 0, 4, .inl rw)), (AM 14, .inl (cY 0, 4, .inl br))] (va_A [(m0, .inr (8, mdL AM g)), (AM 0, .inl (cY 0, 72, .inl tb)), (AM 2, .inl (cY 0, 22, .inl sA)), (AM 3, .inl (cY 0, 22, .inl rd)), (AM 4, .inl (cY 0, 110, .inl kp)), (AM 5, .inl (cY 0, 8414, .inl td)), (AM 6, .inl (cY 0, 2, .inl wn)), (AM 13, .inl (cY 0, 4, .inl rw)), (AM 14, .inl (cY 0, 4, .inl br))] sz)) (va_A [(m0, .inr (8, mdL AM g)), (AM 0, .inl (cY 0, 72, .inl tb)), (AM 2, .inl (cY 0, 22, .inl sA)), (AM 3, .inl (cY 0, 22, .inl rd)), (AM 4, .inl (cY 0, 110, .inl kp)), (AM 5, .inl (cY 0, 8414, .inl td)), (AM 6, .inl (cY 0, 2, .inl wn)), (AM 13, .inl (cY 0, 4, .inl rw)), (AM 14, .inl (cY 0, 4, .inl br))] sz)) 0 0 (va_A [(m0, .inr (8, mdL AM g)), (AM 0, .inl (cY 0, 72, .inl tb)), (AM 2, .inl (cY 0, 22, .inl sA)), (AM 3, .inl (cY 0, 22, .inl rd)), (AM 4, .inl (cY 0, 110, .inl kp)), (AM 5, .inl (cY 0, 8414, .inl td)), (AM 6, .inl (cY 0, 2, .inl wn)), (AM 13, .inl (cY 0, 4, .inl rw)), (AM 14, .inl (cY 0, 4, .inl br))] sz) := by
  refine Met.ofW (cc := cX8_touch) (maxL := 13) (ret := none) (by decide) rfl ?_
  intro p e s m args below meth c s₁ B hml hv
  obtain ⟨rfl, hsz, hP, hK, hN, hD0⟩ := hv
  have hx := B.exec
  have hb := B.bytes
  have hr := B.returns
  have hts := atoms_spec (ws := wsX8_touch) B.pre
  have hown : s.vm.findClass RX8 = some m.cls := findClass_of_methodNamed B.named
  have hlocks := B.notSynchronized
  subst hsz
  have hD := hD0.self (sz := s.heap.size)
  generalize hAe : va_A [(m0, .inr (8, mdL AM g)), (AM 0, .inl (cY 0, 72, .inl tb)), (AM 2, .inl (cY 0, 22, .inl sA)), (AM 3, .inl (cY 0, 22, .inl rd)), (AM 4, .inl (cY 0, 110, .inl kp)), (AM 5, .inl (cY 0, 8414, .inl td)), (AM 6, .inl (cY 0, 2, .inl wn)), (AM 13, .inl (cY 0, 4, .inl rw)), (AM 14, .inl (cY 0, 4, .inl br))] s.heap.size = A at hD ⊢
  have hA : ∀ q : Nat, s.heap.size ≤ q → A q := fun q h => by rw [← hAe]; exact Or.inr h
  have hS : va_S A s.heap s.heap [] := va_S.rf
  have hP : va_P (dC, dI) vwCl [(m0, .inr (8, mdL AM g)), (AM 0, .inl (cY 0, 72, .inl tb)), (AM 2, .inl (cY 0, 22, .inl sA)), (AM 3, .inl (cY 0, 22, .inl rd)), (AM 4, .inl (cY 0, 110, .inl kp)), (AM 5, .inl (cY 0, 8414, .inl td)), (AM 6, .inl (cY 0, 2, .inl wn)), (AM 13, .inl (cY 0, 4, .inl rw)), (AM 14, .inl (cY 0, 4, .inl br))] s.heap := hP
  have hl := lv_entry ([.ref m0, .int 11, .int move, .int did, .int count, .int input]) (n := 13) (Nat.le_of_ble_eq_true rfl)
  rw [lg_entry_eq]
  generalize (lg_sl ([.ref m0, .int 11, .int move, .int did, .int count, .int input]) ++ List.replicate (13 - (lg_sl ([.ref m0, .int 11, .int move, .int did, .int count, .int input])).length) Slot.unset).toArray = ls at hl ⊢
  have hl : lv_has ls 13 [(0, .ref m0), (1, .int 11), (2, .int move), (3, .int did), (4, .int count), (5, .int input)] := hl
  refine lv_bipush (v := 11) hx hb dX8_touch_0 (by decide) ?_
  refine lv_iload_n hx hb dX8_touch_2 rfl (lv_at hl 1 rfl) ?_
  refine lv_isub hx hb dX8_touch_3 ?_
  refine lv_topi (fun x_1 ex_1 => ?_)
  obtain rfl : x_1 = 0 := ex_1.trans (by decide)
  refine lv_istore (lv' := [(6, .int 0), (0, .ref m0), (1, .int 11), (2, .int move), (3, .int did), (4, .int count), (5, .int input)]) hx hb dX8_touch_4 hl (by decide) rfl (fun ls hl => ?_)
  refine lv_aload_n hx hb dX8_touch_6 rfl (lv_at hl 1 rfl) ?_
  refine lv_iload_n hx hb dX8_touch_7 rfl (lv_at hl 3 rfl) ?_
  refine lv_iconst (v := 4) hx hb dX8_touch_8 (by decide) ?_
  refine vp_callSi (W.runV (As := [.int move, .int 4]) (rest := []) ⟨hx, hb, hml, hown, hts⟩ (c_X8_ofMove l dC dI cY m0 AM g tb sA rd kp td wn rw br move 4 (tb_in hm (vin rfl))) (cwV 2 hts gX8_touch_X8_ofMove rfl rfl rfl (by decide +kernel) ⟨Nat.le_of_ble_eq_true rfl, Nat.le_of_ble_eq_true rfl⟩) ⟨blindR, va_recv hK hP (ci := 8) (q0 := 0) rfl rfl, fun U hU hW => ⟨rfl, rPre_of hP hK hN U hU hW⟩⟩ rfl rfl hl.1 rfl (lv_room (Nat.le_of_ble_eq_true rfl)) dX8_touch_9 ⟨Nat.zero_le _, Nat.zero_le _⟩) (fun r_2 hw => ?_)
  subst hw
  refine lv_istore (lv' := [(7, .int (X8_ofMove_r tb move 4)), (6, .int 0), (0, .ref m0), (1, .int 11), (2, .int move), (3, .int did), (4, .int count), (5, .int input)]) hx hb dX8_touch_12 hl (by decide) rfl (fun ls hl => ?_)
  refine lv_aload_n hx hb dX8_touch_14 rfl (lv_at hl 2 rfl) ?_
  refine va_get (D := (dC, dI)) (ci := 8) (v := .ref (AM 2)) (C := RX8) (T := TX8) (N := 17) hx hb hts inw_X8_touch_X8 hown hK hP 0 rfl rfl 2 (by decide) (hts (.fieldLink RX8 13 "DuelFramesModel" "s" "[I") (List.mem_of_getElem? (i := 1) rfl)) (fun _ h9 => h9) rfl dX8_touch_15 ?_
  refine lv_iload_n hx hb dX8_touch_18 rfl (lv_at hl 3 rfl) ?_
  refine lv_iconst (v := 2) hx hb dX8_touch_19 (by decide) ?_
  refine lv_iadd hx hb dX8_touch_20 ?_
  refine lv_topi (fun x_3 ex_3 => ?_)
  obtain rfl : x_3 = 13 := ex_3.trans (by decide)
  refine va_iald hx hb hK hP 2 0 rfl rfl (vin rfl) dX8_touch_21 ?_
  refine lv_topi (fun x_4 ex_4 => ?_)
  obtain rfl : x_4 = (sA 13) := ex_4
  refine lv_aload_n hx hb dX8_touch_22 rfl (lv_at hl 2 rfl) ?_
  refine lv_iload_n hx hb dX8_touch_23 rfl (lv_at hl 4 rfl) ?_
  refine lv_bipush (v := 10) hx hb dX8_touch_24 (by decide) ?_
  refine vp_callSi (W.runV (As := [.int move, .int 10]) (rest := [.int (sA 13)]) ⟨hx, hb, hml, hown, hts⟩ (c_X8_ofMove l dC dI cY m0 AM g tb sA rd kp td wn rw br move 10 (tb_in hm (vin rfl))) (cwV 2 hts gX8_touch_X8_ofMove rfl rfl rfl (by decide +kernel) ⟨Nat.le_of_ble_eq_true rfl, Nat.le_of_ble_eq_true rfl⟩) ⟨blindR, va_recv hK hP (ci := 8) (q0 := 0) rfl rfl, fun U hU hW => ⟨rfl, rPre_of hP hK hN U hU hW⟩⟩ rfl rfl hl.1 rfl (lv_room (Nat.le_of_ble_eq_true rfl)) dX8_touch_26 ⟨Nat.zero_le _, Nat.zero_le _⟩) (fun r_5 hw => ?_)
  subst hw
  refine lv_iadd hx hb dX8_touch_29 ?_
  refine lv_istore (lv' := [(8, .int ((sA 13) + (X8_ofMove_r tb move 10))), (7, .int (X8_ofMove_r tb move 4)), (6, .int 0), (0, .ref m0), (1, .int 11), (2, .int move), (3, .int did), (4, .int count), (5, .int input)]) hx hb dX8_touch_30 hl (by decide) rfl (fun ls hl => ?_)
  refine lv_aload_n hx hb dX8_touch_32 rfl (lv_at hl 3 rfl) ?_
  refine va_get (D := (dC, dI)) (ci := 8) (v := .ref (AM 2)) (C := RX8) (T := TX8) (N := 17) hx hb hts inw_X8_touch_X8 hown hK hP 0 rfl rfl 2 (by decide) (hts (.fieldLink RX8 13 "DuelFramesModel" "s" "[I") (List.mem_of_getElem? (i := 1) rfl)) (fun _ h9 => h9) rfl dX8_touch_33 ?_
  refine lv_iload_n hx hb dX8_touch_36 rfl (lv_at hl 4 rfl) ?_
  refine lv_iconst (v := 2) hx hb dX8_touch_37 (by decide) ?_
  refine lv_iadd hx hb dX8_touch_38 ?_
  refine lv_topi (fun x_6 ex_6 => ?_)
  obtain rfl : x_6 = 13 := ex_6.trans (by decide)
  refine lv_iload hx hb dX8_touch_39 (lv_at hl 0 rfl) ?_
  refine lv_bipush (v := 100) hx hb dX8_touch_41 (by decide) ?_
  refine jnW (D := (dC, dI)) (ws := [(m0, .inr (8, mdL AM g)), (AM 0, .inl (cY 0, 72, .inl tb)), (AM 2, .inl (cY 0, 22, .inl sA)), (AM 3, .inl (cY 0, 22, .inl rd)), (AM 4, .inl (cY 0, 110, .inl kp)), (AM 5, .inl (cY 0, 8414, .inl td)), (AM 6, .inl (cY 0, 2, .inl wn)), (AM 13, .inl (cY 0, 4, .inl rw)), (AM 14, .inl (cY 0, 4, .inl br))]) (lv := [(7, .int (X8_ofMove_r tb move 4)), (6, .int 0), (0, .ref m0), (1, .int 11), (2, .int move), (3, .int did), (4, .int count), (5, .int input)]) (st := [.int (X8_touch11_j53 tb sA move), .int 13, .ref (AM 2)]) (J := 53) (n := 13) (A := A) (H0 := s.heap) ?_ ?_
  · intro H locs ls hP hD hS hl
    refine va_iast hx hb hK hP hD hS 2 0 rfl rfl (vin rfl) dX8_touch_53 (fun H locs hP1 hD1 hS1 => ?_)
    clear hP hD hS
    have hP : va_P (dC, dI) vwCl [(m0, .inr (8, mdL AM g)), (AM 0, .inl (cY 0, 72, .inl tb)), (AM 2, .inl (cY 0, 22, .inl (upd sA 13 (X8_touch11_j53 tb sA move)))), (AM 3, .inl (cY 0, 22, .inl rd)), (AM 4, .inl (cY 0, 110, .inl kp)), (AM 5, .inl (cY 0, 8414, .inl td)), (AM 6, .inl (cY 0, 2, .inl wn)), (AM 13, .inl (cY 0, 4, .inl rw)), (AM 14, .inl (cY 0, 4, .inl br))] H := hP1
    have hD : va_D A [(m0, .inr (8, mdL AM g)), (AM 0, .inl (cY 0, 72, .inl tb)), (AM 2, .inl (cY 0, 22, .inl (upd sA 13 (X8_touch11_j53 tb sA move)))), (AM 3, .inl (cY 0, 22, .inl rd)), (AM 4, .inl (cY 0, 110, .inl kp)), (AM 5, .inl (cY 0, 8414, .inl td)), (AM 6, .inl (cY 0, 2, .inl wn)), (AM 13, .inl (cY 0, 4, .inl rw)), (AM 14, .inl (cY 0, 4, .inl br))] := hD1
    have hS := hS1
    clear hP1 hD1 hS1
    refine lv_iload hx hb dX8_touch_54 (lv_at hl 7 rfl) ?_
    refine lv_iconst (v := 2) hx hb dX8_touch_56 (by decide) ?_
    refine jnW (D := (dC, dI)) (ws := [(m0, .inr (8, mdL AM g)), (AM 0, .inl (cY 0, 72, .inl tb)), (AM 2, .inl (cY 0, 22, .inl (upd sA 13 (X8_touch11_j53 tb sA move)))), (AM 3, .inl (cY 0, 22, .inl rd)), (AM 4, .inl (cY 0, 110, .inl kp)), (AM 5, .inl (cY 0, 8414, .inl td)), (AM 6, .inl (cY 0, 2, .inl wn)), (AM 13, .inl (cY 0, 4, .inl rw)), (AM 14, .inl (cY 0, 4, .inl br))]) (lv := [(6, .int 0), (0, .ref m0), (1, .int 11), (2, .int move), (3, .int did), (4, .int count)]) (st := [.int (X8_touch11_j94 tb input move)]) (J := 94) (n := 13) (A := A) (H0 := s.heap) ?_ ?_
    · intro H locs ls hP hD hS hl
      refine lv_istore (lv' := [(9, .int (X8_touch11_j94 tb input move)), (6, .int 0), (0, .ref m0), (1, .int 11), (2, .int move), (3, .int did), (4, .int count)]) hx hb dX8_touch_94 hl (by decide) rfl (fun ls hl => ?_)
      refine lv_iload hx hb dX8_touch_96 (lv_at hl 0 rfl) ?_
      refine jnW (D := (dC, dI)) (ws := [(m0, .inr (8, mdL AM g)), (AM 0, .inl (cY 0, 72, .inl tb)), (AM 2, .inl (cY 0, 22, .inl (X8_touch11_j301 tb sA count did input move))), (AM 3, .inl (cY 0, 22, .inl rd)), (AM 4, .inl (cY 0, 110, .inl kp)), (AM 5, .inl (cY 0, 8414, .inl td)), (AM 6, .inl (cY 0, 2, .inl wn)), (AM 13, .inl (cY 0, 4, .inl rw)), (AM 14, .inl (cY 0, 4, .inl br))]) (lv := [(6, .int 0), (0, .ref m0), (1, .int 11), (2, .int move)]) (st := []) (J := 301) (n := 13) (A := A) (H0 := s.heap) ?_ ?_
      · intro H locs ls hP hD hS hl
        obtain ⟨z_13, ez_13⟩ : ∃ z, z = (X8_touch11_j301 tb sA count did input move) := ⟨_, rfl⟩
        rw [← ez_13] at hP hD
        refine lv_aload_n hx hb dX8_touch_301 rfl (lv_at hl 1 rfl) ?_
        refine va_get (D := (dC, dI)) (ci := 8) (v := .ref (AM 2)) (C := RX8) (T := TX8) (N := 17) hx hb hts inw_X8_touch_X8 hown hK hP 0 rfl rfl 2 (by decide) (hts (.fieldLink RX8 13 "DuelFramesModel" "s" "[I") (List.mem_of_getElem? (i := 1) rfl)) (fun _ h9 => h9) rfl dX8_touch_302 ?_
        refine lv_iload hx hb dX8_touch_305 (lv_at hl 0 rfl) ?_
        refine lv_iconst (v := 4) hx hb dX8_touch_307 (by decide) ?_
        refine lv_iadd hx hb dX8_touch_308 ?_
        refine lv_topi (fun x_14 ex_14 => ?_)
        obtain rfl : x_14 = 4 := ex_14.trans (by decide)
        refine lv_iconst (v := (-1)) hx hb dX8_touch_309 (by decide) ?_
        refine va_iast hx hb hK hP hD hS 2 0 rfl rfl (vin rfl) dX8_touch_310 (fun H locs hP1 hD1 hS1 => ?_)
        clear hP hD hS
        have hP : va_P (dC, dI) vwCl [(m0, .inr (8, mdL AM g)), (AM 0, .inl (cY 0, 72, .inl tb)), (AM 2, .inl (cY 0, 22, .inl (upd z_13 4 (-1)))), (AM 3, .inl (cY 0, 22, .inl rd)), (AM 4, .inl (cY 0, 110, .inl kp)), (AM 5, .inl (cY 0, 8414, .inl td)), (AM 6, .inl (cY 0, 2, .inl wn)), (AM 13, .inl (cY 0, 4, .inl rw)), (AM 14, .inl (cY 0, 4, .inl br))] H := hP1
        have hD : va_D A [(m0, .inr (8, mdL AM g)), (AM 0, .inl (cY 0, 72, .inl tb)), (AM 2, .inl (cY 0, 22, .inl (upd z_13 4 (-1)))), (AM 3, .inl (cY 0, 22, .inl rd)), (AM 4, .inl (cY 0, 110, .inl kp)), (AM 5, .inl (cY 0, 8414, .inl td)), (AM 6, .inl (cY 0, 2, .inl wn)), (AM 13, .inl (cY 0, 4, .inl rw)), (AM 14, .inl (cY 0, 4, .inl br))] := hD1
        have hS := hS1
        clear hP1 hD1 hS1
        refine lv_aload_n hx hb dX8_touch_311 rfl (lv_at hl 1 rfl) ?_
        refine lv_iload hx hb dX8_touch_312 (lv_at hl 0 rfl) ?_
        refine lv_aload_n hx hb dX8_touch_314 rfl (lv_at hl 1 rfl) ?_
        refine lv_iload_n hx hb dX8_touch_315 rfl (lv_at hl 3 rfl) ?_
        refine lv_bipush (v := 8) hx hb dX8_touch_316 (by decide) ?_
        refine vp_callSi (W.runV (As := [.int move, .int 8]) (rest := [.int 0, .ref m0]) ⟨hx, hb, hml, hown, hts⟩ (c_X8_ofMove l dC dI cY m0 AM g tb (upd z_13 4 (-1)) rd kp td wn rw br move 8 (by (try simp only [ez_13]); exact (tb_in hm (vin rfl)))) (cwV 2 hts gX8_touch_X8_ofMove rfl rfl rfl (by decide +kernel) ⟨Nat.le_of_ble_eq_true rfl, Nat.le_of_ble_eq_true rfl⟩) ⟨blindR, va_recv hK hP (ci := 8) (q0 := 0) rfl rfl, fun U hU hW => ⟨rfl, rPre_of hP hK hN U hU hW⟩⟩ rfl rfl hl.1 rfl (lv_room (Nat.le_of_ble_eq_true rfl)) dX8_touch_318 ⟨Nat.zero_le _, Nat.zero_le _⟩) (fun r_15 hw => ?_)
        subst hw
        have hPc := hP.sub (ws' := [(m0, .inr (8, mdL AM g)), (AM 0, .inl (cY 0, 72, .inl tb)), (AM 2, .inl (cY 0, 22, .inl (upd z_13 4 (-1)))), (AM 3, .inl (cY 0, 22, .inl rd)), (AM 4, .inl (cY 0, 110, .inl kp)), (AM 5, .inl (cY 0, 8414, .inl td)), (AM 6, .inl (cY 0, 2, .inl wn)), (AM 13, .inl (cY 0, 4, .inl rw)), (AM 14, .inl (cY 0, 4, .inl br))]) [0, 1, 2, 3, 4, 5, 6, 7, 8] rfl
        have hDc := hD.sub (ws' := [(m0, .inr (8, mdL AM g)), (AM 0, .inl (cY 0, 72, .inl tb)), (AM 2, .inl (cY 0, 22, .inl (upd z_13 4 (-1)))), (AM 3, .inl (cY 0, 22, .inl rd)), (AM 4, .inl (cY 0, 110, .inl kp)), (AM 5, .inl (cY 0, 8414, .inl td)), (AM 6, .inl (cY 0, 2, .inl wn)), (AM 13, .inl (cY 0, 4, .inl rw)), (AM 14, .inl (cY 0, 4, .inl br))]) [0, 1, 2, 3, 4, 5, 6, 7, 8] (by decide) rfl
        have hFc := va_free (wc := [(m0, .inr (8, mdL AM g)), (AM 0, .inl (cY 0, 72, .inl tb)), (AM 2, .inl (cY 0, 22, .inl (upd z_13 4 (-1)))), (AM 3, .inl (cY 0, 22, .inl rd)), (AM 4, .inl (cY 0, 110, .inl kp)), (AM 5, .inl (cY 0, 8414, .inl td)), (AM 6, .inl (cY 0, 2, .inl wn)), (AM 13, .inl (cY 0, 4, .inl rw)), (AM 14, .inl (cY 0, 4, .inl br))]) hD hS hA [0, 1, 2, 3, 4, 5, 6, 7, 8] rfl
        refine va_calli (va_runV (As := [.int 0, .int (X8_ofMove_r tb move 8)]) (rest := []) ⟨hx, hb, hml, hown, hts⟩ (c_X8_goBack0 l dC dI cY m0 AM g tb (upd z_13 4 (-1)) rd kp td wn rw br (X8_ofMove_r tb move 8) H.size) (cwV 2 hts gX8_touch_X8_goBack rfl rfl rfl (by decide +kernel) ⟨Nat.le_of_ble_eq_true rfl, Nat.le_of_ble_eq_true rfl⟩) ⟨blindW, va_recv hK hPc (ci := 8) (q0 := 0) rfl rfl, fun U hU hW => ⟨rfl, wPre_of hPc hK hN hDc U hU hW⟩⟩ rfl rfl hl.1 rfl (lv_room (Nat.le_of_ble_eq_true rfl)) dX8_touch_321 ⟨Nat.zero_le _, Nat.zero_le _⟩) hS (fun q _ h => hFc q h) hFc (fun r_16 u t H1 locs ht hvm hw hB hz1 hk1 hS1 => ?_)
        subst hw
        have hJ := wJoin (wr := []) (w1 := [(m0, .inr (8, mdL AM g)), (AM 0, .inl (cY 0, 72, .inl tb)), (AM 2, .inl (cY 0, 22, .inl (X8_goBack0_w2 (upd z_13 4 (-1)) (X8_ofMove_r tb move 8)))), (AM 3, .inl (cY 0, 22, .inl rd)), (AM 4, .inl (cY 0, 110, .inl kp)), (AM 5, .inl (cY 0, 8414, .inl td)), (AM 6, .inl (cY 0, 2, .inl wn)), (AM 13, .inl (cY 0, 4, .inl rw)), (AM 14, .inl (cY 0, 4, .inl br))]) (wn := [(m0, .inr (8, mdL AM g)), (AM 0, .inl (cY 0, 72, .inl tb)), (AM 2, .inl (cY 0, 22, .inl (X8_goBack0_w2 (upd z_13 4 (-1)) (X8_ofMove_r tb move 8)))), (AM 3, .inl (cY 0, 22, .inl rd)), (AM 4, .inl (cY 0, 110, .inl kp)), (AM 5, .inl (cY 0, 8414, .inl td)), (AM 6, .inl (cY 0, 2, .inl wn)), (AM 13, .inl (cY 0, 4, .inl rw)), (AM 14, .inl (cY 0, 4, .inl br))]) hP hD [0, 1, 2, 3, 4, 5, 6, 7, 8] [] rfl rfl (by decide) (by decide) hk1 hFc hB ht [0, 1, 2, 3, 4, 5, 6, 7, 8] rfl (by decide)
        clear hB hk1 hFc hPc hDc hP hD hS hz1 hvm ht t
        obtain ⟨hP1, hD1⟩ := hJ
        generalize H1 = H at hP1 hS1 ⊢
        have hP : va_P (dC, dI) vwCl [(m0, .inr (8, mdL AM g)), (AM 0, .inl (cY 0, 72, .inl tb)), (AM 2, .inl (cY 0, 22, .inl (X8_goBack0_w2 (upd z_13 4 (-1)) (X8_ofMove_r tb move 8)))), (AM 3, .inl (cY 0, 22, .inl rd)), (AM 4, .inl (cY 0, 110, .inl kp)), (AM 5, .inl (cY 0, 8414, .inl td)), (AM 6, .inl (cY 0, 2, .inl wn)), (AM 13, .inl (cY 0, 4, .inl rw)), (AM 14, .inl (cY 0, 4, .inl br))] H := hP1
        have hD : va_D A [(m0, .inr (8, mdL AM g)), (AM 0, .inl (cY 0, 72, .inl tb)), (AM 2, .inl (cY 0, 22, .inl (X8_goBack0_w2 (upd z_13 4 (-1)) (X8_ofMove_r tb move 8)))), (AM 3, .inl (cY 0, 22, .inl rd)), (AM 4, .inl (cY 0, 110, .inl kp)), (AM 5, .inl (cY 0, 8414, .inl td)), (AM 6, .inl (cY 0, 2, .inl wn)), (AM 13, .inl (cY 0, 4, .inl rw)), (AM 14, .inl (cY 0, 4, .inl br))] := hD1
        have hS := hS1
        clear hP1 hD1 hS1
        obtain ⟨z_17, ez_17⟩ : ∃ z, z = (X8_goBack0_w2 (upd z_13 4 (-1)) (X8_ofMove_r tb move 8)) := ⟨_, rfl⟩
        rw [← ez_17] at hP hD
        refine lv_istore (lv' := [(10, .int (X8_goBack0_r (upd z_13 4 (-1)) (X8_ofMove_r tb move 8))), (6, .int 0), (0, .ref m0), (1, .int 11), (2, .int move)]) hx hb dX8_touch_324 hl (by decide) rfl (fun ls hl => ?_)
        refine lv_aload_n hx hb dX8_touch_326 rfl (lv_at hl 2 rfl) ?_
        refine lv_iload_n hx hb dX8_touch_327 rfl (lv_at hl 3 rfl) ?_
        refine lv_iload hx hb dX8_touch_328 (lv_at hl 0 rfl) ?_
        have hPc := hP.sub (ws' := [(m0, .inr (8, mdL AM g)), (AM 0, .inl (cY 0, 72, .inl tb)), (AM 2, .inl (cY 0, 22, .inl z_17)), (AM 3, .inl (cY 0, 22, .inl rd)), (AM 4, .inl (cY 0, 110, .inl kp)), (AM 5, .inl (cY 0, 8414, .inl td)), (AM 6, .inl (cY 0, 2, .inl wn)), (AM 13, .inl (cY 0, 4, .inl rw)), (AM 14, .inl (cY 0, 4, .inl br))]) [0, 1, 2, 3, 4, 5, 6, 7, 8] rfl
        have hDc := hD.sub (ws' := [(m0, .inr (8, mdL AM g)), (AM 0, .inl (cY 0, 72, .inl tb)), (AM 2, .inl (cY 0, 22, .inl z_17)), (AM 3, .inl (cY 0, 22, .inl rd)), (AM 4, .inl (cY 0, 110, .inl kp)), (AM 5, .inl (cY 0, 8414, .inl td)), (AM 6, .inl (cY 0, 2, .inl wn)), (AM 13, .inl (cY 0, 4, .inl rw)), (AM 14, .inl (cY 0, 4, .inl br))]) [0, 1, 2, 3, 4, 5, 6, 7, 8] (by decide) rfl
        have hFc := va_free (wc := [(m0, .inr (8, mdL AM g)), (AM 0, .inl (cY 0, 72, .inl tb)), (AM 2, .inl (cY 0, 22, .inl z_17)), (AM 3, .inl (cY 0, 22, .inl rd)), (AM 4, .inl (cY 0, 110, .inl kp)), (AM 5, .inl (cY 0, 8414, .inl td)), (AM 6, .inl (cY 0, 2, .inl wn)), (AM 13, .inl (cY 0, 4, .inl rw)), (AM 14, .inl (cY 0, 4, .inl br))]) hD hS hA [0, 1, 2, 3, 4, 5, 6, 7, 8] rfl
        refine va_calli (va_runV (As := [.int 11, .int (X8_goBack0_r (upd z_13 4 (-1)) (X8_ofMove_r tb move 8))]) (rest := []) ⟨hx, hb, hml, hown, hts⟩ (c_X8_goBack11 l dC dI cY m0 AM g tb z_17 rd kp td wn rw br (X8_goBack0_r (upd z_13 4 (-1)) (X8_ofMove_r tb move 8)) H.size) (cwV 2 hts gX8_touch_X8_goBack rfl rfl rfl (by decide +kernel) ⟨Nat.le_of_ble_eq_true rfl, Nat.le_of_ble_eq_true rfl⟩) ⟨blindW, va_recv hK hPc (ci := 8) (q0 := 0) rfl rfl, fun U hU hW => ⟨rfl, wPre_of hPc hK hN hDc U hU hW⟩⟩ rfl rfl hl.1 rfl (lv_room (Nat.le_of_ble_eq_true rfl)) dX8_touch_330 ⟨Nat.zero_le _, Nat.zero_le _⟩) hS (fun q _ h => hFc q h) hFc (fun r_18 u t H1 locs ht hvm hw hB hz1 hk1 hS1 => ?_)
        subst hw
        have hJ := wJoin (wr := []) (w1 := [(m0, .inr (8, mdL AM g)), (AM 0, .inl (cY 0, 72, .inl tb)), (AM 2, .inl (cY 0, 22, .inl (X8_goBack11_w2 z_17 (X8_goBack0_r (upd z_13 4 (-1)) (X8_ofMove_r tb move 8))))), (AM 3, .inl (cY 0, 22, .inl rd)), (AM 4, .inl (cY 0, 110, .inl kp)), (AM 5, .inl (cY 0, 8414, .inl td)), (AM 6, .inl (cY 0, 2, .inl wn)), (AM 13, .inl (cY 0, 4, .inl rw)), (AM 14, .inl (cY 0, 4, .inl br))]) (wn := [(m0, .inr (8, mdL AM g)), (AM 0, .inl (cY 0, 72, .inl tb)), (AM 2, .inl (cY 0, 22, .inl (X8_goBack11_w2 z_17 (X8_goBack0_r (upd z_13 4 (-1)) (X8_ofMove_r tb move 8))))), (AM 3, .inl (cY 0, 22, .inl rd)), (AM 4, .inl (cY 0, 110, .inl kp)), (AM 5, .inl (cY 0, 8414, .inl td)), (AM 6, .inl (cY 0, 2, .inl wn)), (AM 13, .inl (cY 0, 4, .inl rw)), (AM 14, .inl (cY 0, 4, .inl br))]) hP hD [0, 1, 2, 3, 4, 5, 6, 7, 8] [] rfl rfl (by decide) (by decide) hk1 hFc hB ht [0, 1, 2, 3, 4, 5, 6, 7, 8] rfl (by decide)
        clear hB hk1 hFc hPc hDc hP hD hS hz1 hvm ht t
        obtain ⟨hP1, hD1⟩ := hJ
        generalize H1 = H at hP1 hS1 ⊢
        have hP : va_P (dC, dI) vwCl [(m0, .inr (8, mdL AM g)), (AM 0, .inl (cY 0, 72, .inl tb)), (AM 2, .inl (cY 0, 22, .inl (X8_goBack11_w2 z_17 (X8_goBack0_r (upd z_13 4 (-1)) (X8_ofMove_r tb move 8))))), (AM 3, .inl (cY 0, 22, .inl rd)), (AM 4, .inl (cY 0, 110, .inl kp)), (AM 5, .inl (cY 0, 8414, .inl td)), (AM 6, .inl (cY 0, 2, .inl wn)), (AM 13, .inl (cY 0, 4, .inl rw)), (AM 14, .inl (cY 0, 4, .inl br))] H := hP1
        have hD : va_D A [(m0, .inr (8, mdL AM g)), (AM 0, .inl (cY 0, 72, .inl tb)), (AM 2, .inl (cY 0, 22, .inl (X8_goBack11_w2 z_17 (X8_goBack0_r (upd z_13 4 (-1)) (X8_ofMove_r tb move 8))))), (AM 3, .inl (cY 0, 22, .inl rd)), (AM 4, .inl (cY 0, 110, .inl kp)), (AM 5, .inl (cY 0, 8414, .inl td)), (AM 6, .inl (cY 0, 2, .inl wn)), (AM 13, .inl (cY 0, 4, .inl rw)), (AM 14, .inl (cY 0, 4, .inl br))] := hD1
        have hS := hS1
        clear hP1 hD1 hS1
        obtain ⟨z_19, ez_19⟩ : ∃ z, z = (X8_goBack11_w2 z_17 (X8_goBack0_r (upd z_13 4 (-1)) (X8_ofMove_r tb move 8))) := ⟨_, rfl⟩
        rw [← ez_19] at hP hD
        refine lv_pop hx hb dX8_touch_333 rfl ?_
        have eo_20 : (X8_touch11_w2 tb sA count did input move) = z_19 := by rw [X8_touch11_w2]; (try simp only [← ez_13, ← ez_17, ← ez_19])
        have hP9 : va_P (dC, dI) vwCl [(m0, .inr (8, mdL AM g)), (AM 0, .inl (cY 0, 72, .inl tb)), (AM 2, .inl (cY 0, 22, .inl (X8_touch11_w2 tb sA count did input move))), (AM 3, .inl (cY 0, 22, .inl rd)), (AM 4, .inl (cY 0, 110, .inl kp)), (AM 5, .inl (cY 0, 8414, .inl td)), (AM 6, .inl (cY 0, 2, .inl wn)), (AM 13, .inl (cY 0, 4, .inl rw)), (AM 14, .inl (cY 0, 4, .inl br))] H := by simp only [eo_20]; exact hP
        have hD9 : va_D A [(m0, .inr (8, mdL AM g)), (AM 0, .inl (cY 0, 72, .inl tb)), (AM 2, .inl (cY 0, 22, .inl (X8_touch11_w2 tb sA count did input move))), (AM 3, .inl (cY 0, 22, .inl rd)), (AM 4, .inl (cY 0, 110, .inl kp)), (AM 5, .inl (cY 0, 8414, .inl td)), (AM 6, .inl (cY 0, 2, .inl wn)), (AM 13, .inl (cY 0, 4, .inl rw)), (AM 14, .inl (cY 0, 4, .inl br))] := by simp only [eo_20]; exact hD
        exact W.vret hx hb hr (fun t ht hW => ⟨⟨(), rfl, trivial, wPost_of hP9 hD9 ht⟩, hS.F ht⟩) hS.2.2 dX8_touch_334
      · intro jn_12
        refine lv_if_eq (tgt := 160) hx hb dX8_touch_98 (by decide) (fun c_11 => ?_) (fun c_11 => ?_)
        · refine lv_iload_n hx hb dX8_touch_160 rfl (lv_at hl 5 rfl) ?_
          refine lv_iconst (v := 2) hx hb dX8_touch_161 (by decide) ?_
          refine jnW (D := (dC, dI)) (ws := [(m0, .inr (8, mdL AM g)), (AM 0, .inl (cY 0, 72, .inl tb)), (AM 2, .inl (cY 0, 22, .inl (upd sA 13 (X8_touch11_j53 tb sA move)))), (AM 3, .inl (cY 0, 22, .inl rd)), (AM 4, .inl (cY 0, 110, .inl kp)), (AM 5, .inl (cY 0, 8414, .inl td)), (AM 6, .inl (cY 0, 2, .inl wn)), (AM 13, .inl (cY 0, 4, .inl rw)), (AM 14, .inl (cY 0, 4, .inl br))]) (lv := [(6, .int 0), (0, .ref m0), (1, .int 11), (2, .int move), (3, .int did)]) (st := [.int (X8_touch11_j173 count did)]) (J := 173) (n := 13) (A := A) (H0 := s.heap) ?_ ?_
          · intro H locs ls hP hD hS hl
            refine lv_istore (lv' := [(10, .int (X8_touch11_j173 count did)), (6, .int 0), (0, .ref m0), (1, .int 11), (2, .int move), (3, .int did)]) hx hb dX8_touch_173 hl (by decide) rfl (fun ls hl => ?_)
            refine lv_aload_n hx hb dX8_touch_175 rfl (lv_at hl 2 rfl) ?_
            refine lv_iload_n hx hb dX8_touch_176 rfl (lv_at hl 4 rfl) ?_
            refine lv_iconst (v := 5) hx hb dX8_touch_177 (by decide) ?_
            refine vp_callSi (W.runV (As := [.int move, .int 5]) (rest := []) ⟨hx, hb, hml, hown, hts⟩ (c_X8_ofMove l dC dI cY m0 AM g tb (upd sA 13 (X8_touch11_j53 tb sA move)) rd kp td wn rw br move 5 (tb_in hm (vin rfl))) (cwV 2 hts gX8_touch_X8_ofMove rfl rfl rfl (by decide +kernel) ⟨Nat.le_of_ble_eq_true rfl, Nat.le_of_ble_eq_true rfl⟩) ⟨blindR, va_recv hK hP (ci := 8) (q0 := 0) rfl rfl, fun U hU hW => ⟨rfl, rPre_of hP hK hN U hU hW⟩⟩ rfl rfl hl.1 rfl (lv_room (Nat.le_of_ble_eq_true rfl)) dX8_touch_178 ⟨Nat.zero_le _, Nat.zero_le _⟩) (fun r_23 hw => ?_)
            subst hw
            refine lv_iload hx hb dX8_touch_181 (lv_at hl 0 rfl) ?_
            refine lv_bipush (v := 10) hx hb dX8_touch_183 (by decide) ?_
            refine jnW (D := (dC, dI)) (ws := [(m0, .inr (8, mdL AM g)), (AM 0, .inl (cY 0, 72, .inl tb)), (AM 2, .inl (cY 0, 22, .inl (upd sA 13 (X8_touch11_j53 tb sA move)))), (AM 3, .inl (cY 0, 22, .inl rd)), (AM 4, .inl (cY 0, 110, .inl kp)), (AM 5, .inl (cY 0, 8414, .inl td)), (AM 6, .inl (cY 0, 2, .inl wn)), (AM 13, .inl (cY 0, 4, .inl rw)), (AM 14, .inl (cY 0, 4, .inl br))]) (lv := [(10, .int (X8_touch11_j173 count did)), (6, .int 0), (0, .ref m0), (1, .int 11), (2, .int move), (3, .int did)]) (st := [.int (X8_touch11_j197 count did), .int (X8_ofMove_r tb move 5)]) (J := 197) (n := 13) (A := A) (H0 := s.heap) ?_ ?_
            · intro H locs ls hP hD hS hl
              refine lv_imul hx hb dX8_touch_197 ?_
              refine lv_bipush (v := 10) hx hb dX8_touch_198 (by decide) ?_
              refine lv_idiv hx hb dX8_touch_200 (by decide) ?_
              refine lv_istore (lv' := [(11, .int (((X8_ofMove_r tb move 5) * (X8_touch11_j197 count did)) / 10)), (10, .int (X8_touch11_j173 count did)), (6, .int 0), (0, .ref m0), (1, .int 11), (2, .int move), (3, .int did)]) hx hb dX8_touch_201 hl (by decide) rfl (fun ls hl => ?_)
              refine lv_aload_n hx hb dX8_touch_203 rfl (lv_at hl 3 rfl) ?_
              refine lv_iload_n hx hb dX8_touch_204 rfl (lv_at hl 5 rfl) ?_
              refine lv_bipush (v := 6) hx hb dX8_touch_205 (by decide) ?_
              refine vp_callSi (W.runV (As := [.int move, .int 6]) (rest := []) ⟨hx, hb, hml, hown, hts⟩ (c_X8_ofMove l dC dI cY m0 AM g tb (upd sA 13 (X8_touch11_j53 tb sA move)) rd kp td wn rw br move 6 (tb_in hm (vin rfl))) (cwV 2 hts gX8_touch_X8_ofMove rfl rfl rfl (by decide +kernel) ⟨Nat.le_of_ble_eq_true rfl, Nat.le_of_ble_eq_true rfl⟩) ⟨blindR, va_recv hK hP (ci := 8) (q0 := 0) rfl rfl, fun U hU hW => ⟨rfl, rPre_of hP hK hN U hU hW⟩⟩ rfl rfl hl.1 rfl (lv_room (Nat.le_of_ble_eq_true rfl)) dX8_touch_207 ⟨Nat.zero_le _, Nat.zero_le _⟩) (fun r_26 hw => ?_)
              subst hw
              refine lv_iconst (v := 2) hx hb dX8_touch_210 (by decide) ?_
              refine lv_iload hx hb dX8_touch_211 (lv_at hl 1 rfl) ?_
              refine lv_iconst (v := 1) hx hb dX8_touch_213 (by decide) ?_
              refine lv_isub hx hb dX8_touch_214 ?_
              refine lv_imul hx hb dX8_touch_215 ?_
              refine lv_isub hx hb dX8_touch_216 ?_
              refine lv_iload_n hx hb dX8_touch_217 rfl (lv_at hl 6 rfl) ?_
              refine lv_iconst (v := 1) hx hb dX8_touch_218 (by decide) ?_
              refine jnW (D := (dC, dI)) (ws := [(m0, .inr (8, mdL AM g)), (AM 0, .inl (cY 0, 72, .inl tb)), (AM 2, .inl (cY 0, 22, .inl (upd sA 13 (X8_touch11_j53 tb sA move)))), (AM 3, .inl (cY 0, 22, .inl rd)), (AM 4, .inl (cY 0, 110, .inl kp)), (AM 5, .inl (cY 0, 8414, .inl td)), (AM 6, .inl (cY 0, 2, .inl wn)), (AM 13, .inl (cY 0, 4, .inl rw)), (AM 14, .inl (cY 0, 4, .inl br))]) (lv := [(11, .int (((X8_ofMove_r tb move 5) * (X8_touch11_j197 count did)) / 10)), (10, .int (X8_touch11_j173 count did)), (6, .int 0), (0, .ref m0), (1, .int 11), (2, .int move), (3, .int did)]) (st := [.int (X8_touch11_j227 did), .int ((X8_ofMove_r tb move 6) - (2 * ((X8_touch11_j173 count did) - 1)))]) (J := 227) (n := 13) (A := A) (H0 := s.heap) ?_ ?_
              · intro H locs ls hP hD hS hl
                refine lv_iadd hx hb dX8_touch_227 ?_
                refine lv_istore (lv' := [(12, .int (((X8_ofMove_r tb move 6) - (2 * ((X8_touch11_j173 count did) - 1))) + (X8_touch11_j227 did))), (11, .int (((X8_ofMove_r tb move 5) * (X8_touch11_j197 count did)) / 10)), (10, .int (X8_touch11_j173 count did)), (6, .int 0), (0, .ref m0), (1, .int 11), (2, .int move), (3, .int did)]) hx hb dX8_touch_228 hl (by decide) rfl (fun ls hl => ?_)
                refine lv_aload_n hx hb dX8_touch_230 rfl (lv_at hl 4 rfl) ?_
                refine va_get (D := (dC, dI)) (ci := 8) (v := .ref (AM 2)) (C := RX8) (T := TX8) (N := 17) hx hb hts inw_X8_touch_X8 hown hK hP 0 rfl rfl 2 (by decide) (hts (.fieldLink RX8 13 "DuelFramesModel" "s" "[I") (List.mem_of_getElem? (i := 1) rfl)) (fun _ h9 => h9) rfl dX8_touch_231 ?_
                refine lv_iload hx hb dX8_touch_234 (lv_at hl 3 rfl) ?_
                refine lv_iconst (v := 1) hx hb dX8_touch_236 (by decide) ?_
                refine lv_iadd hx hb dX8_touch_237 ?_
                refine lv_topi (fun x_29 ex_29 => ?_)
                obtain rfl : x_29 = 1 := ex_29.trans (by decide)
                refine lv_dup2_11 hx hb dX8_touch_238 rfl rfl ?_
                refine va_iald hx hb hK hP 2 0 rfl rfl (vin rfl) dX8_touch_239 ?_
                refine lv_topi (fun x_30 ex_30 => ?_)
                obtain rfl : x_30 = (sA 1) := ex_30
                refine lv_iload_n hx hb dX8_touch_240 rfl (lv_at hl 7 rfl) ?_
                refine lv_iconst (v := 1) hx hb dX8_touch_241 (by decide) ?_
                refine jnW (D := (dC, dI)) (ws := [(m0, .inr (8, mdL AM g)), (AM 0, .inl (cY 0, 72, .inl tb)), (AM 2, .inl (cY 0, 22, .inl (upd sA 13 (X8_touch11_j53 tb sA move)))), (AM 3, .inl (cY 0, 22, .inl rd)), (AM 4, .inl (cY 0, 110, .inl kp)), (AM 5, .inl (cY 0, 8414, .inl td)), (AM 6, .inl (cY 0, 2, .inl wn)), (AM 13, .inl (cY 0, 4, .inl rw)), (AM 14, .inl (cY 0, 4, .inl br))]) (lv := [(12, .int (((X8_ofMove_r tb move 6) - (2 * ((X8_touch11_j173 count did) - 1))) + (X8_touch11_j227 did))), (10, .int (X8_touch11_j173 count did)), (6, .int 0), (0, .ref m0), (1, .int 11), (2, .int move)]) (st := [.int (X8_touch11_j257 tb count did move), .int (sA 1), .int 1, .ref (AM 2)]) (J := 257) (n := 13) (A := A) (H0 := s.heap) ?_ ?_
                · intro H locs ls hP hD hS hl
                  refine lv_isub hx hb dX8_touch_257 ?_
                  refine va_iast hx hb hK hP hD hS 2 0 rfl rfl (vin rfl) dX8_touch_258 (fun H locs hP1 hD1 hS1 => ?_)
                  clear hP hD hS
                  have hP : va_P (dC, dI) vwCl [(m0, .inr (8, mdL AM g)), (AM 0, .inl (cY 0, 72, .inl tb)), (AM 2, .inl (cY 0, 22, .inl (upd (upd sA 13 (X8_touch11_j53 tb sA move)) 1 ((sA 1) - (X8_touch11_j257 tb count did move))))), (AM 3, .inl (cY 0, 22, .inl rd)), (AM 4, .inl (cY 0, 110, .inl kp)), (AM 5, .inl (cY 0, 8414, .inl td)), (AM 6, .inl (cY 0, 2, .inl wn)), (AM 13, .inl (cY 0, 4, .inl rw)), (AM 14, .inl (cY 0, 4, .inl br))] H := hP1
                  have hD : va_D A [(m0, .inr (8, mdL AM g)), (AM 0, .inl (cY 0, 72, .inl tb)), (AM 2, .inl (cY 0, 22, .inl (upd (upd sA 13 (X8_touch11_j53 tb sA move)) 1 ((sA 1) - (X8_touch11_j257 tb count did move))))), (AM 3, .inl (cY 0, 22, .inl rd)), (AM 4, .inl (cY 0, 110, .inl kp)), (AM 5, .inl (cY 0, 8414, .inl td)), (AM 6, .inl (cY 0, 2, .inl wn)), (AM 13, .inl (cY 0, 4, .inl rw)), (AM 14, .inl (cY 0, 4, .inl br))] := hD1
                  have hS := hS1
                  clear hP1 hD1 hS1
                  refine lv_aload_n hx hb dX8_touch_259 rfl (lv_at hl 3 rfl) ?_
                  refine va_get (D := (dC, dI)) (ci := 8) (v := .ref (AM 2)) (C := RX8) (T := TX8) (N := 17) hx hb hts inw_X8_touch_X8 hown hK hP 0 rfl rfl 2 (by decide) (hts (.fieldLink RX8 13 "DuelFramesModel" "s" "[I") (List.mem_of_getElem? (i := 1) rfl)) (fun _ h9 => h9) rfl dX8_touch_260 ?_
                  refine lv_iload hx hb dX8_touch_263 (lv_at hl 2 rfl) ?_
                  refine lv_iconst (v := 3) hx hb dX8_touch_265 (by decide) ?_
                  refine lv_iadd hx hb dX8_touch_266 ?_
                  refine lv_topi (fun x_33 ex_33 => ?_)
                  obtain rfl : x_33 = 3 := ex_33.trans (by decide)
                  refine lv_iconst (v := 2) hx hb dX8_touch_267 (by decide) ?_
                  refine va_iast hx hb hK hP hD hS 2 0 rfl rfl (vin rfl) dX8_touch_268 (fun H locs hP1 hD1 hS1 => ?_)
                  clear hP hD hS
                  have hP : va_P (dC, dI) vwCl [(m0, .inr (8, mdL AM g)), (AM 0, .inl (cY 0, 72, .inl tb)), (AM 2, .inl (cY 0, 22, .inl (upd (upd (upd sA 13 (X8_touch11_j53 tb sA move)) 1 ((sA 1) - (X8_touch11_j257 tb count did move))) 3 2))), (AM 3, .inl (cY 0, 22, .inl rd)), (AM 4, .inl (cY 0, 110, .inl kp)), (AM 5, .inl (cY 0, 8414, .inl td)), (AM 6, .inl (cY 0, 2, .inl wn)), (AM 13, .inl (cY 0, 4, .inl rw)), (AM 14, .inl (cY 0, 4, .inl br))] H := hP1
                  have hD : va_D A [(m0, .inr (8, mdL AM g)), (AM 0, .inl (cY 0, 72, .inl tb)), (AM 2, .inl (cY 0, 22, .inl (upd (upd (upd sA 13 (X8_touch11_j53 tb sA move)) 1 ((sA 1) - (X8_touch11_j257 tb count did move))) 3 2))), (AM 3, .inl (cY 0, 22, .inl rd)), (AM 4, .inl (cY 0, 110, .inl kp)), (AM 5, .inl (cY 0, 8414, .inl td)), (AM 6, .inl (cY 0, 2, .inl wn)), (AM 13, .inl (cY 0, 4, .inl rw)), (AM 14, .inl (cY 0, 4, .inl br))] := hD1
                  have hS := hS1
                  clear hP1 hD1 hS1
                  refine lv_aload_n hx hb dX8_touch_269 rfl (lv_at hl 3 rfl) ?_
                  refine va_get (D := (dC, dI)) (ci := 8) (v := .ref (AM 2)) (C := RX8) (T := TX8) (N := 17) hx hb hts inw_X8_touch_X8 hown hK hP 0 rfl rfl 2 (by decide) (hts (.fieldLink RX8 13 "DuelFramesModel" "s" "[I") (List.mem_of_getElem? (i := 1) rfl)) (fun _ h9 => h9) rfl dX8_touch_270 ?_
                  refine lv_iload hx hb dX8_touch_273 (lv_at hl 2 rfl) ?_
                  refine lv_iconst (v := 5) hx hb dX8_touch_275 (by decide) ?_
                  refine lv_iadd hx hb dX8_touch_276 ?_
                  refine lv_topi (fun x_34 ex_34 => ?_)
                  obtain rfl : x_34 = 5 := ex_34.trans (by decide)
                  refine lv_iload hx hb dX8_touch_277 (lv_at hl 0 rfl) ?_
                  refine jnW (D := (dC, dI)) (ws := [(m0, .inr (8, mdL AM g)), (AM 0, .inl (cY 0, 72, .inl tb)), (AM 2, .inl (cY 0, 22, .inl (upd (upd (upd sA 13 (X8_touch11_j53 tb sA move)) 1 ((sA 1) - (X8_touch11_j257 tb count did move))) 3 2))), (AM 3, .inl (cY 0, 22, .inl rd)), (AM 4, .inl (cY 0, 110, .inl kp)), (AM 5, .inl (cY 0, 8414, .inl td)), (AM 6, .inl (cY 0, 2, .inl wn)), (AM 13, .inl (cY 0, 4, .inl rw)), (AM 14, .inl (cY 0, 4, .inl br))]) (lv := [(10, .int (X8_touch11_j173 count did)), (6, .int 0), (0, .ref m0), (1, .int 11), (2, .int move)]) (st := [.int (X8_touch11_j288 tb count did move), .int 5, .ref (AM 2)]) (J := 288) (n := 13) (A := A) (H0 := s.heap) ?_ ?_
                  · intro H locs ls hP hD hS hl
                    refine va_iast hx hb hK hP hD hS 2 0 rfl rfl (vin rfl) dX8_touch_288 (fun H locs hP1 hD1 hS1 => ?_)
                    clear hP hD hS
                    have hP : va_P (dC, dI) vwCl [(m0, .inr (8, mdL AM g)), (AM 0, .inl (cY 0, 72, .inl tb)), (AM 2, .inl (cY 0, 22, .inl (upd (upd (upd (upd sA 13 (X8_touch11_j53 tb sA move)) 1 ((sA 1) - (X8_touch11_j257 tb count did move))) 3 2) 5 (X8_touch11_j288 tb count did move)))), (AM 3, .inl (cY 0, 22, .inl rd)), (AM 4, .inl (cY 0, 110, .inl kp)), (AM 5, .inl (cY 0, 8414, .inl td)), (AM 6, .inl (cY 0, 2, .inl wn)), (AM 13, .inl (cY 0, 4, .inl rw)), (AM 14, .inl (cY 0, 4, .inl br))] H := hP1
                    have hD : va_D A [(m0, .inr (8, mdL AM g)), (AM 0, .inl (cY 0, 72, .inl tb)), (AM 2, .inl (cY 0, 22, .inl (upd (upd (upd (upd sA 13 (X8_touch11_j53 tb sA move)) 1 ((sA 1) - (X8_touch11_j257 tb count did move))) 3 2) 5 (X8_touch11_j288 tb count did move)))), (AM 3, .inl (cY 0, 22, .inl rd)), (AM 4, .inl (cY 0, 110, .inl kp)), (AM 5, .inl (cY 0, 8414, .inl td)), (AM 6, .inl (cY 0, 2, .inl wn)), (AM 13, .inl (cY 0, 4, .inl rw)), (AM 14, .inl (cY 0, 4, .inl br))] := hD1
                    have hS := hS1
                    clear hP1 hD1 hS1
                    refine lv_aload_n hx hb dX8_touch_289 rfl (lv_at hl 2 rfl) ?_
                    refine va_get (D := (dC, dI)) (ci := 8) (v := .ref (AM 2)) (C := RX8) (T := TX8) (N := 17) hx hb hts inw_X8_touch_X8 hown hK hP 0 rfl rfl 2 (by decide) (hts (.fieldLink RX8 13 "DuelFramesModel" "s" "[I") (List.mem_of_getElem? (i := 1) rfl)) (fun _ h9 => h9) rfl dX8_touch_290 ?_
                    refine lv_iload hx hb dX8_touch_293 (lv_at hl 1 rfl) ?_
                    refine lv_bipush (v := 6) hx hb dX8_touch_295 (by decide) ?_
                    refine lv_iadd hx hb dX8_touch_297 ?_
                    refine lv_topi (fun x_37 ex_37 => ?_)
                    obtain rfl : x_37 = 6 := ex_37.trans (by decide)
                    refine lv_iload hx hb dX8_touch_298 (lv_at hl 0 rfl) ?_
                    refine va_iast hx hb hK hP hD hS 2 0 rfl rfl (vin rfl) dX8_touch_300 (fun H locs hP1 hD1 hS1 => ?_)
                    clear hP hD hS
                    have hP : va_P (dC, dI) vwCl [(m0, .inr (8, mdL AM g)), (AM 0, .inl (cY 0, 72, .inl tb)), (AM 2, .inl (cY 0, 22, .inl (upd (upd (upd (upd (upd sA 13 (X8_touch11_j53 tb sA move)) 1 ((sA 1) - (X8_touch11_j257 tb count did move))) 3 2) 5 (X8_touch11_j288 tb count did move)) 6 (X8_touch11_j173 count did)))), (AM 3, .inl (cY 0, 22, .inl rd)), (AM 4, .inl (cY 0, 110, .inl kp)), (AM 5, .inl (cY 0, 8414, .inl td)), (AM 6, .inl (cY 0, 2, .inl wn)), (AM 13, .inl (cY 0, 4, .inl rw)), (AM 14, .inl (cY 0, 4, .inl br))] H := hP1
                    have hD : va_D A [(m0, .inr (8, mdL AM g)), (AM 0, .inl (cY 0, 72, .inl tb)), (AM 2, .inl (cY 0, 22, .inl (upd (upd (upd (upd (upd sA 13 (X8_touch11_j53 tb sA move)) 1 ((sA 1) - (X8_touch11_j257 tb count did move))) 3 2) 5 (X8_touch11_j288 tb count did move)) 6 (X8_touch11_j173 count did)))), (AM 3, .inl (cY 0, 22, .inl rd)), (AM 4, .inl (cY 0, 110, .inl kp)), (AM 5, .inl (cY 0, 8414, .inl td)), (AM 6, .inl (cY 0, 2, .inl wn)), (AM 13, .inl (cY 0, 4, .inl rw)), (AM 14, .inl (cY 0, 4, .inl br))] := hD1
                    have hS := hS1
                    clear hP1 hD1 hS1
                    have e_38 : (X8_touch11_j301 tb sA count did input move) = (upd (upd (upd (upd (upd sA 13 (X8_touch11_j53 tb sA move)) 1 ((sA 1) - (X8_touch11_j257 tb count did move))) 3 2) 5 (X8_touch11_j288 tb count did move)) 6 (X8_touch11_j173 count did)) := by rw [X8_touch11_j301]; simp only [eq_true c_11, ↓reduceIte]
                    exact jn_12 _ _ _ (by (try simp only [e_38]); exact hP) (by (try simp only [e_38]); exact hD) hS (by (try simp only [e_38]); exact (lv_sub hl [1, 2, 3, 4] rfl))
                  · intro jn_36
                    refine lv_if_ge (tgt := 286) hx hb dX8_touch_279 (by decide) (fun c_35 => ?_) (fun c_35 => ?_)
                    · refine lv_iload hx hb dX8_touch_286 (lv_at hl 0 rfl) ?_
                      have e_39 : (X8_touch11_j288 tb count did move) = (((X8_ofMove_r tb move 6) - (2 * ((X8_touch11_j173 count did) - 1))) + (X8_touch11_j227 did)) := by rw [X8_touch11_j288]; simp only [eq_true c_35, ↓reduceIte]
                      refine W.eq (g2 := F0 m 288 ls [.int (X8_touch11_j288 tb count did move), .int 5, .ref (AM 2)]) (by simp only [e_39]) ?_
                      exact jn_36 _ _ _ (by (try simp only [e_39]); exact hP) (by (try simp only [e_39]); exact hD) hS (by (try simp only [e_39]); exact (lv_sub hl [1, 2, 3, 4, 5] rfl))
                    · refine lv_iconst (v := 0) hx hb dX8_touch_282 (by decide) ?_
                      refine lv_goto (tgt := 288) hx hb dX8_touch_283 (by decide) ?_
                      have e_40 : (X8_touch11_j288 tb count did move) = 0 := by rw [X8_touch11_j288]; simp only [eq_false c_35, ↓reduceIte]
                      refine W.eq (g2 := F0 m 288 ls [.int (X8_touch11_j288 tb count did move), .int 5, .ref (AM 2)]) (by simp only [e_40]) ?_
                      exact jn_36 _ _ _ (by (try simp only [e_40]); exact hP) (by (try simp only [e_40]); exact hD) hS (by (try simp only [e_40]); exact (lv_sub hl [1, 2, 3, 4, 5] rfl))
                · intro jn_32
                  refine lv_icmp_ne (tgt := 255) hx hb dX8_touch_242 (by decide) (fun c_31 => ?_) (fun c_31 => ?_)
                  · refine lv_iload hx hb dX8_touch_255 (lv_at hl 1 rfl) ?_
                    have e_41 : (X8_touch11_j257 tb count did move) = (((X8_ofMove_r tb move 5) * (X8_touch11_j197 count did)) / 10) := by rw [X8_touch11_j257]; simp only [eq_false c_31, ↓reduceIte]
                    refine W.eq (g2 := F0 m 257 ls [.int (X8_touch11_j257 tb count did move), .int (sA 1), .int 1, .ref (AM 2)]) (by simp only [e_41]) ?_
                    exact jn_32 _ _ _ (by (try simp only [e_41]); exact hP) (by (try simp only [e_41]); exact hD) hS (by (try simp only [e_41]); exact (lv_sub hl [0, 2, 3, 4, 5, 6] rfl))
                  · refine lv_iload hx hb dX8_touch_245 (lv_at hl 1 rfl) ?_
                    refine lv_bipush (v := 6) hx hb dX8_touch_247 (by decide) ?_
                    refine lv_imul hx hb dX8_touch_249 ?_
                    refine lv_iconst (v := 5) hx hb dX8_touch_250 (by decide) ?_
                    refine lv_idiv hx hb dX8_touch_251 (by decide) ?_
                    refine lv_goto (tgt := 257) hx hb dX8_touch_252 (by decide) ?_
                    have e_42 : (X8_touch11_j257 tb count did move) = (((((X8_ofMove_r tb move 5) * (X8_touch11_j197 count did)) / 10) * 6) / 5) := by rw [X8_touch11_j257]; simp only [eq_true c_31, ↓reduceIte]
                    refine W.eq (g2 := F0 m 257 ls [.int (X8_touch11_j257 tb count did move), .int (sA 1), .int 1, .ref (AM 2)]) (by simp only [e_42]) ?_
                    exact jn_32 _ _ _ (by (try simp only [e_42]); exact hP) (by (try simp only [e_42]); exact hD) hS (by (try simp only [e_42]); exact (lv_sub hl [0, 2, 3, 4, 5, 6] rfl))
              · intro jn_28
                refine lv_icmp_ne (tgt := 226) hx hb dX8_touch_219 (by decide) (fun c_27 => ?_) (fun c_27 => ?_)
                · refine lv_iconst (v := 0) hx hb dX8_touch_226 (by decide) ?_
                  have e_43 : (X8_touch11_j227 did) = 0 := by rw [X8_touch11_j227]; simp only [eq_false c_27, ↓reduceIte]
                  refine W.eq (g2 := F0 m 227 ls [.int (X8_touch11_j227 did), .int ((X8_ofMove_r tb move 6) - (2 * ((X8_touch11_j173 count did) - 1)))]) (by simp only [e_43]) ?_
                  exact jn_28 _ _ _ (by (try simp only [e_43]); exact hP) (by (try simp only [e_43]); exact hD) hS (by (try simp only [e_43]); exact (lv_sub hl [0, 1, 2, 3, 4, 5, 6] rfl))
                · refine lv_iconst (v := 4) hx hb dX8_touch_222 (by decide) ?_
                  refine lv_goto (tgt := 227) hx hb dX8_touch_223 (by decide) ?_
                  have e_44 : (X8_touch11_j227 did) = 4 := by rw [X8_touch11_j227]; simp only [eq_true c_27, ↓reduceIte]
                  refine W.eq (g2 := F0 m 227 ls [.int (X8_touch11_j227 did), .int ((X8_ofMove_r tb move 6) - (2 * ((X8_touch11_j173 count did) - 1)))]) (by simp only [e_44]) ?_
                  exact jn_28 _ _ _ (by (try simp only [e_44]); exact hP) (by (try simp only [e_44]); exact hD) hS (by (try simp only [e_44]); exact (lv_sub hl [0, 1, 2, 3, 4, 5, 6] rfl))
            · intro jn_25
              refine lv_icmp_le (tgt := 192) hx hb dX8_touch_185 (by decide) (fun c_24 => ?_) (fun c_24 => ?_)
              · refine lv_bipush (v := 11) hx hb dX8_touch_192 (by decide) ?_
                refine lv_iload hx hb dX8_touch_194 (lv_at hl 0 rfl) ?_
                refine lv_isub hx hb dX8_touch_196 ?_
                have e_45 : (X8_touch11_j197 count did) = (11 - (X8_touch11_j173 count did)) := by rw [X8_touch11_j197]; simp only [eq_true c_24, ↓reduceIte]
                refine W.eq (g2 := F0 m 197 ls [.int (X8_touch11_j197 count did), .int (X8_ofMove_r tb move 5)]) (by simp only [e_45]) ?_
                exact jn_25 _ _ _ (by (try simp only [e_45]); exact hP) (by (try simp only [e_45]); exact hD) hS (by (try simp only [e_45]); exact (lv_sub hl [0, 1, 2, 3, 4, 5] rfl))
              · refine lv_iconst (v := 1) hx hb dX8_touch_188 (by decide) ?_
                refine lv_goto (tgt := 197) hx hb dX8_touch_189 (by decide) ?_
                have e_46 : (X8_touch11_j197 count did) = 1 := by rw [X8_touch11_j197]; simp only [eq_false c_24, ↓reduceIte]
                refine W.eq (g2 := F0 m 197 ls [.int (X8_touch11_j197 count did), .int (X8_ofMove_r tb move 5)]) (by simp only [e_46]) ?_
                exact jn_25 _ _ _ (by (try simp only [e_46]); exact hP) (by (try simp only [e_46]); exact hD) hS (by (try simp only [e_46]); exact (lv_sub hl [0, 1, 2, 3, 4, 5] rfl))
          · intro jn_22
            refine lv_icmp_ne (tgt := 172) hx hb dX8_touch_162 (by decide) (fun c_21 => ?_) (fun c_21 => ?_)
            · refine lv_iconst (v := 1) hx hb dX8_touch_172 (by decide) ?_
              have e_47 : (X8_touch11_j173 count did) = 1 := by rw [X8_touch11_j173]; simp only [eq_false c_21, ↓reduceIte]
              refine W.eq (g2 := F0 m 173 ls [.int (X8_touch11_j173 count did)]) (by simp only [e_47]) ?_
              exact jn_22 _ _ _ (by (try simp only [e_47]); exact hP) (by (try simp only [e_47]); exact hD) hS (by (try simp only [e_47]); exact (lv_sub hl [1, 2, 3, 4, 5] rfl))
            · refine lv_iload hx hb dX8_touch_165 (lv_at hl 6 rfl) ?_
              refine lv_iconst (v := 1) hx hb dX8_touch_167 (by decide) ?_
              refine lv_iadd hx hb dX8_touch_168 ?_
              refine lv_goto (tgt := 173) hx hb dX8_touch_169 (by decide) ?_
              have e_48 : (X8_touch11_j173 count did) = (count + 1) := by rw [X8_touch11_j173]; simp only [eq_true c_21, ↓reduceIte]
              refine W.eq (g2 := F0 m 173 ls [.int (X8_touch11_j173 count did)]) (by simp only [e_48]) ?_
              exact jn_22 _ _ _ (by (try simp only [e_48]); exact hP) (by (try simp only [e_48]); exact hD) hS (by (try simp only [e_48]); exact (lv_sub hl [1, 2, 3, 4, 5] rfl))
        · refine lv_iload_n hx hb dX8_touch_101 rfl (lv_at hl 5 rfl) ?_
          refine lv_if_eq (tgt := 110) hx hb dX8_touch_102 (by decide) (fun c_49 => ?_) (fun c_49 => ?_)
          · refine lv_aload_n hx hb dX8_touch_110 rfl (lv_at hl 2 rfl) ?_
            refine va_get (D := (dC, dI)) (ci := 8) (v := .ref (AM 2)) (C := RX8) (T := TX8) (N := 17) hx hb hts inw_X8_touch_X8 hown hK hP 0 rfl rfl 2 (by decide) (hts (.fieldLink RX8 13 "DuelFramesModel" "s" "[I") (List.mem_of_getElem? (i := 1) rfl)) (fun _ h9 => h9) rfl dX8_touch_111 ?_
            refine lv_iload hx hb dX8_touch_114 (lv_at hl 1 rfl) ?_
            refine lv_iconst (v := 1) hx hb dX8_touch_116 (by decide) ?_
            refine lv_iadd hx hb dX8_touch_117 ?_
            refine lv_topi (fun x_50 ex_50 => ?_)
            obtain rfl : x_50 = 1 := ex_50.trans (by decide)
            refine lv_dup2_11 hx hb dX8_touch_118 rfl rfl ?_
            refine va_iald hx hb hK hP 2 0 rfl rfl (vin rfl) dX8_touch_119 ?_
            refine lv_topi (fun x_51 ex_51 => ?_)
            obtain rfl : x_51 = (sA 1) := ex_51
            refine lv_aload_n hx hb dX8_touch_120 rfl (lv_at hl 2 rfl) ?_
            refine lv_iload_n hx hb dX8_touch_121 rfl (lv_at hl 4 rfl) ?_
            refine lv_iconst (v := 5) hx hb dX8_touch_122 (by decide) ?_
            refine vp_callSi (W.runV (As := [.int move, .int 5]) (rest := [.int (sA 1), .int 1, .ref (AM 2)]) ⟨hx, hb, hml, hown, hts⟩ (c_X8_ofMove l dC dI cY m0 AM g tb (upd sA 13 (X8_touch11_j53 tb sA move)) rd kp td wn rw br move 5 (tb_in hm (vin rfl))) (cwV 2 hts gX8_touch_X8_ofMove rfl rfl rfl (by decide +kernel) ⟨Nat.le_of_ble_eq_true rfl, Nat.le_of_ble_eq_true rfl⟩) ⟨blindR, va_recv hK hP (ci := 8) (q0 := 0) rfl rfl, fun U hU hW => ⟨rfl, rPre_of hP hK hN U hU hW⟩⟩ rfl rfl hl.1 rfl (lv_room (Nat.le_of_ble_eq_true rfl)) dX8_touch_123 ⟨Nat.zero_le _, Nat.zero_le _⟩) (fun r_52 hw => ?_)
            subst hw
            refine lv_bipush (v := 10) hx hb dX8_touch_126 (by decide) ?_
            refine lv_idiv hx hb dX8_touch_128 (by decide) ?_
            refine lv_isub hx hb dX8_touch_129 ?_
            refine va_iast hx hb hK hP hD hS 2 0 rfl rfl (vin rfl) dX8_touch_130 (fun H locs hP1 hD1 hS1 => ?_)
            clear hP hD hS
            have hP : va_P (dC, dI) vwCl [(m0, .inr (8, mdL AM g)), (AM 0, .inl (cY 0, 72, .inl tb)), (AM 2, .inl (cY 0, 22, .inl (upd (upd sA 13 (X8_touch11_j53 tb sA move)) 1 ((sA 1) - ((X8_ofMove_r tb move 5) / 10))))), (AM 3, .inl (cY 0, 22, .inl rd)), (AM 4, .inl (cY 0, 110, .inl kp)), (AM 5, .inl (cY 0, 8414, .inl td)), (AM 6, .inl (cY 0, 2, .inl wn)), (AM 13, .inl (cY 0, 4, .inl rw)), (AM 14, .inl (cY 0, 4, .inl br))] H := hP1
            have hD : va_D A [(m0, .inr (8, mdL AM g)), (AM 0, .inl (cY 0, 72, .inl tb)), (AM 2, .inl (cY 0, 22, .inl (upd (upd sA 13 (X8_touch11_j53 tb sA move)) 1 ((sA 1) - ((X8_ofMove_r tb move 5) / 10))))), (AM 3, .inl (cY 0, 22, .inl rd)), (AM 4, .inl (cY 0, 110, .inl kp)), (AM 5, .inl (cY 0, 8414, .inl td)), (AM 6, .inl (cY 0, 2, .inl wn)), (AM 13, .inl (cY 0, 4, .inl rw)), (AM 14, .inl (cY 0, 4, .inl br))] := hD1
            have hS := hS1
            clear hP1 hD1 hS1
            refine lv_aload_n hx hb dX8_touch_131 rfl (lv_at hl 2 rfl) ?_
            refine va_get (D := (dC, dI)) (ci := 8) (v := .ref (AM 2)) (C := RX8) (T := TX8) (N := 17) hx hb hts inw_X8_touch_X8 hown hK hP 0 rfl rfl 2 (by decide) (hts (.fieldLink RX8 13 "DuelFramesModel" "s" "[I") (List.mem_of_getElem? (i := 1) rfl)) (fun _ h9 => h9) rfl dX8_touch_132 ?_
            refine lv_iload hx hb dX8_touch_135 (lv_at hl 1 rfl) ?_
            refine lv_iconst (v := 3) hx hb dX8_touch_137 (by decide) ?_
            refine lv_iadd hx hb dX8_touch_138 ?_
            refine lv_topi (fun x_53 ex_53 => ?_)
            obtain rfl : x_53 = 3 := ex_53.trans (by decide)
            refine lv_iconst (v := 3) hx hb dX8_touch_139 (by decide) ?_
            refine va_iast hx hb hK hP hD hS 2 0 rfl rfl (vin rfl) dX8_touch_140 (fun H locs hP1 hD1 hS1 => ?_)
            clear hP hD hS
            have hP : va_P (dC, dI) vwCl [(m0, .inr (8, mdL AM g)), (AM 0, .inl (cY 0, 72, .inl tb)), (AM 2, .inl (cY 0, 22, .inl (upd (upd (upd sA 13 (X8_touch11_j53 tb sA move)) 1 ((sA 1) - ((X8_ofMove_r tb move 5) / 10))) 3 3))), (AM 3, .inl (cY 0, 22, .inl rd)), (AM 4, .inl (cY 0, 110, .inl kp)), (AM 5, .inl (cY 0, 8414, .inl td)), (AM 6, .inl (cY 0, 2, .inl wn)), (AM 13, .inl (cY 0, 4, .inl rw)), (AM 14, .inl (cY 0, 4, .inl br))] H := hP1
            have hD : va_D A [(m0, .inr (8, mdL AM g)), (AM 0, .inl (cY 0, 72, .inl tb)), (AM 2, .inl (cY 0, 22, .inl (upd (upd (upd sA 13 (X8_touch11_j53 tb sA move)) 1 ((sA 1) - ((X8_ofMove_r tb move 5) / 10))) 3 3))), (AM 3, .inl (cY 0, 22, .inl rd)), (AM 4, .inl (cY 0, 110, .inl kp)), (AM 5, .inl (cY 0, 8414, .inl td)), (AM 6, .inl (cY 0, 2, .inl wn)), (AM 13, .inl (cY 0, 4, .inl rw)), (AM 14, .inl (cY 0, 4, .inl br))] := hD1
            have hS := hS1
            clear hP1 hD1 hS1
            refine lv_aload_n hx hb dX8_touch_141 rfl (lv_at hl 2 rfl) ?_
            refine va_get (D := (dC, dI)) (ci := 8) (v := .ref (AM 2)) (C := RX8) (T := TX8) (N := 17) hx hb hts inw_X8_touch_X8 hown hK hP 0 rfl rfl 2 (by decide) (hts (.fieldLink RX8 13 "DuelFramesModel" "s" "[I") (List.mem_of_getElem? (i := 1) rfl)) (fun _ h9 => h9) rfl dX8_touch_142 ?_
            refine lv_iload hx hb dX8_touch_145 (lv_at hl 1 rfl) ?_
            refine lv_iconst (v := 5) hx hb dX8_touch_147 (by decide) ?_
            refine lv_iadd hx hb dX8_touch_148 ?_
            refine lv_topi (fun x_54 ex_54 => ?_)
            obtain rfl : x_54 = 5 := ex_54.trans (by decide)
            refine lv_aload_n hx hb dX8_touch_149 rfl (lv_at hl 2 rfl) ?_
            refine lv_iload_n hx hb dX8_touch_150 rfl (lv_at hl 4 rfl) ?_
            refine lv_bipush (v := 7) hx hb dX8_touch_151 (by decide) ?_
            refine vp_callSi (W.runV (As := [.int move, .int 7]) (rest := [.int 5, .ref (AM 2)]) ⟨hx, hb, hml, hown, hts⟩ (c_X8_ofMove l dC dI cY m0 AM g tb (upd (upd (upd sA 13 (X8_touch11_j53 tb sA move)) 1 ((sA 1) - ((X8_ofMove_r tb move 5) / 10))) 3 3) rd kp td wn rw br move 7 (tb_in hm (vin rfl))) (cwV 2 hts gX8_touch_X8_ofMove rfl rfl rfl (by decide +kernel) ⟨Nat.le_of_ble_eq_true rfl, Nat.le_of_ble_eq_true rfl⟩) ⟨blindR, va_recv hK hP (ci := 8) (q0 := 0) rfl rfl, fun U hU hW => ⟨rfl, rPre_of hP hK hN U hU hW⟩⟩ rfl rfl hl.1 rfl (lv_room (Nat.le_of_ble_eq_true rfl)) dX8_touch_153 ⟨Nat.zero_le _, Nat.zero_le _⟩) (fun r_55 hw => ?_)
            subst hw
            refine va_iast hx hb hK hP hD hS 2 0 rfl rfl (vin rfl) dX8_touch_156 (fun H locs hP1 hD1 hS1 => ?_)
            clear hP hD hS
            have hP : va_P (dC, dI) vwCl [(m0, .inr (8, mdL AM g)), (AM 0, .inl (cY 0, 72, .inl tb)), (AM 2, .inl (cY 0, 22, .inl (upd (upd (upd (upd sA 13 (X8_touch11_j53 tb sA move)) 1 ((sA 1) - ((X8_ofMove_r tb move 5) / 10))) 3 3) 5 (X8_ofMove_r tb move 7)))), (AM 3, .inl (cY 0, 22, .inl rd)), (AM 4, .inl (cY 0, 110, .inl kp)), (AM 5, .inl (cY 0, 8414, .inl td)), (AM 6, .inl (cY 0, 2, .inl wn)), (AM 13, .inl (cY 0, 4, .inl rw)), (AM 14, .inl (cY 0, 4, .inl br))] H := hP1
            have hD : va_D A [(m0, .inr (8, mdL AM g)), (AM 0, .inl (cY 0, 72, .inl tb)), (AM 2, .inl (cY 0, 22, .inl (upd (upd (upd (upd sA 13 (X8_touch11_j53 tb sA move)) 1 ((sA 1) - ((X8_ofMove_r tb move 5) / 10))) 3 3) 5 (X8_ofMove_r tb move 7)))), (AM 3, .inl (cY 0, 22, .inl rd)), (AM 4, .inl (cY 0, 110, .inl kp)), (AM 5, .inl (cY 0, 8414, .inl td)), (AM 6, .inl (cY 0, 2, .inl wn)), (AM 13, .inl (cY 0, 4, .inl rw)), (AM 14, .inl (cY 0, 4, .inl br))] := hD1
            have hS := hS1
            clear hP1 hD1 hS1
            refine lv_goto (tgt := 301) hx hb dX8_touch_157 (by decide) ?_
            have e_56 : (X8_touch11_j301 tb sA count did input move) = (upd (upd (upd (upd sA 13 (X8_touch11_j53 tb sA move)) 1 ((sA 1) - ((X8_ofMove_r tb move 5) / 10))) 3 3) 5 (X8_ofMove_r tb move 7)) := by rw [X8_touch11_j301]; simp only [eq_false c_11, eq_true c_49, ↓reduceIte]
            exact jn_12 _ _ _ (by (try simp only [e_56]); exact hP) (by (try simp only [e_56]); exact hD) hS (by (try simp only [e_56]); exact (lv_sub hl [1, 2, 3, 4] rfl))
          · refine lv_iload_n hx hb dX8_touch_105 rfl (lv_at hl 5 rfl) ?_
            refine lv_iconst (v := 3) hx hb dX8_touch_106 (by decide) ?_
            refine lv_icmp_ne (tgt := 160) hx hb dX8_touch_107 (by decide) (fun c_57 => ?_) (fun c_57 => ?_)
            · refine lv_iload_n hx hb dX8_touch_160 rfl (lv_at hl 5 rfl) ?_
              refine lv_iconst (v := 2) hx hb dX8_touch_161 (by decide) ?_
              refine jnW (D := (dC, dI)) (ws := [(m0, .inr (8, mdL AM g)), (AM 0, .inl (cY 0, 72, .inl tb)), (AM 2, .inl (cY 0, 22, .inl (upd sA 13 (X8_touch11_j53 tb sA move)))), (AM 3, .inl (cY 0, 22, .inl rd)), (AM 4, .inl (cY 0, 110, .inl kp)), (AM 5, .inl (cY 0, 8414, .inl td)), (AM 6, .inl (cY 0, 2, .inl wn)), (AM 13, .inl (cY 0, 4, .inl rw)), (AM 14, .inl (cY 0, 4, .inl br))]) (lv := [(6, .int 0), (0, .ref m0), (1, .int 11), (2, .int move), (3, .int did)]) (st := [.int (X8_touch11_j173 count did)]) (J := 173) (n := 13) (A := A) (H0 := s.heap) ?_ ?_
              · intro H locs ls hP hD hS hl
                refine lv_istore (lv' := [(10, .int (X8_touch11_j173 count did)), (6, .int 0), (0, .ref m0), (1, .int 11), (2, .int move), (3, .int did)]) hx hb dX8_touch_173 hl (by decide) rfl (fun ls hl => ?_)
                refine lv_aload_n hx hb dX8_touch_175 rfl (lv_at hl 2 rfl) ?_
                refine lv_iload_n hx hb dX8_touch_176 rfl (lv_at hl 4 rfl) ?_
                refine lv_iconst (v := 5) hx hb dX8_touch_177 (by decide) ?_
                refine vp_callSi (W.runV (As := [.int move, .int 5]) (rest := []) ⟨hx, hb, hml, hown, hts⟩ (c_X8_ofMove l dC dI cY m0 AM g tb (upd sA 13 (X8_touch11_j53 tb sA move)) rd kp td wn rw br move 5 (tb_in hm (vin rfl))) (cwV 2 hts gX8_touch_X8_ofMove rfl rfl rfl (by decide +kernel) ⟨Nat.le_of_ble_eq_true rfl, Nat.le_of_ble_eq_true rfl⟩) ⟨blindR, va_recv hK hP (ci := 8) (q0 := 0) rfl rfl, fun U hU hW => ⟨rfl, rPre_of hP hK hN U hU hW⟩⟩ rfl rfl hl.1 rfl (lv_room (Nat.le_of_ble_eq_true rfl)) dX8_touch_178 ⟨Nat.zero_le _, Nat.zero_le _⟩) (fun r_60 hw => ?_)
                subst hw
                refine lv_iload hx hb dX8_touch_181 (lv_at hl 0 rfl) ?_
                refine lv_bipush (v := 10) hx hb dX8_touch_183 (by decide) ?_
                refine jnW (D := (dC, dI)) (ws := [(m0, .inr (8, mdL AM g)), (AM 0, .inl (cY 0, 72, .inl tb)), (AM 2, .inl (cY 0, 22, .inl (upd sA 13 (X8_touch11_j53 tb sA move)))), (AM 3, .inl (cY 0, 22, .inl rd)), (AM 4, .inl (cY 0, 110, .inl kp)), (AM 5, .inl (cY 0, 8414, .inl td)), (AM 6, .inl (cY 0, 2, .inl wn)), (AM 13, .inl (cY 0, 4, .inl rw)), (AM 14, .inl (cY 0, 4, .inl br))]) (lv := [(10, .int (X8_touch11_j173 count did)), (6, .int 0), (0, .ref m0), (1, .int 11), (2, .int move), (3, .int did)]) (st := [.int (X8_touch11_j197 count did), .int (X8_ofMove_r tb move 5)]) (J := 197) (n := 13) (A := A) (H0 := s.heap) ?_ ?_
                · intro H locs ls hP hD hS hl
                  refine lv_imul hx hb dX8_touch_197 ?_
                  refine lv_bipush (v := 10) hx hb dX8_touch_198 (by decide) ?_
                  refine lv_idiv hx hb dX8_touch_200 (by decide) ?_
                  refine lv_istore (lv' := [(11, .int (((X8_ofMove_r tb move 5) * (X8_touch11_j197 count did)) / 10)), (10, .int (X8_touch11_j173 count did)), (6, .int 0), (0, .ref m0), (1, .int 11), (2, .int move), (3, .int did)]) hx hb dX8_touch_201 hl (by decide) rfl (fun ls hl => ?_)
                  refine lv_aload_n hx hb dX8_touch_203 rfl (lv_at hl 3 rfl) ?_
                  refine lv_iload_n hx hb dX8_touch_204 rfl (lv_at hl 5 rfl) ?_
                  refine lv_bipush (v := 6) hx hb dX8_touch_205 (by decide) ?_
                  refine vp_callSi (W.runV (As := [.int move, .int 6]) (rest := []) ⟨hx, hb, hml, hown, hts⟩ (c_X8_ofMove l dC dI cY m0 AM g tb (upd sA 13 (X8_touch11_j53 tb sA move)) rd kp td wn rw br move 6 (tb_in hm (vin rfl))) (cwV 2 hts gX8_touch_X8_ofMove rfl rfl rfl (by decide +kernel) ⟨Nat.le_of_ble_eq_true rfl, Nat.le_of_ble_eq_true rfl⟩) ⟨blindR, va_recv hK hP (ci := 8) (q0 := 0) rfl rfl, fun U hU hW => ⟨rfl, rPre_of hP hK hN U hU hW⟩⟩ rfl rfl hl.1 rfl (lv_room (Nat.le_of_ble_eq_true rfl)) dX8_touch_207 ⟨Nat.zero_le _, Nat.zero_le _⟩) (fun r_63 hw => ?_)
                  subst hw
                  refine lv_iconst (v := 2) hx hb dX8_touch_210 (by decide) ?_
                  refine lv_iload hx hb dX8_touch_211 (lv_at hl 1 rfl) ?_
                  refine lv_iconst (v := 1) hx hb dX8_touch_213 (by decide) ?_
                  refine lv_isub hx hb dX8_touch_214 ?_
                  refine lv_imul hx hb dX8_touch_215 ?_
                  refine lv_isub hx hb dX8_touch_216 ?_
                  refine lv_iload_n hx hb dX8_touch_217 rfl (lv_at hl 6 rfl) ?_
                  refine lv_iconst (v := 1) hx hb dX8_touch_218 (by decide) ?_
                  refine jnW (D := (dC, dI)) (ws := [(m0, .inr (8, mdL AM g)), (AM 0, .inl (cY 0, 72, .inl tb)), (AM 2, .inl (cY 0, 22, .inl (upd sA 13 (X8_touch11_j53 tb sA move)))), (AM 3, .inl (cY 0, 22, .inl rd)), (AM 4, .inl (cY 0, 110, .inl kp)), (AM 5, .inl (cY 0, 8414, .inl td)), (AM 6, .inl (cY 0, 2, .inl wn)), (AM 13, .inl (cY 0, 4, .inl rw)), (AM 14, .inl (cY 0, 4, .inl br))]) (lv := [(11, .int (((X8_ofMove_r tb move 5) * (X8_touch11_j197 count did)) / 10)), (10, .int (X8_touch11_j173 count did)), (6, .int 0), (0, .ref m0), (1, .int 11), (2, .int move), (3, .int did)]) (st := [.int (X8_touch11_j227 did), .int ((X8_ofMove_r tb move 6) - (2 * ((X8_touch11_j173 count did) - 1)))]) (J := 227) (n := 13) (A := A) (H0 := s.heap) ?_ ?_
                  · intro H locs ls hP hD hS hl
                    refine lv_iadd hx hb dX8_touch_227 ?_
                    refine lv_istore (lv' := [(12, .int (((X8_ofMove_r tb move 6) - (2 * ((X8_touch11_j173 count did) - 1))) + (X8_touch11_j227 did))), (11, .int (((X8_ofMove_r tb move 5) * (X8_touch11_j197 count did)) / 10)), (10, .int (X8_touch11_j173 count did)), (6, .int 0), (0, .ref m0), (1, .int 11), (2, .int move), (3, .int did)]) hx hb dX8_touch_228 hl (by decide) rfl (fun ls hl => ?_)
                    refine lv_aload_n hx hb dX8_touch_230 rfl (lv_at hl 4 rfl) ?_
                    refine va_get (D := (dC, dI)) (ci := 8) (v := .ref (AM 2)) (C := RX8) (T := TX8) (N := 17) hx hb hts inw_X8_touch_X8 hown hK hP 0 rfl rfl 2 (by decide) (hts (.fieldLink RX8 13 "DuelFramesModel" "s" "[I") (List.mem_of_getElem? (i := 1) rfl)) (fun _ h9 => h9) rfl dX8_touch_231 ?_
                    refine lv_iload hx hb dX8_touch_234 (lv_at hl 3 rfl) ?_
                    refine lv_iconst (v := 1) hx hb dX8_touch_236 (by decide) ?_
                    refine lv_iadd hx hb dX8_touch_237 ?_
                    refine lv_topi (fun x_66 ex_66 => ?_)
                    obtain rfl : x_66 = 1 := ex_66.trans (by decide)
                    refine lv_dup2_11 hx hb dX8_touch_238 rfl rfl ?_
                    refine va_iald hx hb hK hP 2 0 rfl rfl (vin rfl) dX8_touch_239 ?_
                    refine lv_topi (fun x_67 ex_67 => ?_)
                    obtain rfl : x_67 = (sA 1) := ex_67
                    refine lv_iload_n hx hb dX8_touch_240 rfl (lv_at hl 7 rfl) ?_
                    refine lv_iconst (v := 1) hx hb dX8_touch_241 (by decide) ?_
                    refine jnW (D := (dC, dI)) (ws := [(m0, .inr (8, mdL AM g)), (AM 0, .inl (cY 0, 72, .inl tb)), (AM 2, .inl (cY 0, 22, .inl (upd sA 13 (X8_touch11_j53 tb sA move)))), (AM 3, .inl (cY 0, 22, .inl rd)), (AM 4, .inl (cY 0, 110, .inl kp)), (AM 5, .inl (cY 0, 8414, .inl td)), (AM 6, .inl (cY 0, 2, .inl wn)), (AM 13, .inl (cY 0, 4, .inl rw)), (AM 14, .inl (cY 0, 4, .inl br))]) (lv := [(12, .int (((X8_ofMove_r tb move 6) - (2 * ((X8_touch11_j173 count did) - 1))) + (X8_touch11_j227 did))), (10, .int (X8_touch11_j173 count did)), (6, .int 0), (0, .ref m0), (1, .int 11), (2, .int move)]) (st := [.int (X8_touch11_j257 tb count did move), .int (sA 1), .int 1, .ref (AM 2)]) (J := 257) (n := 13) (A := A) (H0 := s.heap) ?_ ?_
                    · intro H locs ls hP hD hS hl
                      refine lv_isub hx hb dX8_touch_257 ?_
                      refine va_iast hx hb hK hP hD hS 2 0 rfl rfl (vin rfl) dX8_touch_258 (fun H locs hP1 hD1 hS1 => ?_)
                      clear hP hD hS
                      have hP : va_P (dC, dI) vwCl [(m0, .inr (8, mdL AM g)), (AM 0, .inl (cY 0, 72, .inl tb)), (AM 2, .inl (cY 0, 22, .inl (upd (upd sA 13 (X8_touch11_j53 tb sA move)) 1 ((sA 1) - (X8_touch11_j257 tb count did move))))), (AM 3, .inl (cY 0, 22, .inl rd)), (AM 4, .inl (cY 0, 110, .inl kp)), (AM 5, .inl (cY 0, 8414, .inl td)), (AM 6, .inl (cY 0, 2, .inl wn)), (AM 13, .inl (cY 0, 4, .inl rw)), (AM 14, .inl (cY 0, 4, .inl br))] H := hP1
                      have hD : va_D A [(m0, .inr (8, mdL AM g)), (AM 0, .inl (cY 0, 72, .inl tb)), (AM 2, .inl (cY 0, 22, .inl (upd (upd sA 13 (X8_touch11_j53 tb sA move)) 1 ((sA 1) - (X8_touch11_j257 tb count did move))))), (AM 3, .inl (cY 0, 22, .inl rd)), (AM 4, .inl (cY 0, 110, .inl kp)), (AM 5, .inl (cY 0, 8414, .inl td)), (AM 6, .inl (cY 0, 2, .inl wn)), (AM 13, .inl (cY 0, 4, .inl rw)), (AM 14, .inl (cY 0, 4, .inl br))] := hD1
                      have hS := hS1
                      clear hP1 hD1 hS1
                      refine lv_aload_n hx hb dX8_touch_259 rfl (lv_at hl 3 rfl) ?_
                      refine va_get (D := (dC, dI)) (ci := 8) (v := .ref (AM 2)) (C := RX8) (T := TX8) (N := 17) hx hb hts inw_X8_touch_X8 hown hK hP 0 rfl rfl 2 (by decide) (hts (.fieldLink RX8 13 "DuelFramesModel" "s" "[I") (List.mem_of_getElem? (i := 1) rfl)) (fun _ h9 => h9) rfl dX8_touch_260 ?_
                      refine lv_iload hx hb dX8_touch_263 (lv_at hl 2 rfl) ?_
                      refine lv_iconst (v := 3) hx hb dX8_touch_265 (by decide) ?_
                      refine lv_iadd hx hb dX8_touch_266 ?_
                      refine lv_topi (fun x_70 ex_70 => ?_)
                      obtain rfl : x_70 = 3 := ex_70.trans (by decide)
                      refine lv_iconst (v := 2) hx hb dX8_touch_267 (by decide) ?_
                      refine va_iast hx hb hK hP hD hS 2 0 rfl rfl (vin rfl) dX8_touch_268 (fun H locs hP1 hD1 hS1 => ?_)
                      clear hP hD hS
                      have hP : va_P (dC, dI) vwCl [(m0, .inr (8, mdL AM g)), (AM 0, .inl (cY 0, 72, .inl tb)), (AM 2, .inl (cY 0, 22, .inl (upd (upd (upd sA 13 (X8_touch11_j53 tb sA move)) 1 ((sA 1) - (X8_touch11_j257 tb count did move))) 3 2))), (AM 3, .inl (cY 0, 22, .inl rd)), (AM 4, .inl (cY 0, 110, .inl kp)), (AM 5, .inl (cY 0, 8414, .inl td)), (AM 6, .inl (cY 0, 2, .inl wn)), (AM 13, .inl (cY 0, 4, .inl rw)), (AM 14, .inl (cY 0, 4, .inl br))] H := hP1
                      have hD : va_D A [(m0, .inr (8, mdL AM g)), (AM 0, .inl (cY 0, 72, .inl tb)), (AM 2, .inl (cY 0, 22, .inl (upd (upd (upd sA 13 (X8_touch11_j53 tb sA move)) 1 ((sA 1) - (X8_touch11_j257 tb count did move))) 3 2))), (AM 3, .inl (cY 0, 22, .inl rd)), (AM 4, .inl (cY 0, 110, .inl kp)), (AM 5, .inl (cY 0, 8414, .inl td)), (AM 6, .inl (cY 0, 2, .inl wn)), (AM 13, .inl (cY 0, 4, .inl rw)), (AM 14, .inl (cY 0, 4, .inl br))] := hD1
                      have hS := hS1
                      clear hP1 hD1 hS1
                      refine lv_aload_n hx hb dX8_touch_269 rfl (lv_at hl 3 rfl) ?_
                      refine va_get (D := (dC, dI)) (ci := 8) (v := .ref (AM 2)) (C := RX8) (T := TX8) (N := 17) hx hb hts inw_X8_touch_X8 hown hK hP 0 rfl rfl 2 (by decide) (hts (.fieldLink RX8 13 "DuelFramesModel" "s" "[I") (List.mem_of_getElem? (i := 1) rfl)) (fun _ h9 => h9) rfl dX8_touch_270 ?_
                      refine lv_iload hx hb dX8_touch_273 (lv_at hl 2 rfl) ?_
                      refine lv_iconst (v := 5) hx hb dX8_touch_275 (by decide) ?_
                      refine lv_iadd hx hb dX8_touch_276 ?_
                      refine lv_topi (fun x_71 ex_71 => ?_)
                      obtain rfl : x_71 = 5 := ex_71.trans (by decide)
                      refine lv_iload hx hb dX8_touch_277 (lv_at hl 0 rfl) ?_
                      refine jnW (D := (dC, dI)) (ws := [(m0, .inr (8, mdL AM g)), (AM 0, .inl (cY 0, 72, .inl tb)), (AM 2, .inl (cY 0, 22, .inl (upd (upd (upd sA 13 (X8_touch11_j53 tb sA move)) 1 ((sA 1) - (X8_touch11_j257 tb count did move))) 3 2))), (AM 3, .inl (cY 0, 22, .inl rd)), (AM 4, .inl (cY 0, 110, .inl kp)), (AM 5, .inl (cY 0, 8414, .inl td)), (AM 6, .inl (cY 0, 2, .inl wn)), (AM 13, .inl (cY 0, 4, .inl rw)), (AM 14, .inl (cY 0, 4, .inl br))]) (lv := [(10, .int (X8_touch11_j173 count did)), (6, .int 0), (0, .ref m0), (1, .int 11), (2, .int move)]) (st := [.int (X8_touch11_j288 tb count did move), .int 5, .ref (AM 2)]) (J := 288) (n := 13) (A := A) (H0 := s.heap) ?_ ?_
                      · intro H locs ls hP hD hS hl
                        refine va_iast hx hb hK hP hD hS 2 0 rfl rfl (vin rfl) dX8_touch_288 (fun H locs hP1 hD1 hS1 => ?_)
                        clear hP hD hS
                        have hP : va_P (dC, dI) vwCl [(m0, .inr (8, mdL AM g)), (AM 0, .inl (cY 0, 72, .inl tb)), (AM 2, .inl (cY 0, 22, .inl (upd (upd (upd (upd sA 13 (X8_touch11_j53 tb sA move)) 1 ((sA 1) - (X8_touch11_j257 tb count did move))) 3 2) 5 (X8_touch11_j288 tb count did move)))), (AM 3, .inl (cY 0, 22, .inl rd)), (AM 4, .inl (cY 0, 110, .inl kp)), (AM 5, .inl (cY 0, 8414, .inl td)), (AM 6, .inl (cY 0, 2, .inl wn)), (AM 13, .inl (cY 0, 4, .inl rw)), (AM 14, .inl (cY 0, 4, .inl br))] H := hP1
                        have hD : va_D A [(m0, .inr (8, mdL AM g)), (AM 0, .inl (cY 0, 72, .inl tb)), (AM 2, .inl (cY 0, 22, .inl (upd (upd (upd (upd sA 13 (X8_touch11_j53 tb sA move)) 1 ((sA 1) - (X8_touch11_j257 tb count did move))) 3 2) 5 (X8_touch11_j288 tb count did move)))), (AM 3, .inl (cY 0, 22, .inl rd)), (AM 4, .inl (cY 0, 110, .inl kp)), (AM 5, .inl (cY 0, 8414, .inl td)), (AM 6, .inl (cY 0, 2, .inl wn)), (AM 13, .inl (cY 0, 4, .inl rw)), (AM 14, .inl (cY 0, 4, .inl br))] := hD1
                        have hS := hS1
                        clear hP1 hD1 hS1
                        refine lv_aload_n hx hb dX8_touch_289 rfl (lv_at hl 2 rfl) ?_
                        refine va_get (D := (dC, dI)) (ci := 8) (v := .ref (AM 2)) (C := RX8) (T := TX8) (N := 17) hx hb hts inw_X8_touch_X8 hown hK hP 0 rfl rfl 2 (by decide) (hts (.fieldLink RX8 13 "DuelFramesModel" "s" "[I") (List.mem_of_getElem? (i := 1) rfl)) (fun _ h9 => h9) rfl dX8_touch_290 ?_
                        refine lv_iload hx hb dX8_touch_293 (lv_at hl 1 rfl) ?_
                        refine lv_bipush (v := 6) hx hb dX8_touch_295 (by decide) ?_
                        refine lv_iadd hx hb dX8_touch_297 ?_
                        refine lv_topi (fun x_74 ex_74 => ?_)
                        obtain rfl : x_74 = 6 := ex_74.trans (by decide)
                        refine lv_iload hx hb dX8_touch_298 (lv_at hl 0 rfl) ?_
                        refine va_iast hx hb hK hP hD hS 2 0 rfl rfl (vin rfl) dX8_touch_300 (fun H locs hP1 hD1 hS1 => ?_)
                        clear hP hD hS
                        have hP : va_P (dC, dI) vwCl [(m0, .inr (8, mdL AM g)), (AM 0, .inl (cY 0, 72, .inl tb)), (AM 2, .inl (cY 0, 22, .inl (upd (upd (upd (upd (upd sA 13 (X8_touch11_j53 tb sA move)) 1 ((sA 1) - (X8_touch11_j257 tb count did move))) 3 2) 5 (X8_touch11_j288 tb count did move)) 6 (X8_touch11_j173 count did)))), (AM 3, .inl (cY 0, 22, .inl rd)), (AM 4, .inl (cY 0, 110, .inl kp)), (AM 5, .inl (cY 0, 8414, .inl td)), (AM 6, .inl (cY 0, 2, .inl wn)), (AM 13, .inl (cY 0, 4, .inl rw)), (AM 14, .inl (cY 0, 4, .inl br))] H := hP1
                        have hD : va_D A [(m0, .inr (8, mdL AM g)), (AM 0, .inl (cY 0, 72, .inl tb)), (AM 2, .inl (cY 0, 22, .inl (upd (upd (upd (upd (upd sA 13 (X8_touch11_j53 tb sA move)) 1 ((sA 1) - (X8_touch11_j257 tb count did move))) 3 2) 5 (X8_touch11_j288 tb count did move)) 6 (X8_touch11_j173 count did)))), (AM 3, .inl (cY 0, 22, .inl rd)), (AM 4, .inl (cY 0, 110, .inl kp)), (AM 5, .inl (cY 0, 8414, .inl td)), (AM 6, .inl (cY 0, 2, .inl wn)), (AM 13, .inl (cY 0, 4, .inl rw)), (AM 14, .inl (cY 0, 4, .inl br))] := hD1
                        have hS := hS1
                        clear hP1 hD1 hS1
                        have e_75 : (X8_touch11_j301 tb sA count did input move) = (upd (upd (upd (upd (upd sA 13 (X8_touch11_j53 tb sA move)) 1 ((sA 1) - (X8_touch11_j257 tb count did move))) 3 2) 5 (X8_touch11_j288 tb count did move)) 6 (X8_touch11_j173 count did)) := by rw [X8_touch11_j301]; simp only [eq_false c_11, eq_false c_49, eq_false c_57, ↓reduceIte]
                        exact jn_12 _ _ _ (by (try simp only [e_75]); exact hP) (by (try simp only [e_75]); exact hD) hS (by (try simp only [e_75]); exact (lv_sub hl [1, 2, 3, 4] rfl))
                      · intro jn_73
                        refine lv_if_ge (tgt := 286) hx hb dX8_touch_279 (by decide) (fun c_72 => ?_) (fun c_72 => ?_)
                        · refine lv_iload hx hb dX8_touch_286 (lv_at hl 0 rfl) ?_
                          have e_76 : (X8_touch11_j288 tb count did move) = (((X8_ofMove_r tb move 6) - (2 * ((X8_touch11_j173 count did) - 1))) + (X8_touch11_j227 did)) := by rw [X8_touch11_j288]; simp only [eq_true c_72, ↓reduceIte]
                          refine W.eq (g2 := F0 m 288 ls [.int (X8_touch11_j288 tb count did move), .int 5, .ref (AM 2)]) (by simp only [e_76]) ?_
                          exact jn_73 _ _ _ (by (try simp only [e_76]); exact hP) (by (try simp only [e_76]); exact hD) hS (by (try simp only [e_76]); exact (lv_sub hl [1, 2, 3, 4, 5] rfl))
                        · refine lv_iconst (v := 0) hx hb dX8_touch_282 (by decide) ?_
                          refine lv_goto (tgt := 288) hx hb dX8_touch_283 (by decide) ?_
                          have e_77 : (X8_touch11_j288 tb count did move) = 0 := by rw [X8_touch11_j288]; simp only [eq_false c_72, ↓reduceIte]
                          refine W.eq (g2 := F0 m 288 ls [.int (X8_touch11_j288 tb count did move), .int 5, .ref (AM 2)]) (by simp only [e_77]) ?_
                          exact jn_73 _ _ _ (by (try simp only [e_77]); exact hP) (by (try simp only [e_77]); exact hD) hS (by (try simp only [e_77]); exact (lv_sub hl [1, 2, 3, 4, 5] rfl))
                    · intro jn_69
                      refine lv_icmp_ne (tgt := 255) hx hb dX8_touch_242 (by decide) (fun c_68 => ?_) (fun c_68 => ?_)
                      · refine lv_iload hx hb dX8_touch_255 (lv_at hl 1 rfl) ?_
                        have e_78 : (X8_touch11_j257 tb count did move) = (((X8_ofMove_r tb move 5) * (X8_touch11_j197 count did)) / 10) := by rw [X8_touch11_j257]; simp only [eq_false c_68, ↓reduceIte]
                        refine W.eq (g2 := F0 m 257 ls [.int (X8_touch11_j257 tb count did move), .int (sA 1), .int 1, .ref (AM 2)]) (by simp only [e_78]) ?_
                        exact jn_69 _ _ _ (by (try simp only [e_78]); exact hP) (by (try simp only [e_78]); exact hD) hS (by (try simp only [e_78]); exact (lv_sub hl [0, 2, 3, 4, 5, 6] rfl))
                      · refine lv_iload hx hb dX8_touch_245 (lv_at hl 1 rfl) ?_
                        refine lv_bipush (v := 6) hx hb dX8_touch_247 (by decide) ?_
                        refine lv_imul hx hb dX8_touch_249 ?_
                        refine lv_iconst (v := 5) hx hb dX8_touch_250 (by decide) ?_
                        refine lv_idiv hx hb dX8_touch_251 (by decide) ?_
                        refine lv_goto (tgt := 257) hx hb dX8_touch_252 (by decide) ?_
                        have e_79 : (X8_touch11_j257 tb count did move) = (((((X8_ofMove_r tb move 5) * (X8_touch11_j197 count did)) / 10) * 6) / 5) := by rw [X8_touch11_j257]; simp only [eq_true c_68, ↓reduceIte]
                        refine W.eq (g2 := F0 m 257 ls [.int (X8_touch11_j257 tb count did move), .int (sA 1), .int 1, .ref (AM 2)]) (by simp only [e_79]) ?_
                        exact jn_69 _ _ _ (by (try simp only [e_79]); exact hP) (by (try simp only [e_79]); exact hD) hS (by (try simp only [e_79]); exact (lv_sub hl [0, 2, 3, 4, 5, 6] rfl))
                  · intro jn_65
                    refine lv_icmp_ne (tgt := 226) hx hb dX8_touch_219 (by decide) (fun c_64 => ?_) (fun c_64 => ?_)
                    · refine lv_iconst (v := 0) hx hb dX8_touch_226 (by decide) ?_
                      have e_80 : (X8_touch11_j227 did) = 0 := by rw [X8_touch11_j227]; simp only [eq_false c_64, ↓reduceIte]
                      refine W.eq (g2 := F0 m 227 ls [.int (X8_touch11_j227 did), .int ((X8_ofMove_r tb move 6) - (2 * ((X8_touch11_j173 count did) - 1)))]) (by simp only [e_80]) ?_
                      exact jn_65 _ _ _ (by (try simp only [e_80]); exact hP) (by (try simp only [e_80]); exact hD) hS (by (try simp only [e_80]); exact (lv_sub hl [0, 1, 2, 3, 4, 5, 6] rfl))
                    · refine lv_iconst (v := 4) hx hb dX8_touch_222 (by decide) ?_
                      refine lv_goto (tgt := 227) hx hb dX8_touch_223 (by decide) ?_
                      have e_81 : (X8_touch11_j227 did) = 4 := by rw [X8_touch11_j227]; simp only [eq_true c_64, ↓reduceIte]
                      refine W.eq (g2 := F0 m 227 ls [.int (X8_touch11_j227 did), .int ((X8_ofMove_r tb move 6) - (2 * ((X8_touch11_j173 count did) - 1)))]) (by simp only [e_81]) ?_
                      exact jn_65 _ _ _ (by (try simp only [e_81]); exact hP) (by (try simp only [e_81]); exact hD) hS (by (try simp only [e_81]); exact (lv_sub hl [0, 1, 2, 3, 4, 5, 6] rfl))
                · intro jn_62
                  refine lv_icmp_le (tgt := 192) hx hb dX8_touch_185 (by decide) (fun c_61 => ?_) (fun c_61 => ?_)
                  · refine lv_bipush (v := 11) hx hb dX8_touch_192 (by decide) ?_
                    refine lv_iload hx hb dX8_touch_194 (lv_at hl 0 rfl) ?_
                    refine lv_isub hx hb dX8_touch_196 ?_
                    have e_82 : (X8_touch11_j197 count did) = (11 - (X8_touch11_j173 count did)) := by rw [X8_touch11_j197]; simp only [eq_true c_61, ↓reduceIte]
                    refine W.eq (g2 := F0 m 197 ls [.int (X8_touch11_j197 count did), .int (X8_ofMove_r tb move 5)]) (by simp only [e_82]) ?_
                    exact jn_62 _ _ _ (by (try simp only [e_82]); exact hP) (by (try simp only [e_82]); exact hD) hS (by (try simp only [e_82]); exact (lv_sub hl [0, 1, 2, 3, 4, 5] rfl))
                  · refine lv_iconst (v := 1) hx hb dX8_touch_188 (by decide) ?_
                    refine lv_goto (tgt := 197) hx hb dX8_touch_189 (by decide) ?_
                    have e_83 : (X8_touch11_j197 count did) = 1 := by rw [X8_touch11_j197]; simp only [eq_false c_61, ↓reduceIte]
                    refine W.eq (g2 := F0 m 197 ls [.int (X8_touch11_j197 count did), .int (X8_ofMove_r tb move 5)]) (by simp only [e_83]) ?_
                    exact jn_62 _ _ _ (by (try simp only [e_83]); exact hP) (by (try simp only [e_83]); exact hD) hS (by (try simp only [e_83]); exact (lv_sub hl [0, 1, 2, 3, 4, 5] rfl))
              · intro jn_59
                refine lv_icmp_ne (tgt := 172) hx hb dX8_touch_162 (by decide) (fun c_58 => ?_) (fun c_58 => ?_)
                · refine lv_iconst (v := 1) hx hb dX8_touch_172 (by decide) ?_
                  have e_84 : (X8_touch11_j173 count did) = 1 := by rw [X8_touch11_j173]; simp only [eq_false c_58, ↓reduceIte]
                  refine W.eq (g2 := F0 m 173 ls [.int (X8_touch11_j173 count did)]) (by simp only [e_84]) ?_
                  exact jn_59 _ _ _ (by (try simp only [e_84]); exact hP) (by (try simp only [e_84]); exact hD) hS (by (try simp only [e_84]); exact (lv_sub hl [1, 2, 3, 4, 5] rfl))
                · refine lv_iload hx hb dX8_touch_165 (lv_at hl 6 rfl) ?_
                  refine lv_iconst (v := 1) hx hb dX8_touch_167 (by decide) ?_
                  refine lv_iadd hx hb dX8_touch_168 ?_
                  refine lv_goto (tgt := 173) hx hb dX8_touch_169 (by decide) ?_
                  have e_85 : (X8_touch11_j173 count did) = (count + 1) := by rw [X8_touch11_j173]; simp only [eq_true c_58, ↓reduceIte]
                  refine W.eq (g2 := F0 m 173 ls [.int (X8_touch11_j173 count did)]) (by simp only [e_85]) ?_
                  exact jn_59 _ _ _ (by (try simp only [e_85]); exact hP) (by (try simp only [e_85]); exact hD) hS (by (try simp only [e_85]); exact (lv_sub hl [1, 2, 3, 4, 5] rfl))
            · refine lv_aload_n hx hb dX8_touch_110 rfl (lv_at hl 2 rfl) ?_
              refine va_get (D := (dC, dI)) (ci := 8) (v := .ref (AM 2)) (C := RX8) (T := TX8) (N := 17) hx hb hts inw_X8_touch_X8 hown hK hP 0 rfl rfl 2 (by decide) (hts (.fieldLink RX8 13 "DuelFramesModel" "s" "[I") (List.mem_of_getElem? (i := 1) rfl)) (fun _ h9 => h9) rfl dX8_touch_111 ?_
              refine lv_iload hx hb dX8_touch_114 (lv_at hl 1 rfl) ?_
              refine lv_iconst (v := 1) hx hb dX8_touch_116 (by decide) ?_
              refine lv_iadd hx hb dX8_touch_117 ?_
              refine lv_topi (fun x_86 ex_86 => ?_)
              obtain rfl : x_86 = 1 := ex_86.trans (by decide)
              refine lv_dup2_11 hx hb dX8_touch_118 rfl rfl ?_
              refine va_iald hx hb hK hP 2 0 rfl rfl (vin rfl) dX8_touch_119 ?_
              refine lv_topi (fun x_87 ex_87 => ?_)
              obtain rfl : x_87 = (sA 1) := ex_87
              refine lv_aload_n hx hb dX8_touch_120 rfl (lv_at hl 2 rfl) ?_
              refine lv_iload_n hx hb dX8_touch_121 rfl (lv_at hl 4 rfl) ?_
              refine lv_iconst (v := 5) hx hb dX8_touch_122 (by decide) ?_
              refine vp_callSi (W.runV (As := [.int move, .int 5]) (rest := [.int (sA 1), .int 1, .ref (AM 2)]) ⟨hx, hb, hml, hown, hts⟩ (c_X8_ofMove l dC dI cY m0 AM g tb (upd sA 13 (X8_touch11_j53 tb sA move)) rd kp td wn rw br move 5 (tb_in hm (vin rfl))) (cwV 2 hts gX8_touch_X8_ofMove rfl rfl rfl (by decide +kernel) ⟨Nat.le_of_ble_eq_true rfl, Nat.le_of_ble_eq_true rfl⟩) ⟨blindR, va_recv hK hP (ci := 8) (q0 := 0) rfl rfl, fun U hU hW => ⟨rfl, rPre_of hP hK hN U hU hW⟩⟩ rfl rfl hl.1 rfl (lv_room (Nat.le_of_ble_eq_true rfl)) dX8_touch_123 ⟨Nat.zero_le _, Nat.zero_le _⟩) (fun r_88 hw => ?_)
              subst hw
              refine lv_bipush (v := 10) hx hb dX8_touch_126 (by decide) ?_
              refine lv_idiv hx hb dX8_touch_128 (by decide) ?_
              refine lv_isub hx hb dX8_touch_129 ?_
              refine va_iast hx hb hK hP hD hS 2 0 rfl rfl (vin rfl) dX8_touch_130 (fun H locs hP1 hD1 hS1 => ?_)
              clear hP hD hS
              have hP : va_P (dC, dI) vwCl [(m0, .inr (8, mdL AM g)), (AM 0, .inl (cY 0, 72, .inl tb)), (AM 2, .inl (cY 0, 22, .inl (upd (upd sA 13 (X8_touch11_j53 tb sA move)) 1 ((sA 1) - ((X8_ofMove_r tb move 5) / 10))))), (AM 3, .inl (cY 0, 22, .inl rd)), (AM 4, .inl (cY 0, 110, .inl kp)), (AM 5, .inl (cY 0, 8414, .inl td)), (AM 6, .inl (cY 0, 2, .inl wn)), (AM 13, .inl (cY 0, 4, .inl rw)), (AM 14, .inl (cY 0, 4, .inl br))] H := hP1
              have hD : va_D A [(m0, .inr (8, mdL AM g)), (AM 0, .inl (cY 0, 72, .inl tb)), (AM 2, .inl (cY 0, 22, .inl (upd (upd sA 13 (X8_touch11_j53 tb sA move)) 1 ((sA 1) - ((X8_ofMove_r tb move 5) / 10))))), (AM 3, .inl (cY 0, 22, .inl rd)), (AM 4, .inl (cY 0, 110, .inl kp)), (AM 5, .inl (cY 0, 8414, .inl td)), (AM 6, .inl (cY 0, 2, .inl wn)), (AM 13, .inl (cY 0, 4, .inl rw)), (AM 14, .inl (cY 0, 4, .inl br))] := hD1
              have hS := hS1
              clear hP1 hD1 hS1
              refine lv_aload_n hx hb dX8_touch_131 rfl (lv_at hl 2 rfl) ?_
              refine va_get (D := (dC, dI)) (ci := 8) (v := .ref (AM 2)) (C := RX8) (T := TX8) (N := 17) hx hb hts inw_X8_touch_X8 hown hK hP 0 rfl rfl 2 (by decide) (hts (.fieldLink RX8 13 "DuelFramesModel" "s" "[I") (List.mem_of_getElem? (i := 1) rfl)) (fun _ h9 => h9) rfl dX8_touch_132 ?_
              refine lv_iload hx hb dX8_touch_135 (lv_at hl 1 rfl) ?_
              refine lv_iconst (v := 3) hx hb dX8_touch_137 (by decide) ?_
              refine lv_iadd hx hb dX8_touch_138 ?_
              refine lv_topi (fun x_89 ex_89 => ?_)
              obtain rfl : x_89 = 3 := ex_89.trans (by decide)
              refine lv_iconst (v := 3) hx hb dX8_touch_139 (by decide) ?_
              refine va_iast hx hb hK hP hD hS 2 0 rfl rfl (vin rfl) dX8_touch_140 (fun H locs hP1 hD1 hS1 => ?_)
              clear hP hD hS
              have hP : va_P (dC, dI) vwCl [(m0, .inr (8, mdL AM g)), (AM 0, .inl (cY 0, 72, .inl tb)), (AM 2, .inl (cY 0, 22, .inl (upd (upd (upd sA 13 (X8_touch11_j53 tb sA move)) 1 ((sA 1) - ((X8_ofMove_r tb move 5) / 10))) 3 3))), (AM 3, .inl (cY 0, 22, .inl rd)), (AM 4, .inl (cY 0, 110, .inl kp)), (AM 5, .inl (cY 0, 8414, .inl td)), (AM 6, .inl (cY 0, 2, .inl wn)), (AM 13, .inl (cY 0, 4, .inl rw)), (AM 14, .inl (cY 0, 4, .inl br))] H := hP1
              have hD : va_D A [(m0, .inr (8, mdL AM g)), (AM 0, .inl (cY 0, 72, .inl tb)), (AM 2, .inl (cY 0, 22, .inl (upd (upd (upd sA 13 (X8_touch11_j53 tb sA move)) 1 ((sA 1) - ((X8_ofMove_r tb move 5) / 10))) 3 3))), (AM 3, .inl (cY 0, 22, .inl rd)), (AM 4, .inl (cY 0, 110, .inl kp)), (AM 5, .inl (cY 0, 8414, .inl td)), (AM 6, .inl (cY 0, 2, .inl wn)), (AM 13, .inl (cY 0, 4, .inl rw)), (AM 14, .inl (cY 0, 4, .inl br))] := hD1
              have hS := hS1
              clear hP1 hD1 hS1
              refine lv_aload_n hx hb dX8_touch_141 rfl (lv_at hl 2 rfl) ?_
              refine va_get (D := (dC, dI)) (ci := 8) (v := .ref (AM 2)) (C := RX8) (T := TX8) (N := 17) hx hb hts inw_X8_touch_X8 hown hK hP 0 rfl rfl 2 (by decide) (hts (.fieldLink RX8 13 "DuelFramesModel" "s" "[I") (List.mem_of_getElem? (i := 1) rfl)) (fun _ h9 => h9) rfl dX8_touch_142 ?_
              refine lv_iload hx hb dX8_touch_145 (lv_at hl 1 rfl) ?_
              refine lv_iconst (v := 5) hx hb dX8_touch_147 (by decide) ?_
              refine lv_iadd hx hb dX8_touch_148 ?_
              refine lv_topi (fun x_90 ex_90 => ?_)
              obtain rfl : x_90 = 5 := ex_90.trans (by decide)
              refine lv_aload_n hx hb dX8_touch_149 rfl (lv_at hl 2 rfl) ?_
              refine lv_iload_n hx hb dX8_touch_150 rfl (lv_at hl 4 rfl) ?_
              refine lv_bipush (v := 7) hx hb dX8_touch_151 (by decide) ?_
              refine vp_callSi (W.runV (As := [.int move, .int 7]) (rest := [.int 5, .ref (AM 2)]) ⟨hx, hb, hml, hown, hts⟩ (c_X8_ofMove l dC dI cY m0 AM g tb (upd (upd (upd sA 13 (X8_touch11_j53 tb sA move)) 1 ((sA 1) - ((X8_ofMove_r tb move 5) / 10))) 3 3) rd kp td wn rw br move 7 (tb_in hm (vin rfl))) (cwV 2 hts gX8_touch_X8_ofMove rfl rfl rfl (by decide +kernel) ⟨Nat.le_of_ble_eq_true rfl, Nat.le_of_ble_eq_true rfl⟩) ⟨blindR, va_recv hK hP (ci := 8) (q0 := 0) rfl rfl, fun U hU hW => ⟨rfl, rPre_of hP hK hN U hU hW⟩⟩ rfl rfl hl.1 rfl (lv_room (Nat.le_of_ble_eq_true rfl)) dX8_touch_153 ⟨Nat.zero_le _, Nat.zero_le _⟩) (fun r_91 hw => ?_)
              subst hw
              refine va_iast hx hb hK hP hD hS 2 0 rfl rfl (vin rfl) dX8_touch_156 (fun H locs hP1 hD1 hS1 => ?_)
              clear hP hD hS
              have hP : va_P (dC, dI) vwCl [(m0, .inr (8, mdL AM g)), (AM 0, .inl (cY 0, 72, .inl tb)), (AM 2, .inl (cY 0, 22, .inl (upd (upd (upd (upd sA 13 (X8_touch11_j53 tb sA move)) 1 ((sA 1) - ((X8_ofMove_r tb move 5) / 10))) 3 3) 5 (X8_ofMove_r tb move 7)))), (AM 3, .inl (cY 0, 22, .inl rd)), (AM 4, .inl (cY 0, 110, .inl kp)), (AM 5, .inl (cY 0, 8414, .inl td)), (AM 6, .inl (cY 0, 2, .inl wn)), (AM 13, .inl (cY 0, 4, .inl rw)), (AM 14, .inl (cY 0, 4, .inl br))] H := hP1
              have hD : va_D A [(m0, .inr (8, mdL AM g)), (AM 0, .inl (cY 0, 72, .inl tb)), (AM 2, .inl (cY 0, 22, .inl (upd (upd (upd (upd sA 13 (X8_touch11_j53 tb sA move)) 1 ((sA 1) - ((X8_ofMove_r tb move 5) / 10))) 3 3) 5 (X8_ofMove_r tb move 7)))), (AM 3, .inl (cY 0, 22, .inl rd)), (AM 4, .inl (cY 0, 110, .inl kp)), (AM 5, .inl (cY 0, 8414, .inl td)), (AM 6, .inl (cY 0, 2, .inl wn)), (AM 13, .inl (cY 0, 4, .inl rw)), (AM 14, .inl (cY 0, 4, .inl br))] := hD1
              have hS := hS1
              clear hP1 hD1 hS1
              refine lv_goto (tgt := 301) hx hb dX8_touch_157 (by decide) ?_
              have e_92 : (X8_touch11_j301 tb sA count did input move) = (upd (upd (upd (upd sA 13 (X8_touch11_j53 tb sA move)) 1 ((sA 1) - ((X8_ofMove_r tb move 5) / 10))) 3 3) 5 (X8_ofMove_r tb move 7)) := by rw [X8_touch11_j301]; simp only [eq_false c_11, eq_false c_49, eq_true c_57, ↓reduceIte]
              exact jn_12 _ _ _ (by (try simp only [e_92]); exact hP) (by (try simp only [e_92]); exact hD) hS (by (try simp only [e_92]); exact (lv_sub hl [1, 2, 3, 4] rfl))
    · intro jn_10
      refine lv_icmp_ne (tgt := 71) hx hb dX8_touch_57 (by decide) (fun c_9 => ?_) (fun c_9 => ?_)
      · refine lv_iload hx hb dX8_touch_71 (lv_at hl 7 rfl) ?_
        refine lv_iconst (v := 4) hx hb dX8_touch_73 (by decide) ?_
        refine lv_icmp_ne (tgt := 93) hx hb dX8_touch_74 (by decide) (fun c_93 => ?_) (fun c_93 => ?_)
        · refine lv_iconst (v := 0) hx hb dX8_touch_93 (by decide) ?_
          have e_94 : (X8_touch11_j94 tb input move) = 0 := by rw [X8_touch11_j94]; simp only [eq_false c_9, eq_false c_93, ↓reduceIte]
          refine W.eq (g2 := F0 m 94 ls [.int (X8_touch11_j94 tb input move)]) (by simp only [e_94]) ?_
          exact jn_10 _ _ _ (by (try simp only [e_94]); exact hP) (by (try simp only [e_94]); exact hD) hS (by (try simp only [e_94]); exact (lv_sub hl [1, 2, 3, 4, 5, 6] rfl))
        · refine lv_iload hx hb dX8_touch_77 (lv_at hl 0 rfl) ?_
          refine lv_iconst (v := 1) hx hb dX8_touch_79 (by decide) ?_
          refine lv_icmp_eq (tgt := 89) hx hb dX8_touch_80 (by decide) (fun c_95 => ?_) (fun c_95 => ?_)
          · refine lv_iconst (v := 1) hx hb dX8_touch_89 (by decide) ?_
            refine lv_goto (tgt := 94) hx hb dX8_touch_90 (by decide) ?_
            have e_96 : (X8_touch11_j94 tb input move) = 1 := by rw [X8_touch11_j94]; simp only [eq_false c_9, eq_true c_93, eq_true c_95, ↓reduceIte]
            refine W.eq (g2 := F0 m 94 ls [.int (X8_touch11_j94 tb input move)]) (by simp only [e_96]) ?_
            exact jn_10 _ _ _ (by (try simp only [e_96]); exact hP) (by (try simp only [e_96]); exact hD) hS (by (try simp only [e_96]); exact (lv_sub hl [1, 2, 3, 4, 5, 6] rfl))
          · refine lv_iload hx hb dX8_touch_83 (lv_at hl 0 rfl) ?_
            refine lv_iconst (v := 2) hx hb dX8_touch_85 (by decide) ?_
            refine lv_icmp_ne (tgt := 93) hx hb dX8_touch_86 (by decide) (fun c_97 => ?_) (fun c_97 => ?_)
            · refine lv_iconst (v := 0) hx hb dX8_touch_93 (by decide) ?_
              have e_98 : (X8_touch11_j94 tb input move) = 0 := by rw [X8_touch11_j94]; simp only [eq_false c_9, eq_true c_93, eq_false c_95, eq_false c_97, ↓reduceIte]
              refine W.eq (g2 := F0 m 94 ls [.int (X8_touch11_j94 tb input move)]) (by simp only [e_98]) ?_
              exact jn_10 _ _ _ (by (try simp only [e_98]); exact hP) (by (try simp only [e_98]); exact hD) hS (by (try simp only [e_98]); exact (lv_sub hl [1, 2, 3, 4, 5, 6] rfl))
            · refine lv_iconst (v := 1) hx hb dX8_touch_89 (by decide) ?_
              refine lv_goto (tgt := 94) hx hb dX8_touch_90 (by decide) ?_
              have e_99 : (X8_touch11_j94 tb input move) = 1 := by rw [X8_touch11_j94]; simp only [eq_false c_9, eq_true c_93, eq_false c_95, eq_true c_97, ↓reduceIte]
              refine W.eq (g2 := F0 m 94 ls [.int (X8_touch11_j94 tb input move)]) (by simp only [e_99]) ?_
              exact jn_10 _ _ _ (by (try simp only [e_99]); exact hP) (by (try simp only [e_99]); exact hD) hS (by (try simp only [e_99]); exact (lv_sub hl [1, 2, 3, 4, 5, 6] rfl))
      · refine lv_iload hx hb dX8_touch_60 (lv_at hl 0 rfl) ?_
        refine lv_if_eq (tgt := 89) hx hb dX8_touch_62 (by decide) (fun c_100 => ?_) (fun c_100 => ?_)
        · refine lv_iconst (v := 1) hx hb dX8_touch_89 (by decide) ?_
          refine lv_goto (tgt := 94) hx hb dX8_touch_90 (by decide) ?_
          have e_101 : (X8_touch11_j94 tb input move) = 1 := by rw [X8_touch11_j94]; simp only [eq_true c_9, eq_true c_100, ↓reduceIte]
          refine W.eq (g2 := F0 m 94 ls [.int (X8_touch11_j94 tb input move)]) (by simp only [e_101]) ?_
          exact jn_10 _ _ _ (by (try simp only [e_101]); exact hP) (by (try simp only [e_101]); exact hD) hS (by (try simp only [e_101]); exact (lv_sub hl [1, 2, 3, 4, 5, 6] rfl))
        · refine lv_iload hx hb dX8_touch_65 (lv_at hl 0 rfl) ?_
          refine lv_iconst (v := 2) hx hb dX8_touch_67 (by decide) ?_
          refine lv_icmp_eq (tgt := 89) hx hb dX8_touch_68 (by decide) (fun c_102 => ?_) (fun c_102 => ?_)
          · refine lv_iconst (v := 1) hx hb dX8_touch_89 (by decide) ?_
            refine lv_goto (tgt := 94) hx hb dX8_touch_90 (by decide) ?_
            have e_103 : (X8_touch11_j94 tb input move) = 1 := by rw [X8_touch11_j94]; simp only [eq_true c_9, eq_false c_100, eq_true c_102, ↓reduceIte]
            refine W.eq (g2 := F0 m 94 ls [.int (X8_touch11_j94 tb input move)]) (by simp only [e_103]) ?_
            exact jn_10 _ _ _ (by (try simp only [e_103]); exact hP) (by (try simp only [e_103]); exact hD) hS (by (try simp only [e_103]); exact (lv_sub hl [1, 2, 3, 4, 5, 6] rfl))
          · refine lv_iload hx hb dX8_touch_71 (lv_at hl 7 rfl) ?_
            refine lv_iconst (v := 4) hx hb dX8_touch_73 (by decide) ?_
            refine lv_icmp_ne (tgt := 93) hx hb dX8_touch_74 (by decide) (fun c_104 => ?_) (fun c_104 => ?_)
            rotate_left
            · exact absurd c_104 (fun h9 => absurd (c_9.symm.trans h9) (by decide))
            refine lv_iconst (v := 0) hx hb dX8_touch_93 (by decide) ?_
            have e_105 : (X8_touch11_j94 tb input move) = 0 := by rw [X8_touch11_j94]; simp only [eq_true c_9, eq_false c_100, eq_false c_102, ↓reduceIte]
            refine W.eq (g2 := F0 m 94 ls [.int (X8_touch11_j94 tb input move)]) (by simp only [e_105]) ?_
            exact jn_10 _ _ _ (by (try simp only [e_105]); exact hP) (by (try simp only [e_105]); exact hD) hS (by (try simp only [e_105]); exact (lv_sub hl [1, 2, 3, 4, 5, 6] rfl))
  · intro jn_8
    refine lv_icmp_le (tgt := 51) hx hb dX8_touch_43 (by decide) (fun c_7 => ?_) (fun c_7 => ?_)
    · refine lv_iload hx hb dX8_touch_51 (lv_at hl 0 rfl) ?_
      have e_106 : (X8_touch11_j53 tb sA move) = ((sA 13) + (X8_ofMove_r tb move 10)) := by rw [X8_touch11_j53]; simp only [eq_true c_7, ↓reduceIte]
      refine W.eq (g2 := F0 m 53 ls [.int (X8_touch11_j53 tb sA move), .int 13, .ref (AM 2)]) (by simp only [e_106]) ?_
      exact jn_8 _ _ _ (by (try simp only [e_106]); exact hP) (by (try simp only [e_106]); exact hD) hS (by (try simp only [e_106]); exact (lv_sub hl [1, 2, 3, 4, 5, 6, 7, 8] rfl))
    · refine lv_bipush (v := 100) hx hb dX8_touch_46 (by decide) ?_
      refine lv_goto (tgt := 53) hx hb dX8_touch_48 (by decide) ?_
      have e_107 : (X8_touch11_j53 tb sA move) = 100 := by rw [X8_touch11_j53]; simp only [eq_false c_7, ↓reduceIte]
      refine W.eq (g2 := F0 m 53 ls [.int (X8_touch11_j53 tb sA move), .int 13, .ref (AM 2)]) (by simp only [e_107]) ?_
      exact jn_8 _ _ _ (by (try simp only [e_107]); exact hP) (by (try simp only [e_107]); exact hD) hS (by (try simp only [e_107]); exact (lv_sub hl [1, 2, 3, 4, 5, 6, 7, 8] rfl))
theorem inw_X8_comeOn_X8 : ∀ w ∈ u_ws RX8 TX8 17, w ∈ wsX8_comeOn := fun _ h => List.mem_cons_of_mem _ (List.mem_append_right _ h)
def X8_comeOn0_j159 (sA : Nat → Int32) : Int32 := (if 0 < ((sA 5) - 1) then (sA 3) else 0)
def X8_comeOn0_j61 (sA : Nat → Int32) : Int32 := (if (sA 9) = (-1) then 0 else 1)
def X8_comeOn0_j103 (tb : Nat → Int32) (sA : Nat → Int32) : Nat → Int32 := (if ((sA 5) + 1) = (((X8_ofMove_r tb (sA 4) 0) + (X8_ofMove_r tb (sA 4) 1)) + (X8_ofMove_r tb (sA 4) 2)) then (upd (upd (upd sA 5 ((sA 5) + 1)) 9 ((sA 9) + (X8_comeOn0_j61 sA))) 3 0) else (upd (upd sA 5 ((sA 5) + 1)) 9 ((sA 9) + (X8_comeOn0_j61 sA))))
def X8_comeOn0_j160 (tb : Nat → Int32) (sA : Nat → Int32) : Nat → Int32 := (if (sA 3) = 1 then (X8_comeOn0_j103 tb sA) else (if (sA 3) = 0 then sA else (upd (upd sA 5 ((sA 5) - 1)) 3 (X8_comeOn0_j159 sA))))
def X8_comeOn0_j189 (tb : Nat → Int32) (sA : Nat → Int32) : Nat → Int32 := (if ((X8_comeOn0_j160 tb sA) 3) = 0 then (upd (upd (X8_comeOn0_j160 tb sA) 5 0) 4 (-1)) else (X8_comeOn0_j160 tb sA))
def X8_comeOn0_j222 (tb : Nat → Int32) (sA : Nat → Int32) : Int32 := (if ((X8_comeOn0_j189 tb sA) 3) = 1 then ((X8_comeOn0_j189 tb sA) 9) else (-1))
def X8_comeOn0_j256 (tb : Nat → Int32) (sA : Nat → Int32) : Int32 := (if ((X8_comeOn0_j189 tb sA) 3) = 2 then ((X8_comeOn0_j189 tb sA) 6) else 0)
def X8_comeOn0_j284 (tb : Nat → Int32) (sA : Nat → Int32) : Int32 := (if ((X8_comeOn0_j189 tb sA) 8) ≤ 0 then 0 else 1)
def X8_comeOn0_j319 (tb : Nat → Int32) (sA : Nat → Int32) : Int32 := (if (((X8_comeOn0_j189 tb sA) 8) - (X8_comeOn0_j284 tb sA)) ≤ 0 then (-1) else ((X8_comeOn0_j189 tb sA) 7))
def X8_comeOn0_w2 (tb : Nat → Int32) (sA : Nat → Int32) : Nat → Int32 := (upd (upd (upd (upd (X8_comeOn0_j189 tb sA) 9 (X8_comeOn0_j222 tb sA)) 6 (X8_comeOn0_j256 tb sA)) 8 (((X8_comeOn0_j189 tb sA) 8) - (X8_comeOn0_j284 tb sA))) 7 (X8_comeOn0_j319 tb sA))
set_option maxHeartbeats 4000000 in
set_option maxRecDepth 100000 in
theorem c_X8_comeOn0 (l : Launch) (dC : Nat → ClassId) (dI : Nat → Nat → Nat) (cY : Nat → ClassId) (m0 : Nat) (AM : Nat → Nat) (g : Nat → Int32) (tb : Nat → Int32) (sA : Nat → Int32) (rd : Nat → Int32) (kp : Nat → Int32) (td : Nat → Int32) (wn : Nat → Int32) (rw : Nat → Int32) (br : Nat → Int32) (hs : okS sA) (sz : Nat) : Met l yX8_comeOn wsX8_comeOn ({ frames := 1, cells := 0, slots := 0, locals := 22 } : Room) (va_Pc [.ref m0, .int 0] (wPre (dC, dI) (tyL cY) [(m0, .inr (8, mdL AM g)), (AM 0, .inl (cY 0, 72, .inl tb)), (AM 2, .inl (cY 0, 22, .inl sA)), (AM 3, .inl (cY 0, 22, .inl rd)), (AM 4, .inl (cY 0, 110, .inl kp)), (AM 5, .inl (cY 0, 8414, .inl td)), (AM 6, .inl (cY 0, 2, .inl wn)), (AM 13, .inl (cY 0, 4, .inl rw)), (AM 14, .inl (cY 0, 4, .inl br))] sz)) (va_Qv (fun _ : Unit => True) (wPost (dC, dI) [(m0, .inr (8, mdL AM g)), (AM 0, .inl (cY 0, 72, .inl tb)), (AM 2, .inl (cY 0, 22, .inl (X8_comeOn0_w2 tb sA))), (AM 3, .inl (cY 0, 22, .inl rd)), (AM 4, .inl (cY 0, 110, .inl kp)), (AM 5, .inl (cY 0, 8414, .inl td)), (AM 6, .inl (cY 0, 2, .inl wn)), (AM 13, .inl (cY 0, 4, .inl rw)), (AM 14, .inl (cY 0, 4, .inl br))] (va_A [(m0, .inr (8, mdL AM g)), (AM 0, .inl (cY 0, 72, .inl tb)), (AM 2, .inl (cY 0, 22, .inl sA)), (AM 3, .inl (cY 0, 22, .inl rd)), (AM 4, .inl (cY 0, 110, .inl kp)), (AM 5, .inl (cY 0, 8414, .inl td)), (AM 6, .inl (cY 0, 2, .inl wn)), (AM 13, .inl (cY 0, 4, .inl rw)), (AM 14, .inl (cY 0, 4, .inl br))] sz)) (va_A [(m0, .inr (8, mdL AM g)), (AM 0, .inl (cY 0, 72, .inl tb)), (AM 2, .inl (cY 0, 22, .inl sA)), (AM 3, .inl (cY 0, 22, .inl rd)), (AM 4, .inl (cY 0, 110, .inl kp)), (AM 5, .inl (cY 0, 8414, .inl td)), (AM 6, .inl (cY 0, 2, .inl wn)), (AM 13, .inl (cY 0, 4, .inl rw)), (AM 14, .inl (cY 0, 4, .inl br))] sz)) 0 0 (va_A [(m0, .inr (8, mdL AM g)), (AM 0, .inl (cY 0, 72, .inl tb)), (AM 2, .inl (cY 0, 22, .inl sA)), (AM 3, .inl (cY 0, 22, .inl rd)), (AM 4, .inl (cY 0, 110, .inl kp)), (AM 5, .inl (cY 0, 8414, .inl td)), (AM 6, .inl (cY 0, 2, .inl wn)), (AM 13, .inl (cY 0, 4, .inl rw)), (AM 14, .inl (cY 0, 4, .inl br))] sz) := by
  refine Met.ofW (cc := cX8_comeOn) (maxL := 3) (ret := none) (by decide) rfl ?_
  intro p e s m args below meth c s₁ B hml hv
  obtain ⟨rfl, hsz, hP, hK, hN, hD0⟩ := hv
  have hx := B.exec
  have hb := B.bytes
  have hr := B.returns
  have hts := atoms_spec (ws := wsX8_comeOn) B.pre
  have hown : s.vm.findClass RX8 = some m.cls := findClass_of_methodNamed B.named
  have hlocks := B.notSynchronized
  subst hsz
  have hD := hD0.self (sz := s.heap.size)
  generalize hAe : va_A [(m0, .inr (8, mdL AM g)), (AM 0, .inl (cY 0, 72, .inl tb)), (AM 2, .inl (cY 0, 22, .inl sA)), (AM 3, .inl (cY 0, 22, .inl rd)), (AM 4, .inl (cY 0, 110, .inl kp)), (AM 5, .inl (cY 0, 8414, .inl td)), (AM 6, .inl (cY 0, 2, .inl wn)), (AM 13, .inl (cY 0, 4, .inl rw)), (AM 14, .inl (cY 0, 4, .inl br))] s.heap.size = A at hD ⊢
  have hA : ∀ q : Nat, s.heap.size ≤ q → A q := fun q h => by rw [← hAe]; exact Or.inr h
  have hS : va_S A s.heap s.heap [] := va_S.rf
  have hP : va_P (dC, dI) vwCl [(m0, .inr (8, mdL AM g)), (AM 0, .inl (cY 0, 72, .inl tb)), (AM 2, .inl (cY 0, 22, .inl sA)), (AM 3, .inl (cY 0, 22, .inl rd)), (AM 4, .inl (cY 0, 110, .inl kp)), (AM 5, .inl (cY 0, 8414, .inl td)), (AM 6, .inl (cY 0, 2, .inl wn)), (AM 13, .inl (cY 0, 4, .inl rw)), (AM 14, .inl (cY 0, 4, .inl br))] s.heap := hP
  have hl := lv_entry ([.ref m0, .int 0]) (n := 3) (Nat.le_of_ble_eq_true rfl)
  rw [lg_entry_eq]
  generalize (lg_sl ([.ref m0, .int 0]) ++ List.replicate (3 - (lg_sl ([.ref m0, .int 0])).length) Slot.unset).toArray = ls at hl ⊢
  have hl : lv_has ls 3 [(0, .ref m0), (1, .int 0)] := hl
  refine lv_aload_n hx hb dX8_comeOn_0 rfl (lv_at hl 0 rfl) ?_
  refine va_get (D := (dC, dI)) (ci := 8) (v := .ref (AM 2)) (C := RX8) (T := TX8) (N := 17) hx hb hts inw_X8_comeOn_X8 hown hK hP 0 rfl rfl 2 (by decide) (hts (.fieldLink RX8 13 "DuelFramesModel" "s" "[I") (List.mem_of_getElem? (i := 1) rfl)) (fun _ h9 => h9) rfl dX8_comeOn_1 ?_
  refine lv_iload_n hx hb dX8_comeOn_4 rfl (lv_at hl 1 rfl) ?_
  refine lv_iconst (v := 3) hx hb dX8_comeOn_5 (by decide) ?_
  refine lv_iadd hx hb dX8_comeOn_6 ?_
  refine lv_topi (fun x_1 ex_1 => ?_)
  obtain rfl : x_1 = 3 := ex_1.trans (by decide)
  refine va_iald hx hb hK hP 2 0 rfl rfl (vin rfl) dX8_comeOn_7 ?_
  refine lv_topi (fun x_2 ex_2 => ?_)
  obtain rfl : x_2 = (sA 3) := ex_2
  refine lv_iconst (v := 1) hx hb dX8_comeOn_8 (by decide) ?_
  refine jnW (D := (dC, dI)) (ws := [(m0, .inr (8, mdL AM g)), (AM 0, .inl (cY 0, 72, .inl tb)), (AM 2, .inl (cY 0, 22, .inl (X8_comeOn0_j160 tb sA))), (AM 3, .inl (cY 0, 22, .inl rd)), (AM 4, .inl (cY 0, 110, .inl kp)), (AM 5, .inl (cY 0, 8414, .inl td)), (AM 6, .inl (cY 0, 2, .inl wn)), (AM 13, .inl (cY 0, 4, .inl rw)), (AM 14, .inl (cY 0, 4, .inl br))]) (lv := [(0, .ref m0), (1, .int 0)]) (st := []) (J := 160) (n := 3) (A := A) (H0 := s.heap) ?_ ?_
  · intro H locs ls hP hD hS hl
    obtain ⟨z_5, ez_5⟩ : ∃ z, z = (X8_comeOn0_j160 tb sA) := ⟨_, rfl⟩
    rw [← ez_5] at hP hD
    refine lv_aload_n hx hb dX8_comeOn_160 rfl (lv_at hl 0 rfl) ?_
    refine va_get (D := (dC, dI)) (ci := 8) (v := .ref (AM 2)) (C := RX8) (T := TX8) (N := 17) hx hb hts inw_X8_comeOn_X8 hown hK hP 0 rfl rfl 2 (by decide) (hts (.fieldLink RX8 13 "DuelFramesModel" "s" "[I") (List.mem_of_getElem? (i := 1) rfl)) (fun _ h9 => h9) rfl dX8_comeOn_161 ?_
    refine lv_iload_n hx hb dX8_comeOn_164 rfl (lv_at hl 1 rfl) ?_
    refine lv_iconst (v := 3) hx hb dX8_comeOn_165 (by decide) ?_
    refine lv_iadd hx hb dX8_comeOn_166 ?_
    refine lv_topi (fun x_6 ex_6 => ?_)
    obtain rfl : x_6 = 3 := ex_6.trans (by decide)
    refine va_iald hx hb hK hP 2 0 rfl rfl (vin rfl) dX8_comeOn_167 ?_
    refine lv_topi (fun x_7 ex_7 => ?_)
    obtain rfl : x_7 = (z_5 3) := ex_7
    refine jnW (D := (dC, dI)) (ws := [(m0, .inr (8, mdL AM g)), (AM 0, .inl (cY 0, 72, .inl tb)), (AM 2, .inl (cY 0, 22, .inl (X8_comeOn0_j189 tb sA))), (AM 3, .inl (cY 0, 22, .inl rd)), (AM 4, .inl (cY 0, 110, .inl kp)), (AM 5, .inl (cY 0, 8414, .inl td)), (AM 6, .inl (cY 0, 2, .inl wn)), (AM 13, .inl (cY 0, 4, .inl rw)), (AM 14, .inl (cY 0, 4, .inl br))]) (lv := [(0, .ref m0), (1, .int 0)]) (st := []) (J := 189) (n := 3) (A := A) (H0 := s.heap) ?_ ?_
    · intro H locs ls hP hD hS hl
      obtain ⟨z_10, ez_10⟩ : ∃ z, z = (X8_comeOn0_j189 tb sA) := ⟨_, rfl⟩
      rw [← ez_10] at hP hD
      refine lv_aload_n hx hb dX8_comeOn_189 rfl (lv_at hl 0 rfl) ?_
      refine va_get (D := (dC, dI)) (ci := 8) (v := .ref (AM 2)) (C := RX8) (T := TX8) (N := 17) hx hb hts inw_X8_comeOn_X8 hown hK hP 0 rfl rfl 2 (by decide) (hts (.fieldLink RX8 13 "DuelFramesModel" "s" "[I") (List.mem_of_getElem? (i := 1) rfl)) (fun _ h9 => h9) rfl dX8_comeOn_190 ?_
      refine lv_iload_n hx hb dX8_comeOn_193 rfl (lv_at hl 1 rfl) ?_
      refine lv_bipush (v := 9) hx hb dX8_comeOn_194 (by decide) ?_
      refine lv_iadd hx hb dX8_comeOn_196 ?_
      refine lv_topi (fun x_11 ex_11 => ?_)
      obtain rfl : x_11 = 9 := ex_11.trans (by decide)
      refine lv_aload_n hx hb dX8_comeOn_197 rfl (lv_at hl 0 rfl) ?_
      refine va_get (D := (dC, dI)) (ci := 8) (v := .ref (AM 2)) (C := RX8) (T := TX8) (N := 17) hx hb hts inw_X8_comeOn_X8 hown hK hP 0 rfl rfl 2 (by decide) (hts (.fieldLink RX8 13 "DuelFramesModel" "s" "[I") (List.mem_of_getElem? (i := 1) rfl)) (fun _ h9 => h9) rfl dX8_comeOn_198 ?_
      refine lv_iload_n hx hb dX8_comeOn_201 rfl (lv_at hl 1 rfl) ?_
      refine lv_iconst (v := 3) hx hb dX8_comeOn_202 (by decide) ?_
      refine lv_iadd hx hb dX8_comeOn_203 ?_
      refine lv_topi (fun x_12 ex_12 => ?_)
      obtain rfl : x_12 = 3 := ex_12.trans (by decide)
      refine va_iald hx hb hK hP 2 0 rfl rfl (vin rfl) dX8_comeOn_204 ?_
      refine lv_topi (fun x_13 ex_13 => ?_)
      obtain rfl : x_13 = (z_10 3) := ex_13
      refine lv_iconst (v := 1) hx hb dX8_comeOn_205 (by decide) ?_
      refine jnW (D := (dC, dI)) (ws := [(m0, .inr (8, mdL AM g)), (AM 0, .inl (cY 0, 72, .inl tb)), (AM 2, .inl (cY 0, 22, .inl z_10)), (AM 3, .inl (cY 0, 22, .inl rd)), (AM 4, .inl (cY 0, 110, .inl kp)), (AM 5, .inl (cY 0, 8414, .inl td)), (AM 6, .inl (cY 0, 2, .inl wn)), (AM 13, .inl (cY 0, 4, .inl rw)), (AM 14, .inl (cY 0, 4, .inl br))]) (lv := [(0, .ref m0), (1, .int 0)]) (st := [.int (X8_comeOn0_j222 tb sA), .int 9, .ref (AM 2)]) (J := 222) (n := 3) (A := A) (H0 := s.heap) ?_ ?_
      · intro H locs ls hP hD hS hl
        refine va_iast hx hb hK hP hD hS 2 0 rfl rfl (vin rfl) dX8_comeOn_222 (fun H locs hP1 hD1 hS1 => ?_)
        clear hP hD hS
        have hP : va_P (dC, dI) vwCl [(m0, .inr (8, mdL AM g)), (AM 0, .inl (cY 0, 72, .inl tb)), (AM 2, .inl (cY 0, 22, .inl (upd z_10 9 (X8_comeOn0_j222 tb sA)))), (AM 3, .inl (cY 0, 22, .inl rd)), (AM 4, .inl (cY 0, 110, .inl kp)), (AM 5, .inl (cY 0, 8414, .inl td)), (AM 6, .inl (cY 0, 2, .inl wn)), (AM 13, .inl (cY 0, 4, .inl rw)), (AM 14, .inl (cY 0, 4, .inl br))] H := hP1
        have hD : va_D A [(m0, .inr (8, mdL AM g)), (AM 0, .inl (cY 0, 72, .inl tb)), (AM 2, .inl (cY 0, 22, .inl (upd z_10 9 (X8_comeOn0_j222 tb sA)))), (AM 3, .inl (cY 0, 22, .inl rd)), (AM 4, .inl (cY 0, 110, .inl kp)), (AM 5, .inl (cY 0, 8414, .inl td)), (AM 6, .inl (cY 0, 2, .inl wn)), (AM 13, .inl (cY 0, 4, .inl rw)), (AM 14, .inl (cY 0, 4, .inl br))] := hD1
        have hS := hS1
        clear hP1 hD1 hS1
        refine lv_aload_n hx hb dX8_comeOn_223 rfl (lv_at hl 0 rfl) ?_
        refine va_get (D := (dC, dI)) (ci := 8) (v := .ref (AM 2)) (C := RX8) (T := TX8) (N := 17) hx hb hts inw_X8_comeOn_X8 hown hK hP 0 rfl rfl 2 (by decide) (hts (.fieldLink RX8 13 "DuelFramesModel" "s" "[I") (List.mem_of_getElem? (i := 1) rfl)) (fun _ h9 => h9) rfl dX8_comeOn_224 ?_
        refine lv_iload_n hx hb dX8_comeOn_227 rfl (lv_at hl 1 rfl) ?_
        refine lv_bipush (v := 6) hx hb dX8_comeOn_228 (by decide) ?_
        refine lv_iadd hx hb dX8_comeOn_230 ?_
        refine lv_topi (fun x_16 ex_16 => ?_)
        obtain rfl : x_16 = 6 := ex_16.trans (by decide)
        refine lv_aload_n hx hb dX8_comeOn_231 rfl (lv_at hl 0 rfl) ?_
        refine va_get (D := (dC, dI)) (ci := 8) (v := .ref (AM 2)) (C := RX8) (T := TX8) (N := 17) hx hb hts inw_X8_comeOn_X8 hown hK hP 0 rfl rfl 2 (by decide) (hts (.fieldLink RX8 13 "DuelFramesModel" "s" "[I") (List.mem_of_getElem? (i := 1) rfl)) (fun _ h9 => h9) rfl dX8_comeOn_232 ?_
        refine lv_iload_n hx hb dX8_comeOn_235 rfl (lv_at hl 1 rfl) ?_
        refine lv_iconst (v := 3) hx hb dX8_comeOn_236 (by decide) ?_
        refine lv_iadd hx hb dX8_comeOn_237 ?_
        refine lv_topi (fun x_17 ex_17 => ?_)
        obtain rfl : x_17 = 3 := ex_17.trans (by decide)
        refine va_iald hx hb hK hP 2 0 rfl rfl (vin rfl) dX8_comeOn_238 ?_
        refine lv_topi (fun x_18 ex_18 => ?_)
        obtain rfl : x_18 = (z_10 3) := ex_18
        refine lv_iconst (v := 2) hx hb dX8_comeOn_239 (by decide) ?_
        refine jnW (D := (dC, dI)) (ws := [(m0, .inr (8, mdL AM g)), (AM 0, .inl (cY 0, 72, .inl tb)), (AM 2, .inl (cY 0, 22, .inl (upd z_10 9 (X8_comeOn0_j222 tb sA)))), (AM 3, .inl (cY 0, 22, .inl rd)), (AM 4, .inl (cY 0, 110, .inl kp)), (AM 5, .inl (cY 0, 8414, .inl td)), (AM 6, .inl (cY 0, 2, .inl wn)), (AM 13, .inl (cY 0, 4, .inl rw)), (AM 14, .inl (cY 0, 4, .inl br))]) (lv := [(0, .ref m0), (1, .int 0)]) (st := [.int (X8_comeOn0_j256 tb sA), .int 6, .ref (AM 2)]) (J := 256) (n := 3) (A := A) (H0 := s.heap) ?_ ?_
        · intro H locs ls hP hD hS hl
          refine va_iast hx hb hK hP hD hS 2 0 rfl rfl (vin rfl) dX8_comeOn_256 (fun H locs hP1 hD1 hS1 => ?_)
          clear hP hD hS
          have hP : va_P (dC, dI) vwCl [(m0, .inr (8, mdL AM g)), (AM 0, .inl (cY 0, 72, .inl tb)), (AM 2, .inl (cY 0, 22, .inl (upd (upd z_10 9 (X8_comeOn0_j222 tb sA)) 6 (X8_comeOn0_j256 tb sA)))), (AM 3, .inl (cY 0, 22, .inl rd)), (AM 4, .inl (cY 0, 110, .inl kp)), (AM 5, .inl (cY 0, 8414, .inl td)), (AM 6, .inl (cY 0, 2, .inl wn)), (AM 13, .inl (cY 0, 4, .inl rw)), (AM 14, .inl (cY 0, 4, .inl br))] H := hP1
          have hD : va_D A [(m0, .inr (8, mdL AM g)), (AM 0, .inl (cY 0, 72, .inl tb)), (AM 2, .inl (cY 0, 22, .inl (upd (upd z_10 9 (X8_comeOn0_j222 tb sA)) 6 (X8_comeOn0_j256 tb sA)))), (AM 3, .inl (cY 0, 22, .inl rd)), (AM 4, .inl (cY 0, 110, .inl kp)), (AM 5, .inl (cY 0, 8414, .inl td)), (AM 6, .inl (cY 0, 2, .inl wn)), (AM 13, .inl (cY 0, 4, .inl rw)), (AM 14, .inl (cY 0, 4, .inl br))] := hD1
          have hS := hS1
          clear hP1 hD1 hS1
          refine lv_aload_n hx hb dX8_comeOn_257 rfl (lv_at hl 0 rfl) ?_
          refine va_get (D := (dC, dI)) (ci := 8) (v := .ref (AM 2)) (C := RX8) (T := TX8) (N := 17) hx hb hts inw_X8_comeOn_X8 hown hK hP 0 rfl rfl 2 (by decide) (hts (.fieldLink RX8 13 "DuelFramesModel" "s" "[I") (List.mem_of_getElem? (i := 1) rfl)) (fun _ h9 => h9) rfl dX8_comeOn_258 ?_
          refine lv_iload_n hx hb dX8_comeOn_261 rfl (lv_at hl 1 rfl) ?_
          refine lv_bipush (v := 8) hx hb dX8_comeOn_262 (by decide) ?_
          refine lv_iadd hx hb dX8_comeOn_264 ?_
          refine lv_topi (fun x_21 ex_21 => ?_)
          obtain rfl : x_21 = 8 := ex_21.trans (by decide)
          refine lv_dup2_11 hx hb dX8_comeOn_265 rfl rfl ?_
          refine va_iald hx hb hK hP 2 0 rfl rfl (vin rfl) dX8_comeOn_266 ?_
          refine lv_topi (fun x_22 ex_22 => ?_)
          obtain rfl : x_22 = (z_10 8) := ex_22
          refine lv_aload_n hx hb dX8_comeOn_267 rfl (lv_at hl 0 rfl) ?_
          refine va_get (D := (dC, dI)) (ci := 8) (v := .ref (AM 2)) (C := RX8) (T := TX8) (N := 17) hx hb hts inw_X8_comeOn_X8 hown hK hP 0 rfl rfl 2 (by decide) (hts (.fieldLink RX8 13 "DuelFramesModel" "s" "[I") (List.mem_of_getElem? (i := 1) rfl)) (fun _ h9 => h9) rfl dX8_comeOn_268 ?_
          refine lv_iload_n hx hb dX8_comeOn_271 rfl (lv_at hl 1 rfl) ?_
          refine lv_bipush (v := 8) hx hb dX8_comeOn_272 (by decide) ?_
          refine lv_iadd hx hb dX8_comeOn_274 ?_
          refine lv_topi (fun x_23 ex_23 => ?_)
          obtain rfl : x_23 = 8 := ex_23.trans (by decide)
          refine va_iald hx hb hK hP 2 0 rfl rfl (vin rfl) dX8_comeOn_275 ?_
          refine lv_topi (fun x_24 ex_24 => ?_)
          obtain rfl : x_24 = (z_10 8) := ex_24
          refine jnW (D := (dC, dI)) (ws := [(m0, .inr (8, mdL AM g)), (AM 0, .inl (cY 0, 72, .inl tb)), (AM 2, .inl (cY 0, 22, .inl (upd (upd z_10 9 (X8_comeOn0_j222 tb sA)) 6 (X8_comeOn0_j256 tb sA)))), (AM 3, .inl (cY 0, 22, .inl rd)), (AM 4, .inl (cY 0, 110, .inl kp)), (AM 5, .inl (cY 0, 8414, .inl td)), (AM 6, .inl (cY 0, 2, .inl wn)), (AM 13, .inl (cY 0, 4, .inl rw)), (AM 14, .inl (cY 0, 4, .inl br))]) (lv := [(0, .ref m0), (1, .int 0)]) (st := [.int (X8_comeOn0_j284 tb sA), .int (z_10 8), .int 8, .ref (AM 2)]) (J := 284) (n := 3) (A := A) (H0 := s.heap) ?_ ?_
          · intro H locs ls hP hD hS hl
            refine lv_isub hx hb dX8_comeOn_284 ?_
            refine va_iast hx hb hK hP hD hS 2 0 rfl rfl (vin rfl) dX8_comeOn_285 (fun H locs hP1 hD1 hS1 => ?_)
            clear hP hD hS
            have hP : va_P (dC, dI) vwCl [(m0, .inr (8, mdL AM g)), (AM 0, .inl (cY 0, 72, .inl tb)), (AM 2, .inl (cY 0, 22, .inl (upd (upd (upd z_10 9 (X8_comeOn0_j222 tb sA)) 6 (X8_comeOn0_j256 tb sA)) 8 ((z_10 8) - (X8_comeOn0_j284 tb sA))))), (AM 3, .inl (cY 0, 22, .inl rd)), (AM 4, .inl (cY 0, 110, .inl kp)), (AM 5, .inl (cY 0, 8414, .inl td)), (AM 6, .inl (cY 0, 2, .inl wn)), (AM 13, .inl (cY 0, 4, .inl rw)), (AM 14, .inl (cY 0, 4, .inl br))] H := hP1
            have hD : va_D A [(m0, .inr (8, mdL AM g)), (AM 0, .inl (cY 0, 72, .inl tb)), (AM 2, .inl (cY 0, 22, .inl (upd (upd (upd z_10 9 (X8_comeOn0_j222 tb sA)) 6 (X8_comeOn0_j256 tb sA)) 8 ((z_10 8) - (X8_comeOn0_j284 tb sA))))), (AM 3, .inl (cY 0, 22, .inl rd)), (AM 4, .inl (cY 0, 110, .inl kp)), (AM 5, .inl (cY 0, 8414, .inl td)), (AM 6, .inl (cY 0, 2, .inl wn)), (AM 13, .inl (cY 0, 4, .inl rw)), (AM 14, .inl (cY 0, 4, .inl br))] := hD1
            have hS := hS1
            clear hP1 hD1 hS1
            refine lv_aload_n hx hb dX8_comeOn_286 rfl (lv_at hl 0 rfl) ?_
            refine va_get (D := (dC, dI)) (ci := 8) (v := .ref (AM 2)) (C := RX8) (T := TX8) (N := 17) hx hb hts inw_X8_comeOn_X8 hown hK hP 0 rfl rfl 2 (by decide) (hts (.fieldLink RX8 13 "DuelFramesModel" "s" "[I") (List.mem_of_getElem? (i := 1) rfl)) (fun _ h9 => h9) rfl dX8_comeOn_287 ?_
            refine lv_iload_n hx hb dX8_comeOn_290 rfl (lv_at hl 1 rfl) ?_
            refine lv_bipush (v := 7) hx hb dX8_comeOn_291 (by decide) ?_
            refine lv_iadd hx hb dX8_comeOn_293 ?_
            refine lv_topi (fun x_27 ex_27 => ?_)
            obtain rfl : x_27 = 7 := ex_27.trans (by decide)
            refine lv_aload_n hx hb dX8_comeOn_294 rfl (lv_at hl 0 rfl) ?_
            refine va_get (D := (dC, dI)) (ci := 8) (v := .ref (AM 2)) (C := RX8) (T := TX8) (N := 17) hx hb hts inw_X8_comeOn_X8 hown hK hP 0 rfl rfl 2 (by decide) (hts (.fieldLink RX8 13 "DuelFramesModel" "s" "[I") (List.mem_of_getElem? (i := 1) rfl)) (fun _ h9 => h9) rfl dX8_comeOn_295 ?_
            refine lv_iload_n hx hb dX8_comeOn_298 rfl (lv_at hl 1 rfl) ?_
            refine lv_bipush (v := 8) hx hb dX8_comeOn_299 (by decide) ?_
            refine lv_iadd hx hb dX8_comeOn_301 ?_
            refine lv_topi (fun x_28 ex_28 => ?_)
            obtain rfl : x_28 = 8 := ex_28.trans (by decide)
            refine va_iald hx hb hK hP 2 0 rfl rfl (vin rfl) dX8_comeOn_302 ?_
            refine lv_topi (fun x_29 ex_29 => ?_)
            obtain rfl : x_29 = ((z_10 8) - (X8_comeOn0_j284 tb sA)) := ex_29
            refine jnW (D := (dC, dI)) (ws := [(m0, .inr (8, mdL AM g)), (AM 0, .inl (cY 0, 72, .inl tb)), (AM 2, .inl (cY 0, 22, .inl (upd (upd (upd z_10 9 (X8_comeOn0_j222 tb sA)) 6 (X8_comeOn0_j256 tb sA)) 8 ((z_10 8) - (X8_comeOn0_j284 tb sA))))), (AM 3, .inl (cY 0, 22, .inl rd)), (AM 4, .inl (cY 0, 110, .inl kp)), (AM 5, .inl (cY 0, 8414, .inl td)), (AM 6, .inl (cY 0, 2, .inl wn)), (AM 13, .inl (cY 0, 4, .inl rw)), (AM 14, .inl (cY 0, 4, .inl br))]) (lv := []) (st := [.int (X8_comeOn0_j319 tb sA), .int 7, .ref (AM 2)]) (J := 319) (n := 3) (A := A) (H0 := s.heap) ?_ ?_
            · intro H locs ls hP hD hS hl
              refine va_iast hx hb hK hP hD hS 2 0 rfl rfl (vin rfl) dX8_comeOn_319 (fun H locs hP1 hD1 hS1 => ?_)
              clear hP hD hS
              have hP : va_P (dC, dI) vwCl [(m0, .inr (8, mdL AM g)), (AM 0, .inl (cY 0, 72, .inl tb)), (AM 2, .inl (cY 0, 22, .inl (upd (upd (upd (upd z_10 9 (X8_comeOn0_j222 tb sA)) 6 (X8_comeOn0_j256 tb sA)) 8 ((z_10 8) - (X8_comeOn0_j284 tb sA))) 7 (X8_comeOn0_j319 tb sA)))), (AM 3, .inl (cY 0, 22, .inl rd)), (AM 4, .inl (cY 0, 110, .inl kp)), (AM 5, .inl (cY 0, 8414, .inl td)), (AM 6, .inl (cY 0, 2, .inl wn)), (AM 13, .inl (cY 0, 4, .inl rw)), (AM 14, .inl (cY 0, 4, .inl br))] H := hP1
              have hD : va_D A [(m0, .inr (8, mdL AM g)), (AM 0, .inl (cY 0, 72, .inl tb)), (AM 2, .inl (cY 0, 22, .inl (upd (upd (upd (upd z_10 9 (X8_comeOn0_j222 tb sA)) 6 (X8_comeOn0_j256 tb sA)) 8 ((z_10 8) - (X8_comeOn0_j284 tb sA))) 7 (X8_comeOn0_j319 tb sA)))), (AM 3, .inl (cY 0, 22, .inl rd)), (AM 4, .inl (cY 0, 110, .inl kp)), (AM 5, .inl (cY 0, 8414, .inl td)), (AM 6, .inl (cY 0, 2, .inl wn)), (AM 13, .inl (cY 0, 4, .inl rw)), (AM 14, .inl (cY 0, 4, .inl br))] := hD1
              have hS := hS1
              clear hP1 hD1 hS1
              have eo_32 : (X8_comeOn0_w2 tb sA) = (upd (upd (upd (upd z_10 9 (X8_comeOn0_j222 tb sA)) 6 (X8_comeOn0_j256 tb sA)) 8 ((z_10 8) - (X8_comeOn0_j284 tb sA))) 7 (X8_comeOn0_j319 tb sA)) := by rw [X8_comeOn0_w2]; (try simp only [← ez_5, ← ez_10])
              have hP9 : va_P (dC, dI) vwCl [(m0, .inr (8, mdL AM g)), (AM 0, .inl (cY 0, 72, .inl tb)), (AM 2, .inl (cY 0, 22, .inl (X8_comeOn0_w2 tb sA))), (AM 3, .inl (cY 0, 22, .inl rd)), (AM 4, .inl (cY 0, 110, .inl kp)), (AM 5, .inl (cY 0, 8414, .inl td)), (AM 6, .inl (cY 0, 2, .inl wn)), (AM 13, .inl (cY 0, 4, .inl rw)), (AM 14, .inl (cY 0, 4, .inl br))] H := by simp only [eo_32]; exact hP
              have hD9 : va_D A [(m0, .inr (8, mdL AM g)), (AM 0, .inl (cY 0, 72, .inl tb)), (AM 2, .inl (cY 0, 22, .inl (X8_comeOn0_w2 tb sA))), (AM 3, .inl (cY 0, 22, .inl rd)), (AM 4, .inl (cY 0, 110, .inl kp)), (AM 5, .inl (cY 0, 8414, .inl td)), (AM 6, .inl (cY 0, 2, .inl wn)), (AM 13, .inl (cY 0, 4, .inl rw)), (AM 14, .inl (cY 0, 4, .inl br))] := by simp only [eo_32]; exact hD
              exact W.vret hx hb hr (fun t ht hW => ⟨⟨(), rfl, trivial, wPost_of hP9 hD9 ht⟩, hS.F ht⟩) hS.2.2 dX8_comeOn_320
            · intro jn_31
              refine lv_if_le (tgt := 318) hx hb dX8_comeOn_303 (by decide) (fun c_30 => ?_) (fun c_30 => ?_)
              · refine lv_iconst (v := (-1)) hx hb dX8_comeOn_318 (by decide) ?_
                have e_33 : (X8_comeOn0_j319 tb sA) = (-1) := by rw [X8_comeOn0_j319]; simp only [← ez_5, ← ez_10, eq_true c_30, ↓reduceIte]
                refine W.eq (g2 := F0 m 319 ls [.int (X8_comeOn0_j319 tb sA), .int 7, .ref (AM 2)]) (by simp only [e_33]) ?_
                exact jn_31 _ _ _ (by (try simp only [e_33]); exact hP) (by (try simp only [e_33]); exact hD) hS (by (try simp only [e_33]); exact (lv_sub hl [] rfl))
              · refine lv_aload_n hx hb dX8_comeOn_306 rfl (lv_at hl 0 rfl) ?_
                refine va_get (D := (dC, dI)) (ci := 8) (v := .ref (AM 2)) (C := RX8) (T := TX8) (N := 17) hx hb hts inw_X8_comeOn_X8 hown hK hP 0 rfl rfl 2 (by decide) (hts (.fieldLink RX8 13 "DuelFramesModel" "s" "[I") (List.mem_of_getElem? (i := 1) rfl)) (fun _ h9 => h9) rfl dX8_comeOn_307 ?_
                refine lv_iload_n hx hb dX8_comeOn_310 rfl (lv_at hl 1 rfl) ?_
                refine lv_bipush (v := 7) hx hb dX8_comeOn_311 (by decide) ?_
                refine lv_iadd hx hb dX8_comeOn_313 ?_
                refine lv_topi (fun x_34 ex_34 => ?_)
                obtain rfl : x_34 = 7 := ex_34.trans (by decide)
                refine va_iald hx hb hK hP 2 0 rfl rfl (vin rfl) dX8_comeOn_314 ?_
                refine lv_topi (fun x_35 ex_35 => ?_)
                obtain rfl : x_35 = (z_10 7) := ex_35
                refine lv_goto (tgt := 319) hx hb dX8_comeOn_315 (by decide) ?_
                have e_36 : (X8_comeOn0_j319 tb sA) = (z_10 7) := by rw [X8_comeOn0_j319]; simp only [← ez_5, ← ez_10, eq_false c_30, ↓reduceIte]
                refine W.eq (g2 := F0 m 319 ls [.int (X8_comeOn0_j319 tb sA), .int 7, .ref (AM 2)]) (by simp only [e_36]) ?_
                exact jn_31 _ _ _ (by (try simp only [e_36]); exact hP) (by (try simp only [e_36]); exact hD) hS (by (try simp only [e_36]); exact (lv_sub hl [] rfl))
          · intro jn_26
            refine lv_if_le (tgt := 283) hx hb dX8_comeOn_276 (by decide) (fun c_25 => ?_) (fun c_25 => ?_)
            · refine lv_iconst (v := 0) hx hb dX8_comeOn_283 (by decide) ?_
              have e_37 : (X8_comeOn0_j284 tb sA) = 0 := by rw [X8_comeOn0_j284]; simp only [← ez_5, ← ez_10, eq_true c_25, ↓reduceIte]
              refine W.eq (g2 := F0 m 284 ls [.int (X8_comeOn0_j284 tb sA), .int (z_10 8), .int 8, .ref (AM 2)]) (by simp only [e_37]) ?_
              exact jn_26 _ _ _ (by (try simp only [e_37]); exact hP) (by (try simp only [e_37]); exact hD) hS (by (try simp only [e_37]); exact (lv_sub hl [0, 1] rfl))
            · refine lv_iconst (v := 1) hx hb dX8_comeOn_279 (by decide) ?_
              refine lv_goto (tgt := 284) hx hb dX8_comeOn_280 (by decide) ?_
              have e_38 : (X8_comeOn0_j284 tb sA) = 1 := by rw [X8_comeOn0_j284]; simp only [← ez_5, ← ez_10, eq_false c_25, ↓reduceIte]
              refine W.eq (g2 := F0 m 284 ls [.int (X8_comeOn0_j284 tb sA), .int (z_10 8), .int 8, .ref (AM 2)]) (by simp only [e_38]) ?_
              exact jn_26 _ _ _ (by (try simp only [e_38]); exact hP) (by (try simp only [e_38]); exact hD) hS (by (try simp only [e_38]); exact (lv_sub hl [0, 1] rfl))
        · intro jn_20
          refine lv_icmp_ne (tgt := 255) hx hb dX8_comeOn_240 (by decide) (fun c_19 => ?_) (fun c_19 => ?_)
          · refine lv_iconst (v := 0) hx hb dX8_comeOn_255 (by decide) ?_
            have e_39 : (X8_comeOn0_j256 tb sA) = 0 := by rw [X8_comeOn0_j256]; simp only [← ez_5, ← ez_10, eq_false c_19, ↓reduceIte]
            refine W.eq (g2 := F0 m 256 ls [.int (X8_comeOn0_j256 tb sA), .int 6, .ref (AM 2)]) (by simp only [e_39]) ?_
            exact jn_20 _ _ _ (by (try simp only [e_39]); exact hP) (by (try simp only [e_39]); exact hD) hS (by (try simp only [e_39]); exact (lv_sub hl [0, 1] rfl))
          · refine lv_aload_n hx hb dX8_comeOn_243 rfl (lv_at hl 0 rfl) ?_
            refine va_get (D := (dC, dI)) (ci := 8) (v := .ref (AM 2)) (C := RX8) (T := TX8) (N := 17) hx hb hts inw_X8_comeOn_X8 hown hK hP 0 rfl rfl 2 (by decide) (hts (.fieldLink RX8 13 "DuelFramesModel" "s" "[I") (List.mem_of_getElem? (i := 1) rfl)) (fun _ h9 => h9) rfl dX8_comeOn_244 ?_
            refine lv_iload_n hx hb dX8_comeOn_247 rfl (lv_at hl 1 rfl) ?_
            refine lv_bipush (v := 6) hx hb dX8_comeOn_248 (by decide) ?_
            refine lv_iadd hx hb dX8_comeOn_250 ?_
            refine lv_topi (fun x_40 ex_40 => ?_)
            obtain rfl : x_40 = 6 := ex_40.trans (by decide)
            refine va_iald hx hb hK hP 2 0 rfl rfl (vin rfl) dX8_comeOn_251 ?_
            refine lv_topi (fun x_41 ex_41 => ?_)
            obtain rfl : x_41 = (z_10 6) := ex_41
            refine lv_goto (tgt := 256) hx hb dX8_comeOn_252 (by decide) ?_
            have e_42 : (X8_comeOn0_j256 tb sA) = (z_10 6) := by rw [X8_comeOn0_j256]; simp only [← ez_5, ← ez_10, eq_true c_19, ↓reduceIte]
            refine W.eq (g2 := F0 m 256 ls [.int (X8_comeOn0_j256 tb sA), .int 6, .ref (AM 2)]) (by simp only [e_42]) ?_
            exact jn_20 _ _ _ (by (try simp only [e_42]); exact hP) (by (try simp only [e_42]); exact hD) hS (by (try simp only [e_42]); exact (lv_sub hl [0, 1] rfl))
      · intro jn_15
        refine lv_icmp_ne (tgt := 221) hx hb dX8_comeOn_206 (by decide) (fun c_14 => ?_) (fun c_14 => ?_)
        · refine lv_iconst (v := (-1)) hx hb dX8_comeOn_221 (by decide) ?_
          have e_43 : (X8_comeOn0_j222 tb sA) = (-1) := by rw [X8_comeOn0_j222]; simp only [← ez_5, ← ez_10, eq_false c_14, ↓reduceIte]
          refine W.eq (g2 := F0 m 222 ls [.int (X8_comeOn0_j222 tb sA), .int 9, .ref (AM 2)]) (by simp only [e_43]) ?_
          exact jn_15 _ _ _ (by (try simp only [e_43]); exact hP) (by (try simp only [e_43]); exact hD) hS (by (try simp only [e_43]); exact (lv_sub hl [0, 1] rfl))
        · refine lv_aload_n hx hb dX8_comeOn_209 rfl (lv_at hl 0 rfl) ?_
          refine va_get (D := (dC, dI)) (ci := 8) (v := .ref (AM 2)) (C := RX8) (T := TX8) (N := 17) hx hb hts inw_X8_comeOn_X8 hown hK hP 0 rfl rfl 2 (by decide) (hts (.fieldLink RX8 13 "DuelFramesModel" "s" "[I") (List.mem_of_getElem? (i := 1) rfl)) (fun _ h9 => h9) rfl dX8_comeOn_210 ?_
          refine lv_iload_n hx hb dX8_comeOn_213 rfl (lv_at hl 1 rfl) ?_
          refine lv_bipush (v := 9) hx hb dX8_comeOn_214 (by decide) ?_
          refine lv_iadd hx hb dX8_comeOn_216 ?_
          refine lv_topi (fun x_44 ex_44 => ?_)
          obtain rfl : x_44 = 9 := ex_44.trans (by decide)
          refine va_iald hx hb hK hP 2 0 rfl rfl (vin rfl) dX8_comeOn_217 ?_
          refine lv_topi (fun x_45 ex_45 => ?_)
          obtain rfl : x_45 = (z_10 9) := ex_45
          refine lv_goto (tgt := 222) hx hb dX8_comeOn_218 (by decide) ?_
          have e_46 : (X8_comeOn0_j222 tb sA) = (z_10 9) := by rw [X8_comeOn0_j222]; simp only [← ez_5, ← ez_10, eq_true c_14, ↓reduceIte]
          refine W.eq (g2 := F0 m 222 ls [.int (X8_comeOn0_j222 tb sA), .int 9, .ref (AM 2)]) (by simp only [e_46]) ?_
          exact jn_15 _ _ _ (by (try simp only [e_46]); exact hP) (by (try simp only [e_46]); exact hD) hS (by (try simp only [e_46]); exact (lv_sub hl [0, 1] rfl))
    · intro jn_9
      refine lv_if_ne (tgt := 189) hx hb dX8_comeOn_168 (by decide) (fun c_8 => ?_) (fun c_8 => ?_)
      · have e_47 : (X8_comeOn0_j189 tb sA) = z_5 := by rw [X8_comeOn0_j189]; simp only [← ez_5, eq_false c_8, ↓reduceIte]
        exact jn_9 _ _ _ (by (try simp only [e_47]); exact hP) (by (try simp only [e_47]); exact hD) hS (by (try simp only [e_47]); exact (lv_sub hl [0, 1] rfl))
      · refine lv_aload_n hx hb dX8_comeOn_171 rfl (lv_at hl 0 rfl) ?_
        refine va_get (D := (dC, dI)) (ci := 8) (v := .ref (AM 2)) (C := RX8) (T := TX8) (N := 17) hx hb hts inw_X8_comeOn_X8 hown hK hP 0 rfl rfl 2 (by decide) (hts (.fieldLink RX8 13 "DuelFramesModel" "s" "[I") (List.mem_of_getElem? (i := 1) rfl)) (fun _ h9 => h9) rfl dX8_comeOn_172 ?_
        refine lv_iload_n hx hb dX8_comeOn_175 rfl (lv_at hl 1 rfl) ?_
        refine lv_iconst (v := 5) hx hb dX8_comeOn_176 (by decide) ?_
        refine lv_iadd hx hb dX8_comeOn_177 ?_
        refine lv_topi (fun x_48 ex_48 => ?_)
        obtain rfl : x_48 = 5 := ex_48.trans (by decide)
        refine lv_iconst (v := 0) hx hb dX8_comeOn_178 (by decide) ?_
        refine va_iast hx hb hK hP hD hS 2 0 rfl rfl (vin rfl) dX8_comeOn_179 (fun H locs hP1 hD1 hS1 => ?_)
        clear hP hD hS
        have hP : va_P (dC, dI) vwCl [(m0, .inr (8, mdL AM g)), (AM 0, .inl (cY 0, 72, .inl tb)), (AM 2, .inl (cY 0, 22, .inl (upd z_5 5 0))), (AM 3, .inl (cY 0, 22, .inl rd)), (AM 4, .inl (cY 0, 110, .inl kp)), (AM 5, .inl (cY 0, 8414, .inl td)), (AM 6, .inl (cY 0, 2, .inl wn)), (AM 13, .inl (cY 0, 4, .inl rw)), (AM 14, .inl (cY 0, 4, .inl br))] H := hP1
        have hD : va_D A [(m0, .inr (8, mdL AM g)), (AM 0, .inl (cY 0, 72, .inl tb)), (AM 2, .inl (cY 0, 22, .inl (upd z_5 5 0))), (AM 3, .inl (cY 0, 22, .inl rd)), (AM 4, .inl (cY 0, 110, .inl kp)), (AM 5, .inl (cY 0, 8414, .inl td)), (AM 6, .inl (cY 0, 2, .inl wn)), (AM 13, .inl (cY 0, 4, .inl rw)), (AM 14, .inl (cY 0, 4, .inl br))] := hD1
        have hS := hS1
        clear hP1 hD1 hS1
        refine lv_aload_n hx hb dX8_comeOn_180 rfl (lv_at hl 0 rfl) ?_
        refine va_get (D := (dC, dI)) (ci := 8) (v := .ref (AM 2)) (C := RX8) (T := TX8) (N := 17) hx hb hts inw_X8_comeOn_X8 hown hK hP 0 rfl rfl 2 (by decide) (hts (.fieldLink RX8 13 "DuelFramesModel" "s" "[I") (List.mem_of_getElem? (i := 1) rfl)) (fun _ h9 => h9) rfl dX8_comeOn_181 ?_
        refine lv_iload_n hx hb dX8_comeOn_184 rfl (lv_at hl 1 rfl) ?_
        refine lv_iconst (v := 4) hx hb dX8_comeOn_185 (by decide) ?_
        refine lv_iadd hx hb dX8_comeOn_186 ?_
        refine lv_topi (fun x_49 ex_49 => ?_)
        obtain rfl : x_49 = 4 := ex_49.trans (by decide)
        refine lv_iconst (v := (-1)) hx hb dX8_comeOn_187 (by decide) ?_
        refine va_iast hx hb hK hP hD hS 2 0 rfl rfl (vin rfl) dX8_comeOn_188 (fun H locs hP1 hD1 hS1 => ?_)
        clear hP hD hS
        have hP : va_P (dC, dI) vwCl [(m0, .inr (8, mdL AM g)), (AM 0, .inl (cY 0, 72, .inl tb)), (AM 2, .inl (cY 0, 22, .inl (upd (upd z_5 5 0) 4 (-1)))), (AM 3, .inl (cY 0, 22, .inl rd)), (AM 4, .inl (cY 0, 110, .inl kp)), (AM 5, .inl (cY 0, 8414, .inl td)), (AM 6, .inl (cY 0, 2, .inl wn)), (AM 13, .inl (cY 0, 4, .inl rw)), (AM 14, .inl (cY 0, 4, .inl br))] H := hP1
        have hD : va_D A [(m0, .inr (8, mdL AM g)), (AM 0, .inl (cY 0, 72, .inl tb)), (AM 2, .inl (cY 0, 22, .inl (upd (upd z_5 5 0) 4 (-1)))), (AM 3, .inl (cY 0, 22, .inl rd)), (AM 4, .inl (cY 0, 110, .inl kp)), (AM 5, .inl (cY 0, 8414, .inl td)), (AM 6, .inl (cY 0, 2, .inl wn)), (AM 13, .inl (cY 0, 4, .inl rw)), (AM 14, .inl (cY 0, 4, .inl br))] := hD1
        have hS := hS1
        clear hP1 hD1 hS1
        have e_50 : (X8_comeOn0_j189 tb sA) = (upd (upd z_5 5 0) 4 (-1)) := by rw [X8_comeOn0_j189]; simp only [← ez_5, eq_true c_8, ↓reduceIte]
        exact jn_9 _ _ _ (by (try simp only [e_50]); exact hP) (by (try simp only [e_50]); exact hD) hS (by (try simp only [e_50]); exact (lv_sub hl [0, 1] rfl))
  · intro jn_4
    refine lv_icmp_ne (tgt := 106) hx hb dX8_comeOn_9 (by decide) (fun c_3 => ?_) (fun c_3 => ?_)
    · refine lv_aload_n hx hb dX8_comeOn_106 rfl (lv_at hl 0 rfl) ?_
      refine va_get (D := (dC, dI)) (ci := 8) (v := .ref (AM 2)) (C := RX8) (T := TX8) (N := 17) hx hb hts inw_X8_comeOn_X8 hown hK hP 0 rfl rfl 2 (by decide) (hts (.fieldLink RX8 13 "DuelFramesModel" "s" "[I") (List.mem_of_getElem? (i := 1) rfl)) (fun _ h9 => h9) rfl dX8_comeOn_107 ?_
      refine lv_iload_n hx hb dX8_comeOn_110 rfl (lv_at hl 1 rfl) ?_
      refine lv_iconst (v := 3) hx hb dX8_comeOn_111 (by decide) ?_
      refine lv_iadd hx hb dX8_comeOn_112 ?_
      refine lv_topi (fun x_51 ex_51 => ?_)
      obtain rfl : x_51 = 3 := ex_51.trans (by decide)
      refine va_iald hx hb hK hP 2 0 rfl rfl (vin rfl) dX8_comeOn_113 ?_
      refine lv_topi (fun x_52 ex_52 => ?_)
      obtain rfl : x_52 = (sA 3) := ex_52
      refine lv_if_eq (tgt := 160) hx hb dX8_comeOn_114 (by decide) (fun c_53 => ?_) (fun c_53 => ?_)
      · have e_54 : (X8_comeOn0_j160 tb sA) = sA := by rw [X8_comeOn0_j160]; simp only [eq_false c_3, eq_true c_53, ↓reduceIte]
        exact jn_4 _ _ _ (by (try simp only [e_54]); exact hP) (by (try simp only [e_54]); exact hD) hS (by (try simp only [e_54]); exact (lv_sub hl [0, 1] rfl))
      · refine lv_aload_n hx hb dX8_comeOn_117 rfl (lv_at hl 0 rfl) ?_
        refine va_get (D := (dC, dI)) (ci := 8) (v := .ref (AM 2)) (C := RX8) (T := TX8) (N := 17) hx hb hts inw_X8_comeOn_X8 hown hK hP 0 rfl rfl 2 (by decide) (hts (.fieldLink RX8 13 "DuelFramesModel" "s" "[I") (List.mem_of_getElem? (i := 1) rfl)) (fun _ h9 => h9) rfl dX8_comeOn_118 ?_
        refine lv_iload_n hx hb dX8_comeOn_121 rfl (lv_at hl 1 rfl) ?_
        refine lv_iconst (v := 5) hx hb dX8_comeOn_122 (by decide) ?_
        refine lv_iadd hx hb dX8_comeOn_123 ?_
        refine lv_topi (fun x_55 ex_55 => ?_)
        obtain rfl : x_55 = 5 := ex_55.trans (by decide)
        refine lv_dup2_11 hx hb dX8_comeOn_124 rfl rfl ?_
        refine va_iald hx hb hK hP 2 0 rfl rfl (vin rfl) dX8_comeOn_125 ?_
        refine lv_topi (fun x_56 ex_56 => ?_)
        obtain rfl : x_56 = (sA 5) := ex_56
        refine lv_iconst (v := 1) hx hb dX8_comeOn_126 (by decide) ?_
        refine lv_isub hx hb dX8_comeOn_127 ?_
        refine va_iast hx hb hK hP hD hS 2 0 rfl rfl (vin rfl) dX8_comeOn_128 (fun H locs hP1 hD1 hS1 => ?_)
        clear hP hD hS
        have hP : va_P (dC, dI) vwCl [(m0, .inr (8, mdL AM g)), (AM 0, .inl (cY 0, 72, .inl tb)), (AM 2, .inl (cY 0, 22, .inl (upd sA 5 ((sA 5) - 1)))), (AM 3, .inl (cY 0, 22, .inl rd)), (AM 4, .inl (cY 0, 110, .inl kp)), (AM 5, .inl (cY 0, 8414, .inl td)), (AM 6, .inl (cY 0, 2, .inl wn)), (AM 13, .inl (cY 0, 4, .inl rw)), (AM 14, .inl (cY 0, 4, .inl br))] H := hP1
        have hD : va_D A [(m0, .inr (8, mdL AM g)), (AM 0, .inl (cY 0, 72, .inl tb)), (AM 2, .inl (cY 0, 22, .inl (upd sA 5 ((sA 5) - 1)))), (AM 3, .inl (cY 0, 22, .inl rd)), (AM 4, .inl (cY 0, 110, .inl kp)), (AM 5, .inl (cY 0, 8414, .inl td)), (AM 6, .inl (cY 0, 2, .inl wn)), (AM 13, .inl (cY 0, 4, .inl rw)), (AM 14, .inl (cY 0, 4, .inl br))] := hD1
        have hS := hS1
        clear hP1 hD1 hS1
        refine lv_aload_n hx hb dX8_comeOn_129 rfl (lv_at hl 0 rfl) ?_
        refine va_get (D := (dC, dI)) (ci := 8) (v := .ref (AM 2)) (C := RX8) (T := TX8) (N := 17) hx hb hts inw_X8_comeOn_X8 hown hK hP 0 rfl rfl 2 (by decide) (hts (.fieldLink RX8 13 "DuelFramesModel" "s" "[I") (List.mem_of_getElem? (i := 1) rfl)) (fun _ h9 => h9) rfl dX8_comeOn_130 ?_
        refine lv_iload_n hx hb dX8_comeOn_133 rfl (lv_at hl 1 rfl) ?_
        refine lv_iconst (v := 3) hx hb dX8_comeOn_134 (by decide) ?_
        refine lv_iadd hx hb dX8_comeOn_135 ?_
        refine lv_topi (fun x_57 ex_57 => ?_)
        obtain rfl : x_57 = 3 := ex_57.trans (by decide)
        refine lv_aload_n hx hb dX8_comeOn_136 rfl (lv_at hl 0 rfl) ?_
        refine va_get (D := (dC, dI)) (ci := 8) (v := .ref (AM 2)) (C := RX8) (T := TX8) (N := 17) hx hb hts inw_X8_comeOn_X8 hown hK hP 0 rfl rfl 2 (by decide) (hts (.fieldLink RX8 13 "DuelFramesModel" "s" "[I") (List.mem_of_getElem? (i := 1) rfl)) (fun _ h9 => h9) rfl dX8_comeOn_137 ?_
        refine lv_iload_n hx hb dX8_comeOn_140 rfl (lv_at hl 1 rfl) ?_
        refine lv_iconst (v := 5) hx hb dX8_comeOn_141 (by decide) ?_
        refine lv_iadd hx hb dX8_comeOn_142 ?_
        refine lv_topi (fun x_58 ex_58 => ?_)
        obtain rfl : x_58 = 5 := ex_58.trans (by decide)
        refine va_iald hx hb hK hP 2 0 rfl rfl (vin rfl) dX8_comeOn_143 ?_
        refine lv_topi (fun x_59 ex_59 => ?_)
        obtain rfl : x_59 = ((sA 5) - 1) := ex_59
        refine jnW (D := (dC, dI)) (ws := [(m0, .inr (8, mdL AM g)), (AM 0, .inl (cY 0, 72, .inl tb)), (AM 2, .inl (cY 0, 22, .inl (upd sA 5 ((sA 5) - 1)))), (AM 3, .inl (cY 0, 22, .inl rd)), (AM 4, .inl (cY 0, 110, .inl kp)), (AM 5, .inl (cY 0, 8414, .inl td)), (AM 6, .inl (cY 0, 2, .inl wn)), (AM 13, .inl (cY 0, 4, .inl rw)), (AM 14, .inl (cY 0, 4, .inl br))]) (lv := [(0, .ref m0), (1, .int 0)]) (st := [.int (X8_comeOn0_j159 sA), .int 3, .ref (AM 2)]) (J := 159) (n := 3) (A := A) (H0 := s.heap) ?_ ?_
        · intro H locs ls hP hD hS hl
          refine va_iast hx hb hK hP hD hS 2 0 rfl rfl (vin rfl) dX8_comeOn_159 (fun H locs hP1 hD1 hS1 => ?_)
          clear hP hD hS
          have hP : va_P (dC, dI) vwCl [(m0, .inr (8, mdL AM g)), (AM 0, .inl (cY 0, 72, .inl tb)), (AM 2, .inl (cY 0, 22, .inl (upd (upd sA 5 ((sA 5) - 1)) 3 (X8_comeOn0_j159 sA)))), (AM 3, .inl (cY 0, 22, .inl rd)), (AM 4, .inl (cY 0, 110, .inl kp)), (AM 5, .inl (cY 0, 8414, .inl td)), (AM 6, .inl (cY 0, 2, .inl wn)), (AM 13, .inl (cY 0, 4, .inl rw)), (AM 14, .inl (cY 0, 4, .inl br))] H := hP1
          have hD : va_D A [(m0, .inr (8, mdL AM g)), (AM 0, .inl (cY 0, 72, .inl tb)), (AM 2, .inl (cY 0, 22, .inl (upd (upd sA 5 ((sA 5) - 1)) 3 (X8_comeOn0_j159 sA)))), (AM 3, .inl (cY 0, 22, .inl rd)), (AM 4, .inl (cY 0, 110, .inl kp)), (AM 5, .inl (cY 0, 8414, .inl td)), (AM 6, .inl (cY 0, 2, .inl wn)), (AM 13, .inl (cY 0, 4, .inl rw)), (AM 14, .inl (cY 0, 4, .inl br))] := hD1
          have hS := hS1
          clear hP1 hD1 hS1
          have e_62 : (X8_comeOn0_j160 tb sA) = (upd (upd sA 5 ((sA 5) - 1)) 3 (X8_comeOn0_j159 sA)) := by rw [X8_comeOn0_j160]; simp only [eq_false c_3, eq_false c_53, ↓reduceIte]
          exact jn_4 _ _ _ (by (try simp only [e_62]); exact hP) (by (try simp only [e_62]); exact hD) hS (by (try simp only [e_62]); exact (lv_sub hl [0, 1] rfl))
        · intro jn_61
          refine lv_if_gt (tgt := 151) hx hb dX8_comeOn_144 (by decide) (fun c_60 => ?_) (fun c_60 => ?_)
          · refine lv_aload_n hx hb dX8_comeOn_151 rfl (lv_at hl 0 rfl) ?_
            refine va_get (D := (dC, dI)) (ci := 8) (v := .ref (AM 2)) (C := RX8) (T := TX8) (N := 17) hx hb hts inw_X8_comeOn_X8 hown hK hP 0 rfl rfl 2 (by decide) (hts (.fieldLink RX8 13 "DuelFramesModel" "s" "[I") (List.mem_of_getElem? (i := 1) rfl)) (fun _ h9 => h9) rfl dX8_comeOn_152 ?_
            refine lv_iload_n hx hb dX8_comeOn_155 rfl (lv_at hl 1 rfl) ?_
            refine lv_iconst (v := 3) hx hb dX8_comeOn_156 (by decide) ?_
            refine lv_iadd hx hb dX8_comeOn_157 ?_
            refine lv_topi (fun x_63 ex_63 => ?_)
            obtain rfl : x_63 = 3 := ex_63.trans (by decide)
            refine va_iald hx hb hK hP 2 0 rfl rfl (vin rfl) dX8_comeOn_158 ?_
            refine lv_topi (fun x_64 ex_64 => ?_)
            obtain rfl : x_64 = (sA 3) := ex_64
            have e_65 : (X8_comeOn0_j159 sA) = (sA 3) := by rw [X8_comeOn0_j159]; simp only [eq_true c_60, ↓reduceIte]
            refine W.eq (g2 := F0 m 159 ls [.int (X8_comeOn0_j159 sA), .int 3, .ref (AM 2)]) (by simp only [e_65]) ?_
            exact jn_61 _ _ _ (by (try simp only [e_65]); exact hP) (by (try simp only [e_65]); exact hD) hS (by (try simp only [e_65]); exact (lv_sub hl [0, 1] rfl))
          · refine lv_iconst (v := 0) hx hb dX8_comeOn_147 (by decide) ?_
            refine lv_goto (tgt := 159) hx hb dX8_comeOn_148 (by decide) ?_
            have e_66 : (X8_comeOn0_j159 sA) = 0 := by rw [X8_comeOn0_j159]; simp only [eq_false c_60, ↓reduceIte]
            refine W.eq (g2 := F0 m 159 ls [.int (X8_comeOn0_j159 sA), .int 3, .ref (AM 2)]) (by simp only [e_66]) ?_
            exact jn_61 _ _ _ (by (try simp only [e_66]); exact hP) (by (try simp only [e_66]); exact hD) hS (by (try simp only [e_66]); exact (lv_sub hl [0, 1] rfl))
    · refine lv_aload_n hx hb dX8_comeOn_12 rfl (lv_at hl 0 rfl) ?_
      refine va_get (D := (dC, dI)) (ci := 8) (v := .ref (AM 2)) (C := RX8) (T := TX8) (N := 17) hx hb hts inw_X8_comeOn_X8 hown hK hP 0 rfl rfl 2 (by decide) (hts (.fieldLink RX8 13 "DuelFramesModel" "s" "[I") (List.mem_of_getElem? (i := 1) rfl)) (fun _ h9 => h9) rfl dX8_comeOn_13 ?_
      refine lv_iload_n hx hb dX8_comeOn_16 rfl (lv_at hl 1 rfl) ?_
      refine lv_iconst (v := 4) hx hb dX8_comeOn_17 (by decide) ?_
      refine lv_iadd hx hb dX8_comeOn_18 ?_
      refine lv_topi (fun x_67 ex_67 => ?_)
      obtain rfl : x_67 = 4 := ex_67.trans (by decide)
      refine va_iald hx hb hK hP 2 0 rfl rfl (vin rfl) dX8_comeOn_19 ?_
      refine lv_topi (fun x_68 ex_68 => ?_)
      obtain rfl : x_68 = (sA 4) := ex_68
      refine lv_istore_n (lv' := [(2, .int (sA 4)), (0, .ref m0), (1, .int 0)]) hx hb dX8_comeOn_20 rfl hl (by decide) rfl (fun ls hl => ?_)
      refine lv_aload_n hx hb dX8_comeOn_21 rfl (lv_at hl 1 rfl) ?_
      refine va_get (D := (dC, dI)) (ci := 8) (v := .ref (AM 2)) (C := RX8) (T := TX8) (N := 17) hx hb hts inw_X8_comeOn_X8 hown hK hP 0 rfl rfl 2 (by decide) (hts (.fieldLink RX8 13 "DuelFramesModel" "s" "[I") (List.mem_of_getElem? (i := 1) rfl)) (fun _ h9 => h9) rfl dX8_comeOn_22 ?_
      refine lv_iload_n hx hb dX8_comeOn_25 rfl (lv_at hl 2 rfl) ?_
      refine lv_iconst (v := 5) hx hb dX8_comeOn_26 (by decide) ?_
      refine lv_iadd hx hb dX8_comeOn_27 ?_
      refine lv_topi (fun x_69 ex_69 => ?_)
      obtain rfl : x_69 = 5 := ex_69.trans (by decide)
      refine lv_dup2_11 hx hb dX8_comeOn_28 rfl rfl ?_
      refine va_iald hx hb hK hP 2 0 rfl rfl (vin rfl) dX8_comeOn_29 ?_
      refine lv_topi (fun x_70 ex_70 => ?_)
      obtain rfl : x_70 = (sA 5) := ex_70
      refine lv_iconst (v := 1) hx hb dX8_comeOn_30 (by decide) ?_
      refine lv_iadd hx hb dX8_comeOn_31 ?_
      refine va_iast hx hb hK hP hD hS 2 0 rfl rfl (vin rfl) dX8_comeOn_32 (fun H locs hP1 hD1 hS1 => ?_)
      clear hP hD hS
      have hP : va_P (dC, dI) vwCl [(m0, .inr (8, mdL AM g)), (AM 0, .inl (cY 0, 72, .inl tb)), (AM 2, .inl (cY 0, 22, .inl (upd sA 5 ((sA 5) + 1)))), (AM 3, .inl (cY 0, 22, .inl rd)), (AM 4, .inl (cY 0, 110, .inl kp)), (AM 5, .inl (cY 0, 8414, .inl td)), (AM 6, .inl (cY 0, 2, .inl wn)), (AM 13, .inl (cY 0, 4, .inl rw)), (AM 14, .inl (cY 0, 4, .inl br))] H := hP1
      have hD : va_D A [(m0, .inr (8, mdL AM g)), (AM 0, .inl (cY 0, 72, .inl tb)), (AM 2, .inl (cY 0, 22, .inl (upd sA 5 ((sA 5) + 1)))), (AM 3, .inl (cY 0, 22, .inl rd)), (AM 4, .inl (cY 0, 110, .inl kp)), (AM 5, .inl (cY 0, 8414, .inl td)), (AM 6, .inl (cY 0, 2, .inl wn)), (AM 13, .inl (cY 0, 4, .inl rw)), (AM 14, .inl (cY 0, 4, .inl br))] := hD1
      have hS := hS1
      clear hP1 hD1 hS1
      refine lv_aload_n hx hb dX8_comeOn_33 rfl (lv_at hl 1 rfl) ?_
      refine va_get (D := (dC, dI)) (ci := 8) (v := .ref (AM 2)) (C := RX8) (T := TX8) (N := 17) hx hb hts inw_X8_comeOn_X8 hown hK hP 0 rfl rfl 2 (by decide) (hts (.fieldLink RX8 13 "DuelFramesModel" "s" "[I") (List.mem_of_getElem? (i := 1) rfl)) (fun _ h9 => h9) rfl dX8_comeOn_34 ?_
      refine lv_iload_n hx hb dX8_comeOn_37 rfl (lv_at hl 2 rfl) ?_
      refine lv_bipush (v := 9) hx hb dX8_comeOn_38 (by decide) ?_
      refine lv_iadd hx hb dX8_comeOn_40 ?_
      refine lv_topi (fun x_71 ex_71 => ?_)
      obtain rfl : x_71 = 9 := ex_71.trans (by decide)
      refine lv_dup2_11 hx hb dX8_comeOn_41 rfl rfl ?_
      refine va_iald hx hb hK hP 2 0 rfl rfl (vin rfl) dX8_comeOn_42 ?_
      refine lv_topi (fun x_72 ex_72 => ?_)
      obtain rfl : x_72 = (sA 9) := ex_72
      refine lv_aload_n hx hb dX8_comeOn_43 rfl (lv_at hl 1 rfl) ?_
      refine va_get (D := (dC, dI)) (ci := 8) (v := .ref (AM 2)) (C := RX8) (T := TX8) (N := 17) hx hb hts inw_X8_comeOn_X8 hown hK hP 0 rfl rfl 2 (by decide) (hts (.fieldLink RX8 13 "DuelFramesModel" "s" "[I") (List.mem_of_getElem? (i := 1) rfl)) (fun _ h9 => h9) rfl dX8_comeOn_44 ?_
      refine lv_iload_n hx hb dX8_comeOn_47 rfl (lv_at hl 2 rfl) ?_
      refine lv_bipush (v := 9) hx hb dX8_comeOn_48 (by decide) ?_
      refine lv_iadd hx hb dX8_comeOn_50 ?_
      refine lv_topi (fun x_73 ex_73 => ?_)
      obtain rfl : x_73 = 9 := ex_73.trans (by decide)
      refine va_iald hx hb hK hP 2 0 rfl rfl (vin rfl) dX8_comeOn_51 ?_
      refine lv_topi (fun x_74 ex_74 => ?_)
      obtain rfl : x_74 = (sA 9) := ex_74
      refine lv_iconst (v := (-1)) hx hb dX8_comeOn_52 (by decide) ?_
      refine jnW (D := (dC, dI)) (ws := [(m0, .inr (8, mdL AM g)), (AM 0, .inl (cY 0, 72, .inl tb)), (AM 2, .inl (cY 0, 22, .inl (upd sA 5 ((sA 5) + 1)))), (AM 3, .inl (cY 0, 22, .inl rd)), (AM 4, .inl (cY 0, 110, .inl kp)), (AM 5, .inl (cY 0, 8414, .inl td)), (AM 6, .inl (cY 0, 2, .inl wn)), (AM 13, .inl (cY 0, 4, .inl rw)), (AM 14, .inl (cY 0, 4, .inl br))]) (lv := [(2, .int (sA 4)), (0, .ref m0), (1, .int 0)]) (st := [.int (X8_comeOn0_j61 sA), .int (sA 9), .int 9, .ref (AM 2)]) (J := 61) (n := 3) (A := A) (H0 := s.heap) ?_ ?_
      · intro H locs ls hP hD hS hl
        refine lv_iadd hx hb dX8_comeOn_61 ?_
        refine va_iast hx hb hK hP hD hS 2 0 rfl rfl (vin rfl) dX8_comeOn_62 (fun H locs hP1 hD1 hS1 => ?_)
        clear hP hD hS
        have hP : va_P (dC, dI) vwCl [(m0, .inr (8, mdL AM g)), (AM 0, .inl (cY 0, 72, .inl tb)), (AM 2, .inl (cY 0, 22, .inl (upd (upd sA 5 ((sA 5) + 1)) 9 ((sA 9) + (X8_comeOn0_j61 sA))))), (AM 3, .inl (cY 0, 22, .inl rd)), (AM 4, .inl (cY 0, 110, .inl kp)), (AM 5, .inl (cY 0, 8414, .inl td)), (AM 6, .inl (cY 0, 2, .inl wn)), (AM 13, .inl (cY 0, 4, .inl rw)), (AM 14, .inl (cY 0, 4, .inl br))] H := hP1
        have hD : va_D A [(m0, .inr (8, mdL AM g)), (AM 0, .inl (cY 0, 72, .inl tb)), (AM 2, .inl (cY 0, 22, .inl (upd (upd sA 5 ((sA 5) + 1)) 9 ((sA 9) + (X8_comeOn0_j61 sA))))), (AM 3, .inl (cY 0, 22, .inl rd)), (AM 4, .inl (cY 0, 110, .inl kp)), (AM 5, .inl (cY 0, 8414, .inl td)), (AM 6, .inl (cY 0, 2, .inl wn)), (AM 13, .inl (cY 0, 4, .inl rw)), (AM 14, .inl (cY 0, 4, .inl br))] := hD1
        have hS := hS1
        clear hP1 hD1 hS1
        refine lv_aload_n hx hb dX8_comeOn_63 rfl (lv_at hl 1 rfl) ?_
        refine va_get (D := (dC, dI)) (ci := 8) (v := .ref (AM 2)) (C := RX8) (T := TX8) (N := 17) hx hb hts inw_X8_comeOn_X8 hown hK hP 0 rfl rfl 2 (by decide) (hts (.fieldLink RX8 13 "DuelFramesModel" "s" "[I") (List.mem_of_getElem? (i := 1) rfl)) (fun _ h9 => h9) rfl dX8_comeOn_64 ?_
        refine lv_iload_n hx hb dX8_comeOn_67 rfl (lv_at hl 2 rfl) ?_
        refine lv_iconst (v := 5) hx hb dX8_comeOn_68 (by decide) ?_
        refine lv_iadd hx hb dX8_comeOn_69 ?_
        refine lv_topi (fun x_77 ex_77 => ?_)
        obtain rfl : x_77 = 5 := ex_77.trans (by decide)
        refine va_iald hx hb hK hP 2 0 rfl rfl (vin rfl) dX8_comeOn_70 ?_
        refine lv_topi (fun x_78 ex_78 => ?_)
        obtain rfl : x_78 = ((sA 5) + 1) := ex_78
        refine lv_aload_n hx hb dX8_comeOn_71 rfl (lv_at hl 1 rfl) ?_
        refine lv_iload_n hx hb dX8_comeOn_72 rfl (lv_at hl 0 rfl) ?_
        refine lv_iconst (v := 0) hx hb dX8_comeOn_73 (by decide) ?_
        refine vp_callSi (W.runV (As := [.int (sA 4), .int 0]) (rest := [.int ((sA 5) + 1)]) ⟨hx, hb, hml, hown, hts⟩ (c_X8_ofMove l dC dI cY m0 AM g tb (upd (upd sA 5 ((sA 5) + 1)) 9 ((sA 9) + (X8_comeOn0_j61 sA))) rd kp td wn rw br (sA 4) 0 (tb_in (hs.2.2.1 c_3) (vin rfl))) (cwV 2 hts gX8_comeOn_X8_ofMove rfl rfl rfl (by decide +kernel) ⟨Nat.le_of_ble_eq_true rfl, Nat.le_of_ble_eq_true rfl⟩) ⟨blindR, va_recv hK hP (ci := 8) (q0 := 0) rfl rfl, fun U hU hW => ⟨rfl, rPre_of hP hK hN U hU hW⟩⟩ rfl rfl hl.1 rfl (lv_room (Nat.le_of_ble_eq_true rfl)) dX8_comeOn_74 ⟨Nat.zero_le _, Nat.zero_le _⟩) (fun r_79 hw => ?_)
        subst hw
        refine lv_aload_n hx hb dX8_comeOn_77 rfl (lv_at hl 1 rfl) ?_
        refine lv_iload_n hx hb dX8_comeOn_78 rfl (lv_at hl 0 rfl) ?_
        refine lv_iconst (v := 1) hx hb dX8_comeOn_79 (by decide) ?_
        refine vp_callSi (W.runV (As := [.int (sA 4), .int 1]) (rest := [.int (X8_ofMove_r tb (sA 4) 0), .int ((sA 5) + 1)]) ⟨hx, hb, hml, hown, hts⟩ (c_X8_ofMove l dC dI cY m0 AM g tb (upd (upd sA 5 ((sA 5) + 1)) 9 ((sA 9) + (X8_comeOn0_j61 sA))) rd kp td wn rw br (sA 4) 1 (tb_in (hs.2.2.1 c_3) (vin rfl))) (cwV 2 hts gX8_comeOn_X8_ofMove rfl rfl rfl (by decide +kernel) ⟨Nat.le_of_ble_eq_true rfl, Nat.le_of_ble_eq_true rfl⟩) ⟨blindR, va_recv hK hP (ci := 8) (q0 := 0) rfl rfl, fun U hU hW => ⟨rfl, rPre_of hP hK hN U hU hW⟩⟩ rfl rfl hl.1 rfl (lv_room (Nat.le_of_ble_eq_true rfl)) dX8_comeOn_80 ⟨Nat.zero_le _, Nat.zero_le _⟩) (fun r_80 hw => ?_)
        subst hw
        refine lv_iadd hx hb dX8_comeOn_83 ?_
        refine lv_aload_n hx hb dX8_comeOn_84 rfl (lv_at hl 1 rfl) ?_
        refine lv_iload_n hx hb dX8_comeOn_85 rfl (lv_at hl 0 rfl) ?_
        refine lv_iconst (v := 2) hx hb dX8_comeOn_86 (by decide) ?_
        refine vp_callSi (W.runV (As := [.int (sA 4), .int 2]) (rest := [.int ((X8_ofMove_r tb (sA 4) 0) + (X8_ofMove_r tb (sA 4) 1)), .int ((sA 5) + 1)]) ⟨hx, hb, hml, hown, hts⟩ (c_X8_ofMove l dC dI cY m0 AM g tb (upd (upd sA 5 ((sA 5) + 1)) 9 ((sA 9) + (X8_comeOn0_j61 sA))) rd kp td wn rw br (sA 4) 2 (tb_in (hs.2.2.1 c_3) (vin rfl))) (cwV 2 hts gX8_comeOn_X8_ofMove rfl rfl rfl (by decide +kernel) ⟨Nat.le_of_ble_eq_true rfl, Nat.le_of_ble_eq_true rfl⟩) ⟨blindR, va_recv hK hP (ci := 8) (q0 := 0) rfl rfl, fun U hU hW => ⟨rfl, rPre_of hP hK hN U hU hW⟩⟩ rfl rfl hl.1 rfl (lv_room (Nat.le_of_ble_eq_true rfl)) dX8_comeOn_87 ⟨Nat.zero_le _, Nat.zero_le _⟩) (fun r_81 hw => ?_)
        subst hw
        refine lv_iadd hx hb dX8_comeOn_90 ?_
        refine jnW (D := (dC, dI)) (ws := [(m0, .inr (8, mdL AM g)), (AM 0, .inl (cY 0, 72, .inl tb)), (AM 2, .inl (cY 0, 22, .inl (X8_comeOn0_j103 tb sA))), (AM 3, .inl (cY 0, 22, .inl rd)), (AM 4, .inl (cY 0, 110, .inl kp)), (AM 5, .inl (cY 0, 8414, .inl td)), (AM 6, .inl (cY 0, 2, .inl wn)), (AM 13, .inl (cY 0, 4, .inl rw)), (AM 14, .inl (cY 0, 4, .inl br))]) (lv := [(0, .ref m0), (1, .int 0)]) (st := []) (J := 103) (n := 3) (A := A) (H0 := s.heap) ?_ ?_
        · intro H locs ls hP hD hS hl
          obtain ⟨z_84, ez_84⟩ : ∃ z, z = (X8_comeOn0_j103 tb sA) := ⟨_, rfl⟩
          rw [← ez_84] at hP hD
          refine lv_goto (tgt := 160) hx hb dX8_comeOn_103 (by decide) ?_
          have e_85 : (X8_comeOn0_j160 tb sA) = z_84 := by rw [X8_comeOn0_j160]; simp only [← ez_84, eq_true c_3, ↓reduceIte]
          exact jn_4 _ _ _ (by (try simp only [e_85, ← ez_84]); exact hP) (by (try simp only [e_85, ← ez_84]); exact hD) hS (by (try simp only [e_85, ← ez_84]); exact (lv_sub hl [0, 1] rfl))
        · intro jn_83
          refine lv_icmp_ne (tgt := 103) hx hb dX8_comeOn_91 (by decide) (fun c_82 => ?_) (fun c_82 => ?_)
          · have e_86 : (X8_comeOn0_j103 tb sA) = (upd (upd sA 5 ((sA 5) + 1)) 9 ((sA 9) + (X8_comeOn0_j61 sA))) := by rw [X8_comeOn0_j103]; simp only [eq_false c_82, ↓reduceIte]
            exact jn_83 _ _ _ (by (try simp only [e_86]); exact hP) (by (try simp only [e_86]); exact hD) hS (by (try simp only [e_86]); exact (lv_sub hl [1, 2] rfl))
          · refine lv_aload_n hx hb dX8_comeOn_94 rfl (lv_at hl 1 rfl) ?_
            refine va_get (D := (dC, dI)) (ci := 8) (v := .ref (AM 2)) (C := RX8) (T := TX8) (N := 17) hx hb hts inw_X8_comeOn_X8 hown hK hP 0 rfl rfl 2 (by decide) (hts (.fieldLink RX8 13 "DuelFramesModel" "s" "[I") (List.mem_of_getElem? (i := 1) rfl)) (fun _ h9 => h9) rfl dX8_comeOn_95 ?_
            refine lv_iload_n hx hb dX8_comeOn_98 rfl (lv_at hl 2 rfl) ?_
            refine lv_iconst (v := 3) hx hb dX8_comeOn_99 (by decide) ?_
            refine lv_iadd hx hb dX8_comeOn_100 ?_
            refine lv_topi (fun x_87 ex_87 => ?_)
            obtain rfl : x_87 = 3 := ex_87.trans (by decide)
            refine lv_iconst (v := 0) hx hb dX8_comeOn_101 (by decide) ?_
            refine va_iast hx hb hK hP hD hS 2 0 rfl rfl (vin rfl) dX8_comeOn_102 (fun H locs hP1 hD1 hS1 => ?_)
            clear hP hD hS
            have hP : va_P (dC, dI) vwCl [(m0, .inr (8, mdL AM g)), (AM 0, .inl (cY 0, 72, .inl tb)), (AM 2, .inl (cY 0, 22, .inl (upd (upd (upd sA 5 ((sA 5) + 1)) 9 ((sA 9) + (X8_comeOn0_j61 sA))) 3 0))), (AM 3, .inl (cY 0, 22, .inl rd)), (AM 4, .inl (cY 0, 110, .inl kp)), (AM 5, .inl (cY 0, 8414, .inl td)), (AM 6, .inl (cY 0, 2, .inl wn)), (AM 13, .inl (cY 0, 4, .inl rw)), (AM 14, .inl (cY 0, 4, .inl br))] H := hP1
            have hD : va_D A [(m0, .inr (8, mdL AM g)), (AM 0, .inl (cY 0, 72, .inl tb)), (AM 2, .inl (cY 0, 22, .inl (upd (upd (upd sA 5 ((sA 5) + 1)) 9 ((sA 9) + (X8_comeOn0_j61 sA))) 3 0))), (AM 3, .inl (cY 0, 22, .inl rd)), (AM 4, .inl (cY 0, 110, .inl kp)), (AM 5, .inl (cY 0, 8414, .inl td)), (AM 6, .inl (cY 0, 2, .inl wn)), (AM 13, .inl (cY 0, 4, .inl rw)), (AM 14, .inl (cY 0, 4, .inl br))] := hD1
            have hS := hS1
            clear hP1 hD1 hS1
            have e_88 : (X8_comeOn0_j103 tb sA) = (upd (upd (upd sA 5 ((sA 5) + 1)) 9 ((sA 9) + (X8_comeOn0_j61 sA))) 3 0) := by rw [X8_comeOn0_j103]; simp only [eq_true c_82, ↓reduceIte]
            exact jn_83 _ _ _ (by (try simp only [e_88]); exact hP) (by (try simp only [e_88]); exact hD) hS (by (try simp only [e_88]); exact (lv_sub hl [1, 2] rfl))
      · intro jn_76
        refine lv_icmp_ne (tgt := 60) hx hb dX8_comeOn_53 (by decide) (fun c_75 => ?_) (fun c_75 => ?_)
        · refine lv_iconst (v := 1) hx hb dX8_comeOn_60 (by decide) ?_
          have e_89 : (X8_comeOn0_j61 sA) = 1 := by rw [X8_comeOn0_j61]; simp only [eq_false c_75, ↓reduceIte]
          refine W.eq (g2 := F0 m 61 ls [.int (X8_comeOn0_j61 sA), .int (sA 9), .int 9, .ref (AM 2)]) (by simp only [e_89]) ?_
          exact jn_76 _ _ _ (by (try simp only [e_89]); exact hP) (by (try simp only [e_89]); exact hD) hS (by (try simp only [e_89]); exact (lv_sub hl [0, 1, 2] rfl))
        · refine lv_iconst (v := 0) hx hb dX8_comeOn_56 (by decide) ?_
          refine lv_goto (tgt := 61) hx hb dX8_comeOn_57 (by decide) ?_
          have e_90 : (X8_comeOn0_j61 sA) = 0 := by rw [X8_comeOn0_j61]; simp only [eq_true c_75, ↓reduceIte]
          refine W.eq (g2 := F0 m 61 ls [.int (X8_comeOn0_j61 sA), .int (sA 9), .int 9, .ref (AM 2)]) (by simp only [e_90]) ?_
          exact jn_76 _ _ _ (by (try simp only [e_90]); exact hP) (by (try simp only [e_90]); exact hD) hS (by (try simp only [e_90]); exact (lv_sub hl [0, 1, 2] rfl))
def X8_comeOn11_j159 (sA : Nat → Int32) : Int32 := (if 0 < ((sA 16) - 1) then (sA 14) else 0)
def X8_comeOn11_j61 (sA : Nat → Int32) : Int32 := (if (sA 20) = (-1) then 0 else 1)
def X8_comeOn11_j103 (tb : Nat → Int32) (sA : Nat → Int32) : Nat → Int32 := (if ((sA 16) + 1) = (((X8_ofMove_r tb (sA 15) 0) + (X8_ofMove_r tb (sA 15) 1)) + (X8_ofMove_r tb (sA 15) 2)) then (upd (upd (upd sA 16 ((sA 16) + 1)) 20 ((sA 20) + (X8_comeOn11_j61 sA))) 14 0) else (upd (upd sA 16 ((sA 16) + 1)) 20 ((sA 20) + (X8_comeOn11_j61 sA))))
def X8_comeOn11_j160 (tb : Nat → Int32) (sA : Nat → Int32) : Nat → Int32 := (if (sA 14) = 1 then (X8_comeOn11_j103 tb sA) else (if (sA 14) = 0 then sA else (upd (upd sA 16 ((sA 16) - 1)) 14 (X8_comeOn11_j159 sA))))
def X8_comeOn11_j189 (tb : Nat → Int32) (sA : Nat → Int32) : Nat → Int32 := (if ((X8_comeOn11_j160 tb sA) 14) = 0 then (upd (upd (X8_comeOn11_j160 tb sA) 16 0) 15 (-1)) else (X8_comeOn11_j160 tb sA))
def X8_comeOn11_j222 (tb : Nat → Int32) (sA : Nat → Int32) : Int32 := (if ((X8_comeOn11_j189 tb sA) 14) = 1 then ((X8_comeOn11_j189 tb sA) 20) else (-1))
def X8_comeOn11_j256 (tb : Nat → Int32) (sA : Nat → Int32) : Int32 := (if ((X8_comeOn11_j189 tb sA) 14) = 2 then ((X8_comeOn11_j189 tb sA) 17) else 0)
def X8_comeOn11_j284 (tb : Nat → Int32) (sA : Nat → Int32) : Int32 := (if ((X8_comeOn11_j189 tb sA) 19) ≤ 0 then 0 else 1)
def X8_comeOn11_j319 (tb : Nat → Int32) (sA : Nat → Int32) : Int32 := (if (((X8_comeOn11_j189 tb sA) 19) - (X8_comeOn11_j284 tb sA)) ≤ 0 then (-1) else ((X8_comeOn11_j189 tb sA) 18))
def X8_comeOn11_w2 (tb : Nat → Int32) (sA : Nat → Int32) : Nat → Int32 := (upd (upd (upd (upd (X8_comeOn11_j189 tb sA) 20 (X8_comeOn11_j222 tb sA)) 17 (X8_comeOn11_j256 tb sA)) 19 (((X8_comeOn11_j189 tb sA) 19) - (X8_comeOn11_j284 tb sA))) 18 (X8_comeOn11_j319 tb sA))
set_option maxHeartbeats 4000000 in
set_option maxRecDepth 100000 in
theorem c_X8_comeOn11 (l : Launch) (dC : Nat → ClassId) (dI : Nat → Nat → Nat) (cY : Nat → ClassId) (m0 : Nat) (AM : Nat → Nat) (g : Nat → Int32) (tb : Nat → Int32) (sA : Nat → Int32) (rd : Nat → Int32) (kp : Nat → Int32) (td : Nat → Int32) (wn : Nat → Int32) (rw : Nat → Int32) (br : Nat → Int32) (hs : okS sA) (sz : Nat) : Met l yX8_comeOn wsX8_comeOn ({ frames := 1, cells := 0, slots := 0, locals := 22 } : Room) (va_Pc [.ref m0, .int 11] (wPre (dC, dI) (tyL cY) [(m0, .inr (8, mdL AM g)), (AM 0, .inl (cY 0, 72, .inl tb)), (AM 2, .inl (cY 0, 22, .inl sA)), (AM 3, .inl (cY 0, 22, .inl rd)), (AM 4, .inl (cY 0, 110, .inl kp)), (AM 5, .inl (cY 0, 8414, .inl td)), (AM 6, .inl (cY 0, 2, .inl wn)), (AM 13, .inl (cY 0, 4, .inl rw)), (AM 14, .inl (cY 0, 4, .inl br))] sz)) (va_Qv (fun _ : Unit => True) (wPost (dC, dI) [(m0, .inr (8, mdL AM g)), (AM 0, .inl (cY 0, 72, .inl tb)), (AM 2, .inl (cY 0, 22, .inl (X8_comeOn11_w2 tb sA))), (AM 3, .inl (cY 0, 22, .inl rd)), (AM 4, .inl (cY 0, 110, .inl kp)), (AM 5, .inl (cY 0, 8414, .inl td)), (AM 6, .inl (cY 0, 2, .inl wn)), (AM 13, .inl (cY 0, 4, .inl rw)), (AM 14, .inl (cY 0, 4, .inl br))] (va_A [(m0, .inr (8, mdL AM g)), (AM 0, .inl (cY 0, 72, .inl tb)), (AM 2, .inl (cY 0, 22, .inl sA)), (AM 3, .inl (cY 0, 22, .inl rd)), (AM 4, .inl (cY 0, 110, .inl kp)), (AM 5, .inl (cY 0, 8414, .inl td)), (AM 6, .inl (cY 0, 2, .inl wn)), (AM 13, .inl (cY 0, 4, .inl rw)), (AM 14, .inl (cY 0, 4, .inl br))] sz)) (va_A [(m0, .inr (8, mdL AM g)), (AM 0, .inl (cY 0, 72, .inl tb)), (AM 2, .inl (cY 0, 22, .inl sA)), (AM 3, .inl (cY 0, 22, .inl rd)), (AM 4, .inl (cY 0, 110, .inl kp)), (AM 5, .inl (cY 0, 8414, .inl td)), (AM 6, .inl (cY 0, 2, .inl wn)), (AM 13, .inl (cY 0, 4, .inl rw)), (AM 14, .inl (cY 0, 4, .inl br))] sz)) 0 0 (va_A [(m0, .inr (8, mdL AM g)), (AM 0, .inl (cY 0, 72, .inl tb)), (AM 2, .inl (cY 0, 22, .inl sA)), (AM 3, .inl (cY 0, 22, .inl rd)), (AM 4, .inl (cY 0, 110, .inl kp)), (AM 5, .inl (cY 0, 8414, .inl td)), (AM 6, .inl (cY 0, 2, .inl wn)), (AM 13, .inl (cY 0, 4, .inl rw)), (AM 14, .inl (cY 0, 4, .inl br))] sz) := by
  refine Met.ofW (cc := cX8_comeOn) (maxL := 3) (ret := none) (by decide) rfl ?_
  intro p e s m args below meth c s₁ B hml hv
  obtain ⟨rfl, hsz, hP, hK, hN, hD0⟩ := hv
  have hx := B.exec
  have hb := B.bytes
  have hr := B.returns
  have hts := atoms_spec (ws := wsX8_comeOn) B.pre
  have hown : s.vm.findClass RX8 = some m.cls := findClass_of_methodNamed B.named
  have hlocks := B.notSynchronized
  subst hsz
  have hD := hD0.self (sz := s.heap.size)
  generalize hAe : va_A [(m0, .inr (8, mdL AM g)), (AM 0, .inl (cY 0, 72, .inl tb)), (AM 2, .inl (cY 0, 22, .inl sA)), (AM 3, .inl (cY 0, 22, .inl rd)), (AM 4, .inl (cY 0, 110, .inl kp)), (AM 5, .inl (cY 0, 8414, .inl td)), (AM 6, .inl (cY 0, 2, .inl wn)), (AM 13, .inl (cY 0, 4, .inl rw)), (AM 14, .inl (cY 0, 4, .inl br))] s.heap.size = A at hD ⊢
  have hA : ∀ q : Nat, s.heap.size ≤ q → A q := fun q h => by rw [← hAe]; exact Or.inr h
  have hS : va_S A s.heap s.heap [] := va_S.rf
  have hP : va_P (dC, dI) vwCl [(m0, .inr (8, mdL AM g)), (AM 0, .inl (cY 0, 72, .inl tb)), (AM 2, .inl (cY 0, 22, .inl sA)), (AM 3, .inl (cY 0, 22, .inl rd)), (AM 4, .inl (cY 0, 110, .inl kp)), (AM 5, .inl (cY 0, 8414, .inl td)), (AM 6, .inl (cY 0, 2, .inl wn)), (AM 13, .inl (cY 0, 4, .inl rw)), (AM 14, .inl (cY 0, 4, .inl br))] s.heap := hP
  have hl := lv_entry ([.ref m0, .int 11]) (n := 3) (Nat.le_of_ble_eq_true rfl)
  rw [lg_entry_eq]
  generalize (lg_sl ([.ref m0, .int 11]) ++ List.replicate (3 - (lg_sl ([.ref m0, .int 11])).length) Slot.unset).toArray = ls at hl ⊢
  have hl : lv_has ls 3 [(0, .ref m0), (1, .int 11)] := hl
  refine lv_aload_n hx hb dX8_comeOn_0 rfl (lv_at hl 0 rfl) ?_
  refine va_get (D := (dC, dI)) (ci := 8) (v := .ref (AM 2)) (C := RX8) (T := TX8) (N := 17) hx hb hts inw_X8_comeOn_X8 hown hK hP 0 rfl rfl 2 (by decide) (hts (.fieldLink RX8 13 "DuelFramesModel" "s" "[I") (List.mem_of_getElem? (i := 1) rfl)) (fun _ h9 => h9) rfl dX8_comeOn_1 ?_
  refine lv_iload_n hx hb dX8_comeOn_4 rfl (lv_at hl 1 rfl) ?_
  refine lv_iconst (v := 3) hx hb dX8_comeOn_5 (by decide) ?_
  refine lv_iadd hx hb dX8_comeOn_6 ?_
  refine lv_topi (fun x_1 ex_1 => ?_)
  obtain rfl : x_1 = 14 := ex_1.trans (by decide)
  refine va_iald hx hb hK hP 2 0 rfl rfl (vin rfl) dX8_comeOn_7 ?_
  refine lv_topi (fun x_2 ex_2 => ?_)
  obtain rfl : x_2 = (sA 14) := ex_2
  refine lv_iconst (v := 1) hx hb dX8_comeOn_8 (by decide) ?_
  refine jnW (D := (dC, dI)) (ws := [(m0, .inr (8, mdL AM g)), (AM 0, .inl (cY 0, 72, .inl tb)), (AM 2, .inl (cY 0, 22, .inl (X8_comeOn11_j160 tb sA))), (AM 3, .inl (cY 0, 22, .inl rd)), (AM 4, .inl (cY 0, 110, .inl kp)), (AM 5, .inl (cY 0, 8414, .inl td)), (AM 6, .inl (cY 0, 2, .inl wn)), (AM 13, .inl (cY 0, 4, .inl rw)), (AM 14, .inl (cY 0, 4, .inl br))]) (lv := [(0, .ref m0), (1, .int 11)]) (st := []) (J := 160) (n := 3) (A := A) (H0 := s.heap) ?_ ?_
  · intro H locs ls hP hD hS hl
    obtain ⟨z_5, ez_5⟩ : ∃ z, z = (X8_comeOn11_j160 tb sA) := ⟨_, rfl⟩
    rw [← ez_5] at hP hD
    refine lv_aload_n hx hb dX8_comeOn_160 rfl (lv_at hl 0 rfl) ?_
    refine va_get (D := (dC, dI)) (ci := 8) (v := .ref (AM 2)) (C := RX8) (T := TX8) (N := 17) hx hb hts inw_X8_comeOn_X8 hown hK hP 0 rfl rfl 2 (by decide) (hts (.fieldLink RX8 13 "DuelFramesModel" "s" "[I") (List.mem_of_getElem? (i := 1) rfl)) (fun _ h9 => h9) rfl dX8_comeOn_161 ?_
    refine lv_iload_n hx hb dX8_comeOn_164 rfl (lv_at hl 1 rfl) ?_
    refine lv_iconst (v := 3) hx hb dX8_comeOn_165 (by decide) ?_
    refine lv_iadd hx hb dX8_comeOn_166 ?_
    refine lv_topi (fun x_6 ex_6 => ?_)
    obtain rfl : x_6 = 14 := ex_6.trans (by decide)
    refine va_iald hx hb hK hP 2 0 rfl rfl (vin rfl) dX8_comeOn_167 ?_
    refine lv_topi (fun x_7 ex_7 => ?_)
    obtain rfl : x_7 = (z_5 14) := ex_7
    refine jnW (D := (dC, dI)) (ws := [(m0, .inr (8, mdL AM g)), (AM 0, .inl (cY 0, 72, .inl tb)), (AM 2, .inl (cY 0, 22, .inl (X8_comeOn11_j189 tb sA))), (AM 3, .inl (cY 0, 22, .inl rd)), (AM 4, .inl (cY 0, 110, .inl kp)), (AM 5, .inl (cY 0, 8414, .inl td)), (AM 6, .inl (cY 0, 2, .inl wn)), (AM 13, .inl (cY 0, 4, .inl rw)), (AM 14, .inl (cY 0, 4, .inl br))]) (lv := [(0, .ref m0), (1, .int 11)]) (st := []) (J := 189) (n := 3) (A := A) (H0 := s.heap) ?_ ?_
    · intro H locs ls hP hD hS hl
      obtain ⟨z_10, ez_10⟩ : ∃ z, z = (X8_comeOn11_j189 tb sA) := ⟨_, rfl⟩
      rw [← ez_10] at hP hD
      refine lv_aload_n hx hb dX8_comeOn_189 rfl (lv_at hl 0 rfl) ?_
      refine va_get (D := (dC, dI)) (ci := 8) (v := .ref (AM 2)) (C := RX8) (T := TX8) (N := 17) hx hb hts inw_X8_comeOn_X8 hown hK hP 0 rfl rfl 2 (by decide) (hts (.fieldLink RX8 13 "DuelFramesModel" "s" "[I") (List.mem_of_getElem? (i := 1) rfl)) (fun _ h9 => h9) rfl dX8_comeOn_190 ?_
      refine lv_iload_n hx hb dX8_comeOn_193 rfl (lv_at hl 1 rfl) ?_
      refine lv_bipush (v := 9) hx hb dX8_comeOn_194 (by decide) ?_
      refine lv_iadd hx hb dX8_comeOn_196 ?_
      refine lv_topi (fun x_11 ex_11 => ?_)
      obtain rfl : x_11 = 20 := ex_11.trans (by decide)
      refine lv_aload_n hx hb dX8_comeOn_197 rfl (lv_at hl 0 rfl) ?_
      refine va_get (D := (dC, dI)) (ci := 8) (v := .ref (AM 2)) (C := RX8) (T := TX8) (N := 17) hx hb hts inw_X8_comeOn_X8 hown hK hP 0 rfl rfl 2 (by decide) (hts (.fieldLink RX8 13 "DuelFramesModel" "s" "[I") (List.mem_of_getElem? (i := 1) rfl)) (fun _ h9 => h9) rfl dX8_comeOn_198 ?_
      refine lv_iload_n hx hb dX8_comeOn_201 rfl (lv_at hl 1 rfl) ?_
      refine lv_iconst (v := 3) hx hb dX8_comeOn_202 (by decide) ?_
      refine lv_iadd hx hb dX8_comeOn_203 ?_
      refine lv_topi (fun x_12 ex_12 => ?_)
      obtain rfl : x_12 = 14 := ex_12.trans (by decide)
      refine va_iald hx hb hK hP 2 0 rfl rfl (vin rfl) dX8_comeOn_204 ?_
      refine lv_topi (fun x_13 ex_13 => ?_)
      obtain rfl : x_13 = (z_10 14) := ex_13
      refine lv_iconst (v := 1) hx hb dX8_comeOn_205 (by decide) ?_
      refine jnW (D := (dC, dI)) (ws := [(m0, .inr (8, mdL AM g)), (AM 0, .inl (cY 0, 72, .inl tb)), (AM 2, .inl (cY 0, 22, .inl z_10)), (AM 3, .inl (cY 0, 22, .inl rd)), (AM 4, .inl (cY 0, 110, .inl kp)), (AM 5, .inl (cY 0, 8414, .inl td)), (AM 6, .inl (cY 0, 2, .inl wn)), (AM 13, .inl (cY 0, 4, .inl rw)), (AM 14, .inl (cY 0, 4, .inl br))]) (lv := [(0, .ref m0), (1, .int 11)]) (st := [.int (X8_comeOn11_j222 tb sA), .int 20, .ref (AM 2)]) (J := 222) (n := 3) (A := A) (H0 := s.heap) ?_ ?_
      · intro H locs ls hP hD hS hl
        refine va_iast hx hb hK hP hD hS 2 0 rfl rfl (vin rfl) dX8_comeOn_222 (fun H locs hP1 hD1 hS1 => ?_)
        clear hP hD hS
        have hP : va_P (dC, dI) vwCl [(m0, .inr (8, mdL AM g)), (AM 0, .inl (cY 0, 72, .inl tb)), (AM 2, .inl (cY 0, 22, .inl (upd z_10 20 (X8_comeOn11_j222 tb sA)))), (AM 3, .inl (cY 0, 22, .inl rd)), (AM 4, .inl (cY 0, 110, .inl kp)), (AM 5, .inl (cY 0, 8414, .inl td)), (AM 6, .inl (cY 0, 2, .inl wn)), (AM 13, .inl (cY 0, 4, .inl rw)), (AM 14, .inl (cY 0, 4, .inl br))] H := hP1
        have hD : va_D A [(m0, .inr (8, mdL AM g)), (AM 0, .inl (cY 0, 72, .inl tb)), (AM 2, .inl (cY 0, 22, .inl (upd z_10 20 (X8_comeOn11_j222 tb sA)))), (AM 3, .inl (cY 0, 22, .inl rd)), (AM 4, .inl (cY 0, 110, .inl kp)), (AM 5, .inl (cY 0, 8414, .inl td)), (AM 6, .inl (cY 0, 2, .inl wn)), (AM 13, .inl (cY 0, 4, .inl rw)), (AM 14, .inl (cY 0, 4, .inl br))] := hD1
        have hS := hS1
        clear hP1 hD1 hS1
        refine lv_aload_n hx hb dX8_comeOn_223 rfl (lv_at hl 0 rfl) ?_
        refine va_get (D := (dC, dI)) (ci := 8) (v := .ref (AM 2)) (C := RX8) (T := TX8) (N := 17) hx hb hts inw_X8_comeOn_X8 hown hK hP 0 rfl rfl 2 (by decide) (hts (.fieldLink RX8 13 "DuelFramesModel" "s" "[I") (List.mem_of_getElem? (i := 1) rfl)) (fun _ h9 => h9) rfl dX8_comeOn_224 ?_
        refine lv_iload_n hx hb dX8_comeOn_227 rfl (lv_at hl 1 rfl) ?_
        refine lv_bipush (v := 6) hx hb dX8_comeOn_228 (by decide) ?_
        refine lv_iadd hx hb dX8_comeOn_230 ?_
        refine lv_topi (fun x_16 ex_16 => ?_)
        obtain rfl : x_16 = 17 := ex_16.trans (by decide)
        refine lv_aload_n hx hb dX8_comeOn_231 rfl (lv_at hl 0 rfl) ?_
        refine va_get (D := (dC, dI)) (ci := 8) (v := .ref (AM 2)) (C := RX8) (T := TX8) (N := 17) hx hb hts inw_X8_comeOn_X8 hown hK hP 0 rfl rfl 2 (by decide) (hts (.fieldLink RX8 13 "DuelFramesModel" "s" "[I") (List.mem_of_getElem? (i := 1) rfl)) (fun _ h9 => h9) rfl dX8_comeOn_232 ?_
        refine lv_iload_n hx hb dX8_comeOn_235 rfl (lv_at hl 1 rfl) ?_
        refine lv_iconst (v := 3) hx hb dX8_comeOn_236 (by decide) ?_
        refine lv_iadd hx hb dX8_comeOn_237 ?_
        refine lv_topi (fun x_17 ex_17 => ?_)
        obtain rfl : x_17 = 14 := ex_17.trans (by decide)
        refine va_iald hx hb hK hP 2 0 rfl rfl (vin rfl) dX8_comeOn_238 ?_
        refine lv_topi (fun x_18 ex_18 => ?_)
        obtain rfl : x_18 = (z_10 14) := ex_18
        refine lv_iconst (v := 2) hx hb dX8_comeOn_239 (by decide) ?_
        refine jnW (D := (dC, dI)) (ws := [(m0, .inr (8, mdL AM g)), (AM 0, .inl (cY 0, 72, .inl tb)), (AM 2, .inl (cY 0, 22, .inl (upd z_10 20 (X8_comeOn11_j222 tb sA)))), (AM 3, .inl (cY 0, 22, .inl rd)), (AM 4, .inl (cY 0, 110, .inl kp)), (AM 5, .inl (cY 0, 8414, .inl td)), (AM 6, .inl (cY 0, 2, .inl wn)), (AM 13, .inl (cY 0, 4, .inl rw)), (AM 14, .inl (cY 0, 4, .inl br))]) (lv := [(0, .ref m0), (1, .int 11)]) (st := [.int (X8_comeOn11_j256 tb sA), .int 17, .ref (AM 2)]) (J := 256) (n := 3) (A := A) (H0 := s.heap) ?_ ?_
        · intro H locs ls hP hD hS hl
          refine va_iast hx hb hK hP hD hS 2 0 rfl rfl (vin rfl) dX8_comeOn_256 (fun H locs hP1 hD1 hS1 => ?_)
          clear hP hD hS
          have hP : va_P (dC, dI) vwCl [(m0, .inr (8, mdL AM g)), (AM 0, .inl (cY 0, 72, .inl tb)), (AM 2, .inl (cY 0, 22, .inl (upd (upd z_10 20 (X8_comeOn11_j222 tb sA)) 17 (X8_comeOn11_j256 tb sA)))), (AM 3, .inl (cY 0, 22, .inl rd)), (AM 4, .inl (cY 0, 110, .inl kp)), (AM 5, .inl (cY 0, 8414, .inl td)), (AM 6, .inl (cY 0, 2, .inl wn)), (AM 13, .inl (cY 0, 4, .inl rw)), (AM 14, .inl (cY 0, 4, .inl br))] H := hP1
          have hD : va_D A [(m0, .inr (8, mdL AM g)), (AM 0, .inl (cY 0, 72, .inl tb)), (AM 2, .inl (cY 0, 22, .inl (upd (upd z_10 20 (X8_comeOn11_j222 tb sA)) 17 (X8_comeOn11_j256 tb sA)))), (AM 3, .inl (cY 0, 22, .inl rd)), (AM 4, .inl (cY 0, 110, .inl kp)), (AM 5, .inl (cY 0, 8414, .inl td)), (AM 6, .inl (cY 0, 2, .inl wn)), (AM 13, .inl (cY 0, 4, .inl rw)), (AM 14, .inl (cY 0, 4, .inl br))] := hD1
          have hS := hS1
          clear hP1 hD1 hS1
          refine lv_aload_n hx hb dX8_comeOn_257 rfl (lv_at hl 0 rfl) ?_
          refine va_get (D := (dC, dI)) (ci := 8) (v := .ref (AM 2)) (C := RX8) (T := TX8) (N := 17) hx hb hts inw_X8_comeOn_X8 hown hK hP 0 rfl rfl 2 (by decide) (hts (.fieldLink RX8 13 "DuelFramesModel" "s" "[I") (List.mem_of_getElem? (i := 1) rfl)) (fun _ h9 => h9) rfl dX8_comeOn_258 ?_
          refine lv_iload_n hx hb dX8_comeOn_261 rfl (lv_at hl 1 rfl) ?_
          refine lv_bipush (v := 8) hx hb dX8_comeOn_262 (by decide) ?_
          refine lv_iadd hx hb dX8_comeOn_264 ?_
          refine lv_topi (fun x_21 ex_21 => ?_)
          obtain rfl : x_21 = 19 := ex_21.trans (by decide)
          refine lv_dup2_11 hx hb dX8_comeOn_265 rfl rfl ?_
          refine va_iald hx hb hK hP 2 0 rfl rfl (vin rfl) dX8_comeOn_266 ?_
          refine lv_topi (fun x_22 ex_22 => ?_)
          obtain rfl : x_22 = (z_10 19) := ex_22
          refine lv_aload_n hx hb dX8_comeOn_267 rfl (lv_at hl 0 rfl) ?_
          refine va_get (D := (dC, dI)) (ci := 8) (v := .ref (AM 2)) (C := RX8) (T := TX8) (N := 17) hx hb hts inw_X8_comeOn_X8 hown hK hP 0 rfl rfl 2 (by decide) (hts (.fieldLink RX8 13 "DuelFramesModel" "s" "[I") (List.mem_of_getElem? (i := 1) rfl)) (fun _ h9 => h9) rfl dX8_comeOn_268 ?_
          refine lv_iload_n hx hb dX8_comeOn_271 rfl (lv_at hl 1 rfl) ?_
          refine lv_bipush (v := 8) hx hb dX8_comeOn_272 (by decide) ?_
          refine lv_iadd hx hb dX8_comeOn_274 ?_
          refine lv_topi (fun x_23 ex_23 => ?_)
          obtain rfl : x_23 = 19 := ex_23.trans (by decide)
          refine va_iald hx hb hK hP 2 0 rfl rfl (vin rfl) dX8_comeOn_275 ?_
          refine lv_topi (fun x_24 ex_24 => ?_)
          obtain rfl : x_24 = (z_10 19) := ex_24
          refine jnW (D := (dC, dI)) (ws := [(m0, .inr (8, mdL AM g)), (AM 0, .inl (cY 0, 72, .inl tb)), (AM 2, .inl (cY 0, 22, .inl (upd (upd z_10 20 (X8_comeOn11_j222 tb sA)) 17 (X8_comeOn11_j256 tb sA)))), (AM 3, .inl (cY 0, 22, .inl rd)), (AM 4, .inl (cY 0, 110, .inl kp)), (AM 5, .inl (cY 0, 8414, .inl td)), (AM 6, .inl (cY 0, 2, .inl wn)), (AM 13, .inl (cY 0, 4, .inl rw)), (AM 14, .inl (cY 0, 4, .inl br))]) (lv := [(0, .ref m0), (1, .int 11)]) (st := [.int (X8_comeOn11_j284 tb sA), .int (z_10 19), .int 19, .ref (AM 2)]) (J := 284) (n := 3) (A := A) (H0 := s.heap) ?_ ?_
          · intro H locs ls hP hD hS hl
            refine lv_isub hx hb dX8_comeOn_284 ?_
            refine va_iast hx hb hK hP hD hS 2 0 rfl rfl (vin rfl) dX8_comeOn_285 (fun H locs hP1 hD1 hS1 => ?_)
            clear hP hD hS
            have hP : va_P (dC, dI) vwCl [(m0, .inr (8, mdL AM g)), (AM 0, .inl (cY 0, 72, .inl tb)), (AM 2, .inl (cY 0, 22, .inl (upd (upd (upd z_10 20 (X8_comeOn11_j222 tb sA)) 17 (X8_comeOn11_j256 tb sA)) 19 ((z_10 19) - (X8_comeOn11_j284 tb sA))))), (AM 3, .inl (cY 0, 22, .inl rd)), (AM 4, .inl (cY 0, 110, .inl kp)), (AM 5, .inl (cY 0, 8414, .inl td)), (AM 6, .inl (cY 0, 2, .inl wn)), (AM 13, .inl (cY 0, 4, .inl rw)), (AM 14, .inl (cY 0, 4, .inl br))] H := hP1
            have hD : va_D A [(m0, .inr (8, mdL AM g)), (AM 0, .inl (cY 0, 72, .inl tb)), (AM 2, .inl (cY 0, 22, .inl (upd (upd (upd z_10 20 (X8_comeOn11_j222 tb sA)) 17 (X8_comeOn11_j256 tb sA)) 19 ((z_10 19) - (X8_comeOn11_j284 tb sA))))), (AM 3, .inl (cY 0, 22, .inl rd)), (AM 4, .inl (cY 0, 110, .inl kp)), (AM 5, .inl (cY 0, 8414, .inl td)), (AM 6, .inl (cY 0, 2, .inl wn)), (AM 13, .inl (cY 0, 4, .inl rw)), (AM 14, .inl (cY 0, 4, .inl br))] := hD1
            have hS := hS1
            clear hP1 hD1 hS1
            refine lv_aload_n hx hb dX8_comeOn_286 rfl (lv_at hl 0 rfl) ?_
            refine va_get (D := (dC, dI)) (ci := 8) (v := .ref (AM 2)) (C := RX8) (T := TX8) (N := 17) hx hb hts inw_X8_comeOn_X8 hown hK hP 0 rfl rfl 2 (by decide) (hts (.fieldLink RX8 13 "DuelFramesModel" "s" "[I") (List.mem_of_getElem? (i := 1) rfl)) (fun _ h9 => h9) rfl dX8_comeOn_287 ?_
            refine lv_iload_n hx hb dX8_comeOn_290 rfl (lv_at hl 1 rfl) ?_
            refine lv_bipush (v := 7) hx hb dX8_comeOn_291 (by decide) ?_
            refine lv_iadd hx hb dX8_comeOn_293 ?_
            refine lv_topi (fun x_27 ex_27 => ?_)
            obtain rfl : x_27 = 18 := ex_27.trans (by decide)
            refine lv_aload_n hx hb dX8_comeOn_294 rfl (lv_at hl 0 rfl) ?_
            refine va_get (D := (dC, dI)) (ci := 8) (v := .ref (AM 2)) (C := RX8) (T := TX8) (N := 17) hx hb hts inw_X8_comeOn_X8 hown hK hP 0 rfl rfl 2 (by decide) (hts (.fieldLink RX8 13 "DuelFramesModel" "s" "[I") (List.mem_of_getElem? (i := 1) rfl)) (fun _ h9 => h9) rfl dX8_comeOn_295 ?_
            refine lv_iload_n hx hb dX8_comeOn_298 rfl (lv_at hl 1 rfl) ?_
            refine lv_bipush (v := 8) hx hb dX8_comeOn_299 (by decide) ?_
            refine lv_iadd hx hb dX8_comeOn_301 ?_
            refine lv_topi (fun x_28 ex_28 => ?_)
            obtain rfl : x_28 = 19 := ex_28.trans (by decide)
            refine va_iald hx hb hK hP 2 0 rfl rfl (vin rfl) dX8_comeOn_302 ?_
            refine lv_topi (fun x_29 ex_29 => ?_)
            obtain rfl : x_29 = ((z_10 19) - (X8_comeOn11_j284 tb sA)) := ex_29
            refine jnW (D := (dC, dI)) (ws := [(m0, .inr (8, mdL AM g)), (AM 0, .inl (cY 0, 72, .inl tb)), (AM 2, .inl (cY 0, 22, .inl (upd (upd (upd z_10 20 (X8_comeOn11_j222 tb sA)) 17 (X8_comeOn11_j256 tb sA)) 19 ((z_10 19) - (X8_comeOn11_j284 tb sA))))), (AM 3, .inl (cY 0, 22, .inl rd)), (AM 4, .inl (cY 0, 110, .inl kp)), (AM 5, .inl (cY 0, 8414, .inl td)), (AM 6, .inl (cY 0, 2, .inl wn)), (AM 13, .inl (cY 0, 4, .inl rw)), (AM 14, .inl (cY 0, 4, .inl br))]) (lv := []) (st := [.int (X8_comeOn11_j319 tb sA), .int 18, .ref (AM 2)]) (J := 319) (n := 3) (A := A) (H0 := s.heap) ?_ ?_
            · intro H locs ls hP hD hS hl
              refine va_iast hx hb hK hP hD hS 2 0 rfl rfl (vin rfl) dX8_comeOn_319 (fun H locs hP1 hD1 hS1 => ?_)
              clear hP hD hS
              have hP : va_P (dC, dI) vwCl [(m0, .inr (8, mdL AM g)), (AM 0, .inl (cY 0, 72, .inl tb)), (AM 2, .inl (cY 0, 22, .inl (upd (upd (upd (upd z_10 20 (X8_comeOn11_j222 tb sA)) 17 (X8_comeOn11_j256 tb sA)) 19 ((z_10 19) - (X8_comeOn11_j284 tb sA))) 18 (X8_comeOn11_j319 tb sA)))), (AM 3, .inl (cY 0, 22, .inl rd)), (AM 4, .inl (cY 0, 110, .inl kp)), (AM 5, .inl (cY 0, 8414, .inl td)), (AM 6, .inl (cY 0, 2, .inl wn)), (AM 13, .inl (cY 0, 4, .inl rw)), (AM 14, .inl (cY 0, 4, .inl br))] H := hP1
              have hD : va_D A [(m0, .inr (8, mdL AM g)), (AM 0, .inl (cY 0, 72, .inl tb)), (AM 2, .inl (cY 0, 22, .inl (upd (upd (upd (upd z_10 20 (X8_comeOn11_j222 tb sA)) 17 (X8_comeOn11_j256 tb sA)) 19 ((z_10 19) - (X8_comeOn11_j284 tb sA))) 18 (X8_comeOn11_j319 tb sA)))), (AM 3, .inl (cY 0, 22, .inl rd)), (AM 4, .inl (cY 0, 110, .inl kp)), (AM 5, .inl (cY 0, 8414, .inl td)), (AM 6, .inl (cY 0, 2, .inl wn)), (AM 13, .inl (cY 0, 4, .inl rw)), (AM 14, .inl (cY 0, 4, .inl br))] := hD1
              have hS := hS1
              clear hP1 hD1 hS1
              have eo_32 : (X8_comeOn11_w2 tb sA) = (upd (upd (upd (upd z_10 20 (X8_comeOn11_j222 tb sA)) 17 (X8_comeOn11_j256 tb sA)) 19 ((z_10 19) - (X8_comeOn11_j284 tb sA))) 18 (X8_comeOn11_j319 tb sA)) := by rw [X8_comeOn11_w2]; (try simp only [← ez_5, ← ez_10])
              have hP9 : va_P (dC, dI) vwCl [(m0, .inr (8, mdL AM g)), (AM 0, .inl (cY 0, 72, .inl tb)), (AM 2, .inl (cY 0, 22, .inl (X8_comeOn11_w2 tb sA))), (AM 3, .inl (cY 0, 22, .inl rd)), (AM 4, .inl (cY 0, 110, .inl kp)), (AM 5, .inl (cY 0, 8414, .inl td)), (AM 6, .inl (cY 0, 2, .inl wn)), (AM 13, .inl (cY 0, 4, .inl rw)), (AM 14, .inl (cY 0, 4, .inl br))] H := by simp only [eo_32]; exact hP
              have hD9 : va_D A [(m0, .inr (8, mdL AM g)), (AM 0, .inl (cY 0, 72, .inl tb)), (AM 2, .inl (cY 0, 22, .inl (X8_comeOn11_w2 tb sA))), (AM 3, .inl (cY 0, 22, .inl rd)), (AM 4, .inl (cY 0, 110, .inl kp)), (AM 5, .inl (cY 0, 8414, .inl td)), (AM 6, .inl (cY 0, 2, .inl wn)), (AM 13, .inl (cY 0, 4, .inl rw)), (AM 14, .inl (cY 0, 4, .inl br))] := by simp only [eo_32]; exact hD
              exact W.vret hx hb hr (fun t ht hW => ⟨⟨(), rfl, trivial, wPost_of hP9 hD9 ht⟩, hS.F ht⟩) hS.2.2 dX8_comeOn_320
            · intro jn_31
              refine lv_if_le (tgt := 318) hx hb dX8_comeOn_303 (by decide) (fun c_30 => ?_) (fun c_30 => ?_)
              · refine lv_iconst (v := (-1)) hx hb dX8_comeOn_318 (by decide) ?_
                have e_33 : (X8_comeOn11_j319 tb sA) = (-1) := by rw [X8_comeOn11_j319]; simp only [← ez_5, ← ez_10, eq_true c_30, ↓reduceIte]
                refine W.eq (g2 := F0 m 319 ls [.int (X8_comeOn11_j319 tb sA), .int 18, .ref (AM 2)]) (by simp only [e_33]) ?_
                exact jn_31 _ _ _ (by (try simp only [e_33]); exact hP) (by (try simp only [e_33]); exact hD) hS (by (try simp only [e_33]); exact (lv_sub hl [] rfl))
              · refine lv_aload_n hx hb dX8_comeOn_306 rfl (lv_at hl 0 rfl) ?_
                refine va_get (D := (dC, dI)) (ci := 8) (v := .ref (AM 2)) (C := RX8) (T := TX8) (N := 17) hx hb hts inw_X8_comeOn_X8 hown hK hP 0 rfl rfl 2 (by decide) (hts (.fieldLink RX8 13 "DuelFramesModel" "s" "[I") (List.mem_of_getElem? (i := 1) rfl)) (fun _ h9 => h9) rfl dX8_comeOn_307 ?_
                refine lv_iload_n hx hb dX8_comeOn_310 rfl (lv_at hl 1 rfl) ?_
                refine lv_bipush (v := 7) hx hb dX8_comeOn_311 (by decide) ?_
                refine lv_iadd hx hb dX8_comeOn_313 ?_
                refine lv_topi (fun x_34 ex_34 => ?_)
                obtain rfl : x_34 = 18 := ex_34.trans (by decide)
                refine va_iald hx hb hK hP 2 0 rfl rfl (vin rfl) dX8_comeOn_314 ?_
                refine lv_topi (fun x_35 ex_35 => ?_)
                obtain rfl : x_35 = (z_10 18) := ex_35
                refine lv_goto (tgt := 319) hx hb dX8_comeOn_315 (by decide) ?_
                have e_36 : (X8_comeOn11_j319 tb sA) = (z_10 18) := by rw [X8_comeOn11_j319]; simp only [← ez_5, ← ez_10, eq_false c_30, ↓reduceIte]
                refine W.eq (g2 := F0 m 319 ls [.int (X8_comeOn11_j319 tb sA), .int 18, .ref (AM 2)]) (by simp only [e_36]) ?_
                exact jn_31 _ _ _ (by (try simp only [e_36]); exact hP) (by (try simp only [e_36]); exact hD) hS (by (try simp only [e_36]); exact (lv_sub hl [] rfl))
          · intro jn_26
            refine lv_if_le (tgt := 283) hx hb dX8_comeOn_276 (by decide) (fun c_25 => ?_) (fun c_25 => ?_)
            · refine lv_iconst (v := 0) hx hb dX8_comeOn_283 (by decide) ?_
              have e_37 : (X8_comeOn11_j284 tb sA) = 0 := by rw [X8_comeOn11_j284]; simp only [← ez_5, ← ez_10, eq_true c_25, ↓reduceIte]
              refine W.eq (g2 := F0 m 284 ls [.int (X8_comeOn11_j284 tb sA), .int (z_10 19), .int 19, .ref (AM 2)]) (by simp only [e_37]) ?_
              exact jn_26 _ _ _ (by (try simp only [e_37]); exact hP) (by (try simp only [e_37]); exact hD) hS (by (try simp only [e_37]); exact (lv_sub hl [0, 1] rfl))
            · refine lv_iconst (v := 1) hx hb dX8_comeOn_279 (by decide) ?_
              refine lv_goto (tgt := 284) hx hb dX8_comeOn_280 (by decide) ?_
              have e_38 : (X8_comeOn11_j284 tb sA) = 1 := by rw [X8_comeOn11_j284]; simp only [← ez_5, ← ez_10, eq_false c_25, ↓reduceIte]
              refine W.eq (g2 := F0 m 284 ls [.int (X8_comeOn11_j284 tb sA), .int (z_10 19), .int 19, .ref (AM 2)]) (by simp only [e_38]) ?_
              exact jn_26 _ _ _ (by (try simp only [e_38]); exact hP) (by (try simp only [e_38]); exact hD) hS (by (try simp only [e_38]); exact (lv_sub hl [0, 1] rfl))
        · intro jn_20
          refine lv_icmp_ne (tgt := 255) hx hb dX8_comeOn_240 (by decide) (fun c_19 => ?_) (fun c_19 => ?_)
          · refine lv_iconst (v := 0) hx hb dX8_comeOn_255 (by decide) ?_
            have e_39 : (X8_comeOn11_j256 tb sA) = 0 := by rw [X8_comeOn11_j256]; simp only [← ez_5, ← ez_10, eq_false c_19, ↓reduceIte]
            refine W.eq (g2 := F0 m 256 ls [.int (X8_comeOn11_j256 tb sA), .int 17, .ref (AM 2)]) (by simp only [e_39]) ?_
            exact jn_20 _ _ _ (by (try simp only [e_39]); exact hP) (by (try simp only [e_39]); exact hD) hS (by (try simp only [e_39]); exact (lv_sub hl [0, 1] rfl))
          · refine lv_aload_n hx hb dX8_comeOn_243 rfl (lv_at hl 0 rfl) ?_
            refine va_get (D := (dC, dI)) (ci := 8) (v := .ref (AM 2)) (C := RX8) (T := TX8) (N := 17) hx hb hts inw_X8_comeOn_X8 hown hK hP 0 rfl rfl 2 (by decide) (hts (.fieldLink RX8 13 "DuelFramesModel" "s" "[I") (List.mem_of_getElem? (i := 1) rfl)) (fun _ h9 => h9) rfl dX8_comeOn_244 ?_
            refine lv_iload_n hx hb dX8_comeOn_247 rfl (lv_at hl 1 rfl) ?_
            refine lv_bipush (v := 6) hx hb dX8_comeOn_248 (by decide) ?_
            refine lv_iadd hx hb dX8_comeOn_250 ?_
            refine lv_topi (fun x_40 ex_40 => ?_)
            obtain rfl : x_40 = 17 := ex_40.trans (by decide)
            refine va_iald hx hb hK hP 2 0 rfl rfl (vin rfl) dX8_comeOn_251 ?_
            refine lv_topi (fun x_41 ex_41 => ?_)
            obtain rfl : x_41 = (z_10 17) := ex_41
            refine lv_goto (tgt := 256) hx hb dX8_comeOn_252 (by decide) ?_
            have e_42 : (X8_comeOn11_j256 tb sA) = (z_10 17) := by rw [X8_comeOn11_j256]; simp only [← ez_5, ← ez_10, eq_true c_19, ↓reduceIte]
            refine W.eq (g2 := F0 m 256 ls [.int (X8_comeOn11_j256 tb sA), .int 17, .ref (AM 2)]) (by simp only [e_42]) ?_
            exact jn_20 _ _ _ (by (try simp only [e_42]); exact hP) (by (try simp only [e_42]); exact hD) hS (by (try simp only [e_42]); exact (lv_sub hl [0, 1] rfl))
      · intro jn_15
        refine lv_icmp_ne (tgt := 221) hx hb dX8_comeOn_206 (by decide) (fun c_14 => ?_) (fun c_14 => ?_)
        · refine lv_iconst (v := (-1)) hx hb dX8_comeOn_221 (by decide) ?_
          have e_43 : (X8_comeOn11_j222 tb sA) = (-1) := by rw [X8_comeOn11_j222]; simp only [← ez_5, ← ez_10, eq_false c_14, ↓reduceIte]
          refine W.eq (g2 := F0 m 222 ls [.int (X8_comeOn11_j222 tb sA), .int 20, .ref (AM 2)]) (by simp only [e_43]) ?_
          exact jn_15 _ _ _ (by (try simp only [e_43]); exact hP) (by (try simp only [e_43]); exact hD) hS (by (try simp only [e_43]); exact (lv_sub hl [0, 1] rfl))
        · refine lv_aload_n hx hb dX8_comeOn_209 rfl (lv_at hl 0 rfl) ?_
          refine va_get (D := (dC, dI)) (ci := 8) (v := .ref (AM 2)) (C := RX8) (T := TX8) (N := 17) hx hb hts inw_X8_comeOn_X8 hown hK hP 0 rfl rfl 2 (by decide) (hts (.fieldLink RX8 13 "DuelFramesModel" "s" "[I") (List.mem_of_getElem? (i := 1) rfl)) (fun _ h9 => h9) rfl dX8_comeOn_210 ?_
          refine lv_iload_n hx hb dX8_comeOn_213 rfl (lv_at hl 1 rfl) ?_
          refine lv_bipush (v := 9) hx hb dX8_comeOn_214 (by decide) ?_
          refine lv_iadd hx hb dX8_comeOn_216 ?_
          refine lv_topi (fun x_44 ex_44 => ?_)
          obtain rfl : x_44 = 20 := ex_44.trans (by decide)
          refine va_iald hx hb hK hP 2 0 rfl rfl (vin rfl) dX8_comeOn_217 ?_
          refine lv_topi (fun x_45 ex_45 => ?_)
          obtain rfl : x_45 = (z_10 20) := ex_45
          refine lv_goto (tgt := 222) hx hb dX8_comeOn_218 (by decide) ?_
          have e_46 : (X8_comeOn11_j222 tb sA) = (z_10 20) := by rw [X8_comeOn11_j222]; simp only [← ez_5, ← ez_10, eq_true c_14, ↓reduceIte]
          refine W.eq (g2 := F0 m 222 ls [.int (X8_comeOn11_j222 tb sA), .int 20, .ref (AM 2)]) (by simp only [e_46]) ?_
          exact jn_15 _ _ _ (by (try simp only [e_46]); exact hP) (by (try simp only [e_46]); exact hD) hS (by (try simp only [e_46]); exact (lv_sub hl [0, 1] rfl))
    · intro jn_9
      refine lv_if_ne (tgt := 189) hx hb dX8_comeOn_168 (by decide) (fun c_8 => ?_) (fun c_8 => ?_)
      · have e_47 : (X8_comeOn11_j189 tb sA) = z_5 := by rw [X8_comeOn11_j189]; simp only [← ez_5, eq_false c_8, ↓reduceIte]
        exact jn_9 _ _ _ (by (try simp only [e_47]); exact hP) (by (try simp only [e_47]); exact hD) hS (by (try simp only [e_47]); exact (lv_sub hl [0, 1] rfl))
      · refine lv_aload_n hx hb dX8_comeOn_171 rfl (lv_at hl 0 rfl) ?_
        refine va_get (D := (dC, dI)) (ci := 8) (v := .ref (AM 2)) (C := RX8) (T := TX8) (N := 17) hx hb hts inw_X8_comeOn_X8 hown hK hP 0 rfl rfl 2 (by decide) (hts (.fieldLink RX8 13 "DuelFramesModel" "s" "[I") (List.mem_of_getElem? (i := 1) rfl)) (fun _ h9 => h9) rfl dX8_comeOn_172 ?_
        refine lv_iload_n hx hb dX8_comeOn_175 rfl (lv_at hl 1 rfl) ?_
        refine lv_iconst (v := 5) hx hb dX8_comeOn_176 (by decide) ?_
        refine lv_iadd hx hb dX8_comeOn_177 ?_
        refine lv_topi (fun x_48 ex_48 => ?_)
        obtain rfl : x_48 = 16 := ex_48.trans (by decide)
        refine lv_iconst (v := 0) hx hb dX8_comeOn_178 (by decide) ?_
        refine va_iast hx hb hK hP hD hS 2 0 rfl rfl (vin rfl) dX8_comeOn_179 (fun H locs hP1 hD1 hS1 => ?_)
        clear hP hD hS
        have hP : va_P (dC, dI) vwCl [(m0, .inr (8, mdL AM g)), (AM 0, .inl (cY 0, 72, .inl tb)), (AM 2, .inl (cY 0, 22, .inl (upd z_5 16 0))), (AM 3, .inl (cY 0, 22, .inl rd)), (AM 4, .inl (cY 0, 110, .inl kp)), (AM 5, .inl (cY 0, 8414, .inl td)), (AM 6, .inl (cY 0, 2, .inl wn)), (AM 13, .inl (cY 0, 4, .inl rw)), (AM 14, .inl (cY 0, 4, .inl br))] H := hP1
        have hD : va_D A [(m0, .inr (8, mdL AM g)), (AM 0, .inl (cY 0, 72, .inl tb)), (AM 2, .inl (cY 0, 22, .inl (upd z_5 16 0))), (AM 3, .inl (cY 0, 22, .inl rd)), (AM 4, .inl (cY 0, 110, .inl kp)), (AM 5, .inl (cY 0, 8414, .inl td)), (AM 6, .inl (cY 0, 2, .inl wn)), (AM 13, .inl (cY 0, 4, .inl rw)), (AM 14, .inl (cY 0, 4, .inl br))] := hD1
        have hS := hS1
        clear hP1 hD1 hS1
        refine lv_aload_n hx hb dX8_comeOn_180 rfl (lv_at hl 0 rfl) ?_
        refine va_get (D := (dC, dI)) (ci := 8) (v := .ref (AM 2)) (C := RX8) (T := TX8) (N := 17) hx hb hts inw_X8_comeOn_X8 hown hK hP 0 rfl rfl 2 (by decide) (hts (.fieldLink RX8 13 "DuelFramesModel" "s" "[I") (List.mem_of_getElem? (i := 1) rfl)) (fun _ h9 => h9) rfl dX8_comeOn_181 ?_
        refine lv_iload_n hx hb dX8_comeOn_184 rfl (lv_at hl 1 rfl) ?_
        refine lv_iconst (v := 4) hx hb dX8_comeOn_185 (by decide) ?_
        refine lv_iadd hx hb dX8_comeOn_186 ?_
        refine lv_topi (fun x_49 ex_49 => ?_)
        obtain rfl : x_49 = 15 := ex_49.trans (by decide)
        refine lv_iconst (v := (-1)) hx hb dX8_comeOn_187 (by decide) ?_
        refine va_iast hx hb hK hP hD hS 2 0 rfl rfl (vin rfl) dX8_comeOn_188 (fun H locs hP1 hD1 hS1 => ?_)
        clear hP hD hS
        have hP : va_P (dC, dI) vwCl [(m0, .inr (8, mdL AM g)), (AM 0, .inl (cY 0, 72, .inl tb)), (AM 2, .inl (cY 0, 22, .inl (upd (upd z_5 16 0) 15 (-1)))), (AM 3, .inl (cY 0, 22, .inl rd)), (AM 4, .inl (cY 0, 110, .inl kp)), (AM 5, .inl (cY 0, 8414, .inl td)), (AM 6, .inl (cY 0, 2, .inl wn)), (AM 13, .inl (cY 0, 4, .inl rw)), (AM 14, .inl (cY 0, 4, .inl br))] H := hP1
        have hD : va_D A [(m0, .inr (8, mdL AM g)), (AM 0, .inl (cY 0, 72, .inl tb)), (AM 2, .inl (cY 0, 22, .inl (upd (upd z_5 16 0) 15 (-1)))), (AM 3, .inl (cY 0, 22, .inl rd)), (AM 4, .inl (cY 0, 110, .inl kp)), (AM 5, .inl (cY 0, 8414, .inl td)), (AM 6, .inl (cY 0, 2, .inl wn)), (AM 13, .inl (cY 0, 4, .inl rw)), (AM 14, .inl (cY 0, 4, .inl br))] := hD1
        have hS := hS1
        clear hP1 hD1 hS1
        have e_50 : (X8_comeOn11_j189 tb sA) = (upd (upd z_5 16 0) 15 (-1)) := by rw [X8_comeOn11_j189]; simp only [← ez_5, eq_true c_8, ↓reduceIte]
        exact jn_9 _ _ _ (by (try simp only [e_50]); exact hP) (by (try simp only [e_50]); exact hD) hS (by (try simp only [e_50]); exact (lv_sub hl [0, 1] rfl))
  · intro jn_4
    refine lv_icmp_ne (tgt := 106) hx hb dX8_comeOn_9 (by decide) (fun c_3 => ?_) (fun c_3 => ?_)
    · refine lv_aload_n hx hb dX8_comeOn_106 rfl (lv_at hl 0 rfl) ?_
      refine va_get (D := (dC, dI)) (ci := 8) (v := .ref (AM 2)) (C := RX8) (T := TX8) (N := 17) hx hb hts inw_X8_comeOn_X8 hown hK hP 0 rfl rfl 2 (by decide) (hts (.fieldLink RX8 13 "DuelFramesModel" "s" "[I") (List.mem_of_getElem? (i := 1) rfl)) (fun _ h9 => h9) rfl dX8_comeOn_107 ?_
      refine lv_iload_n hx hb dX8_comeOn_110 rfl (lv_at hl 1 rfl) ?_
      refine lv_iconst (v := 3) hx hb dX8_comeOn_111 (by decide) ?_
      refine lv_iadd hx hb dX8_comeOn_112 ?_
      refine lv_topi (fun x_51 ex_51 => ?_)
      obtain rfl : x_51 = 14 := ex_51.trans (by decide)
      refine va_iald hx hb hK hP 2 0 rfl rfl (vin rfl) dX8_comeOn_113 ?_
      refine lv_topi (fun x_52 ex_52 => ?_)
      obtain rfl : x_52 = (sA 14) := ex_52
      refine lv_if_eq (tgt := 160) hx hb dX8_comeOn_114 (by decide) (fun c_53 => ?_) (fun c_53 => ?_)
      · have e_54 : (X8_comeOn11_j160 tb sA) = sA := by rw [X8_comeOn11_j160]; simp only [eq_false c_3, eq_true c_53, ↓reduceIte]
        exact jn_4 _ _ _ (by (try simp only [e_54]); exact hP) (by (try simp only [e_54]); exact hD) hS (by (try simp only [e_54]); exact (lv_sub hl [0, 1] rfl))
      · refine lv_aload_n hx hb dX8_comeOn_117 rfl (lv_at hl 0 rfl) ?_
        refine va_get (D := (dC, dI)) (ci := 8) (v := .ref (AM 2)) (C := RX8) (T := TX8) (N := 17) hx hb hts inw_X8_comeOn_X8 hown hK hP 0 rfl rfl 2 (by decide) (hts (.fieldLink RX8 13 "DuelFramesModel" "s" "[I") (List.mem_of_getElem? (i := 1) rfl)) (fun _ h9 => h9) rfl dX8_comeOn_118 ?_
        refine lv_iload_n hx hb dX8_comeOn_121 rfl (lv_at hl 1 rfl) ?_
        refine lv_iconst (v := 5) hx hb dX8_comeOn_122 (by decide) ?_
        refine lv_iadd hx hb dX8_comeOn_123 ?_
        refine lv_topi (fun x_55 ex_55 => ?_)
        obtain rfl : x_55 = 16 := ex_55.trans (by decide)
        refine lv_dup2_11 hx hb dX8_comeOn_124 rfl rfl ?_
        refine va_iald hx hb hK hP 2 0 rfl rfl (vin rfl) dX8_comeOn_125 ?_
        refine lv_topi (fun x_56 ex_56 => ?_)
        obtain rfl : x_56 = (sA 16) := ex_56
        refine lv_iconst (v := 1) hx hb dX8_comeOn_126 (by decide) ?_
        refine lv_isub hx hb dX8_comeOn_127 ?_
        refine va_iast hx hb hK hP hD hS 2 0 rfl rfl (vin rfl) dX8_comeOn_128 (fun H locs hP1 hD1 hS1 => ?_)
        clear hP hD hS
        have hP : va_P (dC, dI) vwCl [(m0, .inr (8, mdL AM g)), (AM 0, .inl (cY 0, 72, .inl tb)), (AM 2, .inl (cY 0, 22, .inl (upd sA 16 ((sA 16) - 1)))), (AM 3, .inl (cY 0, 22, .inl rd)), (AM 4, .inl (cY 0, 110, .inl kp)), (AM 5, .inl (cY 0, 8414, .inl td)), (AM 6, .inl (cY 0, 2, .inl wn)), (AM 13, .inl (cY 0, 4, .inl rw)), (AM 14, .inl (cY 0, 4, .inl br))] H := hP1
        have hD : va_D A [(m0, .inr (8, mdL AM g)), (AM 0, .inl (cY 0, 72, .inl tb)), (AM 2, .inl (cY 0, 22, .inl (upd sA 16 ((sA 16) - 1)))), (AM 3, .inl (cY 0, 22, .inl rd)), (AM 4, .inl (cY 0, 110, .inl kp)), (AM 5, .inl (cY 0, 8414, .inl td)), (AM 6, .inl (cY 0, 2, .inl wn)), (AM 13, .inl (cY 0, 4, .inl rw)), (AM 14, .inl (cY 0, 4, .inl br))] := hD1
        have hS := hS1
        clear hP1 hD1 hS1
        refine lv_aload_n hx hb dX8_comeOn_129 rfl (lv_at hl 0 rfl) ?_
        refine va_get (D := (dC, dI)) (ci := 8) (v := .ref (AM 2)) (C := RX8) (T := TX8) (N := 17) hx hb hts inw_X8_comeOn_X8 hown hK hP 0 rfl rfl 2 (by decide) (hts (.fieldLink RX8 13 "DuelFramesModel" "s" "[I") (List.mem_of_getElem? (i := 1) rfl)) (fun _ h9 => h9) rfl dX8_comeOn_130 ?_
        refine lv_iload_n hx hb dX8_comeOn_133 rfl (lv_at hl 1 rfl) ?_
        refine lv_iconst (v := 3) hx hb dX8_comeOn_134 (by decide) ?_
        refine lv_iadd hx hb dX8_comeOn_135 ?_
        refine lv_topi (fun x_57 ex_57 => ?_)
        obtain rfl : x_57 = 14 := ex_57.trans (by decide)
        refine lv_aload_n hx hb dX8_comeOn_136 rfl (lv_at hl 0 rfl) ?_
        refine va_get (D := (dC, dI)) (ci := 8) (v := .ref (AM 2)) (C := RX8) (T := TX8) (N := 17) hx hb hts inw_X8_comeOn_X8 hown hK hP 0 rfl rfl 2 (by decide) (hts (.fieldLink RX8 13 "DuelFramesModel" "s" "[I") (List.mem_of_getElem? (i := 1) rfl)) (fun _ h9 => h9) rfl dX8_comeOn_137 ?_
        refine lv_iload_n hx hb dX8_comeOn_140 rfl (lv_at hl 1 rfl) ?_
        refine lv_iconst (v := 5) hx hb dX8_comeOn_141 (by decide) ?_
        refine lv_iadd hx hb dX8_comeOn_142 ?_
        refine lv_topi (fun x_58 ex_58 => ?_)
        obtain rfl : x_58 = 16 := ex_58.trans (by decide)
        refine va_iald hx hb hK hP 2 0 rfl rfl (vin rfl) dX8_comeOn_143 ?_
        refine lv_topi (fun x_59 ex_59 => ?_)
        obtain rfl : x_59 = ((sA 16) - 1) := ex_59
        refine jnW (D := (dC, dI)) (ws := [(m0, .inr (8, mdL AM g)), (AM 0, .inl (cY 0, 72, .inl tb)), (AM 2, .inl (cY 0, 22, .inl (upd sA 16 ((sA 16) - 1)))), (AM 3, .inl (cY 0, 22, .inl rd)), (AM 4, .inl (cY 0, 110, .inl kp)), (AM 5, .inl (cY 0, 8414, .inl td)), (AM 6, .inl (cY 0, 2, .inl wn)), (AM 13, .inl (cY 0, 4, .inl rw)), (AM 14, .inl (cY 0, 4, .inl br))]) (lv := [(0, .ref m0), (1, .int 11)]) (st := [.int (X8_comeOn11_j159 sA), .int 14, .ref (AM 2)]) (J := 159) (n := 3) (A := A) (H0 := s.heap) ?_ ?_
        · intro H locs ls hP hD hS hl
          refine va_iast hx hb hK hP hD hS 2 0 rfl rfl (vin rfl) dX8_comeOn_159 (fun H locs hP1 hD1 hS1 => ?_)
          clear hP hD hS
          have hP : va_P (dC, dI) vwCl [(m0, .inr (8, mdL AM g)), (AM 0, .inl (cY 0, 72, .inl tb)), (AM 2, .inl (cY 0, 22, .inl (upd (upd sA 16 ((sA 16) - 1)) 14 (X8_comeOn11_j159 sA)))), (AM 3, .inl (cY 0, 22, .inl rd)), (AM 4, .inl (cY 0, 110, .inl kp)), (AM 5, .inl (cY 0, 8414, .inl td)), (AM 6, .inl (cY 0, 2, .inl wn)), (AM 13, .inl (cY 0, 4, .inl rw)), (AM 14, .inl (cY 0, 4, .inl br))] H := hP1
          have hD : va_D A [(m0, .inr (8, mdL AM g)), (AM 0, .inl (cY 0, 72, .inl tb)), (AM 2, .inl (cY 0, 22, .inl (upd (upd sA 16 ((sA 16) - 1)) 14 (X8_comeOn11_j159 sA)))), (AM 3, .inl (cY 0, 22, .inl rd)), (AM 4, .inl (cY 0, 110, .inl kp)), (AM 5, .inl (cY 0, 8414, .inl td)), (AM 6, .inl (cY 0, 2, .inl wn)), (AM 13, .inl (cY 0, 4, .inl rw)), (AM 14, .inl (cY 0, 4, .inl br))] := hD1
          have hS := hS1
          clear hP1 hD1 hS1
          have e_62 : (X8_comeOn11_j160 tb sA) = (upd (upd sA 16 ((sA 16) - 1)) 14 (X8_comeOn11_j159 sA)) := by rw [X8_comeOn11_j160]; simp only [eq_false c_3, eq_false c_53, ↓reduceIte]
          exact jn_4 _ _ _ (by (try simp only [e_62]); exact hP) (by (try simp only [e_62]); exact hD) hS (by (try simp only [e_62]); exact (lv_sub hl [0, 1] rfl))
        · intro jn_61
          refine lv_if_gt (tgt := 151) hx hb dX8_comeOn_144 (by decide) (fun c_60 => ?_) (fun c_60 => ?_)
          · refine lv_aload_n hx hb dX8_comeOn_151 rfl (lv_at hl 0 rfl) ?_
            refine va_get (D := (dC, dI)) (ci := 8) (v := .ref (AM 2)) (C := RX8) (T := TX8) (N := 17) hx hb hts inw_X8_comeOn_X8 hown hK hP 0 rfl rfl 2 (by decide) (hts (.fieldLink RX8 13 "DuelFramesModel" "s" "[I") (List.mem_of_getElem? (i := 1) rfl)) (fun _ h9 => h9) rfl dX8_comeOn_152 ?_
            refine lv_iload_n hx hb dX8_comeOn_155 rfl (lv_at hl 1 rfl) ?_
            refine lv_iconst (v := 3) hx hb dX8_comeOn_156 (by decide) ?_
            refine lv_iadd hx hb dX8_comeOn_157 ?_
            refine lv_topi (fun x_63 ex_63 => ?_)
            obtain rfl : x_63 = 14 := ex_63.trans (by decide)
            refine va_iald hx hb hK hP 2 0 rfl rfl (vin rfl) dX8_comeOn_158 ?_
            refine lv_topi (fun x_64 ex_64 => ?_)
            obtain rfl : x_64 = (sA 14) := ex_64
            have e_65 : (X8_comeOn11_j159 sA) = (sA 14) := by rw [X8_comeOn11_j159]; simp only [eq_true c_60, ↓reduceIte]
            refine W.eq (g2 := F0 m 159 ls [.int (X8_comeOn11_j159 sA), .int 14, .ref (AM 2)]) (by simp only [e_65]) ?_
            exact jn_61 _ _ _ (by (try simp only [e_65]); exact hP) (by (try simp only [e_65]); exact hD) hS (by (try simp only [e_65]); exact (lv_sub hl [0, 1] rfl))
          · refine lv_iconst (v := 0) hx hb dX8_comeOn_147 (by decide) ?_
            refine lv_goto (tgt := 159) hx hb dX8_comeOn_148 (by decide) ?_
            have e_66 : (X8_comeOn11_j159 sA) = 0 := by rw [X8_comeOn11_j159]; simp only [eq_false c_60, ↓reduceIte]
            refine W.eq (g2 := F0 m 159 ls [.int (X8_comeOn11_j159 sA), .int 14, .ref (AM 2)]) (by simp only [e_66]) ?_
            exact jn_61 _ _ _ (by (try simp only [e_66]); exact hP) (by (try simp only [e_66]); exact hD) hS (by (try simp only [e_66]); exact (lv_sub hl [0, 1] rfl))
    · refine lv_aload_n hx hb dX8_comeOn_12 rfl (lv_at hl 0 rfl) ?_
      refine va_get (D := (dC, dI)) (ci := 8) (v := .ref (AM 2)) (C := RX8) (T := TX8) (N := 17) hx hb hts inw_X8_comeOn_X8 hown hK hP 0 rfl rfl 2 (by decide) (hts (.fieldLink RX8 13 "DuelFramesModel" "s" "[I") (List.mem_of_getElem? (i := 1) rfl)) (fun _ h9 => h9) rfl dX8_comeOn_13 ?_
      refine lv_iload_n hx hb dX8_comeOn_16 rfl (lv_at hl 1 rfl) ?_
      refine lv_iconst (v := 4) hx hb dX8_comeOn_17 (by decide) ?_
      refine lv_iadd hx hb dX8_comeOn_18 ?_
      refine lv_topi (fun x_67 ex_67 => ?_)
      obtain rfl : x_67 = 15 := ex_67.trans (by decide)
      refine va_iald hx hb hK hP 2 0 rfl rfl (vin rfl) dX8_comeOn_19 ?_
      refine lv_topi (fun x_68 ex_68 => ?_)
      obtain rfl : x_68 = (sA 15) := ex_68
      refine lv_istore_n (lv' := [(2, .int (sA 15)), (0, .ref m0), (1, .int 11)]) hx hb dX8_comeOn_20 rfl hl (by decide) rfl (fun ls hl => ?_)
      refine lv_aload_n hx hb dX8_comeOn_21 rfl (lv_at hl 1 rfl) ?_
      refine va_get (D := (dC, dI)) (ci := 8) (v := .ref (AM 2)) (C := RX8) (T := TX8) (N := 17) hx hb hts inw_X8_comeOn_X8 hown hK hP 0 rfl rfl 2 (by decide) (hts (.fieldLink RX8 13 "DuelFramesModel" "s" "[I") (List.mem_of_getElem? (i := 1) rfl)) (fun _ h9 => h9) rfl dX8_comeOn_22 ?_
      refine lv_iload_n hx hb dX8_comeOn_25 rfl (lv_at hl 2 rfl) ?_
      refine lv_iconst (v := 5) hx hb dX8_comeOn_26 (by decide) ?_
      refine lv_iadd hx hb dX8_comeOn_27 ?_
      refine lv_topi (fun x_69 ex_69 => ?_)
      obtain rfl : x_69 = 16 := ex_69.trans (by decide)
      refine lv_dup2_11 hx hb dX8_comeOn_28 rfl rfl ?_
      refine va_iald hx hb hK hP 2 0 rfl rfl (vin rfl) dX8_comeOn_29 ?_
      refine lv_topi (fun x_70 ex_70 => ?_)
      obtain rfl : x_70 = (sA 16) := ex_70
      refine lv_iconst (v := 1) hx hb dX8_comeOn_30 (by decide) ?_
      refine lv_iadd hx hb dX8_comeOn_31 ?_
      refine va_iast hx hb hK hP hD hS 2 0 rfl rfl (vin rfl) dX8_comeOn_32 (fun H locs hP1 hD1 hS1 => ?_)
      clear hP hD hS
      have hP : va_P (dC, dI) vwCl [(m0, .inr (8, mdL AM g)), (AM 0, .inl (cY 0, 72, .inl tb)), (AM 2, .inl (cY 0, 22, .inl (upd sA 16 ((sA 16) + 1)))), (AM 3, .inl (cY 0, 22, .inl rd)), (AM 4, .inl (cY 0, 110, .inl kp)), (AM 5, .inl (cY 0, 8414, .inl td)), (AM 6, .inl (cY 0, 2, .inl wn)), (AM 13, .inl (cY 0, 4, .inl rw)), (AM 14, .inl (cY 0, 4, .inl br))] H := hP1
      have hD : va_D A [(m0, .inr (8, mdL AM g)), (AM 0, .inl (cY 0, 72, .inl tb)), (AM 2, .inl (cY 0, 22, .inl (upd sA 16 ((sA 16) + 1)))), (AM 3, .inl (cY 0, 22, .inl rd)), (AM 4, .inl (cY 0, 110, .inl kp)), (AM 5, .inl (cY 0, 8414, .inl td)), (AM 6, .inl (cY 0, 2, .inl wn)), (AM 13, .inl (cY 0, 4, .inl rw)), (AM 14, .inl (cY 0, 4, .inl br))] := hD1
      have hS := hS1
      clear hP1 hD1 hS1
      refine lv_aload_n hx hb dX8_comeOn_33 rfl (lv_at hl 1 rfl) ?_
      refine va_get (D := (dC, dI)) (ci := 8) (v := .ref (AM 2)) (C := RX8) (T := TX8) (N := 17) hx hb hts inw_X8_comeOn_X8 hown hK hP 0 rfl rfl 2 (by decide) (hts (.fieldLink RX8 13 "DuelFramesModel" "s" "[I") (List.mem_of_getElem? (i := 1) rfl)) (fun _ h9 => h9) rfl dX8_comeOn_34 ?_
      refine lv_iload_n hx hb dX8_comeOn_37 rfl (lv_at hl 2 rfl) ?_
      refine lv_bipush (v := 9) hx hb dX8_comeOn_38 (by decide) ?_
      refine lv_iadd hx hb dX8_comeOn_40 ?_
      refine lv_topi (fun x_71 ex_71 => ?_)
      obtain rfl : x_71 = 20 := ex_71.trans (by decide)
      refine lv_dup2_11 hx hb dX8_comeOn_41 rfl rfl ?_
      refine va_iald hx hb hK hP 2 0 rfl rfl (vin rfl) dX8_comeOn_42 ?_
      refine lv_topi (fun x_72 ex_72 => ?_)
      obtain rfl : x_72 = (sA 20) := ex_72
      refine lv_aload_n hx hb dX8_comeOn_43 rfl (lv_at hl 1 rfl) ?_
      refine va_get (D := (dC, dI)) (ci := 8) (v := .ref (AM 2)) (C := RX8) (T := TX8) (N := 17) hx hb hts inw_X8_comeOn_X8 hown hK hP 0 rfl rfl 2 (by decide) (hts (.fieldLink RX8 13 "DuelFramesModel" "s" "[I") (List.mem_of_getElem? (i := 1) rfl)) (fun _ h9 => h9) rfl dX8_comeOn_44 ?_
      refine lv_iload_n hx hb dX8_comeOn_47 rfl (lv_at hl 2 rfl) ?_
      refine lv_bipush (v := 9) hx hb dX8_comeOn_48 (by decide) ?_
      refine lv_iadd hx hb dX8_comeOn_50 ?_
      refine lv_topi (fun x_73 ex_73 => ?_)
      obtain rfl : x_73 = 20 := ex_73.trans (by decide)
      refine va_iald hx hb hK hP 2 0 rfl rfl (vin rfl) dX8_comeOn_51 ?_
      refine lv_topi (fun x_74 ex_74 => ?_)
      obtain rfl : x_74 = (sA 20) := ex_74
      refine lv_iconst (v := (-1)) hx hb dX8_comeOn_52 (by decide) ?_
      refine jnW (D := (dC, dI)) (ws := [(m0, .inr (8, mdL AM g)), (AM 0, .inl (cY 0, 72, .inl tb)), (AM 2, .inl (cY 0, 22, .inl (upd sA 16 ((sA 16) + 1)))), (AM 3, .inl (cY 0, 22, .inl rd)), (AM 4, .inl (cY 0, 110, .inl kp)), (AM 5, .inl (cY 0, 8414, .inl td)), (AM 6, .inl (cY 0, 2, .inl wn)), (AM 13, .inl (cY 0, 4, .inl rw)), (AM 14, .inl (cY 0, 4, .inl br))]) (lv := [(2, .int (sA 15)), (0, .ref m0), (1, .int 11)]) (st := [.int (X8_comeOn11_j61 sA), .int (sA 20), .int 20, .ref (AM 2)]) (J := 61) (n := 3) (A := A) (H0 := s.heap) ?_ ?_
      · intro H locs ls hP hD hS hl
        refine lv_iadd hx hb dX8_comeOn_61 ?_
        refine va_iast hx hb hK hP hD hS 2 0 rfl rfl (vin rfl) dX8_comeOn_62 (fun H locs hP1 hD1 hS1 => ?_)
        clear hP hD hS
        have hP : va_P (dC, dI) vwCl [(m0, .inr (8, mdL AM g)), (AM 0, .inl (cY 0, 72, .inl tb)), (AM 2, .inl (cY 0, 22, .inl (upd (upd sA 16 ((sA 16) + 1)) 20 ((sA 20) + (X8_comeOn11_j61 sA))))), (AM 3, .inl (cY 0, 22, .inl rd)), (AM 4, .inl (cY 0, 110, .inl kp)), (AM 5, .inl (cY 0, 8414, .inl td)), (AM 6, .inl (cY 0, 2, .inl wn)), (AM 13, .inl (cY 0, 4, .inl rw)), (AM 14, .inl (cY 0, 4, .inl br))] H := hP1
        have hD : va_D A [(m0, .inr (8, mdL AM g)), (AM 0, .inl (cY 0, 72, .inl tb)), (AM 2, .inl (cY 0, 22, .inl (upd (upd sA 16 ((sA 16) + 1)) 20 ((sA 20) + (X8_comeOn11_j61 sA))))), (AM 3, .inl (cY 0, 22, .inl rd)), (AM 4, .inl (cY 0, 110, .inl kp)), (AM 5, .inl (cY 0, 8414, .inl td)), (AM 6, .inl (cY 0, 2, .inl wn)), (AM 13, .inl (cY 0, 4, .inl rw)), (AM 14, .inl (cY 0, 4, .inl br))] := hD1
        have hS := hS1
        clear hP1 hD1 hS1
        refine lv_aload_n hx hb dX8_comeOn_63 rfl (lv_at hl 1 rfl) ?_
        refine va_get (D := (dC, dI)) (ci := 8) (v := .ref (AM 2)) (C := RX8) (T := TX8) (N := 17) hx hb hts inw_X8_comeOn_X8 hown hK hP 0 rfl rfl 2 (by decide) (hts (.fieldLink RX8 13 "DuelFramesModel" "s" "[I") (List.mem_of_getElem? (i := 1) rfl)) (fun _ h9 => h9) rfl dX8_comeOn_64 ?_
        refine lv_iload_n hx hb dX8_comeOn_67 rfl (lv_at hl 2 rfl) ?_
        refine lv_iconst (v := 5) hx hb dX8_comeOn_68 (by decide) ?_
        refine lv_iadd hx hb dX8_comeOn_69 ?_
        refine lv_topi (fun x_77 ex_77 => ?_)
        obtain rfl : x_77 = 16 := ex_77.trans (by decide)
        refine va_iald hx hb hK hP 2 0 rfl rfl (vin rfl) dX8_comeOn_70 ?_
        refine lv_topi (fun x_78 ex_78 => ?_)
        obtain rfl : x_78 = ((sA 16) + 1) := ex_78
        refine lv_aload_n hx hb dX8_comeOn_71 rfl (lv_at hl 1 rfl) ?_
        refine lv_iload_n hx hb dX8_comeOn_72 rfl (lv_at hl 0 rfl) ?_
        refine lv_iconst (v := 0) hx hb dX8_comeOn_73 (by decide) ?_
        refine vp_callSi (W.runV (As := [.int (sA 15), .int 0]) (rest := [.int ((sA 16) + 1)]) ⟨hx, hb, hml, hown, hts⟩ (c_X8_ofMove l dC dI cY m0 AM g tb (upd (upd sA 16 ((sA 16) + 1)) 20 ((sA 20) + (X8_comeOn11_j61 sA))) rd kp td wn rw br (sA 15) 0 (tb_in (hs.2.2.2 c_3) (vin rfl))) (cwV 2 hts gX8_comeOn_X8_ofMove rfl rfl rfl (by decide +kernel) ⟨Nat.le_of_ble_eq_true rfl, Nat.le_of_ble_eq_true rfl⟩) ⟨blindR, va_recv hK hP (ci := 8) (q0 := 0) rfl rfl, fun U hU hW => ⟨rfl, rPre_of hP hK hN U hU hW⟩⟩ rfl rfl hl.1 rfl (lv_room (Nat.le_of_ble_eq_true rfl)) dX8_comeOn_74 ⟨Nat.zero_le _, Nat.zero_le _⟩) (fun r_79 hw => ?_)
        subst hw
        refine lv_aload_n hx hb dX8_comeOn_77 rfl (lv_at hl 1 rfl) ?_
        refine lv_iload_n hx hb dX8_comeOn_78 rfl (lv_at hl 0 rfl) ?_
        refine lv_iconst (v := 1) hx hb dX8_comeOn_79 (by decide) ?_
        refine vp_callSi (W.runV (As := [.int (sA 15), .int 1]) (rest := [.int (X8_ofMove_r tb (sA 15) 0), .int ((sA 16) + 1)]) ⟨hx, hb, hml, hown, hts⟩ (c_X8_ofMove l dC dI cY m0 AM g tb (upd (upd sA 16 ((sA 16) + 1)) 20 ((sA 20) + (X8_comeOn11_j61 sA))) rd kp td wn rw br (sA 15) 1 (tb_in (hs.2.2.2 c_3) (vin rfl))) (cwV 2 hts gX8_comeOn_X8_ofMove rfl rfl rfl (by decide +kernel) ⟨Nat.le_of_ble_eq_true rfl, Nat.le_of_ble_eq_true rfl⟩) ⟨blindR, va_recv hK hP (ci := 8) (q0 := 0) rfl rfl, fun U hU hW => ⟨rfl, rPre_of hP hK hN U hU hW⟩⟩ rfl rfl hl.1 rfl (lv_room (Nat.le_of_ble_eq_true rfl)) dX8_comeOn_80 ⟨Nat.zero_le _, Nat.zero_le _⟩) (fun r_80 hw => ?_)
        subst hw
        refine lv_iadd hx hb dX8_comeOn_83 ?_
        refine lv_aload_n hx hb dX8_comeOn_84 rfl (lv_at hl 1 rfl) ?_
        refine lv_iload_n hx hb dX8_comeOn_85 rfl (lv_at hl 0 rfl) ?_
        refine lv_iconst (v := 2) hx hb dX8_comeOn_86 (by decide) ?_
        refine vp_callSi (W.runV (As := [.int (sA 15), .int 2]) (rest := [.int ((X8_ofMove_r tb (sA 15) 0) + (X8_ofMove_r tb (sA 15) 1)), .int ((sA 16) + 1)]) ⟨hx, hb, hml, hown, hts⟩ (c_X8_ofMove l dC dI cY m0 AM g tb (upd (upd sA 16 ((sA 16) + 1)) 20 ((sA 20) + (X8_comeOn11_j61 sA))) rd kp td wn rw br (sA 15) 2 (tb_in (hs.2.2.2 c_3) (vin rfl))) (cwV 2 hts gX8_comeOn_X8_ofMove rfl rfl rfl (by decide +kernel) ⟨Nat.le_of_ble_eq_true rfl, Nat.le_of_ble_eq_true rfl⟩) ⟨blindR, va_recv hK hP (ci := 8) (q0 := 0) rfl rfl, fun U hU hW => ⟨rfl, rPre_of hP hK hN U hU hW⟩⟩ rfl rfl hl.1 rfl (lv_room (Nat.le_of_ble_eq_true rfl)) dX8_comeOn_87 ⟨Nat.zero_le _, Nat.zero_le _⟩) (fun r_81 hw => ?_)
        subst hw
        refine lv_iadd hx hb dX8_comeOn_90 ?_
        refine jnW (D := (dC, dI)) (ws := [(m0, .inr (8, mdL AM g)), (AM 0, .inl (cY 0, 72, .inl tb)), (AM 2, .inl (cY 0, 22, .inl (X8_comeOn11_j103 tb sA))), (AM 3, .inl (cY 0, 22, .inl rd)), (AM 4, .inl (cY 0, 110, .inl kp)), (AM 5, .inl (cY 0, 8414, .inl td)), (AM 6, .inl (cY 0, 2, .inl wn)), (AM 13, .inl (cY 0, 4, .inl rw)), (AM 14, .inl (cY 0, 4, .inl br))]) (lv := [(0, .ref m0), (1, .int 11)]) (st := []) (J := 103) (n := 3) (A := A) (H0 := s.heap) ?_ ?_
        · intro H locs ls hP hD hS hl
          obtain ⟨z_84, ez_84⟩ : ∃ z, z = (X8_comeOn11_j103 tb sA) := ⟨_, rfl⟩
          rw [← ez_84] at hP hD
          refine lv_goto (tgt := 160) hx hb dX8_comeOn_103 (by decide) ?_
          have e_85 : (X8_comeOn11_j160 tb sA) = z_84 := by rw [X8_comeOn11_j160]; simp only [← ez_84, eq_true c_3, ↓reduceIte]
          exact jn_4 _ _ _ (by (try simp only [e_85, ← ez_84]); exact hP) (by (try simp only [e_85, ← ez_84]); exact hD) hS (by (try simp only [e_85, ← ez_84]); exact (lv_sub hl [0, 1] rfl))
        · intro jn_83
          refine lv_icmp_ne (tgt := 103) hx hb dX8_comeOn_91 (by decide) (fun c_82 => ?_) (fun c_82 => ?_)
          · have e_86 : (X8_comeOn11_j103 tb sA) = (upd (upd sA 16 ((sA 16) + 1)) 20 ((sA 20) + (X8_comeOn11_j61 sA))) := by rw [X8_comeOn11_j103]; simp only [eq_false c_82, ↓reduceIte]
            exact jn_83 _ _ _ (by (try simp only [e_86]); exact hP) (by (try simp only [e_86]); exact hD) hS (by (try simp only [e_86]); exact (lv_sub hl [1, 2] rfl))
          · refine lv_aload_n hx hb dX8_comeOn_94 rfl (lv_at hl 1 rfl) ?_
            refine va_get (D := (dC, dI)) (ci := 8) (v := .ref (AM 2)) (C := RX8) (T := TX8) (N := 17) hx hb hts inw_X8_comeOn_X8 hown hK hP 0 rfl rfl 2 (by decide) (hts (.fieldLink RX8 13 "DuelFramesModel" "s" "[I") (List.mem_of_getElem? (i := 1) rfl)) (fun _ h9 => h9) rfl dX8_comeOn_95 ?_
            refine lv_iload_n hx hb dX8_comeOn_98 rfl (lv_at hl 2 rfl) ?_
            refine lv_iconst (v := 3) hx hb dX8_comeOn_99 (by decide) ?_
            refine lv_iadd hx hb dX8_comeOn_100 ?_
            refine lv_topi (fun x_87 ex_87 => ?_)
            obtain rfl : x_87 = 14 := ex_87.trans (by decide)
            refine lv_iconst (v := 0) hx hb dX8_comeOn_101 (by decide) ?_
            refine va_iast hx hb hK hP hD hS 2 0 rfl rfl (vin rfl) dX8_comeOn_102 (fun H locs hP1 hD1 hS1 => ?_)
            clear hP hD hS
            have hP : va_P (dC, dI) vwCl [(m0, .inr (8, mdL AM g)), (AM 0, .inl (cY 0, 72, .inl tb)), (AM 2, .inl (cY 0, 22, .inl (upd (upd (upd sA 16 ((sA 16) + 1)) 20 ((sA 20) + (X8_comeOn11_j61 sA))) 14 0))), (AM 3, .inl (cY 0, 22, .inl rd)), (AM 4, .inl (cY 0, 110, .inl kp)), (AM 5, .inl (cY 0, 8414, .inl td)), (AM 6, .inl (cY 0, 2, .inl wn)), (AM 13, .inl (cY 0, 4, .inl rw)), (AM 14, .inl (cY 0, 4, .inl br))] H := hP1
            have hD : va_D A [(m0, .inr (8, mdL AM g)), (AM 0, .inl (cY 0, 72, .inl tb)), (AM 2, .inl (cY 0, 22, .inl (upd (upd (upd sA 16 ((sA 16) + 1)) 20 ((sA 20) + (X8_comeOn11_j61 sA))) 14 0))), (AM 3, .inl (cY 0, 22, .inl rd)), (AM 4, .inl (cY 0, 110, .inl kp)), (AM 5, .inl (cY 0, 8414, .inl td)), (AM 6, .inl (cY 0, 2, .inl wn)), (AM 13, .inl (cY 0, 4, .inl rw)), (AM 14, .inl (cY 0, 4, .inl br))] := hD1
            have hS := hS1
            clear hP1 hD1 hS1
            have e_88 : (X8_comeOn11_j103 tb sA) = (upd (upd (upd sA 16 ((sA 16) + 1)) 20 ((sA 20) + (X8_comeOn11_j61 sA))) 14 0) := by rw [X8_comeOn11_j103]; simp only [eq_true c_82, ↓reduceIte]
            exact jn_83 _ _ _ (by (try simp only [e_88]); exact hP) (by (try simp only [e_88]); exact hD) hS (by (try simp only [e_88]); exact (lv_sub hl [1, 2] rfl))
      · intro jn_76
        refine lv_icmp_ne (tgt := 60) hx hb dX8_comeOn_53 (by decide) (fun c_75 => ?_) (fun c_75 => ?_)
        · refine lv_iconst (v := 1) hx hb dX8_comeOn_60 (by decide) ?_
          have e_89 : (X8_comeOn11_j61 sA) = 1 := by rw [X8_comeOn11_j61]; simp only [eq_false c_75, ↓reduceIte]
          refine W.eq (g2 := F0 m 61 ls [.int (X8_comeOn11_j61 sA), .int (sA 20), .int 20, .ref (AM 2)]) (by simp only [e_89]) ?_
          exact jn_76 _ _ _ (by (try simp only [e_89]); exact hP) (by (try simp only [e_89]); exact hD) hS (by (try simp only [e_89]); exact (lv_sub hl [0, 1, 2] rfl))
        · refine lv_iconst (v := 0) hx hb dX8_comeOn_56 (by decide) ?_
          refine lv_goto (tgt := 61) hx hb dX8_comeOn_57 (by decide) ?_
          have e_90 : (X8_comeOn11_j61 sA) = 0 := by rw [X8_comeOn11_j61]; simp only [eq_true c_75, ↓reduceIte]
          refine W.eq (g2 := F0 m 61 ls [.int (X8_comeOn11_j61 sA), .int (sA 20), .int 20, .ref (AM 2)]) (by simp only [e_90]) ?_
          exact jn_76 _ _ _ (by (try simp only [e_90]); exact hP) (by (try simp only [e_90]); exact hD) hS (by (try simp only [e_90]); exact (lv_sub hl [0, 1, 2] rfl))
