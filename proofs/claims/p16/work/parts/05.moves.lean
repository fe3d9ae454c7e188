theorem inw_X4_trait_X4 : ∀ w ∈ u_ws RX4 TX4 8, w ∈ wsX4_trait := fun _ h => List.mem_cons_of_mem _ (List.mem_append_right _ h)
def X4_trait_r (mv : Nat → Int32) (what : Int32) : Int32 := (if what < 0 then 0 else (if 5 ≤ what then 0 else (mv (6 + what.toNatClampNeg))))
set_option maxHeartbeats 4000000 in
set_option maxRecDepth 100000 in
/-- Move.trait -/
theorem c_X4_trait (l : Launch) (dC : Nat → ClassId) (dI : Nat → Nat → Nat) (cY : Nat → ClassId) (h0 : Nat) (ht : Nat) (hi : Nat) (mv : Nat → Int32) (what : Int32)  : Met l yX4_trait wsX4_trait ({ frames := 0, cells := 0, slots := 0, locals := 0 } : Room) (va_Pc [.ref h0, .int what] (rPre (dC, dI) (tyL cY) [(h0, .inr (4, [.int (mv 0), .int (mv 1), .int (mv 2), .int (mv 3), .int (mv 4), .int (mv 5), .ref ht, .ref hi])), (ht, .inl (cY 0, 5, .inl (fun k => mv (6 + k)))), (hi, .inl (cY 1, 6, .inl (fun k => mv (11 + k))))])) (vp_Si (fun r => r = (X4_trait_r mv what))) 0 0 (fun _ => False) := by
  refine Met.ofW (cc := cX4_trait) (maxL := 2) (ret := (some .int)) (by decide) rfl ?_
  intro p e s m args below meth c s₁ B hml hv
  obtain ⟨rfl, hP, hK, hN⟩ := hv
  have hx := B.exec
  have hb := B.bytes
  have hr := B.returns
  have hts := atoms_spec (ws := wsX4_trait) B.pre
  have hown : s.vm.findClass RX4 = some m.cls := findClass_of_methodNamed B.named
  have hlocks := B.notSynchronized
  have hP : va_P (dC, dI) vwCl [(h0, .inr (4, [.int (mv 0), .int (mv 1), .int (mv 2), .int (mv 3), .int (mv 4), .int (mv 5), .ref ht, .ref hi])), (ht, .inl (cY 0, 5, .inl (fun k => mv (6 + k)))), (hi, .inl (cY 1, 6, .inl (fun k => mv (11 + k))))] s.heap := hP
  have hl := lv_entry ([.ref h0, .int what]) (n := 2) (Nat.le_of_ble_eq_true rfl)
  rw [lg_entry_eq]
  generalize (lg_sl ([.ref h0, .int what]) ++ List.replicate (2 - (lg_sl ([.ref h0, .int what])).length) Slot.unset).toArray = ls at hl ⊢
  have hl : lv_has ls 2 [(0, .ref h0), (1, .int what)] := hl
  refine lv_iload_n hx hb dX4_trait_0 rfl (lv_at hl 1 rfl) ?_
  refine lv_if_lt (tgt := 18) hx hb dX4_trait_1 (by decide) (fun c_1 => ?_) (fun c_1 => ?_)
  · refine lv_iconst (v := 0) hx hb dX4_trait_18 (by decide) ?_
    have eo_2 : (X4_trait_r mv what) = 0 := by rw [X4_trait_r]; simp only [eq_true c_1, ↓reduceIte]
    exact W.iret (v := 0) hx hb hr (fun t ht _ => ⟨_, rfl, eo_2.symm, ht⟩) (fun _ h => absurd h List.not_mem_nil) dX4_trait_19
  · refine lv_iload_n hx hb dX4_trait_4 rfl (lv_at hl 1 rfl) ?_
    refine lv_iconst (v := 5) hx hb dX4_trait_5 (by decide) ?_
    refine lv_icmp_ge (tgt := 18) hx hb dX4_trait_6 (by decide) (fun c_3 => ?_) (fun c_3 => ?_)
    · refine lv_iconst (v := 0) hx hb dX4_trait_18 (by decide) ?_
      have eo_4 : (X4_trait_r mv what) = 0 := by rw [X4_trait_r]; simp only [eq_false c_1, eq_true c_3, ↓reduceIte]
      exact W.iret (v := 0) hx hb hr (fun t ht _ => ⟨_, rfl, eo_4.symm, ht⟩) (fun _ h => absurd h List.not_mem_nil) dX4_trait_19
    · refine lv_aload_n hx hb dX4_trait_9 rfl (lv_at hl 0 rfl) ?_
      refine va_get (D := (dC, dI)) (ci := 4) (v := .ref ht) (C := RX4) (T := TX4) (N := 8) hx hb hts inw_X4_trait_X4 hown hK hP 0 rfl rfl 6 (by decide) (hts (.fieldLink RX4 30 "DuelFrames$Move" "traits" "[I") (List.mem_of_getElem? (i := 1) rfl)) (fun _ h9 => h9) rfl dX4_trait_10 ?_
      refine lv_iload_n hx hb dX4_trait_13 rfl (lv_at hl 1 rfl) ?_
      refine va_iald hx hb hK hP 1 0 rfl rfl (vinr 5 rfl c_1 c_3) dX4_trait_14 ?_
      refine lv_topi (fun x_5 ex_5 => ?_)
      obtain rfl : x_5 = (mv (6 + what.toNatClampNeg)) := ex_5
      refine lv_goto (tgt := 19) hx hb dX4_trait_15 (by decide) ?_
      have eo_6 : (X4_trait_r mv what) = (mv (6 + what.toNatClampNeg)) := by rw [X4_trait_r]; simp only [eq_false c_1, eq_false c_3, ↓reduceIte]
      exact W.iret (v := (mv (6 + what.toNatClampNeg))) hx hb hr (fun t ht _ => ⟨_, rfl, eo_6.symm, ht⟩) (fun _ h => absurd h List.not_mem_nil) dX4_trait_19
theorem inw_X4_goesInto_X4 : ∀ w ∈ u_ws RX4 TX4 8, w ∈ wsX4_goesInto := fun _ h => List.mem_cons_of_mem _ (List.mem_append_right _ h)
def X4_goesInto_r (mv : Nat → Int32) (move : Int32) : Int32 := (if move < 0 then 0 else (if 6 ≤ move then 0 else (if (mv (11 + move.toNatClampNeg)) = 0 then 0 else 1)))
set_option maxHeartbeats 4000000 in
set_option maxRecDepth 100000 in
theorem c_X4_goesInto (l : Launch) (dC : Nat → ClassId) (dI : Nat → Nat → Nat) (cY : Nat → ClassId) (h0 : Nat) (ht : Nat) (hi : Nat) (mv : Nat → Int32) (move : Int32)  : Met l yX4_goesInto wsX4_goesInto ({ frames := 0, cells := 0, slots := 0, locals := 0 } : Room) (va_Pc [.ref h0, .int move] (rPre (dC, dI) (tyL cY) [(h0, .inr (4, [.int (mv 0), .int (mv 1), .int (mv 2), .int (mv 3), .int (mv 4), .int (mv 5), .ref ht, .ref hi])), (ht, .inl (cY 0, 5, .inl (fun k => mv (6 + k)))), (hi, .inl (cY 1, 6, .inl (fun k => mv (11 + k))))])) (vp_Si (fun r => r = (X4_goesInto_r mv move) ∧ (r = 0 ∨ r = 1))) 0 0 (fun _ => False) := by
  refine Met.ofW (cc := cX4_goesInto) (maxL := 2) (ret := (some .boolean)) (by decide) rfl ?_
  intro p e s m args below meth c s₁ B hml hv
  obtain ⟨rfl, hP, hK, hN⟩ := hv
  have hx := B.exec
  have hb := B.bytes
  have hr := B.returns
  have hts := atoms_spec (ws := wsX4_goesInto) B.pre
  have hown : s.vm.findClass RX4 = some m.cls := findClass_of_methodNamed B.named
  have hlocks := B.notSynchronized
  have hP : va_P (dC, dI) vwCl [(h0, .inr (4, [.int (mv 0), .int (mv 1), .int (mv 2), .int (mv 3), .int (mv 4), .int (mv 5), .ref ht, .ref hi])), (ht, .inl (cY 0, 5, .inl (fun k => mv (6 + k)))), (hi, .inl (cY 1, 6, .inl (fun k => mv (11 + k))))] s.heap := hP
  have hl := lv_entry ([.ref h0, .int move]) (n := 2) (Nat.le_of_ble_eq_true rfl)
  rw [lg_entry_eq]
  generalize (lg_sl ([.ref h0, .int move]) ++ List.replicate (2 - (lg_sl ([.ref h0, .int move])).length) Slot.unset).toArray = ls at hl ⊢
  have hl : lv_has ls 2 [(0, .ref h0), (1, .int move)] := hl
  refine lv_iload_n hx hb dX4_goesInto_0 rfl (lv_at hl 1 rfl) ?_
  refine lv_if_lt (tgt := 23) hx hb dX4_goesInto_1 (by decide) (fun c_1 => ?_) (fun c_1 => ?_)
  · refine lv_iconst (v := 0) hx hb dX4_goesInto_23 (by decide) ?_
    have eo_2 : (X4_goesInto_r mv move) = 0 := by rw [X4_goesInto_r]; simp only [eq_true c_1, ↓reduceIte]
    exact W.zret (v := 0) (ty := .boolean) hx hb hr rfl (fun t ht _ => ⟨_, rfl, ⟨eo_2.symm, (by decide)⟩, ht⟩) (fun _ h => absurd h List.not_mem_nil) dX4_goesInto_24
  · refine lv_iload_n hx hb dX4_goesInto_4 rfl (lv_at hl 1 rfl) ?_
    refine lv_bipush (v := 6) hx hb dX4_goesInto_5 (by decide) ?_
    refine lv_icmp_ge (tgt := 23) hx hb dX4_goesInto_7 (by decide) (fun c_3 => ?_) (fun c_3 => ?_)
    · refine lv_iconst (v := 0) hx hb dX4_goesInto_23 (by decide) ?_
      have eo_4 : (X4_goesInto_r mv move) = 0 := by rw [X4_goesInto_r]; simp only [eq_false c_1, eq_true c_3, ↓reduceIte]
      exact W.zret (v := 0) (ty := .boolean) hx hb hr rfl (fun t ht _ => ⟨_, rfl, ⟨eo_4.symm, (by decide)⟩, ht⟩) (fun _ h => absurd h List.not_mem_nil) dX4_goesInto_24
    · refine lv_aload_n hx hb dX4_goesInto_10 rfl (lv_at hl 0 rfl) ?_
      refine va_get (D := (dC, dI)) (ci := 4) (v := .ref hi) (C := RX4) (T := TX4) (N := 8) hx hb hts inw_X4_goesInto_X4 hown hK hP 0 rfl rfl 7 (by decide) (hts (.fieldLink RX4 34 "DuelFrames$Move" "into" "[Z") (List.mem_of_getElem? (i := 1) rfl)) (fun _ h9 => h9) rfl dX4_goesInto_11 ?_
      refine lv_iload_n hx hb dX4_goesInto_14 rfl (lv_at hl 1 rfl) ?_
      refine va_zald hx hb hK hP 2 1 rfl rfl (vinr 6 rfl c_1 c_3) dX4_goesInto_15 ?_
      refine lv_topi (fun x_5 ex_5 => ?_)
      obtain rfl : x_5 = (mv (11 + move.toNatClampNeg)) := ex_5
      refine lv_if_eq (tgt := 23) hx hb dX4_goesInto_16 (by decide) (fun c_6 => ?_) (fun c_6 => ?_)
      · refine lv_iconst (v := 0) hx hb dX4_goesInto_23 (by decide) ?_
        have eo_7 : (X4_goesInto_r mv move) = 0 := by rw [X4_goesInto_r]; simp only [eq_false c_1, eq_false c_3, eq_true c_6, ↓reduceIte]
        exact W.zret (v := 0) (ty := .boolean) hx hb hr rfl (fun t ht _ => ⟨_, rfl, ⟨eo_7.symm, (by decide)⟩, ht⟩) (fun _ h => absurd h List.not_mem_nil) dX4_goesInto_24
      · refine lv_iconst (v := 1) hx hb dX4_goesInto_19 (by decide) ?_
        refine lv_goto (tgt := 24) hx hb dX4_goesInto_20 (by decide) ?_
        have eo_8 : (X4_goesInto_r mv move) = 1 := by rw [X4_goesInto_r]; simp only [eq_false c_1, eq_false c_3, eq_false c_6, ↓reduceIte]
        exact W.zret (v := 1) (ty := .boolean) hx hb hr rfl (fun t ht _ => ⟨_, rfl, ⟨eo_8.symm, (by decide)⟩, ht⟩) (fun _ h => absurd h List.not_mem_nil) dX4_goesInto_24
theorem inw_X4_frames_X4 : ∀ w ∈ u_ws RX4 TX4 8, w ∈ wsX4_frames := fun _ h => List.mem_cons_of_mem _ (List.mem_append_right _ h)
def X4_frames_r (mv : Nat → Int32) : Int32 := (((mv 0) + (mv 1)) + (mv 2))
set_option maxHeartbeats 4000000 in
set_option maxRecDepth 100000 in
theorem c_X4_frames (l : Launch) (dC : Nat → ClassId) (dI : Nat → Nat → Nat) (cY : Nat → ClassId) (h0 : Nat) (ht : Nat) (hi : Nat) (mv : Nat → Int32)  : Met l yX4_frames wsX4_frames ({ frames := 0, cells := 0, slots := 0, locals := 0 } : Room) (va_Pc [.ref h0] (rPre (dC, dI) (tyL cY) [(h0, .inr (4, [.int (mv 0), .int (mv 1), .int (mv 2), .int (mv 3), .int (mv 4), .int (mv 5), .ref ht, .ref hi])), (ht, .inl (cY 0, 5, .inl (fun k => mv (6 + k)))), (hi, .inl (cY 1, 6, .inl (fun k => mv (11 + k))))])) (vp_Si (fun r => r = (X4_frames_r mv))) 0 0 (fun _ => False) := by
  refine Met.ofW (cc := cX4_frames) (maxL := 1) (ret := (some .int)) (by decide) rfl ?_
  intro p e s m args below meth c s₁ B hml hv
  obtain ⟨rfl, hP, hK, hN⟩ := hv
  have hx := B.exec
  have hb := B.bytes
  have hr := B.returns
  have hts := atoms_spec (ws := wsX4_frames) B.pre
  have hown : s.vm.findClass RX4 = some m.cls := findClass_of_methodNamed B.named
  have hlocks := B.notSynchronized
  have hP : va_P (dC, dI) vwCl [(h0, .inr (4, [.int (mv 0), .int (mv 1), .int (mv 2), .int (mv 3), .int (mv 4), .int (mv 5), .ref ht, .ref hi])), (ht, .inl (cY 0, 5, .inl (fun k => mv (6 + k)))), (hi, .inl (cY 1, 6, .inl (fun k => mv (11 + k))))] s.heap := hP
  have hl := lv_entry ([.ref h0]) (n := 1) (Nat.le_of_ble_eq_true rfl)
  rw [lg_entry_eq]
  generalize (lg_sl ([.ref h0]) ++ List.replicate (1 - (lg_sl ([.ref h0])).length) Slot.unset).toArray = ls at hl ⊢
  have hl : lv_has ls 1 [(0, .ref h0)] := hl
  refine lv_aload_n hx hb dX4_frames_0 rfl (lv_at hl 0 rfl) ?_
  refine va_get (D := (dC, dI)) (ci := 4) (v := .int (mv 0)) (C := RX4) (T := TX4) (N := 8) hx hb hts inw_X4_frames_X4 hown hK hP 0 rfl rfl 0 (by decide) (hts (.fieldLink RX4 9 "DuelFrames$Move" "startup" "I") (List.mem_of_getElem? (i := 1) rfl)) (fun _ h9 => h9) rfl dX4_frames_1 ?_
  refine lv_aload_n hx hb dX4_frames_4 rfl (lv_at hl 0 rfl) ?_
  refine va_get (D := (dC, dI)) (ci := 4) (v := .int (mv 1)) (C := RX4) (T := TX4) (N := 8) hx hb hts inw_X4_frames_X4 hown hK hP 0 rfl rfl 1 (by decide) (hts (.fieldLink RX4 15 "DuelFrames$Move" "active" "I") (List.mem_of_getElem? (i := 2) rfl)) (fun _ h9 => h9) rfl dX4_frames_5 ?_
  refine lv_iadd hx hb dX4_frames_8 ?_
  refine lv_aload_n hx hb dX4_frames_9 rfl (lv_at hl 0 rfl) ?_
  refine va_get (D := (dC, dI)) (ci := 4) (v := .int (mv 2)) (C := RX4) (T := TX4) (N := 8) hx hb hts inw_X4_frames_X4 hown hK hP 0 rfl rfl 2 (by decide) (hts (.fieldLink RX4 18 "DuelFrames$Move" "recovery" "I") (List.mem_of_getElem? (i := 3) rfl)) (fun _ h9 => h9) rfl dX4_frames_10 ?_
  refine lv_iadd hx hb dX4_frames_13 ?_
  have eo_1 : (X4_frames_r mv) = (((mv 0) + (mv 1)) + (mv 2)) := by rw [X4_frames_r]
  exact W.iret (v := (((mv 0) + (mv 1)) + (mv 2))) hx hb hr (fun t ht _ => ⟨_, rfl, eo_1.symm, ht⟩) (fun _ h => absurd h List.not_mem_nil) dX4_frames_14
theorem inw_X4_isActiveIn_X4 : ∀ w ∈ u_ws RX4 TX4 8, w ∈ wsX4_isActiveIn := fun _ h => List.mem_cons_of_mem _ (List.mem_append_right _ h)
def X4_isActiveIn_r (mv : Nat → Int32) (frame : Int32) : Int32 := (if frame < (mv 0) then 0 else (if ((mv 0) + (mv 1)) ≤ frame then 0 else 1))
set_option maxHeartbeats 4000000 in
set_option maxRecDepth 100000 in
theorem c_X4_isActiveIn (l : Launch) (dC : Nat → ClassId) (dI : Nat → Nat → Nat) (cY : Nat → ClassId) (h0 : Nat) (ht : Nat) (hi : Nat) (mv : Nat → Int32) (frame : Int32)  : Met l yX4_isActiveIn wsX4_isActiveIn ({ frames := 0, cells := 0, slots := 0, locals := 0 } : Room) (va_Pc [.ref h0, .int frame] (rPre (dC, dI) (tyL cY) [(h0, .inr (4, [.int (mv 0), .int (mv 1), .int (mv 2), .int (mv 3), .int (mv 4), .int (mv 5), .ref ht, .ref hi])), (ht, .inl (cY 0, 5, .inl (fun k => mv (6 + k)))), (hi, .inl (cY 1, 6, .inl (fun k => mv (11 + k))))])) (vp_Si (fun r => r = (X4_isActiveIn_r mv frame) ∧ (r = 0 ∨ r = 1))) 0 0 (fun _ => False) := by
  refine Met.ofW (cc := cX4_isActiveIn) (maxL := 2) (ret := (some .boolean)) (by decide) rfl ?_
  intro p e s m args below meth c s₁ B hml hv
  obtain ⟨rfl, hP, hK, hN⟩ := hv
  have hx := B.exec
  have hb := B.bytes
  have hr := B.returns
  have hts := atoms_spec (ws := wsX4_isActiveIn) B.pre
  have hown : s.vm.findClass RX4 = some m.cls := findClass_of_methodNamed B.named
  have hlocks := B.notSynchronized
  have hP : va_P (dC, dI) vwCl [(h0, .inr (4, [.int (mv 0), .int (mv 1), .int (mv 2), .int (mv 3), .int (mv 4), .int (mv 5), .ref ht, .ref hi])), (ht, .inl (cY 0, 5, .inl (fun k => mv (6 + k)))), (hi, .inl (cY 1, 6, .inl (fun k => mv (11 + k))))] s.heap := hP
  have hl := lv_entry ([.ref h0, .int frame]) (n := 2) (Nat.le_of_ble_eq_true rfl)
  rw [lg_entry_eq]
  generalize (lg_sl ([.ref h0, .int frame]) ++ List.replicate (2 - (lg_sl ([.ref h0, .int frame])).length) Slot.unset).toArray = ls at hl ⊢
  have hl : lv_has ls 2 [(0, .ref h0), (1, .int frame)] := hl
  refine lv_iload_n hx hb dX4_isActiveIn_0 rfl (lv_at hl 1 rfl) ?_
  refine lv_aload_n hx hb dX4_isActiveIn_1 rfl (lv_at hl 0 rfl) ?_
  refine va_get (D := (dC, dI)) (ci := 4) (v := .int (mv 0)) (C := RX4) (T := TX4) (N := 8) hx hb hts inw_X4_isActiveIn_X4 hown hK hP 0 rfl rfl 0 (by decide) (hts (.fieldLink RX4 9 "DuelFrames$Move" "startup" "I") (List.mem_of_getElem? (i := 1) rfl)) (fun _ h9 => h9) rfl dX4_isActiveIn_2 ?_
  refine lv_icmp_lt (tgt := 25) hx hb dX4_isActiveIn_5 (by decide) (fun c_1 => ?_) (fun c_1 => ?_)
  · refine lv_iconst (v := 0) hx hb dX4_isActiveIn_25 (by decide) ?_
    have eo_2 : (X4_isActiveIn_r mv frame) = 0 := by rw [X4_isActiveIn_r]; simp only [eq_true c_1, ↓reduceIte]
    exact W.zret (v := 0) (ty := .boolean) hx hb hr rfl (fun t ht _ => ⟨_, rfl, ⟨eo_2.symm, (by decide)⟩, ht⟩) (fun _ h => absurd h List.not_mem_nil) dX4_isActiveIn_26
  · refine lv_iload_n hx hb dX4_isActiveIn_8 rfl (lv_at hl 1 rfl) ?_
    refine lv_aload_n hx hb dX4_isActiveIn_9 rfl (lv_at hl 0 rfl) ?_
    refine va_get (D := (dC, dI)) (ci := 4) (v := .int (mv 0)) (C := RX4) (T := TX4) (N := 8) hx hb hts inw_X4_isActiveIn_X4 hown hK hP 0 rfl rfl 0 (by decide) (hts (.fieldLink RX4 9 "DuelFrames$Move" "startup" "I") (List.mem_of_getElem? (i := 1) rfl)) (fun _ h9 => h9) rfl dX4_isActiveIn_10 ?_
    refine lv_aload_n hx hb dX4_isActiveIn_13 rfl (lv_at hl 0 rfl) ?_
    refine va_get (D := (dC, dI)) (ci := 4) (v := .int (mv 1)) (C := RX4) (T := TX4) (N := 8) hx hb hts inw_X4_isActiveIn_X4 hown hK hP 0 rfl rfl 1 (by decide) (hts (.fieldLink RX4 15 "DuelFrames$Move" "active" "I") (List.mem_of_getElem? (i := 2) rfl)) (fun _ h9 => h9) rfl dX4_isActiveIn_14 ?_
    refine lv_iadd hx hb dX4_isActiveIn_17 ?_
    refine lv_icmp_ge (tgt := 25) hx hb dX4_isActiveIn_18 (by decide) (fun c_3 => ?_) (fun c_3 => ?_)
    · refine lv_iconst (v := 0) hx hb dX4_isActiveIn_25 (by decide) ?_
      have eo_4 : (X4_isActiveIn_r mv frame) = 0 := by rw [X4_isActiveIn_r]; simp only [eq_false c_1, eq_true c_3, ↓reduceIte]
      exact W.zret (v := 0) (ty := .boolean) hx hb hr rfl (fun t ht _ => ⟨_, rfl, ⟨eo_4.symm, (by decide)⟩, ht⟩) (fun _ h => absurd h List.not_mem_nil) dX4_isActiveIn_26
    · refine lv_iconst (v := 1) hx hb dX4_isActiveIn_21 (by decide) ?_
      refine lv_goto (tgt := 26) hx hb dX4_isActiveIn_22 (by decide) ?_
      have eo_5 : (X4_isActiveIn_r mv frame) = 1 := by rw [X4_isActiveIn_r]; simp only [eq_false c_1, eq_false c_3, ↓reduceIte]
      exact W.zret (v := 1) (ty := .boolean) hx hb hr rfl (fun t ht _ => ⟨_, rfl, ⟨eo_5.symm, (by decide)⟩, ht⟩) (fun _ h => absurd h List.not_mem_nil) dX4_isActiveIn_26
theorem inw_X4_isBlockedWith_X4 : ∀ w ∈ u_ws RX4 TX4 8, w ∈ wsX4_isBlockedWith := fun _ h => List.mem_cons_of_mem _ (List.mem_append_right _ h)
def X4_isBlockedWith_j25 (mv : Nat → Int32) (input : Int32) : Int32 := (if input = 2 then (if (mv 4) = 0 then 1 else (if (mv 4) = 2 then 1 else 0)) else 0)
def X4_isBlockedWith_j52 (mv : Nat → Int32) (input : Int32) : Int32 := (if input = 4 then (if (mv 4) = 1 then 1 else (if (mv 4) = 2 then 1 else 0)) else 0)
def X4_isBlockedWith_r (mv : Nat → Int32) (input : Int32) : Int32 := (if (X4_isBlockedWith_j25 mv input) = 0 then (if (X4_isBlockedWith_j52 mv input) = 0 then 0 else 1) else 1)
set_option maxHeartbeats 4000000 in
set_option maxRecDepth 100000 in
theorem c_X4_isBlockedWith (l : Launch) (dC : Nat → ClassId) (dI : Nat → Nat → Nat) (cY : Nat → ClassId) (h0 : Nat) (ht : Nat) (hi : Nat) (mv : Nat → Int32) (input : Int32)  : Met l yX4_isBlockedWith wsX4_isBlockedWith ({ frames := 0, cells := 0, slots := 0, locals := 0 } : Room) (va_Pc [.ref h0, .int input] (rPre (dC, dI) (tyL cY) [(h0, .inr (4, [.int (mv 0), .int (mv 1), .int (mv 2), .int (mv 3), .int (mv 4), .int (mv 5), .ref ht, .ref hi])), (ht, .inl (cY 0, 5, .inl (fun k => mv (6 + k)))), (hi, .inl (cY 1, 6, .inl (fun k => mv (11 + k))))])) (vp_Si (fun r => r = (X4_isBlockedWith_r mv input) ∧ (r = 0 ∨ r = 1))) 0 0 (fun _ => False) := by
  refine Met.ofW (cc := cX4_isBlockedWith) (maxL := 4) (ret := (some .boolean)) (by decide) rfl ?_
  intro p e s m args below meth c s₁ B hml hv
  obtain ⟨rfl, hP, hK, hN⟩ := hv
  have hx := B.exec
  have hb := B.bytes
  have hr := B.returns
  have hts := atoms_spec (ws := wsX4_isBlockedWith) B.pre
  have hown : s.vm.findClass RX4 = some m.cls := findClass_of_methodNamed B.named
  have hlocks := B.notSynchronized
  have hP : va_P (dC, dI) vwCl [(h0, .inr (4, [.int (mv 0), .int (mv 1), .int (mv 2), .int (mv 3), .int (mv 4), .int (mv 5), .ref ht, .ref hi])), (ht, .inl (cY 0, 5, .inl (fun k => mv (6 + k)))), (hi, .inl (cY 1, 6, .inl (fun k => mv (11 + k))))] s.heap := hP
  have hl := lv_entry ([.ref h0, .int input]) (n := 4) (Nat.le_of_ble_eq_true rfl)
  rw [lg_entry_eq]
  generalize (lg_sl ([.ref h0, .int input]) ++ List.replicate (4 - (lg_sl ([.ref h0, .int input])).length) Slot.unset).toArray = ls at hl ⊢
  have hl : lv_has ls 4 [(0, .ref h0), (1, .int input)] := hl
  refine lv_iload_n hx hb dX4_isBlockedWith_0 rfl (lv_at hl 1 rfl) ?_
  refine lv_iconst (v := 2) hx hb dX4_isBlockedWith_1 (by decide) ?_
  refine jnR (lv := [(0, .ref h0), (1, .int input)]) (st := [.int (X4_isBlockedWith_j25 mv input)]) (J := 25) (n := 4) ?_ ?_
  · intro ls hl
    refine lv_istore_n (lv' := [(2, .int (X4_isBlockedWith_j25 mv input)), (0, .ref h0), (1, .int input)]) hx hb dX4_isBlockedWith_25 rfl hl (by decide) rfl (fun ls hl => ?_)
    refine lv_iload_n hx hb dX4_isBlockedWith_26 rfl (lv_at hl 2 rfl) ?_
    refine lv_iconst (v := 4) hx hb dX4_isBlockedWith_27 (by decide) ?_
    refine jnR (lv := [(2, .int (X4_isBlockedWith_j25 mv input))]) (st := [.int (X4_isBlockedWith_j52 mv input)]) (J := 52) (n := 4) ?_ ?_
    · intro ls hl
      refine lv_istore_n (lv' := [(3, .int (X4_isBlockedWith_j52 mv input)), (2, .int (X4_isBlockedWith_j25 mv input))]) hx hb dX4_isBlockedWith_52 rfl hl (by decide) rfl (fun ls hl => ?_)
      refine lv_iload_n hx hb dX4_isBlockedWith_53 rfl (lv_at hl 1 rfl) ?_
      refine lv_if_ne (tgt := 61) hx hb dX4_isBlockedWith_54 (by decide) (fun c_5 => ?_) (fun c_5 => ?_)
      · refine lv_iconst (v := 1) hx hb dX4_isBlockedWith_61 (by decide) ?_
        refine lv_goto (tgt := 66) hx hb dX4_isBlockedWith_62 (by decide) ?_
        have eo_6 : (X4_isBlockedWith_r mv input) = 1 := by rw [X4_isBlockedWith_r]; simp only [eq_false c_5, ↓reduceIte]
        exact W.zret (v := 1) (ty := .boolean) hx hb hr rfl (fun t ht _ => ⟨_, rfl, ⟨eo_6.symm, (by decide)⟩, ht⟩) (fun _ h => absurd h List.not_mem_nil) dX4_isBlockedWith_66
      · refine lv_iload_n hx hb dX4_isBlockedWith_57 rfl (lv_at hl 0 rfl) ?_
        refine lv_if_eq (tgt := 65) hx hb dX4_isBlockedWith_58 (by decide) (fun c_7 => ?_) (fun c_7 => ?_)
        · refine lv_iconst (v := 0) hx hb dX4_isBlockedWith_65 (by decide) ?_
          have eo_8 : (X4_isBlockedWith_r mv input) = 0 := by rw [X4_isBlockedWith_r]; simp only [eq_true c_5, eq_true c_7, ↓reduceIte]
          exact W.zret (v := 0) (ty := .boolean) hx hb hr rfl (fun t ht _ => ⟨_, rfl, ⟨eo_8.symm, (by decide)⟩, ht⟩) (fun _ h => absurd h List.not_mem_nil) dX4_isBlockedWith_66
        · refine lv_iconst (v := 1) hx hb dX4_isBlockedWith_61 (by decide) ?_
          refine lv_goto (tgt := 66) hx hb dX4_isBlockedWith_62 (by decide) ?_
          have eo_9 : (X4_isBlockedWith_r mv input) = 1 := by rw [X4_isBlockedWith_r]; simp only [eq_true c_5, eq_false c_7, ↓reduceIte]
          exact W.zret (v := 1) (ty := .boolean) hx hb hr rfl (fun t ht _ => ⟨_, rfl, ⟨eo_9.symm, (by decide)⟩, ht⟩) (fun _ h => absurd h List.not_mem_nil) dX4_isBlockedWith_66
    · intro jn_4
      refine lv_icmp_ne (tgt := 51) hx hb dX4_isBlockedWith_28 (by decide) (fun c_3 => ?_) (fun c_3 => ?_)
      · refine lv_iconst (v := 0) hx hb dX4_isBlockedWith_51 (by decide) ?_
        have e_10 : (X4_isBlockedWith_j52 mv input) = 0 := by rw [X4_isBlockedWith_j52]; simp only [eq_false c_3, ↓reduceIte]
        refine W.eq (g2 := F0 m 52 ls [.int (X4_isBlockedWith_j52 mv input)]) (by simp only [e_10]) ?_
        exact jn_4 _ (by (try simp only [e_10]); exact (lv_sub hl [0] rfl))
      · refine lv_aload_n hx hb dX4_isBlockedWith_31 rfl (lv_at hl 1 rfl) ?_
        refine va_get (D := (dC, dI)) (ci := 4) (v := .int (mv 4)) (C := RX4) (T := TX4) (N := 8) hx hb hts inw_X4_isBlockedWith_X4 hown hK hP 0 rfl rfl 4 (by decide) (hts (.fieldLink RX4 24 "DuelFrames$Move" "kind" "I") (List.mem_of_getElem? (i := 1) rfl)) (fun _ h9 => h9) rfl dX4_isBlockedWith_32 ?_
        refine lv_iconst (v := 1) hx hb dX4_isBlockedWith_35 (by decide) ?_
        refine lv_icmp_eq (tgt := 47) hx hb dX4_isBlockedWith_36 (by decide) (fun c_11 => ?_) (fun c_11 => ?_)
        · refine lv_iconst (v := 1) hx hb dX4_isBlockedWith_47 (by decide) ?_
          refine lv_goto (tgt := 52) hx hb dX4_isBlockedWith_48 (by decide) ?_
          have e_12 : (X4_isBlockedWith_j52 mv input) = 1 := by rw [X4_isBlockedWith_j52]; simp only [eq_true c_3, eq_true c_11, ↓reduceIte]
          refine W.eq (g2 := F0 m 52 ls [.int (X4_isBlockedWith_j52 mv input)]) (by simp only [e_12]) ?_
          exact jn_4 _ (by (try simp only [e_12]); exact (lv_sub hl [0] rfl))
        · refine lv_aload_n hx hb dX4_isBlockedWith_39 rfl (lv_at hl 1 rfl) ?_
          refine va_get (D := (dC, dI)) (ci := 4) (v := .int (mv 4)) (C := RX4) (T := TX4) (N := 8) hx hb hts inw_X4_isBlockedWith_X4 hown hK hP 0 rfl rfl 4 (by decide) (hts (.fieldLink RX4 24 "DuelFrames$Move" "kind" "I") (List.mem_of_getElem? (i := 1) rfl)) (fun _ h9 => h9) rfl dX4_isBlockedWith_40 ?_
          refine lv_iconst (v := 2) hx hb dX4_isBlockedWith_43 (by decide) ?_
          refine lv_icmp_ne (tgt := 51) hx hb dX4_isBlockedWith_44 (by decide) (fun c_13 => ?_) (fun c_13 => ?_)
          · refine lv_iconst (v := 0) hx hb dX4_isBlockedWith_51 (by decide) ?_
            have e_14 : (X4_isBlockedWith_j52 mv input) = 0 := by rw [X4_isBlockedWith_j52]; simp only [eq_true c_3, eq_false c_11, eq_false c_13, ↓reduceIte]
            refine W.eq (g2 := F0 m 52 ls [.int (X4_isBlockedWith_j52 mv input)]) (by simp only [e_14]) ?_
            exact jn_4 _ (by (try simp only [e_14]); exact (lv_sub hl [0] rfl))
          · refine lv_iconst (v := 1) hx hb dX4_isBlockedWith_47 (by decide) ?_
            refine lv_goto (tgt := 52) hx hb dX4_isBlockedWith_48 (by decide) ?_
            have e_15 : (X4_isBlockedWith_j52 mv input) = 1 := by rw [X4_isBlockedWith_j52]; simp only [eq_true c_3, eq_false c_11, eq_true c_13, ↓reduceIte]
            refine W.eq (g2 := F0 m 52 ls [.int (X4_isBlockedWith_j52 mv input)]) (by simp only [e_15]) ?_
            exact jn_4 _ (by (try simp only [e_15]); exact (lv_sub hl [0] rfl))
  · intro jn_2
    refine lv_icmp_ne (tgt := 24) hx hb dX4_isBlockedWith_2 (by decide) (fun c_1 => ?_) (fun c_1 => ?_)
    · refine lv_iconst (v := 0) hx hb dX4_isBlockedWith_24 (by decide) ?_
      have e_16 : (X4_isBlockedWith_j25 mv input) = 0 := by rw [X4_isBlockedWith_j25]; simp only [eq_false c_1, ↓reduceIte]
      refine W.eq (g2 := F0 m 25 ls [.int (X4_isBlockedWith_j25 mv input)]) (by simp only [e_16]) ?_
      exact jn_2 _ (by (try simp only [e_16]); exact (lv_sub hl [0, 1] rfl))
    · refine lv_aload_n hx hb dX4_isBlockedWith_5 rfl (lv_at hl 0 rfl) ?_
      refine va_get (D := (dC, dI)) (ci := 4) (v := .int (mv 4)) (C := RX4) (T := TX4) (N := 8) hx hb hts inw_X4_isBlockedWith_X4 hown hK hP 0 rfl rfl 4 (by decide) (hts (.fieldLink RX4 24 "DuelFrames$Move" "kind" "I") (List.mem_of_getElem? (i := 1) rfl)) (fun _ h9 => h9) rfl dX4_isBlockedWith_6 ?_
      refine lv_if_eq (tgt := 20) hx hb dX4_isBlockedWith_9 (by decide) (fun c_17 => ?_) (fun c_17 => ?_)
      · refine lv_iconst (v := 1) hx hb dX4_isBlockedWith_20 (by decide) ?_
        refine lv_goto (tgt := 25) hx hb dX4_isBlockedWith_21 (by decide) ?_
        have e_18 : (X4_isBlockedWith_j25 mv input) = 1 := by rw [X4_isBlockedWith_j25]; simp only [eq_true c_1, eq_true c_17, ↓reduceIte]
        refine W.eq (g2 := F0 m 25 ls [.int (X4_isBlockedWith_j25 mv input)]) (by simp only [e_18]) ?_
        exact jn_2 _ (by (try simp only [e_18]); exact (lv_sub hl [0, 1] rfl))
      · refine lv_aload_n hx hb dX4_isBlockedWith_12 rfl (lv_at hl 0 rfl) ?_
        refine va_get (D := (dC, dI)) (ci := 4) (v := .int (mv 4)) (C := RX4) (T := TX4) (N := 8) hx hb hts inw_X4_isBlockedWith_X4 hown hK hP 0 rfl rfl 4 (by decide) (hts (.fieldLink RX4 24 "DuelFrames$Move" "kind" "I") (List.mem_of_getElem? (i := 1) rfl)) (fun _ h9 => h9) rfl dX4_isBlockedWith_13 ?_
        refine lv_iconst (v := 2) hx hb dX4_isBlockedWith_16 (by decide) ?_
        refine lv_icmp_ne (tgt := 24) hx hb dX4_isBlockedWith_17 (by decide) (fun c_19 => ?_) (fun c_19 => ?_)
        · refine lv_iconst (v := 0) hx hb dX4_isBlockedWith_24 (by decide) ?_
          have e_20 : (X4_isBlockedWith_j25 mv input) = 0 := by rw [X4_isBlockedWith_j25]; simp only [eq_true c_1, eq_false c_17, eq_false c_19, ↓reduceIte]
          refine W.eq (g2 := F0 m 25 ls [.int (X4_isBlockedWith_j25 mv input)]) (by simp only [e_20]) ?_
          exact jn_2 _ (by (try simp only [e_20]); exact (lv_sub hl [0, 1] rfl))
        · refine lv_iconst (v := 1) hx hb dX4_isBlockedWith_20 (by decide) ?_
          refine lv_goto (tgt := 25) hx hb dX4_isBlockedWith_21 (by decide) ?_
          have e_21 : (X4_isBlockedWith_j25 mv input) = 1 := by rw [X4_isBlockedWith_j25]; simp only [eq_true c_1, eq_false c_17, eq_true c_19, ↓reduceIte]
          refine W.eq (g2 := F0 m 25 ls [.int (X4_isBlockedWith_j25 mv input)]) (by simp only [e_21]) ?_
          exact jn_2 _ (by (try simp only [e_21]); exact (lv_sub hl [0, 1] rfl))
theorem inw_X5_has_X5 : ∀ w ∈ u_ws RX5 TX5 3, w ∈ wsX5_has := fun _ h => List.mem_cons_of_mem _ (List.mem_append_right _ h)
def X5_has_r (cnt : Int32) (number : Int32) : Int32 := (if number < 0 then 0 else (if cnt ≤ number then 0 else 1))
set_option maxHeartbeats 4000000 in
set_option maxRecDepth 100000 in
theorem c_X5_has (l : Launch) (dC : Nat → ClassId) (dI : Nat → Nat → Nat) (cY : Nat → ClassId) (AD : Nat → Nat) (cnt : Int32) (number : Int32)  : Met l yX5_has wsX5_has ({ frames := 0, cells := 0, slots := 0, locals := 0 } : Room) (va_Pc [.ref (AD 0), .int number] (rPre (dC, dI) (tyL cY) [(AD 0, .inr (5, [.int cnt, .ref (AD 1), .ref (AD 8)]))])) (vp_Si (fun r => r = (X5_has_r cnt number) ∧ (r = 0 ∨ r = 1))) 0 0 (fun _ => False) := by
  refine Met.ofW (cc := cX5_has) (maxL := 2) (ret := (some .boolean)) (by decide) rfl ?_
  intro p e s m args below meth c s₁ B hml hv
  obtain ⟨rfl, hP, hK, hN⟩ := hv
  have hx := B.exec
  have hb := B.bytes
  have hr := B.returns
  have hts := atoms_spec (ws := wsX5_has) B.pre
  have hown : s.vm.findClass RX5 = some m.cls := findClass_of_methodNamed B.named
  have hlocks := B.notSynchronized
  have hP : va_P (dC, dI) vwCl [(AD 0, .inr (5, [.int cnt, .ref (AD 1), .ref (AD 8)]))] s.heap := hP
  have hl := lv_entry ([.ref (AD 0), .int number]) (n := 2) (Nat.le_of_ble_eq_true rfl)
  rw [lg_entry_eq]
  generalize (lg_sl ([.ref (AD 0), .int number]) ++ List.replicate (2 - (lg_sl ([.ref (AD 0), .int number])).length) Slot.unset).toArray = ls at hl ⊢
  have hl : lv_has ls 2 [(0, .ref (AD 0)), (1, .int number)] := hl
  refine lv_iload_n hx hb dX5_has_0 rfl (lv_at hl 1 rfl) ?_
  refine lv_if_lt (tgt := 16) hx hb dX5_has_1 (by decide) (fun c_1 => ?_) (fun c_1 => ?_)
  · refine lv_iconst (v := 0) hx hb dX5_has_16 (by decide) ?_
    have eo_2 : (X5_has_r cnt number) = 0 := by rw [X5_has_r]; simp only [eq_true c_1, ↓reduceIte]
    exact W.zret (v := 0) (ty := .boolean) hx hb hr rfl (fun t ht _ => ⟨_, rfl, ⟨eo_2.symm, (by decide)⟩, ht⟩) (fun _ h => absurd h List.not_mem_nil) dX5_has_17
  · refine lv_iload_n hx hb dX5_has_4 rfl (lv_at hl 1 rfl) ?_
    refine lv_aload_n hx hb dX5_has_5 rfl (lv_at hl 0 rfl) ?_
    refine va_get (D := (dC, dI)) (ci := 5) (v := .int cnt) (C := RX5) (T := TX5) (N := 3) hx hb hts inw_X5_has_X5 hown hK hP 0 rfl rfl 0 (by decide) (hts (.fieldLink RX5 9 "DuelFrames$MoveList" "count" "I") (List.mem_of_getElem? (i := 1) rfl)) (fun _ h9 => h9) rfl dX5_has_6 ?_
    refine lv_icmp_ge (tgt := 16) hx hb dX5_has_9 (by decide) (fun c_3 => ?_) (fun c_3 => ?_)
    · refine lv_iconst (v := 0) hx hb dX5_has_16 (by decide) ?_
      have eo_4 : (X5_has_r cnt number) = 0 := by rw [X5_has_r]; simp only [eq_false c_1, eq_true c_3, ↓reduceIte]
      exact W.zret (v := 0) (ty := .boolean) hx hb hr rfl (fun t ht _ => ⟨_, rfl, ⟨eo_4.symm, (by decide)⟩, ht⟩) (fun _ h => absurd h List.not_mem_nil) dX5_has_17
    · refine lv_iconst (v := 1) hx hb dX5_has_12 (by decide) ?_
      refine lv_goto (tgt := 17) hx hb dX5_has_13 (by decide) ?_
      have eo_5 : (X5_has_r cnt number) = 1 := by rw [X5_has_r]; simp only [eq_false c_1, eq_false c_3, ↓reduceIte]
      exact W.zret (v := 1) (ty := .boolean) hx hb hr rfl (fun t ht _ => ⟨_, rfl, ⟨eo_5.symm, (by decide)⟩, ht⟩) (fun _ h => absurd h List.not_mem_nil) dX5_has_17
theorem inw_X5_at_X5 : ∀ w ∈ u_ws RX5 TX5 3, w ∈ wsX5_at := fun _ h => List.mem_cons_of_mem _ (List.mem_append_right _ h)
set_option maxHeartbeats 4000000 in
set_option maxRecDepth 100000 in
theorem c_X5_at (l : Launch) (dC : Nat → ClassId) (dI : Nat → Nat → Nat) (cY : Nat → ClassId) (AD : Nat → Nat) (cnt : Int32) (number : Int32)  : Met l yX5_at wsX5_at ({ frames := 0, cells := 0, slots := 0, locals := 0 } : Room) (va_Pc [.ref (AD 0), .int number] (rPre (dC, dI) (tyL cY) [(AD 0, .inr (5, [.int cnt, .ref (AD 1), .ref (AD 8)])), (AD 1, .inl (cY 2, 6, .inr (.inr (.inr (.inr (fun j => some (AD (2 + j))))))))])) (va_Sr (fun k => k = AD (2 + mi number)) (fun k => .ref k)) 0 0 (fun _ => False) := by
  refine Met.ofW (cc := cX5_at) (maxL := 2) (ret := (some (.object "DuelFrames$Move"))) (by decide) rfl ?_
  intro p e s m args below meth c s₁ B hml hv
  obtain ⟨rfl, hP, hK, hN⟩ := hv
  have hx := B.exec
  have hb := B.bytes
  have hr := B.returns
  have hts := atoms_spec (ws := wsX5_at) B.pre
  have hown : s.vm.findClass RX5 = some m.cls := findClass_of_methodNamed B.named
  have hlocks := B.notSynchronized
  have hP : va_P (dC, dI) vwCl [(AD 0, .inr (5, [.int cnt, .ref (AD 1), .ref (AD 8)])), (AD 1, .inl (cY 2, 6, .inr (.inr (.inr (.inr (fun j => some (AD (2 + j))))))))] s.heap := hP
  have hl := lv_entry ([.ref (AD 0), .int number]) (n := 2) (Nat.le_of_ble_eq_true rfl)
  rw [lg_entry_eq]
  generalize (lg_sl ([.ref (AD 0), .int number]) ++ List.replicate (2 - (lg_sl ([.ref (AD 0), .int number])).length) Slot.unset).toArray = ls at hl ⊢
  have hl : lv_has ls 2 [(0, .ref (AD 0)), (1, .int number)] := hl
  refine lv_iload_n hx hb dX5_at_0 rfl (lv_at hl 1 rfl) ?_
  refine lv_if_lt (tgt := 19) hx hb dX5_at_1 (by decide) (fun c_1 => ?_) (fun c_1 => ?_)
  · refine lv_aload_n hx hb dX5_at_19 rfl (lv_at hl 0 rfl) ?_
    refine va_get (D := (dC, dI)) (ci := 5) (v := .ref (AD 8)) (C := RX5) (T := TX5) (N := 3) hx hb hts inw_X5_at_X5 hown hK hP 0 rfl rfl 2 (by decide) (hts (.fieldLink RX5 22 "DuelFrames$MoveList" "none" "LDuelFrames$Move;") (List.mem_of_getElem? (i := 2) rfl)) (fun _ h9 => h9) rfl dX5_at_20 ?_
    exact W.aret (rt := (.object "DuelFrames$Move")) hx hb hr (Or.inl ⟨_, rfl⟩) (Or.inr ⟨_, rfl⟩) (fun t ht _ => ⟨_, rfl, (congrArg (fun k => AD (2 + k)) (show mi number = 6 by rw [mi, if_pos c_1]).symm), ht⟩) (fun _ h => absurd h List.not_mem_nil) dX5_at_23
  · refine lv_iload_n hx hb dX5_at_4 rfl (lv_at hl 1 rfl) ?_
    refine lv_bipush (v := 6) hx hb dX5_at_5 (by decide) ?_
    refine lv_icmp_ge (tgt := 19) hx hb dX5_at_7 (by decide) (fun c_2 => ?_) (fun c_2 => ?_)
    · refine lv_aload_n hx hb dX5_at_19 rfl (lv_at hl 0 rfl) ?_
      refine va_get (D := (dC, dI)) (ci := 5) (v := .ref (AD 8)) (C := RX5) (T := TX5) (N := 3) hx hb hts inw_X5_at_X5 hown hK hP 0 rfl rfl 2 (by decide) (hts (.fieldLink RX5 22 "DuelFrames$MoveList" "none" "LDuelFrames$Move;") (List.mem_of_getElem? (i := 2) rfl)) (fun _ h9 => h9) rfl dX5_at_20 ?_
      exact W.aret (rt := (.object "DuelFrames$Move")) hx hb hr (Or.inl ⟨_, rfl⟩) (Or.inr ⟨_, rfl⟩) (fun t ht _ => ⟨_, rfl, (congrArg (fun k => AD (2 + k)) (show mi number = 6 by rw [mi, if_neg c_1, if_pos c_2]).symm), ht⟩) (fun _ h => absurd h List.not_mem_nil) dX5_at_23
    · refine lv_aload_n hx hb dX5_at_10 rfl (lv_at hl 0 rfl) ?_
      refine va_get (D := (dC, dI)) (ci := 5) (v := .ref (AD 1)) (C := RX5) (T := TX5) (N := 3) hx hb hts inw_X5_at_X5 hown hK hP 0 rfl rfl 1 (by decide) (hts (.fieldLink RX5 17 "DuelFrames$MoveList" "row" "[LDuelFrames$Move;") (List.mem_of_getElem? (i := 1) rfl)) (fun _ h9 => h9) rfl dX5_at_11 ?_
      refine lv_iload_n hx hb dX5_at_14 rfl (lv_at hl 1 rfl) ?_
      refine va_aldq hx hb hK hP 1 2 rfl rfl (vinr 6 rfl c_1 c_2) dX5_at_15 ?_
      refine W.eq (g2 := F0 m 16 ls [.ref (AD (2 + number.toNatClampNeg))]) rfl ?_
      refine lv_goto (tgt := 23) hx hb dX5_at_16 (by decide) ?_
      exact W.aret (rt := (.object "DuelFrames$Move")) hx hb hr (Or.inl ⟨_, rfl⟩) (Or.inr ⟨_, rfl⟩) (fun t ht _ => ⟨_, rfl, (congrArg (fun k => AD (2 + k)) (show mi number = number.toNatClampNeg by rw [mi, if_neg c_1, if_neg c_2]).symm), ht⟩) (fun _ h => absurd h List.not_mem_nil) dX5_at_23
