theorem inw_X2_leaveMove_X2 : ∀ w ∈ u_ws RX2 TX2 16, w ∈ wsX2_leaveMove := fun _ h => List.mem_cons_of_mem _ (List.mem_append_right _ h)
def X2_leaveMove_w0 (F : Nat → Int32) : Nat → Int32 := (upd (upd (upd F 5 (-1)) 6 0) 7 (-1))
set_option maxHeartbeats 4000000 in
set_option maxRecDepth 100000 in
theorem c_X2_leaveMove (l : Launch) (dC : Nat → ClassId) (dI : Nat → Nat → Nat) (cY : Nat → ClassId) (h0 : Nat) (F : Nat → Int32)  (sz : Nat) : Met l yX2_leaveMove wsX2_leaveMove ({ frames := 0, cells := 0, slots := 0, locals := 0 } : Room) (va_Pc [.ref h0] (wPre (dC, dI) (tyL cY) [(h0, .inr (2, figL F))] sz)) (va_Qv (fun _ : Unit => True) (wPost (dC, dI) [(h0, .inr (2, figL (X2_leaveMove_w0 F)))] (va_A [(h0, .inr (2, figL F))] sz)) (va_A [(h0, .inr (2, figL F))] sz)) 0 0 (va_A [(h0, .inr (2, figL F))] sz) := by
  refine Met.ofW (cc := cX2_leaveMove) (maxL := 1) (ret := none) (by decide) rfl ?_
  intro p e s m args below meth c s₁ B hml hv
  obtain ⟨rfl, hsz, hP, hK, hN, hD0⟩ := hv
  have hx := B.exec
  have hb := B.bytes
  have hr := B.returns
  have hts := atoms_spec (ws := wsX2_leaveMove) B.pre
  have hown : s.vm.findClass RX2 = some m.cls := findClass_of_methodNamed B.named
  have hlocks := B.notSynchronized
  subst hsz
  have hD := hD0.self (sz := s.heap.size)
  generalize hAe : va_A [(h0, .inr (2, figL F))] s.heap.size = A at hD ⊢
  have hA : ∀ q : Nat, s.heap.size ≤ q → A q := fun q h => by rw [← hAe]; exact Or.inr h
  have hS : va_S A s.heap s.heap [] := va_S.rf
  have hP : va_P (dC, dI) vwCl [(h0, .inr (2, figL F))] s.heap := hP
  have hl := lv_entry ([.ref h0]) (n := 1) (Nat.le_of_ble_eq_true rfl)
  rw [lg_entry_eq]
  generalize (lg_sl ([.ref h0]) ++ List.replicate (1 - (lg_sl ([.ref h0])).length) Slot.unset).toArray = ls at hl ⊢
  have hl : lv_has ls 1 [(0, .ref h0)] := hl
  refine lv_aload_n hx hb dX2_leaveMove_0 rfl (lv_at hl 0 rfl) ?_
  refine lv_iconst (v := (-1)) hx hb dX2_leaveMove_1 (by decide) ?_
  refine va_put (D := (dC, dI)) (ci := 2) (v := .int (-1)) (ty := .int) (C := RX2) (T := TX2) (N := 16) hx hb hts inw_X2_leaveMove_X2 tyX2 tyX2_ok nmX2 hown hK hP hD hS 0 rfl rfl 5 (by decide) (hts (.fieldLink RX2 27 "DuelFrames$Figure" "move" "I") (List.mem_of_getElem? (i := 1) rfl)) (fun _ h9 => h9) rfl (by decide +kernel) rfl rfl (Nat.le_of_ble_eq_true rfl) dX2_leaveMove_2 (fun H locs hP1 hD1 hS1 => ?_)
  clear hP hD hS
  have hP : va_P (dC, dI) vwCl [(h0, .inr (2, figL (upd F 5 (-1))))] H := hP1
  have hD : va_D A [(h0, .inr (2, figL (upd F 5 (-1))))] := hD1
  have hS := hS1
  clear hP1 hD1 hS1
  refine lv_aload_n hx hb dX2_leaveMove_5 rfl (lv_at hl 0 rfl) ?_
  refine lv_iconst (v := 0) hx hb dX2_leaveMove_6 (by decide) ?_
  refine va_put (D := (dC, dI)) (ci := 2) (v := .int 0) (ty := .int) (C := RX2) (T := TX2) (N := 16) hx hb hts inw_X2_leaveMove_X2 tyX2 tyX2_ok nmX2 hown hK hP hD hS 0 rfl rfl 6 (by decide) (hts (.fieldLink RX2 30 "DuelFrames$Figure" "frame" "I") (List.mem_of_getElem? (i := 2) rfl)) (fun _ h9 => h9) rfl (by decide +kernel) rfl rfl (Nat.le_of_ble_eq_true rfl) dX2_leaveMove_7 (fun H locs hP1 hD1 hS1 => ?_)
  clear hP hD hS
  have hP : va_P (dC, dI) vwCl [(h0, .inr (2, figL (upd (upd F 5 (-1)) 6 0)))] H := hP1
  have hD : va_D A [(h0, .inr (2, figL (upd (upd F 5 (-1)) 6 0)))] := hD1
  have hS := hS1
  clear hP1 hD1 hS1
  refine lv_aload_n hx hb dX2_leaveMove_10 rfl (lv_at hl 0 rfl) ?_
  refine lv_iconst (v := (-1)) hx hb dX2_leaveMove_11 (by decide) ?_
  refine va_put (D := (dC, dI)) (ci := 2) (v := .int (-1)) (ty := .int) (C := RX2) (T := TX2) (N := 16) hx hb hts inw_X2_leaveMove_X2 tyX2 tyX2_ok nmX2 hown hK hP hD hS 0 rfl rfl 7 (by decide) (hts (.fieldLink RX2 33 "DuelFrames$Figure" "touchedAgo" "I") (List.mem_of_getElem? (i := 3) rfl)) (fun _ h9 => h9) rfl (by decide +kernel) rfl rfl (Nat.le_of_ble_eq_true rfl) dX2_leaveMove_12 (fun H locs hP1 hD1 hS1 => ?_)
  clear hP hD hS
  have hP : va_P (dC, dI) vwCl [(h0, .inr (2, figL (upd (upd (upd F 5 (-1)) 6 0) 7 (-1))))] H := hP1
  have hD : va_D A [(h0, .inr (2, figL (upd (upd (upd F 5 (-1)) 6 0) 7 (-1))))] := hD1
  have hS := hS1
  clear hP1 hD1 hS1
  have eo_1 : (X2_leaveMove_w0 F) = (upd (upd (upd F 5 (-1)) 6 0) 7 (-1)) := by rw [X2_leaveMove_w0]
  have hP9 : va_P (dC, dI) vwCl [(h0, .inr (2, figL (X2_leaveMove_w0 F)))] H := by simp only [eo_1]; exact hP
  have hD9 : va_D A [(h0, .inr (2, figL (X2_leaveMove_w0 F)))] := by simp only [eo_1]; exact hD
  exact W.vret hx hb hr (fun t ht hW => ⟨⟨(), rfl, trivial, wPost_of hP9 hD9 ht⟩, hS.F ht⟩) hS.2.2 dX2_leaveMove_15
theorem inw_X2_drop_X2 : ∀ w ∈ u_ws RX2 TX2 16, w ∈ wsX2_drop := fun _ h => List.mem_cons_of_mem _ (List.mem_append_right _ h)
def X2_drop_w0 (F : Nat → Int32) : Nat → Int32 := (upd (upd F 9 (-1)) 10 0)
set_option maxHeartbeats 4000000 in
set_option maxRecDepth 100000 in
theorem c_X2_drop (l : Launch) (dC : Nat → ClassId) (dI : Nat → Nat → Nat) (cY : Nat → ClassId) (h0 : Nat) (F : Nat → Int32)  (sz : Nat) : Met l yX2_drop wsX2_drop ({ frames := 0, cells := 0, slots := 0, locals := 0 } : Room) (va_Pc [.ref h0] (wPre (dC, dI) (tyL cY) [(h0, .inr (2, figL F))] sz)) (va_Qv (fun _ : Unit => True) (wPost (dC, dI) [(h0, .inr (2, figL (X2_drop_w0 F)))] (va_A [(h0, .inr (2, figL F))] sz)) (va_A [(h0, .inr (2, figL F))] sz)) 0 0 (va_A [(h0, .inr (2, figL F))] sz) := by
  refine Met.ofW (cc := cX2_drop) (maxL := 1) (ret := none) (by decide) rfl ?_
  intro p e s m args below meth c s₁ B hml hv
  obtain ⟨rfl, hsz, hP, hK, hN, hD0⟩ := hv
  have hx := B.exec
  have hb := B.bytes
  have hr := B.returns
  have hts := atoms_spec (ws := wsX2_drop) B.pre
  have hown : s.vm.findClass RX2 = some m.cls := findClass_of_methodNamed B.named
  have hlocks := B.notSynchronized
  subst hsz
  have hD := hD0.self (sz := s.heap.size)
  generalize hAe : va_A [(h0, .inr (2, figL F))] s.heap.size = A at hD ⊢
  have hA : ∀ q : Nat, s.heap.size ≤ q → A q := fun q h => by rw [← hAe]; exact Or.inr h
  have hS : va_S A s.heap s.heap [] := va_S.rf
  have hP : va_P (dC, dI) vwCl [(h0, .inr (2, figL F))] s.heap := hP
  have hl := lv_entry ([.ref h0]) (n := 1) (Nat.le_of_ble_eq_true rfl)
  rw [lg_entry_eq]
  generalize (lg_sl ([.ref h0]) ++ List.replicate (1 - (lg_sl ([.ref h0])).length) Slot.unset).toArray = ls at hl ⊢
  have hl : lv_has ls 1 [(0, .ref h0)] := hl
  refine lv_aload_n hx hb dX2_drop_0 rfl (lv_at hl 0 rfl) ?_
  refine lv_iconst (v := (-1)) hx hb dX2_drop_1 (by decide) ?_
  refine va_put (D := (dC, dI)) (ci := 2) (v := .int (-1)) (ty := .int) (C := RX2) (T := TX2) (N := 16) hx hb hts inw_X2_drop_X2 tyX2 tyX2_ok nmX2 hown hK hP hD hS 0 rfl rfl 9 (by decide) (hts (.fieldLink RX2 39 "DuelFrames$Figure" "kept" "I") (List.mem_of_getElem? (i := 1) rfl)) (fun _ h9 => h9) rfl (by decide +kernel) rfl rfl (Nat.le_of_ble_eq_true rfl) dX2_drop_2 (fun H locs hP1 hD1 hS1 => ?_)
  clear hP hD hS
  have hP : va_P (dC, dI) vwCl [(h0, .inr (2, figL (upd F 9 (-1))))] H := hP1
  have hD : va_D A [(h0, .inr (2, figL (upd F 9 (-1))))] := hD1
  have hS := hS1
  clear hP1 hD1 hS1
  refine lv_aload_n hx hb dX2_drop_5 rfl (lv_at hl 0 rfl) ?_
  refine lv_iconst (v := 0) hx hb dX2_drop_6 (by decide) ?_
  refine va_put (D := (dC, dI)) (ci := 2) (v := .int 0) (ty := .int) (C := RX2) (T := TX2) (N := 16) hx hb hts inw_X2_drop_X2 tyX2 tyX2_ok nmX2 hown hK hP hD hS 0 rfl rfl 10 (by decide) (hts (.fieldLink RX2 42 "DuelFrames$Figure" "keptFor" "I") (List.mem_of_getElem? (i := 2) rfl)) (fun _ h9 => h9) rfl (by decide +kernel) rfl rfl (Nat.le_of_ble_eq_true rfl) dX2_drop_7 (fun H locs hP1 hD1 hS1 => ?_)
  clear hP hD hS
  have hP : va_P (dC, dI) vwCl [(h0, .inr (2, figL (upd (upd F 9 (-1)) 10 0)))] H := hP1
  have hD : va_D A [(h0, .inr (2, figL (upd (upd F 9 (-1)) 10 0)))] := hD1
  have hS := hS1
  clear hP1 hD1 hS1
  have eo_1 : (X2_drop_w0 F) = (upd (upd F 9 (-1)) 10 0) := by rw [X2_drop_w0]
  have hP9 : va_P (dC, dI) vwCl [(h0, .inr (2, figL (X2_drop_w0 F)))] H := by simp only [eo_1]; exact hP
  have hD9 : va_D A [(h0, .inr (2, figL (X2_drop_w0 F)))] := by simp only [eo_1]; exact hD
  exact W.vret hx hb hr (fun t ht hW => ⟨⟨(), rfl, trivial, wPost_of hP9 hD9 ht⟩, hS.F ht⟩) hS.2.2 dX2_drop_10
theorem inw_X2_stand_X2 : ∀ w ∈ u_ws RX2 TX2 16, w ∈ wsX2_stand := fun _ h => List.mem_cons_of_mem _ (List.mem_append_right _ h)
def X2_stand_w0 (F : Nat → Int32) : Nat → Int32 := (X2_leaveMove_w0 (upd (upd F 3 0) 8 0))
set_option maxHeartbeats 4000000 in
set_option maxRecDepth 100000 in
theorem c_X2_stand (l : Launch) (dC : Nat → ClassId) (dI : Nat → Nat → Nat) (cY : Nat → ClassId) (h0 : Nat) (F : Nat → Int32)  (sz : Nat) : Met l yX2_stand wsX2_stand ({ frames := 1, cells := 0, slots := 0, locals := 20 } : Room) (va_Pc [.ref h0] (wPre (dC, dI) (tyL cY) [(h0, .inr (2, figL F))] sz)) (va_Qv (fun _ : Unit => True) (wPost (dC, dI) [(h0, .inr (2, figL (X2_stand_w0 F)))] (va_A [(h0, .inr (2, figL F))] sz)) (va_A [(h0, .inr (2, figL F))] sz)) 0 0 (va_A [(h0, .inr (2, figL F))] sz) := by
  refine Met.ofW (cc := cX2_stand) (maxL := 1) (ret := none) (by decide) rfl ?_
  intro p e s m args below meth c s₁ B hml hv
  obtain ⟨rfl, hsz, hP, hK, hN, hD0⟩ := hv
  have hx := B.exec
  have hb := B.bytes
  have hr := B.returns
  have hts := atoms_spec (ws := wsX2_stand) B.pre
  have hown : s.vm.findClass RX2 = some m.cls := findClass_of_methodNamed B.named
  have hlocks := B.notSynchronized
  subst hsz
  have hD := hD0.self (sz := s.heap.size)
  generalize hAe : va_A [(h0, .inr (2, figL F))] s.heap.size = A at hD ⊢
  have hA : ∀ q : Nat, s.heap.size ≤ q → A q := fun q h => by rw [← hAe]; exact Or.inr h
  have hS : va_S A s.heap s.heap [] := va_S.rf
  have hP : va_P (dC, dI) vwCl [(h0, .inr (2, figL F))] s.heap := hP
  have hl := lv_entry ([.ref h0]) (n := 1) (Nat.le_of_ble_eq_true rfl)
  rw [lg_entry_eq]
  generalize (lg_sl ([.ref h0]) ++ List.replicate (1 - (lg_sl ([.ref h0])).length) Slot.unset).toArray = ls at hl ⊢
  have hl : lv_has ls 1 [(0, .ref h0)] := hl
  refine lv_aload_n hx hb dX2_stand_0 rfl (lv_at hl 0 rfl) ?_
  refine lv_iconst (v := 0) hx hb dX2_stand_1 (by decide) ?_
  refine va_put (D := (dC, dI)) (ci := 2) (v := .int 0) (ty := .int) (C := RX2) (T := TX2) (N := 16) hx hb hts inw_X2_stand_X2 tyX2 tyX2_ok nmX2 hown hK hP hD hS 0 rfl rfl 3 (by decide) (hts (.fieldLink RX2 21 "DuelFrames$Figure" "does" "I") (List.mem_of_getElem? (i := 1) rfl)) (fun _ h9 => h9) rfl (by decide +kernel) rfl rfl (Nat.le_of_ble_eq_true rfl) dX2_stand_2 (fun H locs hP1 hD1 hS1 => ?_)
  clear hP hD hS
  have hP : va_P (dC, dI) vwCl [(h0, .inr (2, figL (upd F 3 0)))] H := hP1
  have hD : va_D A [(h0, .inr (2, figL (upd F 3 0)))] := hD1
  have hS := hS1
  clear hP1 hD1 hS1
  refine lv_aload_n hx hb dX2_stand_5 rfl (lv_at hl 0 rfl) ?_
  refine lv_iconst (v := 0) hx hb dX2_stand_6 (by decide) ?_
  refine va_put (D := (dC, dI)) (ci := 2) (v := .int 0) (ty := .int) (C := RX2) (T := TX2) (N := 16) hx hb hts inw_X2_stand_X2 tyX2 tyX2_ok nmX2 hown hK hP hD hS 0 rfl rfl 8 (by decide) (hts (.fieldLink RX2 36 "DuelFrames$Figure" "stun" "I") (List.mem_of_getElem? (i := 2) rfl)) (fun _ h9 => h9) rfl (by decide +kernel) rfl rfl (Nat.le_of_ble_eq_true rfl) dX2_stand_7 (fun H locs hP1 hD1 hS1 => ?_)
  clear hP hD hS
  have hP : va_P (dC, dI) vwCl [(h0, .inr (2, figL (upd (upd F 3 0) 8 0)))] H := hP1
  have hD : va_D A [(h0, .inr (2, figL (upd (upd F 3 0) 8 0)))] := hD1
  have hS := hS1
  clear hP1 hD1 hS1
  refine lv_aload_n hx hb dX2_stand_10 rfl (lv_at hl 0 rfl) ?_
  have hPc := hP.sub (ws' := [(h0, .inr (2, figL (upd (upd F 3 0) 8 0)))]) [0] rfl
  have hDc := hD.sub (ws' := [(h0, .inr (2, figL (upd (upd F 3 0) 8 0)))]) [0] (by decide) rfl
  have hFc := va_free (wc := [(h0, .inr (2, figL (upd (upd F 3 0) 8 0)))]) hD hS hA [0] rfl
  refine va_callv (va_runV (As := []) (rest := []) ⟨hx, hb, hml, hown, hts⟩ (c_X2_leaveMove l dC dI cY h0 (upd (upd F 3 0) 8 0) H.size) (cwV 0 hts gX2_stand_X2_leaveMove rfl rfl rfl (by decide +kernel) ⟨Nat.le_of_ble_eq_true rfl, Nat.le_of_ble_eq_true rfl⟩) ⟨blindW, va_recv hK hPc (ci := 2) (q0 := 0) rfl rfl, fun U hU hW => ⟨rfl, wPre_of hPc hK hN hDc U hU hW⟩⟩ rfl rfl hl.1 rfl (lv_room (Nat.le_of_ble_eq_true rfl)) dX2_stand_11 ⟨Nat.zero_le _, Nat.zero_le _⟩) hS (fun q _ h => hFc q h) hFc (fun u t H1 locs ht hvm hw hB hz1 hk1 hS1 => ?_)
  have hJ := wJoin (wr := []) (w1 := [(h0, .inr (2, figL (X2_leaveMove_w0 (upd (upd F 3 0) 8 0))))]) (wn := [(h0, .inr (2, figL (X2_leaveMove_w0 (upd (upd F 3 0) 8 0))))]) hP hD [0] [] rfl rfl (by decide) (by decide) hk1 hFc hB ht [0] rfl (by decide)
  clear hB hk1 hFc hPc hDc hP hD hS hz1 hvm ht t
  obtain ⟨hP1, hD1⟩ := hJ
  generalize H1 = H at hP1 hS1 ⊢
  have hP : va_P (dC, dI) vwCl [(h0, .inr (2, figL (X2_leaveMove_w0 (upd (upd F 3 0) 8 0))))] H := hP1
  have hD : va_D A [(h0, .inr (2, figL (X2_leaveMove_w0 (upd (upd F 3 0) 8 0))))] := hD1
  have hS := hS1
  clear hP1 hD1 hS1
  obtain ⟨z_2, ez_2⟩ : ∃ z, z = (X2_leaveMove_w0 (upd (upd F 3 0) 8 0)) := ⟨_, rfl⟩
  rw [← ez_2] at hP hD
  have eo_3 : (X2_stand_w0 F) = z_2 := by rw [X2_stand_w0]; (try simp only [← ez_2])
  have hP9 : va_P (dC, dI) vwCl [(h0, .inr (2, figL (X2_stand_w0 F)))] H := by simp only [eo_3]; exact hP
  have hD9 : va_D A [(h0, .inr (2, figL (X2_stand_w0 F)))] := by simp only [eo_3]; exact hD
  exact W.vret hx hb hr (fun t ht hW => ⟨⟨(), rfl, trivial, wPost_of hP9 hD9 ht⟩, hS.F ht⟩) hS.2.2 dX2_stand_14
theorem inw_X2_prepare_X2 : ∀ w ∈ u_ws RX2 TX2 16, w ∈ wsX2_prepare := fun _ h => List.mem_cons_of_mem _ (List.mem_append_right _ h)
def X2_prepare_w0 (F : Nat → Int32) (meter : Int32) (place : Int32) : Nat → Int32 := (X2_drop_w0 (X2_stand_w0 (upd (upd (upd (upd F 0 place) 2 meter) 1 1000) 4 0)))
set_option maxHeartbeats 4000000 in
set_option maxRecDepth 100000 in
theorem c_X2_prepare (l : Launch) (dC : Nat → ClassId) (dI : Nat → Nat → Nat) (cY : Nat → ClassId) (h0 : Nat) (F : Nat → Int32) (place : Int32) (meter : Int32)  (sz : Nat) : Met l yX2_prepare wsX2_prepare ({ frames := 2, cells := 0, slots := 0, locals := 40 } : Room) (va_Pc [.ref h0, .int place, .int meter] (wPre (dC, dI) (tyL cY) [(h0, .inr (2, figL F))] sz)) (va_Qv (fun _ : Unit => True) (wPost (dC, dI) [(h0, .inr (2, figL (X2_prepare_w0 F meter place)))] (va_A [(h0, .inr (2, figL F))] sz)) (va_A [(h0, .inr (2, figL F))] sz)) 0 0 (va_A [(h0, .inr (2, figL F))] sz) := by
  refine Met.ofW (cc := cX2_prepare) (maxL := 3) (ret := none) (by decide) rfl ?_
  intro p e s m args below meth c s₁ B hml hv
  obtain ⟨rfl, hsz, hP, hK, hN, hD0⟩ := hv
  have hx := B.exec
  have hb := B.bytes
  have hr := B.returns
  have hts := atoms_spec (ws := wsX2_prepare) B.pre
  have hown : s.vm.findClass RX2 = some m.cls := findClass_of_methodNamed B.named
  have hlocks := B.notSynchronized
  subst hsz
  have hD := hD0.self (sz := s.heap.size)
  generalize hAe : va_A [(h0, .inr (2, figL F))] s.heap.size = A at hD ⊢
  have hA : ∀ q : Nat, s.heap.size ≤ q → A q := fun q h => by rw [← hAe]; exact Or.inr h
  have hS : va_S A s.heap s.heap [] := va_S.rf
  have hP : va_P (dC, dI) vwCl [(h0, .inr (2, figL F))] s.heap := hP
  have hl := lv_entry ([.ref h0, .int place, .int meter]) (n := 3) (Nat.le_of_ble_eq_true rfl)
  rw [lg_entry_eq]
  generalize (lg_sl ([.ref h0, .int place, .int meter]) ++ List.replicate (3 - (lg_sl ([.ref h0, .int place, .int meter])).length) Slot.unset).toArray = ls at hl ⊢
  have hl : lv_has ls 3 [(0, .ref h0), (1, .int place), (2, .int meter)] := hl
  refine lv_aload_n hx hb dX2_prepare_0 rfl (lv_at hl 0 rfl) ?_
  refine lv_iload_n hx hb dX2_prepare_1 rfl (lv_at hl 1 rfl) ?_
  refine va_put (D := (dC, dI)) (ci := 2) (v := .int place) (ty := .int) (C := RX2) (T := TX2) (N := 16) hx hb hts inw_X2_prepare_X2 tyX2 tyX2_ok nmX2 hown hK hP hD hS 0 rfl rfl 0 (by decide) (hts (.fieldLink RX2 9 "DuelFrames$Figure" "place" "I") (List.mem_of_getElem? (i := 1) rfl)) (fun _ h9 => h9) rfl (by decide +kernel) rfl rfl (Nat.le_of_ble_eq_true rfl) dX2_prepare_2 (fun H locs hP1 hD1 hS1 => ?_)
  clear hP hD hS
  have hP : va_P (dC, dI) vwCl [(h0, .inr (2, figL (upd F 0 place)))] H := hP1
  have hD : va_D A [(h0, .inr (2, figL (upd F 0 place)))] := hD1
  have hS := hS1
  clear hP1 hD1 hS1
  refine lv_aload_n hx hb dX2_prepare_5 rfl (lv_at hl 0 rfl) ?_
  refine lv_iload_n hx hb dX2_prepare_6 rfl (lv_at hl 2 rfl) ?_
  refine va_put (D := (dC, dI)) (ci := 2) (v := .int meter) (ty := .int) (C := RX2) (T := TX2) (N := 16) hx hb hts inw_X2_prepare_X2 tyX2 tyX2_ok nmX2 hown hK hP hD hS 0 rfl rfl 2 (by decide) (hts (.fieldLink RX2 18 "DuelFrames$Figure" "meter" "I") (List.mem_of_getElem? (i := 2) rfl)) (fun _ h9 => h9) rfl (by decide +kernel) rfl rfl (Nat.le_of_ble_eq_true rfl) dX2_prepare_7 (fun H locs hP1 hD1 hS1 => ?_)
  clear hP hD hS
  have hP : va_P (dC, dI) vwCl [(h0, .inr (2, figL (upd (upd F 0 place) 2 meter)))] H := hP1
  have hD : va_D A [(h0, .inr (2, figL (upd (upd F 0 place) 2 meter)))] := hD1
  have hS := hS1
  clear hP1 hD1 hS1
  refine lv_aload_n hx hb dX2_prepare_10 rfl (lv_at hl 0 rfl) ?_
  refine lv_sipush (v := 1000) hx hb dX2_prepare_11 (by decide) ?_
  refine va_put (D := (dC, dI)) (ci := 2) (v := .int 1000) (ty := .int) (C := RX2) (T := TX2) (N := 16) hx hb hts inw_X2_prepare_X2 tyX2 tyX2_ok nmX2 hown hK hP hD hS 0 rfl rfl 1 (by decide) (hts (.fieldLink RX2 15 "DuelFrames$Figure" "life" "I") (List.mem_of_getElem? (i := 3) rfl)) (fun _ h9 => h9) rfl (by decide +kernel) rfl rfl (Nat.le_of_ble_eq_true rfl) dX2_prepare_14 (fun H locs hP1 hD1 hS1 => ?_)
  clear hP hD hS
  have hP : va_P (dC, dI) vwCl [(h0, .inr (2, figL (upd (upd (upd F 0 place) 2 meter) 1 1000)))] H := hP1
  have hD : va_D A [(h0, .inr (2, figL (upd (upd (upd F 0 place) 2 meter) 1 1000)))] := hD1
  have hS := hS1
  clear hP1 hD1 hS1
  refine lv_aload_n hx hb dX2_prepare_17 rfl (lv_at hl 0 rfl) ?_
  refine lv_iconst (v := 0) hx hb dX2_prepare_18 (by decide) ?_
  refine va_put (D := (dC, dI)) (ci := 2) (v := .int 0) (ty := .int) (C := RX2) (T := TX2) (N := 16) hx hb hts inw_X2_prepare_X2 tyX2 tyX2_ok nmX2 hown hK hP hD hS 0 rfl rfl 4 (by decide) (hts (.fieldLink RX2 24 "DuelFrames$Figure" "count" "I") (List.mem_of_getElem? (i := 4) rfl)) (fun _ h9 => h9) rfl (by decide +kernel) rfl rfl (Nat.le_of_ble_eq_true rfl) dX2_prepare_19 (fun H locs hP1 hD1 hS1 => ?_)
  clear hP hD hS
  have hP : va_P (dC, dI) vwCl [(h0, .inr (2, figL (upd (upd (upd (upd F 0 place) 2 meter) 1 1000) 4 0)))] H := hP1
  have hD : va_D A [(h0, .inr (2, figL (upd (upd (upd (upd F 0 place) 2 meter) 1 1000) 4 0)))] := hD1
  have hS := hS1
  clear hP1 hD1 hS1
  refine lv_aload_n hx hb dX2_prepare_22 rfl (lv_at hl 0 rfl) ?_
  have hPc := hP.sub (ws' := [(h0, .inr (2, figL (upd (upd (upd (upd F 0 place) 2 meter) 1 1000) 4 0)))]) [0] rfl
  have hDc := hD.sub (ws' := [(h0, .inr (2, figL (upd (upd (upd (upd F 0 place) 2 meter) 1 1000) 4 0)))]) [0] (by decide) rfl
  have hFc := va_free (wc := [(h0, .inr (2, figL (upd (upd (upd (upd F 0 place) 2 meter) 1 1000) 4 0)))]) hD hS hA [0] rfl
  refine va_callv (va_runV (As := []) (rest := []) ⟨hx, hb, hml, hown, hts⟩ (c_X2_stand l dC dI cY h0 (upd (upd (upd (upd F 0 place) 2 meter) 1 1000) 4 0) H.size) (cwV 0 hts gX2_prepare_X2_stand rfl rfl rfl (by decide +kernel) ⟨Nat.le_of_ble_eq_true rfl, Nat.le_of_ble_eq_true rfl⟩) ⟨blindW, va_recv hK hPc (ci := 2) (q0 := 0) rfl rfl, fun U hU hW => ⟨rfl, wPre_of hPc hK hN hDc U hU hW⟩⟩ rfl rfl hl.1 rfl (lv_room (Nat.le_of_ble_eq_true rfl)) dX2_prepare_23 ⟨Nat.zero_le _, Nat.zero_le _⟩) hS (fun q _ h => hFc q h) hFc (fun u t H1 locs ht hvm hw hB hz1 hk1 hS1 => ?_)
  have hJ := wJoin (wr := []) (w1 := [(h0, .inr (2, figL (X2_stand_w0 (upd (upd (upd (upd F 0 place) 2 meter) 1 1000) 4 0))))]) (wn := [(h0, .inr (2, figL (X2_stand_w0 (upd (upd (upd (upd F 0 place) 2 meter) 1 1000) 4 0))))]) hP hD [0] [] rfl rfl (by decide) (by decide) hk1 hFc hB ht [0] rfl (by decide)
  clear hB hk1 hFc hPc hDc hP hD hS hz1 hvm ht t
  obtain ⟨hP1, hD1⟩ := hJ
  generalize H1 = H at hP1 hS1 ⊢
  have hP : va_P (dC, dI) vwCl [(h0, .inr (2, figL (X2_stand_w0 (upd (upd (upd (upd F 0 place) 2 meter) 1 1000) 4 0))))] H := hP1
  have hD : va_D A [(h0, .inr (2, figL (X2_stand_w0 (upd (upd (upd (upd F 0 place) 2 meter) 1 1000) 4 0))))] := hD1
  have hS := hS1
  clear hP1 hD1 hS1
  obtain ⟨z_2, ez_2⟩ : ∃ z, z = (X2_stand_w0 (upd (upd (upd (upd F 0 place) 2 meter) 1 1000) 4 0)) := ⟨_, rfl⟩
  rw [← ez_2] at hP hD
  refine lv_aload_n hx hb dX2_prepare_26 rfl (lv_at hl 0 rfl) ?_
  have hPc := hP.sub (ws' := [(h0, .inr (2, figL z_2))]) [0] rfl
  have hDc := hD.sub (ws' := [(h0, .inr (2, figL z_2))]) [0] (by decide) rfl
  have hFc := va_free (wc := [(h0, .inr (2, figL z_2))]) hD hS hA [0] rfl
  refine va_callv (va_runV (As := []) (rest := []) ⟨hx, hb, hml, hown, hts⟩ (c_X2_drop l dC dI cY h0 z_2 H.size) (cwV 0 hts gX2_prepare_X2_drop rfl rfl rfl (by decide +kernel) ⟨Nat.le_of_ble_eq_true rfl, Nat.le_of_ble_eq_true rfl⟩) ⟨blindW, va_recv hK hPc (ci := 2) (q0 := 0) rfl rfl, fun U hU hW => ⟨rfl, wPre_of hPc hK hN hDc U hU hW⟩⟩ rfl rfl hl.1 rfl (lv_room (Nat.le_of_ble_eq_true rfl)) dX2_prepare_27 ⟨Nat.zero_le _, Nat.zero_le _⟩) hS (fun q _ h => hFc q h) hFc (fun u t H1 locs ht hvm hw hB hz1 hk1 hS1 => ?_)
  have hJ := wJoin (wr := []) (w1 := [(h0, .inr (2, figL (X2_drop_w0 z_2)))]) (wn := [(h0, .inr (2, figL (X2_drop_w0 z_2)))]) hP hD [0] [] rfl rfl (by decide) (by decide) hk1 hFc hB ht [0] rfl (by decide)
  clear hB hk1 hFc hPc hDc hP hD hS hz1 hvm ht t
  obtain ⟨hP1, hD1⟩ := hJ
  generalize H1 = H at hP1 hS1 ⊢
  have hP : va_P (dC, dI) vwCl [(h0, .inr (2, figL (X2_drop_w0 z_2)))] H := hP1
  have hD : va_D A [(h0, .inr (2, figL (X2_drop_w0 z_2)))] := hD1
  have hS := hS1
  clear hP1 hD1 hS1
  obtain ⟨z_4, ez_4⟩ : ∃ z, z = (X2_drop_w0 z_2) := ⟨_, rfl⟩
  rw [← ez_4] at hP hD
  have eo_5 : (X2_prepare_w0 F meter place) = z_4 := by rw [X2_prepare_w0]; (try simp only [← ez_2, ← ez_4])
  have hP9 : va_P (dC, dI) vwCl [(h0, .inr (2, figL (X2_prepare_w0 F meter place)))] H := by simp only [eo_5]; exact hP
  have hD9 : va_D A [(h0, .inr (2, figL (X2_prepare_w0 F meter place)))] := by simp only [eo_5]; exact hD
  exact W.vret hx hb hr (fun t ht hW => ⟨⟨(), rfl, trivial, wPost_of hP9 hD9 ht⟩, hS.F ht⟩) hS.2.2 dX2_prepare_30
theorem inw_X2_take_X2 : ∀ w ∈ u_ws RX2 TX2 16, w ∈ wsX2_take := fun _ h => List.mem_cons_of_mem _ (List.mem_append_right _ h)
def X2_take_w0 (F : Nat → Int32) (given : Int32) : Nat → Int32 := (if given < 10 then (upd (upd F 11 given) 12 0) else (upd (upd (upd (upd F 11 given) 12 0) 9 (given - 10)) 10 5))
set_option maxHeartbeats 4000000 in
set_option maxRecDepth 100000 in
theorem c_X2_take (l : Launch) (dC : Nat → ClassId) (dI : Nat → Nat → Nat) (cY : Nat → ClassId) (h0 : Nat) (F : Nat → Int32) (given : Int32)  (sz : Nat) : Met l yX2_take wsX2_take ({ frames := 0, cells := 0, slots := 0, locals := 0 } : Room) (va_Pc [.ref h0, .int given] (wPre (dC, dI) (tyL cY) [(h0, .inr (2, figL F))] sz)) (va_Qv (fun _ : Unit => True) (wPost (dC, dI) [(h0, .inr (2, figL (X2_take_w0 F given)))] (va_A [(h0, .inr (2, figL F))] sz)) (va_A [(h0, .inr (2, figL F))] sz)) 0 0 (va_A [(h0, .inr (2, figL F))] sz) := by
  refine Met.ofW (cc := cX2_take) (maxL := 2) (ret := none) (by decide) rfl ?_
  intro p e s m args below meth c s₁ B hml hv
  obtain ⟨rfl, hsz, hP, hK, hN, hD0⟩ := hv
  have hx := B.exec
  have hb := B.bytes
  have hr := B.returns
  have hts := atoms_spec (ws := wsX2_take) B.pre
  have hown : s.vm.findClass RX2 = some m.cls := findClass_of_methodNamed B.named
  have hlocks := B.notSynchronized
  subst hsz
  have hD := hD0.self (sz := s.heap.size)
  generalize hAe : va_A [(h0, .inr (2, figL F))] s.heap.size = A at hD ⊢
  have hA : ∀ q : Nat, s.heap.size ≤ q → A q := fun q h => by rw [← hAe]; exact Or.inr h
  have hS : va_S A s.heap s.heap [] := va_S.rf
  have hP : va_P (dC, dI) vwCl [(h0, .inr (2, figL F))] s.heap := hP
  have hl := lv_entry ([.ref h0, .int given]) (n := 2) (Nat.le_of_ble_eq_true rfl)
  rw [lg_entry_eq]
  generalize (lg_sl ([.ref h0, .int given]) ++ List.replicate (2 - (lg_sl ([.ref h0, .int given])).length) Slot.unset).toArray = ls at hl ⊢
  have hl : lv_has ls 2 [(0, .ref h0), (1, .int given)] := hl
  refine lv_aload_n hx hb dX2_take_0 rfl (lv_at hl 0 rfl) ?_
  refine lv_iload_n hx hb dX2_take_1 rfl (lv_at hl 1 rfl) ?_
  refine va_put (D := (dC, dI)) (ci := 2) (v := .int given) (ty := .int) (C := RX2) (T := TX2) (N := 16) hx hb hts inw_X2_take_X2 tyX2 tyX2_ok nmX2 hown hK hP hD hS 0 rfl rfl 11 (by decide) (hts (.fieldLink RX2 45 "DuelFrames$Figure" "input" "I") (List.mem_of_getElem? (i := 1) rfl)) (fun _ h9 => h9) rfl (by decide +kernel) rfl rfl (Nat.le_of_ble_eq_true rfl) dX2_take_2 (fun H locs hP1 hD1 hS1 => ?_)
  clear hP hD hS
  have hP : va_P (dC, dI) vwCl [(h0, .inr (2, figL (upd F 11 given)))] H := hP1
  have hD : va_D A [(h0, .inr (2, figL (upd F 11 given)))] := hD1
  have hS := hS1
  clear hP1 hD1 hS1
  refine lv_aload_n hx hb dX2_take_5 rfl (lv_at hl 0 rfl) ?_
  refine lv_iconst (v := 0) hx hb dX2_take_6 (by decide) ?_
  refine va_put (D := (dC, dI)) (ci := 2) (v := .int 0) (ty := .boolean) (C := RX2) (T := TX2) (N := 16) hx hb hts inw_X2_take_X2 tyX2 tyX2_ok nmX2 hown hK hP hD hS 0 rfl rfl 12 (by decide) (hts (.fieldLink RX2 48 "DuelFrames$Figure" "begins" "Z") (List.mem_of_getElem? (i := 2) rfl)) (fun _ h9 => h9) rfl (by decide +kernel) rfl rfl (Nat.le_of_ble_eq_true rfl) dX2_take_7 (fun H locs hP1 hD1 hS1 => ?_)
  clear hP hD hS
  have hP : va_P (dC, dI) vwCl [(h0, .inr (2, figL (upd (upd F 11 given) 12 0)))] H := hP1
  have hD : va_D A [(h0, .inr (2, figL (upd (upd F 11 given) 12 0)))] := hD1
  have hS := hS1
  clear hP1 hD1 hS1
  refine lv_iload_n hx hb dX2_take_10 rfl (lv_at hl 1 rfl) ?_
  refine lv_bipush (v := 10) hx hb dX2_take_11 (by decide) ?_
  refine lv_icmp_lt (tgt := 29) hx hb dX2_take_13 (by decide) (fun c_1 => ?_) (fun c_1 => ?_)
  · have eo_2 : (X2_take_w0 F given) = (upd (upd F 11 given) 12 0) := by rw [X2_take_w0]; simp only [eq_true c_1, ↓reduceIte]
    have hP9 : va_P (dC, dI) vwCl [(h0, .inr (2, figL (X2_take_w0 F given)))] H := by simp only [eo_2]; exact hP
    have hD9 : va_D A [(h0, .inr (2, figL (X2_take_w0 F given)))] := by simp only [eo_2]; exact hD
    exact W.vret hx hb hr (fun t ht hW => ⟨⟨(), rfl, trivial, wPost_of hP9 hD9 ht⟩, hS.F ht⟩) hS.2.2 dX2_take_29
  · refine lv_aload_n hx hb dX2_take_16 rfl (lv_at hl 0 rfl) ?_
    refine lv_iload_n hx hb dX2_take_17 rfl (lv_at hl 1 rfl) ?_
    refine lv_bipush (v := 10) hx hb dX2_take_18 (by decide) ?_
    refine lv_isub hx hb dX2_take_20 ?_
    refine va_put (D := (dC, dI)) (ci := 2) (v := .int (given - 10)) (ty := .int) (C := RX2) (T := TX2) (N := 16) hx hb hts inw_X2_take_X2 tyX2 tyX2_ok nmX2 hown hK hP hD hS 0 rfl rfl 9 (by decide) (hts (.fieldLink RX2 39 "DuelFrames$Figure" "kept" "I") (List.mem_of_getElem? (i := 3) rfl)) (fun _ h9 => h9) rfl (by decide +kernel) rfl rfl (Nat.le_of_ble_eq_true rfl) dX2_take_21 (fun H locs hP1 hD1 hS1 => ?_)
    clear hP hD hS
    have hP : va_P (dC, dI) vwCl [(h0, .inr (2, figL (upd (upd (upd F 11 given) 12 0) 9 (given - 10))))] H := hP1
    have hD : va_D A [(h0, .inr (2, figL (upd (upd (upd F 11 given) 12 0) 9 (given - 10))))] := hD1
    have hS := hS1
    clear hP1 hD1 hS1
    refine lv_aload_n hx hb dX2_take_24 rfl (lv_at hl 0 rfl) ?_
    refine lv_iconst (v := 5) hx hb dX2_take_25 (by decide) ?_
    refine va_put (D := (dC, dI)) (ci := 2) (v := .int 5) (ty := .int) (C := RX2) (T := TX2) (N := 16) hx hb hts inw_X2_take_X2 tyX2 tyX2_ok nmX2 hown hK hP hD hS 0 rfl rfl 10 (by decide) (hts (.fieldLink RX2 42 "DuelFrames$Figure" "keptFor" "I") (List.mem_of_getElem? (i := 4) rfl)) (fun _ h9 => h9) rfl (by decide +kernel) rfl rfl (Nat.le_of_ble_eq_true rfl) dX2_take_26 (fun H locs hP1 hD1 hS1 => ?_)
    clear hP hD hS
    have hP : va_P (dC, dI) vwCl [(h0, .inr (2, figL (upd (upd (upd (upd F 11 given) 12 0) 9 (given - 10)) 10 5)))] H := hP1
    have hD : va_D A [(h0, .inr (2, figL (upd (upd (upd (upd F 11 given) 12 0) 9 (given - 10)) 10 5)))] := hD1
    have hS := hS1
    clear hP1 hD1 hS1
    have eo_3 : (X2_take_w0 F given) = (upd (upd (upd (upd F 11 given) 12 0) 9 (given - 10)) 10 5) := by rw [X2_take_w0]; simp only [eq_false c_1, ↓reduceIte]
    have hP9 : va_P (dC, dI) vwCl [(h0, .inr (2, figL (X2_take_w0 F given)))] H := by simp only [eo_3]; exact hP
    have hD9 : va_D A [(h0, .inr (2, figL (X2_take_w0 F given)))] := by simp only [eo_3]; exact hD
    exact W.vret hx hb hr (fun t ht hW => ⟨⟨(), rfl, trivial, wPost_of hP9 hD9 ht⟩, hS.F ht⟩) hS.2.2 dX2_take_29
theorem inw_X2_walk_X2 : ∀ w ∈ u_ws RX2 TX2 16, w ∈ wsX2_walk := fun _ h => List.mem_cons_of_mem _ (List.mem_append_right _ h)
def X2_walk_j73 (F : Nat → Int32) : Int32 := (if (F 15) = 0 then 3 else (-3))
def X2_walk_j33 (F : Nat → Int32) : Int32 := (if (F 15) = 0 then (-4) else 4)
def X2_walk_w0 (F : Nat → Int32) : Nat → Int32 := (if (F 3) = 0 then (if (F 11) = 1 then (upd F 0 ((F 0) + (X2_walk_j33 F))) else (if (F 11) = 2 then (upd F 0 ((F 0) + (X2_walk_j73 F))) else F)) else F)
set_option maxHeartbeats 4000000 in
set_option maxRecDepth 100000 in
theorem c_X2_walk (l : Launch) (dC : Nat → ClassId) (dI : Nat → Nat → Nat) (cY : Nat → ClassId) (h0 : Nat) (F : Nat → Int32)  (sz : Nat) : Met l yX2_walk wsX2_walk ({ frames := 0, cells := 0, slots := 0, locals := 0 } : Room) (va_Pc [.ref h0] (wPre (dC, dI) (tyL cY) [(h0, .inr (2, figL F))] sz)) (va_Qv (fun _ : Unit => True) (wPost (dC, dI) [(h0, .inr (2, figL (X2_walk_w0 F)))] (va_A [(h0, .inr (2, figL F))] sz)) (va_A [(h0, .inr (2, figL F))] sz)) 0 0 (va_A [(h0, .inr (2, figL F))] sz) := by
  refine Met.ofW (cc := cX2_walk) (maxL := 1) (ret := none) (by decide) rfl ?_
  intro p e s m args below meth c s₁ B hml hv
  obtain ⟨rfl, hsz, hP, hK, hN, hD0⟩ := hv
  have hx := B.exec
  have hb := B.bytes
  have hr := B.returns
  have hts := atoms_spec (ws := wsX2_walk) B.pre
  have hown : s.vm.findClass RX2 = some m.cls := findClass_of_methodNamed B.named
  have hlocks := B.notSynchronized
  subst hsz
  have hD := hD0.self (sz := s.heap.size)
  generalize hAe : va_A [(h0, .inr (2, figL F))] s.heap.size = A at hD ⊢
  have hA : ∀ q : Nat, s.heap.size ≤ q → A q := fun q h => by rw [← hAe]; exact Or.inr h
  have hS : va_S A s.heap s.heap [] := va_S.rf
  have hP : va_P (dC, dI) vwCl [(h0, .inr (2, figL F))] s.heap := hP
  have hl := lv_entry ([.ref h0]) (n := 1) (Nat.le_of_ble_eq_true rfl)
  rw [lg_entry_eq]
  generalize (lg_sl ([.ref h0]) ++ List.replicate (1 - (lg_sl ([.ref h0])).length) Slot.unset).toArray = ls at hl ⊢
  have hl : lv_has ls 1 [(0, .ref h0)] := hl
  refine lv_aload_n hx hb dX2_walk_0 rfl (lv_at hl 0 rfl) ?_
  refine va_get (D := (dC, dI)) (ci := 2) (v := .int (F 3)) (C := RX2) (T := TX2) (N := 16) hx hb hts inw_X2_walk_X2 hown hK hP 0 rfl rfl 3 (by decide) (hts (.fieldLink RX2 21 "DuelFrames$Figure" "does" "I") (List.mem_of_getElem? (i := 1) rfl)) (fun _ h9 => h9) rfl dX2_walk_1 ?_
  refine lv_if_ne (tgt := 40) hx hb dX2_walk_4 (by decide) (fun c_1 => ?_) (fun c_1 => ?_)
  · refine lv_aload_n hx hb dX2_walk_40 rfl (lv_at hl 0 rfl) ?_
    refine va_get (D := (dC, dI)) (ci := 2) (v := .int (F 3)) (C := RX2) (T := TX2) (N := 16) hx hb hts inw_X2_walk_X2 hown hK hP 0 rfl rfl 3 (by decide) (hts (.fieldLink RX2 21 "DuelFrames$Figure" "does" "I") (List.mem_of_getElem? (i := 1) rfl)) (fun _ h9 => h9) rfl dX2_walk_41 ?_
    refine lv_if_ne (tgt := 77) hx hb dX2_walk_44 (by decide) (fun c_2 => ?_) (fun c_2 => ?_)
    rotate_left
    · exact absurd c_2 c_1
    have eo_3 : (X2_walk_w0 F) = F := by rw [X2_walk_w0]; simp only [eq_false c_1, ↓reduceIte]
    have hP9 : va_P (dC, dI) vwCl [(h0, .inr (2, figL (X2_walk_w0 F)))] s.heap := by simp only [eo_3]; exact hP
    have hD9 : va_D A [(h0, .inr (2, figL (X2_walk_w0 F)))] := by simp only [eo_3]; exact hD
    exact W.vret hx hb hr (fun t ht hW => ⟨⟨(), rfl, trivial, wPost_of hP9 hD9 ht⟩, hS.F ht⟩) hS.2.2 dX2_walk_77
  · refine lv_aload_n hx hb dX2_walk_7 rfl (lv_at hl 0 rfl) ?_
    refine va_get (D := (dC, dI)) (ci := 2) (v := .int (F 11)) (C := RX2) (T := TX2) (N := 16) hx hb hts inw_X2_walk_X2 hown hK hP 0 rfl rfl 11 (by decide) (hts (.fieldLink RX2 45 "DuelFrames$Figure" "input" "I") (List.mem_of_getElem? (i := 2) rfl)) (fun _ h9 => h9) rfl dX2_walk_8 ?_
    refine lv_iconst (v := 1) hx hb dX2_walk_11 (by decide) ?_
    refine lv_icmp_ne (tgt := 40) hx hb dX2_walk_12 (by decide) (fun c_4 => ?_) (fun c_4 => ?_)
    · refine lv_aload_n hx hb dX2_walk_40 rfl (lv_at hl 0 rfl) ?_
      refine va_get (D := (dC, dI)) (ci := 2) (v := .int (F 3)) (C := RX2) (T := TX2) (N := 16) hx hb hts inw_X2_walk_X2 hown hK hP 0 rfl rfl 3 (by decide) (hts (.fieldLink RX2 21 "DuelFrames$Figure" "does" "I") (List.mem_of_getElem? (i := 1) rfl)) (fun _ h9 => h9) rfl dX2_walk_41 ?_
      refine lv_if_ne (tgt := 77) hx hb dX2_walk_44 (by decide) (fun c_5 => ?_) (fun c_5 => ?_)
      · exact absurd c_1 c_5
      refine lv_aload_n hx hb dX2_walk_47 rfl (lv_at hl 0 rfl) ?_
      refine va_get (D := (dC, dI)) (ci := 2) (v := .int (F 11)) (C := RX2) (T := TX2) (N := 16) hx hb hts inw_X2_walk_X2 hown hK hP 0 rfl rfl 11 (by decide) (hts (.fieldLink RX2 45 "DuelFrames$Figure" "input" "I") (List.mem_of_getElem? (i := 2) rfl)) (fun _ h9 => h9) rfl dX2_walk_48 ?_
      refine lv_iconst (v := 2) hx hb dX2_walk_51 (by decide) ?_
      refine lv_icmp_ne (tgt := 77) hx hb dX2_walk_52 (by decide) (fun c_6 => ?_) (fun c_6 => ?_)
      · have eo_7 : (X2_walk_w0 F) = F := by rw [X2_walk_w0]; simp only [eq_true c_1, eq_false c_4, eq_false c_6, ↓reduceIte]
        have hP9 : va_P (dC, dI) vwCl [(h0, .inr (2, figL (X2_walk_w0 F)))] s.heap := by simp only [eo_7]; exact hP
        have hD9 : va_D A [(h0, .inr (2, figL (X2_walk_w0 F)))] := by simp only [eo_7]; exact hD
        exact W.vret hx hb hr (fun t ht hW => ⟨⟨(), rfl, trivial, wPost_of hP9 hD9 ht⟩, hS.F ht⟩) hS.2.2 dX2_walk_77
      · refine lv_aload_n hx hb dX2_walk_55 rfl (lv_at hl 0 rfl) ?_
        refine lv_dup hx hb dX2_walk_56 rfl ?_
        refine va_get (D := (dC, dI)) (ci := 2) (v := .int (F 0)) (C := RX2) (T := TX2) (N := 16) hx hb hts inw_X2_walk_X2 hown hK hP 0 rfl rfl 0 (by decide) (hts (.fieldLink RX2 9 "DuelFrames$Figure" "place" "I") (List.mem_of_getElem? (i := 3) rfl)) (fun _ h9 => h9) rfl dX2_walk_57 ?_
        refine lv_aload_n hx hb dX2_walk_60 rfl (lv_at hl 0 rfl) ?_
        refine va_get (D := (dC, dI)) (ci := 2) (v := .int (F 15)) (C := RX2) (T := TX2) (N := 16) hx hb hts inw_X2_walk_X2 hown hK hP 0 rfl rfl 15 (by decide) (hts (.fieldLink RX2 58 "DuelFrames$Figure" "isLeft" "Z") (List.mem_of_getElem? (i := 4) rfl)) (fun _ h9 => h9) rfl dX2_walk_61 ?_
        refine jnW (D := (dC, dI)) (ws := [(h0, .inr (2, figL F))]) (lv := []) (st := [.int (X2_walk_j73 F), .int (F 0), .ref h0]) (J := 73) (n := 1) (A := A) (H0 := s.heap) ?_ ?_
        · intro H locs ls hP hD hS hl
          refine lv_iadd hx hb dX2_walk_73 ?_
          refine va_put (D := (dC, dI)) (ci := 2) (v := .int ((F 0) + (X2_walk_j73 F))) (ty := .int) (C := RX2) (T := TX2) (N := 16) hx hb hts inw_X2_walk_X2 tyX2 tyX2_ok nmX2 hown hK hP hD hS 0 rfl rfl 0 (by decide) (hts (.fieldLink RX2 9 "DuelFrames$Figure" "place" "I") (List.mem_of_getElem? (i := 3) rfl)) (fun _ h9 => h9) rfl (by decide +kernel) rfl rfl (Nat.le_of_ble_eq_true rfl) dX2_walk_74 (fun H locs hP1 hD1 hS1 => ?_)
          clear hP hD hS
          have hP : va_P (dC, dI) vwCl [(h0, .inr (2, figL (upd F 0 ((F 0) + (X2_walk_j73 F)))))] H := hP1
          have hD : va_D A [(h0, .inr (2, figL (upd F 0 ((F 0) + (X2_walk_j73 F)))))] := hD1
          have hS := hS1
          clear hP1 hD1 hS1
          have eo_10 : (X2_walk_w0 F) = (upd F 0 ((F 0) + (X2_walk_j73 F))) := by rw [X2_walk_w0]; simp only [eq_true c_1, eq_false c_4, eq_true c_6, ↓reduceIte]
          have hP9 : va_P (dC, dI) vwCl [(h0, .inr (2, figL (X2_walk_w0 F)))] H := by simp only [eo_10]; exact hP
          have hD9 : va_D A [(h0, .inr (2, figL (X2_walk_w0 F)))] := by simp only [eo_10]; exact hD
          exact W.vret hx hb hr (fun t ht hW => ⟨⟨(), rfl, trivial, wPost_of hP9 hD9 ht⟩, hS.F ht⟩) hS.2.2 dX2_walk_77
        · intro jn_9
          refine lv_if_eq (tgt := 72) hx hb dX2_walk_64 (by decide) (fun c_8 => ?_) (fun c_8 => ?_)
          · refine lv_iconst (v := 3) hx hb dX2_walk_72 (by decide) ?_
            have e_11 : (X2_walk_j73 F) = 3 := by rw [X2_walk_j73]; simp only [eq_true c_8, ↓reduceIte]
            refine W.eq (g2 := F0 m 73 ls [.int (X2_walk_j73 F), .int (F 0), .ref h0]) (by simp only [e_11]) ?_
            exact jn_9 _ _ _ (by (try simp only [e_11]); exact hP) (by (try simp only [e_11]); exact hD) hS (by (try simp only [e_11]); exact (lv_sub hl [] rfl))
          · refine lv_bipush (v := (-3)) hx hb dX2_walk_67 (by decide) ?_
            refine lv_goto (tgt := 73) hx hb dX2_walk_69 (by decide) ?_
            have e_12 : (X2_walk_j73 F) = (-3) := by rw [X2_walk_j73]; simp only [eq_false c_8, ↓reduceIte]
            refine W.eq (g2 := F0 m 73 ls [.int (X2_walk_j73 F), .int (F 0), .ref h0]) (by simp only [e_12]) ?_
            exact jn_9 _ _ _ (by (try simp only [e_12]); exact hP) (by (try simp only [e_12]); exact hD) hS (by (try simp only [e_12]); exact (lv_sub hl [] rfl))
    · refine lv_aload_n hx hb dX2_walk_15 rfl (lv_at hl 0 rfl) ?_
      refine lv_dup hx hb dX2_walk_16 rfl ?_
      refine va_get (D := (dC, dI)) (ci := 2) (v := .int (F 0)) (C := RX2) (T := TX2) (N := 16) hx hb hts inw_X2_walk_X2 hown hK hP 0 rfl rfl 0 (by decide) (hts (.fieldLink RX2 9 "DuelFrames$Figure" "place" "I") (List.mem_of_getElem? (i := 3) rfl)) (fun _ h9 => h9) rfl dX2_walk_17 ?_
      refine lv_aload_n hx hb dX2_walk_20 rfl (lv_at hl 0 rfl) ?_
      refine va_get (D := (dC, dI)) (ci := 2) (v := .int (F 15)) (C := RX2) (T := TX2) (N := 16) hx hb hts inw_X2_walk_X2 hown hK hP 0 rfl rfl 15 (by decide) (hts (.fieldLink RX2 58 "DuelFrames$Figure" "isLeft" "Z") (List.mem_of_getElem? (i := 4) rfl)) (fun _ h9 => h9) rfl dX2_walk_21 ?_
      refine jnW (D := (dC, dI)) (ws := [(h0, .inr (2, figL F))]) (lv := []) (st := [.int (X2_walk_j33 F), .int (F 0), .ref h0]) (J := 33) (n := 1) (A := A) (H0 := s.heap) ?_ ?_
      · intro H locs ls hP hD hS hl
        refine lv_iadd hx hb dX2_walk_33 ?_
        refine va_put (D := (dC, dI)) (ci := 2) (v := .int ((F 0) + (X2_walk_j33 F))) (ty := .int) (C := RX2) (T := TX2) (N := 16) hx hb hts inw_X2_walk_X2 tyX2 tyX2_ok nmX2 hown hK hP hD hS 0 rfl rfl 0 (by decide) (hts (.fieldLink RX2 9 "DuelFrames$Figure" "place" "I") (List.mem_of_getElem? (i := 3) rfl)) (fun _ h9 => h9) rfl (by decide +kernel) rfl rfl (Nat.le_of_ble_eq_true rfl) dX2_walk_34 (fun H locs hP1 hD1 hS1 => ?_)
        clear hP hD hS
        have hP : va_P (dC, dI) vwCl [(h0, .inr (2, figL (upd F 0 ((F 0) + (X2_walk_j33 F)))))] H := hP1
        have hD : va_D A [(h0, .inr (2, figL (upd F 0 ((F 0) + (X2_walk_j33 F)))))] := hD1
        have hS := hS1
        clear hP1 hD1 hS1
        refine lv_goto (tgt := 77) hx hb dX2_walk_37 (by decide) ?_
        have eo_15 : (X2_walk_w0 F) = (upd F 0 ((F 0) + (X2_walk_j33 F))) := by rw [X2_walk_w0]; simp only [eq_true c_1, eq_true c_4, ↓reduceIte]
        have hP9 : va_P (dC, dI) vwCl [(h0, .inr (2, figL (X2_walk_w0 F)))] H := by simp only [eo_15]; exact hP
        have hD9 : va_D A [(h0, .inr (2, figL (X2_walk_w0 F)))] := by simp only [eo_15]; exact hD
        exact W.vret hx hb hr (fun t ht hW => ⟨⟨(), rfl, trivial, wPost_of hP9 hD9 ht⟩, hS.F ht⟩) hS.2.2 dX2_walk_77
      · intro jn_14
        refine lv_if_eq (tgt := 31) hx hb dX2_walk_24 (by decide) (fun c_13 => ?_) (fun c_13 => ?_)
        · refine lv_bipush (v := (-4)) hx hb dX2_walk_31 (by decide) ?_
          have e_16 : (X2_walk_j33 F) = (-4) := by rw [X2_walk_j33]; simp only [eq_true c_13, ↓reduceIte]
          refine W.eq (g2 := F0 m 33 ls [.int (X2_walk_j33 F), .int (F 0), .ref h0]) (by simp only [e_16]) ?_
          exact jn_14 _ _ _ (by (try simp only [e_16]); exact hP) (by (try simp only [e_16]); exact hD) hS (by (try simp only [e_16]); exact (lv_sub hl [] rfl))
        · refine lv_iconst (v := 4) hx hb dX2_walk_27 (by decide) ?_
          refine lv_goto (tgt := 33) hx hb dX2_walk_28 (by decide) ?_
          have e_17 : (X2_walk_j33 F) = 4 := by rw [X2_walk_j33]; simp only [eq_false c_13, ↓reduceIte]
          refine W.eq (g2 := F0 m 33 ls [.int (X2_walk_j33 F), .int (F 0), .ref h0]) (by simp only [e_17]) ?_
          exact jn_14 _ _ _ (by (try simp only [e_17]); exact hP) (by (try simp only [e_17]); exact hD) hS (by (try simp only [e_17]); exact (lv_sub hl [] rfl))
theorem inw_X2_goBack_X2 : ∀ w ∈ u_ws RX2 TX2 16, w ∈ wsX2_goBack := fun _ h => List.mem_cons_of_mem _ (List.mem_append_right _ h)
def X2_goBack_j22 (F : Nat → Int32) : Int32 := (if (F 15) = 0 then (600 - (F 0)) else (F 0))
def X2_goBack_j33 (F : Nat → Int32) (by_ : Int32) : Int32 := (if (X2_goBack_j22 F) ≤ by_ then (X2_goBack_j22 F) else by_)
def X2_goBack_j52 (F : Nat → Int32) (by_ : Int32) : Int32 := (if (F 15) = 0 then (X2_goBack_j33 F by_) else (-(X2_goBack_j33 F by_)))
def X2_goBack_w0 (F : Nat → Int32) (by_ : Int32) : Nat → Int32 := (upd F 0 ((F 0) + (X2_goBack_j52 F by_)))
def X2_goBack_r (F : Nat → Int32) (by_ : Int32) : Int32 := (by_ - (X2_goBack_j33 F by_))
set_option maxHeartbeats 4000000 in
set_option maxRecDepth 100000 in
theorem c_X2_goBack (l : Launch) (dC : Nat → ClassId) (dI : Nat → Nat → Nat) (cY : Nat → ClassId) (h0 : Nat) (F : Nat → Int32) (by_ : Int32)  (sz : Nat) : Met l yX2_goBack wsX2_goBack ({ frames := 0, cells := 0, slots := 0, locals := 0 } : Room) (va_Pc [.ref h0, .int by_] (wPre (dC, dI) (tyL cY) [(h0, .inr (2, figL F))] sz)) (va_Qi (fun (r : Int32) (_ : Unit) => r = (X2_goBack_r F by_)) (wPost (dC, dI) [(h0, .inr (2, figL (X2_goBack_w0 F by_)))] (va_A [(h0, .inr (2, figL F))] sz)) (va_A [(h0, .inr (2, figL F))] sz)) 0 0 (va_A [(h0, .inr (2, figL F))] sz) := by
  refine Met.ofW (cc := cX2_goBack) (maxL := 4) (ret := (some .int)) (by decide) rfl ?_
  intro p e s m args below meth c s₁ B hml hv
  obtain ⟨rfl, hsz, hP, hK, hN, hD0⟩ := hv
  have hx := B.exec
  have hb := B.bytes
  have hr := B.returns
  have hts := atoms_spec (ws := wsX2_goBack) B.pre
  have hown : s.vm.findClass RX2 = some m.cls := findClass_of_methodNamed B.named
  have hlocks := B.notSynchronized
  subst hsz
  have hD := hD0.self (sz := s.heap.size)
  generalize hAe : va_A [(h0, .inr (2, figL F))] s.heap.size = A at hD ⊢
  have hA : ∀ q : Nat, s.heap.size ≤ q → A q := fun q h => by rw [← hAe]; exact Or.inr h
  have hS : va_S A s.heap s.heap [] := va_S.rf
  have hP : va_P (dC, dI) vwCl [(h0, .inr (2, figL F))] s.heap := hP
  have hl := lv_entry ([.ref h0, .int by_]) (n := 4) (Nat.le_of_ble_eq_true rfl)
  rw [lg_entry_eq]
  generalize (lg_sl ([.ref h0, .int by_]) ++ List.replicate (4 - (lg_sl ([.ref h0, .int by_])).length) Slot.unset).toArray = ls at hl ⊢
  have hl : lv_has ls 4 [(0, .ref h0), (1, .int by_)] := hl
  refine lv_aload_n hx hb dX2_goBack_0 rfl (lv_at hl 0 rfl) ?_
  refine va_get (D := (dC, dI)) (ci := 2) (v := .int (F 15)) (C := RX2) (T := TX2) (N := 16) hx hb hts inw_X2_goBack_X2 hown hK hP 0 rfl rfl 15 (by decide) (hts (.fieldLink RX2 58 "DuelFrames$Figure" "isLeft" "Z") (List.mem_of_getElem? (i := 1) rfl)) (fun _ h9 => h9) rfl dX2_goBack_1 ?_
  refine jnW (D := (dC, dI)) (ws := [(h0, .inr (2, figL F))]) (lv := [(0, .ref h0), (1, .int by_)]) (st := [.int (X2_goBack_j22 F)]) (J := 22) (n := 4) (A := A) (H0 := s.heap) ?_ ?_
  · intro H locs ls hP hD hS hl
    refine lv_istore_n (lv' := [(2, .int (X2_goBack_j22 F)), (0, .ref h0), (1, .int by_)]) hx hb dX2_goBack_22 rfl hl (by decide) rfl (fun ls hl => ?_)
    refine lv_iload_n hx hb dX2_goBack_23 rfl (lv_at hl 2 rfl) ?_
    refine lv_iload_n hx hb dX2_goBack_24 rfl (lv_at hl 0 rfl) ?_
    refine jnW (D := (dC, dI)) (ws := [(h0, .inr (2, figL F))]) (lv := [(0, .ref h0), (1, .int by_)]) (st := [.int (X2_goBack_j33 F by_)]) (J := 33) (n := 4) (A := A) (H0 := s.heap) ?_ ?_
    · intro H locs ls hP hD hS hl
      refine lv_istore_n (lv' := [(3, .int (X2_goBack_j33 F by_)), (0, .ref h0), (1, .int by_)]) hx hb dX2_goBack_33 rfl hl (by decide) rfl (fun ls hl => ?_)
      refine lv_aload_n hx hb dX2_goBack_34 rfl (lv_at hl 1 rfl) ?_
      refine lv_dup hx hb dX2_goBack_35 rfl ?_
      refine va_get (D := (dC, dI)) (ci := 2) (v := .int (F 0)) (C := RX2) (T := TX2) (N := 16) hx hb hts inw_X2_goBack_X2 hown hK hP 0 rfl rfl 0 (by decide) (hts (.fieldLink RX2 9 "DuelFrames$Figure" "place" "I") (List.mem_of_getElem? (i := 2) rfl)) (fun _ h9 => h9) rfl dX2_goBack_36 ?_
      refine lv_aload_n hx hb dX2_goBack_39 rfl (lv_at hl 1 rfl) ?_
      refine va_get (D := (dC, dI)) (ci := 2) (v := .int (F 15)) (C := RX2) (T := TX2) (N := 16) hx hb hts inw_X2_goBack_X2 hown hK hP 0 rfl rfl 15 (by decide) (hts (.fieldLink RX2 58 "DuelFrames$Figure" "isLeft" "Z") (List.mem_of_getElem? (i := 1) rfl)) (fun _ h9 => h9) rfl dX2_goBack_40 ?_
      refine jnW (D := (dC, dI)) (ws := [(h0, .inr (2, figL F))]) (lv := [(3, .int (X2_goBack_j33 F by_)), (1, .int by_)]) (st := [.int (X2_goBack_j52 F by_), .int (F 0), .ref h0]) (J := 52) (n := 4) (A := A) (H0 := s.heap) ?_ ?_
      · intro H locs ls hP hD hS hl
        refine lv_iadd hx hb dX2_goBack_52 ?_
        refine va_put (D := (dC, dI)) (ci := 2) (v := .int ((F 0) + (X2_goBack_j52 F by_))) (ty := .int) (C := RX2) (T := TX2) (N := 16) hx hb hts inw_X2_goBack_X2 tyX2 tyX2_ok nmX2 hown hK hP hD hS 0 rfl rfl 0 (by decide) (hts (.fieldLink RX2 9 "DuelFrames$Figure" "place" "I") (List.mem_of_getElem? (i := 2) rfl)) (fun _ h9 => h9) rfl (by decide +kernel) rfl rfl (Nat.le_of_ble_eq_true rfl) dX2_goBack_53 (fun H locs hP1 hD1 hS1 => ?_)
        clear hP hD hS
        have hP : va_P (dC, dI) vwCl [(h0, .inr (2, figL (upd F 0 ((F 0) + (X2_goBack_j52 F by_)))))] H := hP1
        have hD : va_D A [(h0, .inr (2, figL (upd F 0 ((F 0) + (X2_goBack_j52 F by_)))))] := hD1
        have hS := hS1
        clear hP1 hD1 hS1
        refine lv_iload_n hx hb dX2_goBack_56 rfl (lv_at hl 1 rfl) ?_
        refine lv_iload_n hx hb dX2_goBack_57 rfl (lv_at hl 0 rfl) ?_
        refine lv_isub hx hb dX2_goBack_58 ?_
        have eo_7 : (X2_goBack_r F by_) = (by_ - (X2_goBack_j33 F by_)) := by rw [X2_goBack_r]
        have eo_8 : (X2_goBack_w0 F by_) = (upd F 0 ((F 0) + (X2_goBack_j52 F by_))) := by rw [X2_goBack_w0]
        have hP9 : va_P (dC, dI) vwCl [(h0, .inr (2, figL (X2_goBack_w0 F by_)))] H := by simp only [eo_8]; exact hP
        have hD9 : va_D A [(h0, .inr (2, figL (X2_goBack_w0 F by_)))] := by simp only [eo_8]; exact hD
        exact W.iret (v := (by_ - (X2_goBack_j33 F by_))) hx hb hr (fun t ht hW => ⟨⟨_, (), rfl, eo_7.symm, wPost_of hP9 hD9 ht⟩, hS.F ht⟩) hS.2.2 dX2_goBack_59
      · intro jn_6
        refine lv_if_eq (tgt := 51) hx hb dX2_goBack_43 (by decide) (fun c_5 => ?_) (fun c_5 => ?_)
        · refine lv_iload_n hx hb dX2_goBack_51 rfl (lv_at hl 0 rfl) ?_
          have e_9 : (X2_goBack_j52 F by_) = (X2_goBack_j33 F by_) := by rw [X2_goBack_j52]; simp only [eq_true c_5, ↓reduceIte]
          refine W.eq (g2 := F0 m 52 ls [.int (X2_goBack_j52 F by_), .int (F 0), .ref h0]) (by simp only [e_9]) ?_
          exact jn_6 _ _ _ (by (try simp only [e_9]); exact hP) (by (try simp only [e_9]); exact hD) hS (by (try simp only [e_9]); exact (lv_sub hl [0, 2] rfl))
        · refine lv_iload_n hx hb dX2_goBack_46 rfl (lv_at hl 0 rfl) ?_
          refine lv_ineg hx hb dX2_goBack_47 ?_
          refine lv_goto (tgt := 52) hx hb dX2_goBack_48 (by decide) ?_
          have e_10 : (X2_goBack_j52 F by_) = (-(X2_goBack_j33 F by_)) := by rw [X2_goBack_j52]; simp only [eq_false c_5, ↓reduceIte]
          refine W.eq (g2 := F0 m 52 ls [.int (X2_goBack_j52 F by_), .int (F 0), .ref h0]) (by simp only [e_10]) ?_
          exact jn_6 _ _ _ (by (try simp only [e_10]); exact hP) (by (try simp only [e_10]); exact hD) hS (by (try simp only [e_10]); exact (lv_sub hl [0, 2] rfl))
    · intro jn_4
      refine lv_icmp_ge (tgt := 32) hx hb dX2_goBack_25 (by decide) (fun c_3 => ?_) (fun c_3 => ?_)
      · refine lv_iload_n hx hb dX2_goBack_32 rfl (lv_at hl 0 rfl) ?_
        have e_11 : (X2_goBack_j33 F by_) = (X2_goBack_j22 F) := by rw [X2_goBack_j33]; simp only [eq_true c_3, ↓reduceIte]
        refine W.eq (g2 := F0 m 33 ls [.int (X2_goBack_j33 F by_)]) (by simp only [e_11]) ?_
        exact jn_4 _ _ _ (by (try simp only [e_11]); exact hP) (by (try simp only [e_11]); exact hD) hS (by (try simp only [e_11]); exact (lv_sub hl [1, 2] rfl))
      · refine lv_iload_n hx hb dX2_goBack_28 rfl (lv_at hl 2 rfl) ?_
        refine lv_goto (tgt := 33) hx hb dX2_goBack_29 (by decide) ?_
        have e_12 : (X2_goBack_j33 F by_) = by_ := by rw [X2_goBack_j33]; simp only [eq_false c_3, ↓reduceIte]
        refine W.eq (g2 := F0 m 33 ls [.int (X2_goBack_j33 F by_)]) (by simp only [e_12]) ?_
        exact jn_4 _ _ _ (by (try simp only [e_12]); exact hP) (by (try simp only [e_12]); exact hD) hS (by (try simp only [e_12]); exact (lv_sub hl [1, 2] rfl))
  · intro jn_2
    refine lv_if_eq (tgt := 14) hx hb dX2_goBack_4 (by decide) (fun c_1 => ?_) (fun c_1 => ?_)
    · refine lv_sipush (v := 600) hx hb dX2_goBack_14 (by decide) ?_
      refine lv_aload_n hx hb dX2_goBack_17 rfl (lv_at hl 0 rfl) ?_
      refine va_get (D := (dC, dI)) (ci := 2) (v := .int (F 0)) (C := RX2) (T := TX2) (N := 16) hx hb hts inw_X2_goBack_X2 hown hK hP 0 rfl rfl 0 (by decide) (hts (.fieldLink RX2 9 "DuelFrames$Figure" "place" "I") (List.mem_of_getElem? (i := 2) rfl)) (fun _ h9 => h9) rfl dX2_goBack_18 ?_
      refine lv_isub hx hb dX2_goBack_21 ?_
      have e_13 : (X2_goBack_j22 F) = (600 - (F 0)) := by rw [X2_goBack_j22]; simp only [eq_true c_1, ↓reduceIte]
      refine W.eq (g2 := F0 m 22 ls [.int (X2_goBack_j22 F)]) (by simp only [e_13]) ?_
      exact jn_2 _ _ _ (by (try simp only [e_13]); exact hP) (by (try simp only [e_13]); exact hD) hS (by (try simp only [e_13]); exact (lv_sub hl [0, 1] rfl))
    · refine lv_aload_n hx hb dX2_goBack_7 rfl (lv_at hl 0 rfl) ?_
      refine va_get (D := (dC, dI)) (ci := 2) (v := .int (F 0)) (C := RX2) (T := TX2) (N := 16) hx hb hts inw_X2_goBack_X2 hown hK hP 0 rfl rfl 0 (by decide) (hts (.fieldLink RX2 9 "DuelFrames$Figure" "place" "I") (List.mem_of_getElem? (i := 2) rfl)) (fun _ h9 => h9) rfl dX2_goBack_8 ?_
      refine lv_goto (tgt := 22) hx hb dX2_goBack_11 (by decide) ?_
      have e_14 : (X2_goBack_j22 F) = (F 0) := by rw [X2_goBack_j22]; simp only [eq_false c_1, ↓reduceIte]
      refine W.eq (g2 := F0 m 22 ls [.int (X2_goBack_j22 F)]) (by simp only [e_14]) ?_
      exact jn_2 _ _ _ (by (try simp only [e_14]); exact hP) (by (try simp only [e_14]); exact hD) hS (by (try simp only [e_14]); exact (lv_sub hl [0, 1] rfl))
theorem inw_X2_rememberAheadOfHits_X2 : ∀ w ∈ u_ws RX2 TX2 16, w ∈ wsX2_rememberAheadOfHits := fun _ h => List.mem_cons_of_mem _ (List.mem_append_right _ h)
def X2_rememberAheadOfHits_w0 (F : Nat → Int32) : Nat → Int32 := (upd (upd F 13 (F 3)) 14 (F 4))
set_option maxHeartbeats 4000000 in
set_option maxRecDepth 100000 in
theorem c_X2_rememberAheadOfHits (l : Launch) (dC : Nat → ClassId) (dI : Nat → Nat → Nat) (cY : Nat → ClassId) (h0 : Nat) (F : Nat → Int32)  (sz : Nat) : Met l yX2_rememberAheadOfHits wsX2_rememberAheadOfHits ({ frames := 0, cells := 0, slots := 0, locals := 0 } : Room) (va_Pc [.ref h0] (wPre (dC, dI) (tyL cY) [(h0, .inr (2, figL F))] sz)) (va_Qv (fun _ : Unit => True) (wPost (dC, dI) [(h0, .inr (2, figL (X2_rememberAheadOfHits_w0 F)))] (va_A [(h0, .inr (2, figL F))] sz)) (va_A [(h0, .inr (2, figL F))] sz)) 0 0 (va_A [(h0, .inr (2, figL F))] sz) := by
  refine Met.ofW (cc := cX2_rememberAheadOfHits) (maxL := 1) (ret := none) (by decide) rfl ?_
  intro p e s m args below meth c s₁ B hml hv
  obtain ⟨rfl, hsz, hP, hK, hN, hD0⟩ := hv
  have hx := B.exec
  have hb := B.bytes
  have hr := B.returns
  have hts := atoms_spec (ws := wsX2_rememberAheadOfHits) B.pre
  have hown : s.vm.findClass RX2 = some m.cls := findClass_of_methodNamed B.named
  have hlocks := B.notSynchronized
  subst hsz
  have hD := hD0.self (sz := s.heap.size)
  generalize hAe : va_A [(h0, .inr (2, figL F))] s.heap.size = A at hD ⊢
  have hA : ∀ q : Nat, s.heap.size ≤ q → A q := fun q h => by rw [← hAe]; exact Or.inr h
  have hS : va_S A s.heap s.heap [] := va_S.rf
  have hP : va_P (dC, dI) vwCl [(h0, .inr (2, figL F))] s.heap := hP
  have hl := lv_entry ([.ref h0]) (n := 1) (Nat.le_of_ble_eq_true rfl)
  rw [lg_entry_eq]
  generalize (lg_sl ([.ref h0]) ++ List.replicate (1 - (lg_sl ([.ref h0])).length) Slot.unset).toArray = ls at hl ⊢
  have hl : lv_has ls 1 [(0, .ref h0)] := hl
  refine lv_aload_n hx hb dX2_rememberAheadOfHits_0 rfl (lv_at hl 0 rfl) ?_
  refine lv_aload_n hx hb dX2_rememberAheadOfHits_1 rfl (lv_at hl 0 rfl) ?_
  refine va_get (D := (dC, dI)) (ci := 2) (v := .int (F 3)) (C := RX2) (T := TX2) (N := 16) hx hb hts inw_X2_rememberAheadOfHits_X2 hown hK hP 0 rfl rfl 3 (by decide) (hts (.fieldLink RX2 21 "DuelFrames$Figure" "does" "I") (List.mem_of_getElem? (i := 1) rfl)) (fun _ h9 => h9) rfl dX2_rememberAheadOfHits_2 ?_
  refine va_put (D := (dC, dI)) (ci := 2) (v := .int (F 3)) (ty := .int) (C := RX2) (T := TX2) (N := 16) hx hb hts inw_X2_rememberAheadOfHits_X2 tyX2 tyX2_ok nmX2 hown hK hP hD hS 0 rfl rfl 13 (by decide) (hts (.fieldLink RX2 52 "DuelFrames$Figure" "did" "I") (List.mem_of_getElem? (i := 2) rfl)) (fun _ h9 => h9) rfl (by decide +kernel) rfl rfl (Nat.le_of_ble_eq_true rfl) dX2_rememberAheadOfHits_5 (fun H locs hP1 hD1 hS1 => ?_)
  clear hP hD hS
  have hP : va_P (dC, dI) vwCl [(h0, .inr (2, figL (upd F 13 (F 3))))] H := hP1
  have hD : va_D A [(h0, .inr (2, figL (upd F 13 (F 3))))] := hD1
  have hS := hS1
  clear hP1 hD1 hS1
  refine lv_aload_n hx hb dX2_rememberAheadOfHits_8 rfl (lv_at hl 0 rfl) ?_
  refine lv_aload_n hx hb dX2_rememberAheadOfHits_9 rfl (lv_at hl 0 rfl) ?_
  refine va_get (D := (dC, dI)) (ci := 2) (v := .int (F 4)) (C := RX2) (T := TX2) (N := 16) hx hb hts inw_X2_rememberAheadOfHits_X2 hown hK hP 0 rfl rfl 4 (by decide) (hts (.fieldLink RX2 24 "DuelFrames$Figure" "count" "I") (List.mem_of_getElem? (i := 3) rfl)) (fun _ h9 => h9) rfl dX2_rememberAheadOfHits_10 ?_
  refine va_put (D := (dC, dI)) (ci := 2) (v := .int (F 4)) (ty := .int) (C := RX2) (T := TX2) (N := 16) hx hb hts inw_X2_rememberAheadOfHits_X2 tyX2 tyX2_ok nmX2 hown hK hP hD hS 0 rfl rfl 14 (by decide) (hts (.fieldLink RX2 55 "DuelFrames$Figure" "counted" "I") (List.mem_of_getElem? (i := 4) rfl)) (fun _ h9 => h9) rfl (by decide +kernel) rfl rfl (Nat.le_of_ble_eq_true rfl) dX2_rememberAheadOfHits_13 (fun H locs hP1 hD1 hS1 => ?_)
  clear hP hD hS
  have hP : va_P (dC, dI) vwCl [(h0, .inr (2, figL (upd (upd F 13 (F 3)) 14 (F 4))))] H := hP1
  have hD : va_D A [(h0, .inr (2, figL (upd (upd F 13 (F 3)) 14 (F 4))))] := hD1
  have hS := hS1
  clear hP1 hD1 hS1
  have eo_1 : (X2_rememberAheadOfHits_w0 F) = (upd (upd F 13 (F 3)) 14 (F 4)) := by rw [X2_rememberAheadOfHits_w0]
  have hP9 : va_P (dC, dI) vwCl [(h0, .inr (2, figL (X2_rememberAheadOfHits_w0 F)))] H := by simp only [eo_1]; exact hP
  have hD9 : va_D A [(h0, .inr (2, figL (X2_rememberAheadOfHits_w0 F)))] := by simp only [eo_1]; exact hD
  exact W.vret hx hb hr (fun t ht hW => ⟨⟨(), rfl, trivial, wPost_of hP9 hD9 ht⟩, hS.F ht⟩) hS.2.2 dX2_rememberAheadOfHits_16
theorem inw_X2_touch_X2 : ∀ w ∈ u_ws RX2 TX2 16, w ∈ wsX2_touch := fun _ h => List.mem_cons_of_mem _ (List.mem_append_right _ h)
def X2_touch_j28 (F : Nat → Int32) (gain : Int32) : Int32 := (if ((F 2) + gain) ≤ 100 then ((F 2) + gain) else 100)
def X2_touch_w0 (F : Nat → Int32) (gain : Int32) : Nat → Int32 := (upd (upd F 7 0) 2 (X2_touch_j28 F gain))
set_option maxHeartbeats 4000000 in
set_option maxRecDepth 100000 in
theorem c_X2_touch (l : Launch) (dC : Nat → ClassId) (dI : Nat → Nat → Nat) (cY : Nat → ClassId) (h0 : Nat) (F : Nat → Int32) (gain : Int32)  (sz : Nat) : Met l yX2_touch wsX2_touch ({ frames := 0, cells := 0, slots := 0, locals := 0 } : Room) (va_Pc [.ref h0, .int gain] (wPre (dC, dI) (tyL cY) [(h0, .inr (2, figL F))] sz)) (va_Qv (fun _ : Unit => True) (wPost (dC, dI) [(h0, .inr (2, figL (X2_touch_w0 F gain)))] (va_A [(h0, .inr (2, figL F))] sz)) (va_A [(h0, .inr (2, figL F))] sz)) 0 0 (va_A [(h0, .inr (2, figL F))] sz) := by
  refine Met.ofW (cc := cX2_touch) (maxL := 2) (ret := none) (by decide) rfl ?_
  intro p e s m args below meth c s₁ B hml hv
  obtain ⟨rfl, hsz, hP, hK, hN, hD0⟩ := hv
  have hx := B.exec
  have hb := B.bytes
  have hr := B.returns
  have hts := atoms_spec (ws := wsX2_touch) B.pre
  have hown : s.vm.findClass RX2 = some m.cls := findClass_of_methodNamed B.named
  have hlocks := B.notSynchronized
  subst hsz
  have hD := hD0.self (sz := s.heap.size)
  generalize hAe : va_A [(h0, .inr (2, figL F))] s.heap.size = A at hD ⊢
  have hA : ∀ q : Nat, s.heap.size ≤ q → A q := fun q h => by rw [← hAe]; exact Or.inr h
  have hS : va_S A s.heap s.heap [] := va_S.rf
  have hP : va_P (dC, dI) vwCl [(h0, .inr (2, figL F))] s.heap := hP
  have hl := lv_entry ([.ref h0, .int gain]) (n := 2) (Nat.le_of_ble_eq_true rfl)
  rw [lg_entry_eq]
  generalize (lg_sl ([.ref h0, .int gain]) ++ List.replicate (2 - (lg_sl ([.ref h0, .int gain])).length) Slot.unset).toArray = ls at hl ⊢
  have hl : lv_has ls 2 [(0, .ref h0), (1, .int gain)] := hl
  refine lv_aload_n hx hb dX2_touch_0 rfl (lv_at hl 0 rfl) ?_
  refine lv_iconst (v := 0) hx hb dX2_touch_1 (by decide) ?_
  refine va_put (D := (dC, dI)) (ci := 2) (v := .int 0) (ty := .int) (C := RX2) (T := TX2) (N := 16) hx hb hts inw_X2_touch_X2 tyX2 tyX2_ok nmX2 hown hK hP hD hS 0 rfl rfl 7 (by decide) (hts (.fieldLink RX2 33 "DuelFrames$Figure" "touchedAgo" "I") (List.mem_of_getElem? (i := 1) rfl)) (fun _ h9 => h9) rfl (by decide +kernel) rfl rfl (Nat.le_of_ble_eq_true rfl) dX2_touch_2 (fun H locs hP1 hD1 hS1 => ?_)
  clear hP hD hS
  have hP : va_P (dC, dI) vwCl [(h0, .inr (2, figL (upd F 7 0)))] H := hP1
  have hD : va_D A [(h0, .inr (2, figL (upd F 7 0)))] := hD1
  have hS := hS1
  clear hP1 hD1 hS1
  refine lv_aload_n hx hb dX2_touch_5 rfl (lv_at hl 0 rfl) ?_
  refine lv_aload_n hx hb dX2_touch_6 rfl (lv_at hl 0 rfl) ?_
  refine va_get (D := (dC, dI)) (ci := 2) (v := .int (F 2)) (C := RX2) (T := TX2) (N := 16) hx hb hts inw_X2_touch_X2 hown hK hP 0 rfl rfl 2 (by decide) (hts (.fieldLink RX2 18 "DuelFrames$Figure" "meter" "I") (List.mem_of_getElem? (i := 2) rfl)) (fun _ h9 => h9) rfl dX2_touch_7 ?_
  refine lv_iload_n hx hb dX2_touch_10 rfl (lv_at hl 1 rfl) ?_
  refine lv_iadd hx hb dX2_touch_11 ?_
  refine lv_bipush (v := 100) hx hb dX2_touch_12 (by decide) ?_
  refine jnW (D := (dC, dI)) (ws := [(h0, .inr (2, figL (upd F 7 0)))]) (lv := []) (st := [.int (X2_touch_j28 F gain), .ref h0]) (J := 28) (n := 2) (A := A) (H0 := s.heap) ?_ ?_
  · intro H locs ls hP hD hS hl
    refine va_put (D := (dC, dI)) (ci := 2) (v := .int (X2_touch_j28 F gain)) (ty := .int) (C := RX2) (T := TX2) (N := 16) hx hb hts inw_X2_touch_X2 tyX2 tyX2_ok nmX2 hown hK hP hD hS 0 rfl rfl 2 (by decide) (hts (.fieldLink RX2 18 "DuelFrames$Figure" "meter" "I") (List.mem_of_getElem? (i := 2) rfl)) (fun _ h9 => h9) rfl (by decide +kernel) rfl rfl (Nat.le_of_ble_eq_true rfl) dX2_touch_28 (fun H locs hP1 hD1 hS1 => ?_)
    clear hP hD hS
    have hP : va_P (dC, dI) vwCl [(h0, .inr (2, figL (upd (upd F 7 0) 2 (X2_touch_j28 F gain))))] H := hP1
    have hD : va_D A [(h0, .inr (2, figL (upd (upd F 7 0) 2 (X2_touch_j28 F gain))))] := hD1
    have hS := hS1
    clear hP1 hD1 hS1
    have eo_3 : (X2_touch_w0 F gain) = (upd (upd F 7 0) 2 (X2_touch_j28 F gain)) := by rw [X2_touch_w0]
    have hP9 : va_P (dC, dI) vwCl [(h0, .inr (2, figL (X2_touch_w0 F gain)))] H := by simp only [eo_3]; exact hP
    have hD9 : va_D A [(h0, .inr (2, figL (X2_touch_w0 F gain)))] := by simp only [eo_3]; exact hD
    exact W.vret hx hb hr (fun t ht hW => ⟨⟨(), rfl, trivial, wPost_of hP9 hD9 ht⟩, hS.F ht⟩) hS.2.2 dX2_touch_31
  · intro jn_2
    refine lv_icmp_le (tgt := 22) hx hb dX2_touch_14 (by decide) (fun c_1 => ?_) (fun c_1 => ?_)
    · refine lv_aload_n hx hb dX2_touch_22 rfl (lv_at hl 0 rfl) ?_
      refine va_get (D := (dC, dI)) (ci := 2) (v := .int (F 2)) (C := RX2) (T := TX2) (N := 16) hx hb hts inw_X2_touch_X2 hown hK hP 0 rfl rfl 2 (by decide) (hts (.fieldLink RX2 18 "DuelFrames$Figure" "meter" "I") (List.mem_of_getElem? (i := 2) rfl)) (fun _ h9 => h9) rfl dX2_touch_23 ?_
      refine lv_iload_n hx hb dX2_touch_26 rfl (lv_at hl 1 rfl) ?_
      refine lv_iadd hx hb dX2_touch_27 ?_
      have e_4 : (X2_touch_j28 F gain) = ((F 2) + gain) := by rw [X2_touch_j28]; simp only [eq_true c_1, ↓reduceIte]
      refine W.eq (g2 := F0 m 28 ls [.int (X2_touch_j28 F gain), .ref h0]) (by simp only [e_4]) ?_
      exact jn_2 _ _ _ (by (try simp only [e_4]); exact hP) (by (try simp only [e_4]); exact hD) hS (by (try simp only [e_4]); exact (lv_sub hl [] rfl))
    · refine lv_bipush (v := 100) hx hb dX2_touch_17 (by decide) ?_
      refine lv_goto (tgt := 28) hx hb dX2_touch_19 (by decide) ?_
      have e_5 : (X2_touch_j28 F gain) = 100 := by rw [X2_touch_j28]; simp only [eq_false c_1, ↓reduceIte]
      refine W.eq (g2 := F0 m 28 ls [.int (X2_touch_j28 F gain), .ref h0]) (by simp only [e_5]) ?_
      exact jn_2 _ _ _ (by (try simp only [e_5]); exact hP) (by (try simp only [e_5]); exact hD) hS (by (try simp only [e_5]); exact (lv_sub hl [] rfl))
theorem inw_X2_tell_X2 : ∀ w ∈ u_ws RX2 TX2 16, w ∈ wsX2_tell := fun _ h => List.mem_cons_of_mem _ (List.mem_append_right _ h)
def X2_tell_r (F : Nat → Int32) (what : Int32) : Int32 := (if what = 0 then (F 0) else (if what = 1 then (F 1) else (if what = 2 then (F 2) else (if what = 3 then (F 3) else (if what = 4 then (F 5) else (if what = 5 then (if (F 3) = 1 then (F 6) else (F 8)) else (F 4)))))))
set_option maxHeartbeats 4000000 in
set_option maxRecDepth 100000 in
theorem c_X2_tell (l : Launch) (dC : Nat → ClassId) (dI : Nat → Nat → Nat) (cY : Nat → ClassId) (h0 : Nat) (F : Nat → Int32) (what : Int32)  : Met l yX2_tell wsX2_tell ({ frames := 0, cells := 0, slots := 0, locals := 0 } : Room) (va_Pc [.ref h0, .int what] (rPre (dC, dI) (tyL cY) [(h0, .inr (2, figL F))])) (vp_Si (fun r => r = (X2_tell_r F what))) 0 0 (fun _ => False) := by
  refine Met.ofW (cc := cX2_tell) (maxL := 2) (ret := (some .int)) (by decide) rfl ?_
  intro p e s m args below meth c s₁ B hml hv
  obtain ⟨rfl, hP, hK, hN⟩ := hv
  have hx := B.exec
  have hb := B.bytes
  have hr := B.returns
  have hts := atoms_spec (ws := wsX2_tell) B.pre
  have hown : s.vm.findClass RX2 = some m.cls := findClass_of_methodNamed B.named
  have hlocks := B.notSynchronized
  have hP : va_P (dC, dI) vwCl [(h0, .inr (2, figL F))] s.heap := hP
  have hl := lv_entry ([.ref h0, .int what]) (n := 2) (Nat.le_of_ble_eq_true rfl)
  rw [lg_entry_eq]
  generalize (lg_sl ([.ref h0, .int what]) ++ List.replicate (2 - (lg_sl ([.ref h0, .int what])).length) Slot.unset).toArray = ls at hl ⊢
  have hl : lv_has ls 2 [(0, .ref h0), (1, .int what)] := hl
  refine lv_iload_n hx hb dX2_tell_0 rfl (lv_at hl 1 rfl) ?_
  by_cases c_1 : what = 0
  · refine lv_tableIn (off := 39) (tgt := 40) hx hb dX2_tell_1 (by rw [c_1]; decide) (by rw [c_1]; decide) (by rw [c_1]; decide) (by decide) ?_
    refine lv_aload_n hx hb dX2_tell_40 rfl (lv_at hl 0 rfl) ?_
    refine va_get (D := (dC, dI)) (ci := 2) (v := .int (F 0)) (C := RX2) (T := TX2) (N := 16) hx hb hts inw_X2_tell_X2 hown hK hP 0 rfl rfl 0 (by decide) (hts (.fieldLink RX2 9 "DuelFrames$Figure" "place" "I") (List.mem_of_getElem? (i := 1) rfl)) (fun _ h9 => h9) rfl dX2_tell_41 ?_
    have eo_2 : (X2_tell_r F what) = (F 0) := by rw [X2_tell_r]; simp only [eq_true c_1, ↓reduceIte]
    exact W.iret (v := (F 0)) hx hb hr (fun t ht _ => ⟨_, rfl, eo_2.symm, ht⟩) (fun _ h => absurd h List.not_mem_nil) dX2_tell_44
  by_cases c_3 : what = 1
  · refine lv_tableIn (off := 44) (tgt := 45) hx hb dX2_tell_1 (by rw [c_3]; decide) (by rw [c_3]; decide) (by rw [c_3]; decide) (by decide) ?_
    refine lv_aload_n hx hb dX2_tell_45 rfl (lv_at hl 0 rfl) ?_
    refine va_get (D := (dC, dI)) (ci := 2) (v := .int (F 1)) (C := RX2) (T := TX2) (N := 16) hx hb hts inw_X2_tell_X2 hown hK hP 0 rfl rfl 1 (by decide) (hts (.fieldLink RX2 15 "DuelFrames$Figure" "life" "I") (List.mem_of_getElem? (i := 2) rfl)) (fun _ h9 => h9) rfl dX2_tell_46 ?_
    have eo_4 : (X2_tell_r F what) = (F 1) := by rw [X2_tell_r]; simp only [eq_false c_1, eq_true c_3, ↓reduceIte]
    exact W.iret (v := (F 1)) hx hb hr (fun t ht _ => ⟨_, rfl, eo_4.symm, ht⟩) (fun _ h => absurd h List.not_mem_nil) dX2_tell_49
  by_cases c_5 : what = 2
  · refine lv_tableIn (off := 49) (tgt := 50) hx hb dX2_tell_1 (by rw [c_5]; decide) (by rw [c_5]; decide) (by rw [c_5]; decide) (by decide) ?_
    refine lv_aload_n hx hb dX2_tell_50 rfl (lv_at hl 0 rfl) ?_
    refine va_get (D := (dC, dI)) (ci := 2) (v := .int (F 2)) (C := RX2) (T := TX2) (N := 16) hx hb hts inw_X2_tell_X2 hown hK hP 0 rfl rfl 2 (by decide) (hts (.fieldLink RX2 18 "DuelFrames$Figure" "meter" "I") (List.mem_of_getElem? (i := 3) rfl)) (fun _ h9 => h9) rfl dX2_tell_51 ?_
    have eo_6 : (X2_tell_r F what) = (F 2) := by rw [X2_tell_r]; simp only [eq_false c_1, eq_false c_3, eq_true c_5, ↓reduceIte]
    exact W.iret (v := (F 2)) hx hb hr (fun t ht _ => ⟨_, rfl, eo_6.symm, ht⟩) (fun _ h => absurd h List.not_mem_nil) dX2_tell_54
  by_cases c_7 : what = 3
  · refine lv_tableIn (off := 54) (tgt := 55) hx hb dX2_tell_1 (by rw [c_7]; decide) (by rw [c_7]; decide) (by rw [c_7]; decide) (by decide) ?_
    refine lv_aload_n hx hb dX2_tell_55 rfl (lv_at hl 0 rfl) ?_
    refine va_get (D := (dC, dI)) (ci := 2) (v := .int (F 3)) (C := RX2) (T := TX2) (N := 16) hx hb hts inw_X2_tell_X2 hown hK hP 0 rfl rfl 3 (by decide) (hts (.fieldLink RX2 21 "DuelFrames$Figure" "does" "I") (List.mem_of_getElem? (i := 4) rfl)) (fun _ h9 => h9) rfl dX2_tell_56 ?_
    have eo_8 : (X2_tell_r F what) = (F 3) := by rw [X2_tell_r]; simp only [eq_false c_1, eq_false c_3, eq_false c_5, eq_true c_7, ↓reduceIte]
    exact W.iret (v := (F 3)) hx hb hr (fun t ht _ => ⟨_, rfl, eo_8.symm, ht⟩) (fun _ h => absurd h List.not_mem_nil) dX2_tell_59
  by_cases c_9 : what = 4
  · refine lv_tableIn (off := 59) (tgt := 60) hx hb dX2_tell_1 (by rw [c_9]; decide) (by rw [c_9]; decide) (by rw [c_9]; decide) (by decide) ?_
    refine lv_aload_n hx hb dX2_tell_60 rfl (lv_at hl 0 rfl) ?_
    refine va_get (D := (dC, dI)) (ci := 2) (v := .int (F 5)) (C := RX2) (T := TX2) (N := 16) hx hb hts inw_X2_tell_X2 hown hK hP 0 rfl rfl 5 (by decide) (hts (.fieldLink RX2 27 "DuelFrames$Figure" "move" "I") (List.mem_of_getElem? (i := 5) rfl)) (fun _ h9 => h9) rfl dX2_tell_61 ?_
    have eo_10 : (X2_tell_r F what) = (F 5) := by rw [X2_tell_r]; simp only [eq_false c_1, eq_false c_3, eq_false c_5, eq_false c_7, eq_true c_9, ↓reduceIte]
    exact W.iret (v := (F 5)) hx hb hr (fun t ht _ => ⟨_, rfl, eo_10.symm, ht⟩) (fun _ h => absurd h List.not_mem_nil) dX2_tell_64
  by_cases c_11 : what = 5
  · refine lv_tableIn (off := 64) (tgt := 65) hx hb dX2_tell_1 (by rw [c_11]; decide) (by rw [c_11]; decide) (by rw [c_11]; decide) (by decide) ?_
    refine lv_aload_n hx hb dX2_tell_65 rfl (lv_at hl 0 rfl) ?_
    refine va_get (D := (dC, dI)) (ci := 2) (v := .int (F 3)) (C := RX2) (T := TX2) (N := 16) hx hb hts inw_X2_tell_X2 hown hK hP 0 rfl rfl 3 (by decide) (hts (.fieldLink RX2 21 "DuelFrames$Figure" "does" "I") (List.mem_of_getElem? (i := 4) rfl)) (fun _ h9 => h9) rfl dX2_tell_66 ?_
    refine lv_iconst (v := 1) hx hb dX2_tell_69 (by decide) ?_
    refine lv_icmp_ne (tgt := 80) hx hb dX2_tell_70 (by decide) (fun c_12 => ?_) (fun c_12 => ?_)
    · refine lv_aload_n hx hb dX2_tell_80 rfl (lv_at hl 0 rfl) ?_
      refine va_get (D := (dC, dI)) (ci := 2) (v := .int (F 8)) (C := RX2) (T := TX2) (N := 16) hx hb hts inw_X2_tell_X2 hown hK hP 0 rfl rfl 8 (by decide) (hts (.fieldLink RX2 36 "DuelFrames$Figure" "stun" "I") (List.mem_of_getElem? (i := 7) rfl)) (fun _ h9 => h9) rfl dX2_tell_81 ?_
      have eo_13 : (X2_tell_r F what) = (F 8) := by rw [X2_tell_r]; simp only [eq_false c_1, eq_false c_3, eq_false c_5, eq_false c_7, eq_false c_9, eq_true c_11, eq_false c_12, ↓reduceIte]
      exact W.iret (v := (F 8)) hx hb hr (fun t ht _ => ⟨_, rfl, eo_13.symm, ht⟩) (fun _ h => absurd h List.not_mem_nil) dX2_tell_84
    · refine lv_aload_n hx hb dX2_tell_73 rfl (lv_at hl 0 rfl) ?_
      refine va_get (D := (dC, dI)) (ci := 2) (v := .int (F 6)) (C := RX2) (T := TX2) (N := 16) hx hb hts inw_X2_tell_X2 hown hK hP 0 rfl rfl 6 (by decide) (hts (.fieldLink RX2 30 "DuelFrames$Figure" "frame" "I") (List.mem_of_getElem? (i := 6) rfl)) (fun _ h9 => h9) rfl dX2_tell_74 ?_
      refine lv_goto (tgt := 84) hx hb dX2_tell_77 (by decide) ?_
      have eo_14 : (X2_tell_r F what) = (F 6) := by rw [X2_tell_r]; simp only [eq_false c_1, eq_false c_3, eq_false c_5, eq_false c_7, eq_false c_9, eq_true c_11, eq_true c_12, ↓reduceIte]
      exact W.iret (v := (F 6)) hx hb hr (fun t ht _ => ⟨_, rfl, eo_14.symm, ht⟩) (fun _ h => absurd h List.not_mem_nil) dX2_tell_84
  refine lv_tableOut (tgt := 85) hx hb dX2_tell_1 (sw_out c_1 c_3 c_5 c_7 c_9 c_11) (by decide) ?_
  refine lv_aload_n hx hb dX2_tell_85 rfl (lv_at hl 0 rfl) ?_
  refine va_get (D := (dC, dI)) (ci := 2) (v := .int (F 4)) (C := RX2) (T := TX2) (N := 16) hx hb hts inw_X2_tell_X2 hown hK hP 0 rfl rfl 4 (by decide) (hts (.fieldLink RX2 24 "DuelFrames$Figure" "count" "I") (List.mem_of_getElem? (i := 8) rfl)) (fun _ h9 => h9) rfl dX2_tell_86 ?_
  have eo_15 : (X2_tell_r F what) = (F 4) := by rw [X2_tell_r]; simp only [eq_false c_1, eq_false c_3, eq_false c_5, eq_false c_7, eq_false c_9, eq_false c_11, ↓reduceIte]
  exact W.iret (v := (F 4)) hx hb hr (fun t ht _ => ⟨_, rfl, eo_15.symm, ht⟩) (fun _ h => absurd h List.not_mem_nil) dX2_tell_89
theorem inw_X2_copy_X2 : ∀ w ∈ u_ws RX2 TX2 16, w ∈ wsX2_copy := fun _ h => List.mem_cons_of_mem _ (List.mem_append_right _ h)
def X2_copy_w0 (F : Nat → Int32) (G : Nat → Int32) : Nat → Int32 := (upd (upd (upd (upd (upd (upd (upd (upd (upd (upd (upd F 0 (G 0)) 1 (G 1)) 2 (G 2)) 3 (G 3)) 4 (G 4)) 5 (G 5)) 6 (G 6)) 7 (G 7)) 8 (G 8)) 9 (G 9)) 10 (G 10))
set_option maxHeartbeats 4000000 in
set_option maxRecDepth 100000 in
theorem c_X2_copy (l : Launch) (dC : Nat → ClassId) (dI : Nat → Nat → Nat) (cY : Nat → ClassId) (h0 : Nat) (h1 : Nat) (F : Nat → Int32) (G : Nat → Int32)  (sz : Nat) : Met l yX2_copy wsX2_copy ({ frames := 0, cells := 0, slots := 0, locals := 0 } : Room) (va_Pc [.ref h0, .ref h1] (wPre (dC, dI) (tyL cY) [(h0, .inr (2, figL F)), (h1, .inr (2, figL G))] sz)) (va_Qv (fun _ : Unit => True) (wPost (dC, dI) [(h0, .inr (2, figL (X2_copy_w0 F G))), (h1, .inr (2, figL G))] (va_A [(h0, .inr (2, figL F)), (h1, .inr (2, figL G))] sz)) (va_A [(h0, .inr (2, figL F)), (h1, .inr (2, figL G))] sz)) 0 0 (va_A [(h0, .inr (2, figL F)), (h1, .inr (2, figL G))] sz) := by
  refine Met.ofW (cc := cX2_copy) (maxL := 2) (ret := none) (by decide) rfl ?_
  intro p e s m args below meth c s₁ B hml hv
  obtain ⟨rfl, hsz, hP, hK, hN, hD0⟩ := hv
  have hx := B.exec
  have hb := B.bytes
  have hr := B.returns
  have hts := atoms_spec (ws := wsX2_copy) B.pre
  have hown : s.vm.findClass RX2 = some m.cls := findClass_of_methodNamed B.named
  have hlocks := B.notSynchronized
  subst hsz
  have hD := hD0.self (sz := s.heap.size)
  generalize hAe : va_A [(h0, .inr (2, figL F)), (h1, .inr (2, figL G))] s.heap.size = A at hD ⊢
  have hA : ∀ q : Nat, s.heap.size ≤ q → A q := fun q h => by rw [← hAe]; exact Or.inr h
  have hS : va_S A s.heap s.heap [] := va_S.rf
  have hP : va_P (dC, dI) vwCl [(h0, .inr (2, figL F)), (h1, .inr (2, figL G))] s.heap := hP
  have hl := lv_entry ([.ref h0, .ref h1]) (n := 2) (Nat.le_of_ble_eq_true rfl)
  rw [lg_entry_eq]
  generalize (lg_sl ([.ref h0, .ref h1]) ++ List.replicate (2 - (lg_sl ([.ref h0, .ref h1])).length) Slot.unset).toArray = ls at hl ⊢
  have hl : lv_has ls 2 [(0, .ref h0), (1, .ref h1)] := hl
  refine lv_aload_n hx hb dX2_copy_0 rfl (lv_at hl 0 rfl) ?_
  refine lv_aload_n hx hb dX2_copy_1 rfl (lv_at hl 1 rfl) ?_
  refine va_get (D := (dC, dI)) (ci := 2) (v := .int (G 0)) (C := RX2) (T := TX2) (N := 16) hx hb hts inw_X2_copy_X2 hown hK hP 1 rfl rfl 0 (by decide) (hts (.fieldLink RX2 9 "DuelFrames$Figure" "place" "I") (List.mem_of_getElem? (i := 1) rfl)) (fun _ h9 => h9) rfl dX2_copy_2 ?_
  refine va_put (D := (dC, dI)) (ci := 2) (v := .int (G 0)) (ty := .int) (C := RX2) (T := TX2) (N := 16) hx hb hts inw_X2_copy_X2 tyX2 tyX2_ok nmX2 hown hK hP hD hS 0 rfl rfl 0 (by decide) (hts (.fieldLink RX2 9 "DuelFrames$Figure" "place" "I") (List.mem_of_getElem? (i := 1) rfl)) (fun _ h9 => h9) rfl (by decide +kernel) rfl rfl (Nat.le_of_ble_eq_true rfl) dX2_copy_5 (fun H locs hP1 hD1 hS1 => ?_)
  clear hP hD hS
  have hP : va_P (dC, dI) vwCl [(h0, .inr (2, figL (upd F 0 (G 0)))), (h1, .inr (2, figL G))] H := hP1
  have hD : va_D A [(h0, .inr (2, figL (upd F 0 (G 0)))), (h1, .inr (2, figL G))] := hD1
  have hS := hS1
  clear hP1 hD1 hS1
  refine lv_aload_n hx hb dX2_copy_8 rfl (lv_at hl 0 rfl) ?_
  refine lv_aload_n hx hb dX2_copy_9 rfl (lv_at hl 1 rfl) ?_
  refine va_get (D := (dC, dI)) (ci := 2) (v := .int (G 1)) (C := RX2) (T := TX2) (N := 16) hx hb hts inw_X2_copy_X2 hown hK hP 1 rfl rfl 1 (by decide) (hts (.fieldLink RX2 15 "DuelFrames$Figure" "life" "I") (List.mem_of_getElem? (i := 2) rfl)) (fun _ h9 => h9) rfl dX2_copy_10 ?_
  refine va_put (D := (dC, dI)) (ci := 2) (v := .int (G 1)) (ty := .int) (C := RX2) (T := TX2) (N := 16) hx hb hts inw_X2_copy_X2 tyX2 tyX2_ok nmX2 hown hK hP hD hS 0 rfl rfl 1 (by decide) (hts (.fieldLink RX2 15 "DuelFrames$Figure" "life" "I") (List.mem_of_getElem? (i := 2) rfl)) (fun _ h9 => h9) rfl (by decide +kernel) rfl rfl (Nat.le_of_ble_eq_true rfl) dX2_copy_13 (fun H locs hP1 hD1 hS1 => ?_)
  clear hP hD hS
  have hP : va_P (dC, dI) vwCl [(h0, .inr (2, figL (upd (upd F 0 (G 0)) 1 (G 1)))), (h1, .inr (2, figL G))] H := hP1
  have hD : va_D A [(h0, .inr (2, figL (upd (upd F 0 (G 0)) 1 (G 1)))), (h1, .inr (2, figL G))] := hD1
  have hS := hS1
  clear hP1 hD1 hS1
  refine lv_aload_n hx hb dX2_copy_16 rfl (lv_at hl 0 rfl) ?_
  refine lv_aload_n hx hb dX2_copy_17 rfl (lv_at hl 1 rfl) ?_
  refine va_get (D := (dC, dI)) (ci := 2) (v := .int (G 2)) (C := RX2) (T := TX2) (N := 16) hx hb hts inw_X2_copy_X2 hown hK hP 1 rfl rfl 2 (by decide) (hts (.fieldLink RX2 18 "DuelFrames$Figure" "meter" "I") (List.mem_of_getElem? (i := 3) rfl)) (fun _ h9 => h9) rfl dX2_copy_18 ?_
  refine va_put (D := (dC, dI)) (ci := 2) (v := .int (G 2)) (ty := .int) (C := RX2) (T := TX2) (N := 16) hx hb hts inw_X2_copy_X2 tyX2 tyX2_ok nmX2 hown hK hP hD hS 0 rfl rfl 2 (by decide) (hts (.fieldLink RX2 18 "DuelFrames$Figure" "meter" "I") (List.mem_of_getElem? (i := 3) rfl)) (fun _ h9 => h9) rfl (by decide +kernel) rfl rfl (Nat.le_of_ble_eq_true rfl) dX2_copy_21 (fun H locs hP1 hD1 hS1 => ?_)
  clear hP hD hS
  have hP : va_P (dC, dI) vwCl [(h0, .inr (2, figL (upd (upd (upd F 0 (G 0)) 1 (G 1)) 2 (G 2)))), (h1, .inr (2, figL G))] H := hP1
  have hD : va_D A [(h0, .inr (2, figL (upd (upd (upd F 0 (G 0)) 1 (G 1)) 2 (G 2)))), (h1, .inr (2, figL G))] := hD1
  have hS := hS1
  clear hP1 hD1 hS1
  refine lv_aload_n hx hb dX2_copy_24 rfl (lv_at hl 0 rfl) ?_
  refine lv_aload_n hx hb dX2_copy_25 rfl (lv_at hl 1 rfl) ?_
  refine va_get (D := (dC, dI)) (ci := 2) (v := .int (G 3)) (C := RX2) (T := TX2) (N := 16) hx hb hts inw_X2_copy_X2 hown hK hP 1 rfl rfl 3 (by decide) (hts (.fieldLink RX2 21 "DuelFrames$Figure" "does" "I") (List.mem_of_getElem? (i := 4) rfl)) (fun _ h9 => h9) rfl dX2_copy_26 ?_
  refine va_put (D := (dC, dI)) (ci := 2) (v := .int (G 3)) (ty := .int) (C := RX2) (T := TX2) (N := 16) hx hb hts inw_X2_copy_X2 tyX2 tyX2_ok nmX2 hown hK hP hD hS 0 rfl rfl 3 (by decide) (hts (.fieldLink RX2 21 "DuelFrames$Figure" "does" "I") (List.mem_of_getElem? (i := 4) rfl)) (fun _ h9 => h9) rfl (by decide +kernel) rfl rfl (Nat.le_of_ble_eq_true rfl) dX2_copy_29 (fun H locs hP1 hD1 hS1 => ?_)
  clear hP hD hS
  have hP : va_P (dC, dI) vwCl [(h0, .inr (2, figL (upd (upd (upd (upd F 0 (G 0)) 1 (G 1)) 2 (G 2)) 3 (G 3)))), (h1, .inr (2, figL G))] H := hP1
  have hD : va_D A [(h0, .inr (2, figL (upd (upd (upd (upd F 0 (G 0)) 1 (G 1)) 2 (G 2)) 3 (G 3)))), (h1, .inr (2, figL G))] := hD1
  have hS := hS1
  clear hP1 hD1 hS1
  refine lv_aload_n hx hb dX2_copy_32 rfl (lv_at hl 0 rfl) ?_
  refine lv_aload_n hx hb dX2_copy_33 rfl (lv_at hl 1 rfl) ?_
  refine va_get (D := (dC, dI)) (ci := 2) (v := .int (G 4)) (C := RX2) (T := TX2) (N := 16) hx hb hts inw_X2_copy_X2 hown hK hP 1 rfl rfl 4 (by decide) (hts (.fieldLink RX2 24 "DuelFrames$Figure" "count" "I") (List.mem_of_getElem? (i := 5) rfl)) (fun _ h9 => h9) rfl dX2_copy_34 ?_
  refine va_put (D := (dC, dI)) (ci := 2) (v := .int (G 4)) (ty := .int) (C := RX2) (T := TX2) (N := 16) hx hb hts inw_X2_copy_X2 tyX2 tyX2_ok nmX2 hown hK hP hD hS 0 rfl rfl 4 (by decide) (hts (.fieldLink RX2 24 "DuelFrames$Figure" "count" "I") (List.mem_of_getElem? (i := 5) rfl)) (fun _ h9 => h9) rfl (by decide +kernel) rfl rfl (Nat.le_of_ble_eq_true rfl) dX2_copy_37 (fun H locs hP1 hD1 hS1 => ?_)
  clear hP hD hS
  have hP : va_P (dC, dI) vwCl [(h0, .inr (2, figL (upd (upd (upd (upd (upd F 0 (G 0)) 1 (G 1)) 2 (G 2)) 3 (G 3)) 4 (G 4)))), (h1, .inr (2, figL G))] H := hP1
  have hD : va_D A [(h0, .inr (2, figL (upd (upd (upd (upd (upd F 0 (G 0)) 1 (G 1)) 2 (G 2)) 3 (G 3)) 4 (G 4)))), (h1, .inr (2, figL G))] := hD1
  have hS := hS1
  clear hP1 hD1 hS1
  refine lv_aload_n hx hb dX2_copy_40 rfl (lv_at hl 0 rfl) ?_
  refine lv_aload_n hx hb dX2_copy_41 rfl (lv_at hl 1 rfl) ?_
  refine va_get (D := (dC, dI)) (ci := 2) (v := .int (G 5)) (C := RX2) (T := TX2) (N := 16) hx hb hts inw_X2_copy_X2 hown hK hP 1 rfl rfl 5 (by decide) (hts (.fieldLink RX2 27 "DuelFrames$Figure" "move" "I") (List.mem_of_getElem? (i := 6) rfl)) (fun _ h9 => h9) rfl dX2_copy_42 ?_
  refine va_put (D := (dC, dI)) (ci := 2) (v := .int (G 5)) (ty := .int) (C := RX2) (T := TX2) (N := 16) hx hb hts inw_X2_copy_X2 tyX2 tyX2_ok nmX2 hown hK hP hD hS 0 rfl rfl 5 (by decide) (hts (.fieldLink RX2 27 "DuelFrames$Figure" "move" "I") (List.mem_of_getElem? (i := 6) rfl)) (fun _ h9 => h9) rfl (by decide +kernel) rfl rfl (Nat.le_of_ble_eq_true rfl) dX2_copy_45 (fun H locs hP1 hD1 hS1 => ?_)
  clear hP hD hS
  have hP : va_P (dC, dI) vwCl [(h0, .inr (2, figL (upd (upd (upd (upd (upd (upd F 0 (G 0)) 1 (G 1)) 2 (G 2)) 3 (G 3)) 4 (G 4)) 5 (G 5)))), (h1, .inr (2, figL G))] H := hP1
  have hD : va_D A [(h0, .inr (2, figL (upd (upd (upd (upd (upd (upd F 0 (G 0)) 1 (G 1)) 2 (G 2)) 3 (G 3)) 4 (G 4)) 5 (G 5)))), (h1, .inr (2, figL G))] := hD1
  have hS := hS1
  clear hP1 hD1 hS1
  refine lv_aload_n hx hb dX2_copy_48 rfl (lv_at hl 0 rfl) ?_
  refine lv_aload_n hx hb dX2_copy_49 rfl (lv_at hl 1 rfl) ?_
  refine va_get (D := (dC, dI)) (ci := 2) (v := .int (G 6)) (C := RX2) (T := TX2) (N := 16) hx hb hts inw_X2_copy_X2 hown hK hP 1 rfl rfl 6 (by decide) (hts (.fieldLink RX2 30 "DuelFrames$Figure" "frame" "I") (List.mem_of_getElem? (i := 7) rfl)) (fun _ h9 => h9) rfl dX2_copy_50 ?_
  refine va_put (D := (dC, dI)) (ci := 2) (v := .int (G 6)) (ty := .int) (C := RX2) (T := TX2) (N := 16) hx hb hts inw_X2_copy_X2 tyX2 tyX2_ok nmX2 hown hK hP hD hS 0 rfl rfl 6 (by decide) (hts (.fieldLink RX2 30 "DuelFrames$Figure" "frame" "I") (List.mem_of_getElem? (i := 7) rfl)) (fun _ h9 => h9) rfl (by decide +kernel) rfl rfl (Nat.le_of_ble_eq_true rfl) dX2_copy_53 (fun H locs hP1 hD1 hS1 => ?_)
  clear hP hD hS
  have hP : va_P (dC, dI) vwCl [(h0, .inr (2, figL (upd (upd (upd (upd (upd (upd (upd F 0 (G 0)) 1 (G 1)) 2 (G 2)) 3 (G 3)) 4 (G 4)) 5 (G 5)) 6 (G 6)))), (h1, .inr (2, figL G))] H := hP1
  have hD : va_D A [(h0, .inr (2, figL (upd (upd (upd (upd (upd (upd (upd F 0 (G 0)) 1 (G 1)) 2 (G 2)) 3 (G 3)) 4 (G 4)) 5 (G 5)) 6 (G 6)))), (h1, .inr (2, figL G))] := hD1
  have hS := hS1
  clear hP1 hD1 hS1
  refine lv_aload_n hx hb dX2_copy_56 rfl (lv_at hl 0 rfl) ?_
  refine lv_aload_n hx hb dX2_copy_57 rfl (lv_at hl 1 rfl) ?_
  refine va_get (D := (dC, dI)) (ci := 2) (v := .int (G 7)) (C := RX2) (T := TX2) (N := 16) hx hb hts inw_X2_copy_X2 hown hK hP 1 rfl rfl 7 (by decide) (hts (.fieldLink RX2 33 "DuelFrames$Figure" "touchedAgo" "I") (List.mem_of_getElem? (i := 8) rfl)) (fun _ h9 => h9) rfl dX2_copy_58 ?_
  refine va_put (D := (dC, dI)) (ci := 2) (v := .int (G 7)) (ty := .int) (C := RX2) (T := TX2) (N := 16) hx hb hts inw_X2_copy_X2 tyX2 tyX2_ok nmX2 hown hK hP hD hS 0 rfl rfl 7 (by decide) (hts (.fieldLink RX2 33 "DuelFrames$Figure" "touchedAgo" "I") (List.mem_of_getElem? (i := 8) rfl)) (fun _ h9 => h9) rfl (by decide +kernel) rfl rfl (Nat.le_of_ble_eq_true rfl) dX2_copy_61 (fun H locs hP1 hD1 hS1 => ?_)
  clear hP hD hS
  have hP : va_P (dC, dI) vwCl [(h0, .inr (2, figL (upd (upd (upd (upd (upd (upd (upd (upd F 0 (G 0)) 1 (G 1)) 2 (G 2)) 3 (G 3)) 4 (G 4)) 5 (G 5)) 6 (G 6)) 7 (G 7)))), (h1, .inr (2, figL G))] H := hP1
  have hD : va_D A [(h0, .inr (2, figL (upd (upd (upd (upd (upd (upd (upd (upd F 0 (G 0)) 1 (G 1)) 2 (G 2)) 3 (G 3)) 4 (G 4)) 5 (G 5)) 6 (G 6)) 7 (G 7)))), (h1, .inr (2, figL G))] := hD1
  have hS := hS1
  clear hP1 hD1 hS1
  refine lv_aload_n hx hb dX2_copy_64 rfl (lv_at hl 0 rfl) ?_
  refine lv_aload_n hx hb dX2_copy_65 rfl (lv_at hl 1 rfl) ?_
  refine va_get (D := (dC, dI)) (ci := 2) (v := .int (G 8)) (C := RX2) (T := TX2) (N := 16) hx hb hts inw_X2_copy_X2 hown hK hP 1 rfl rfl 8 (by decide) (hts (.fieldLink RX2 36 "DuelFrames$Figure" "stun" "I") (List.mem_of_getElem? (i := 9) rfl)) (fun _ h9 => h9) rfl dX2_copy_66 ?_
  refine va_put (D := (dC, dI)) (ci := 2) (v := .int (G 8)) (ty := .int) (C := RX2) (T := TX2) (N := 16) hx hb hts inw_X2_copy_X2 tyX2 tyX2_ok nmX2 hown hK hP hD hS 0 rfl rfl 8 (by decide) (hts (.fieldLink RX2 36 "DuelFrames$Figure" "stun" "I") (List.mem_of_getElem? (i := 9) rfl)) (fun _ h9 => h9) rfl (by decide +kernel) rfl rfl (Nat.le_of_ble_eq_true rfl) dX2_copy_69 (fun H locs hP1 hD1 hS1 => ?_)
  clear hP hD hS
  have hP : va_P (dC, dI) vwCl [(h0, .inr (2, figL (upd (upd (upd (upd (upd (upd (upd (upd (upd F 0 (G 0)) 1 (G 1)) 2 (G 2)) 3 (G 3)) 4 (G 4)) 5 (G 5)) 6 (G 6)) 7 (G 7)) 8 (G 8)))), (h1, .inr (2, figL G))] H := hP1
  have hD : va_D A [(h0, .inr (2, figL (upd (upd (upd (upd (upd (upd (upd (upd (upd F 0 (G 0)) 1 (G 1)) 2 (G 2)) 3 (G 3)) 4 (G 4)) 5 (G 5)) 6 (G 6)) 7 (G 7)) 8 (G 8)))), (h1, .inr (2, figL G))] := hD1
  have hS := hS1
  clear hP1 hD1 hS1
  refine lv_aload_n hx hb dX2_copy_72 rfl (lv_at hl 0 rfl) ?_
  refine lv_aload_n hx hb dX2_copy_73 rfl (lv_at hl 1 rfl) ?_
  refine va_get (D := (dC, dI)) (ci := 2) (v := .int (G 9)) (C := RX2) (T := TX2) (N := 16) hx hb hts inw_X2_copy_X2 hown hK hP 1 rfl rfl 9 (by decide) (hts (.fieldLink RX2 39 "DuelFrames$Figure" "kept" "I") (List.mem_of_getElem? (i := 10) rfl)) (fun _ h9 => h9) rfl dX2_copy_74 ?_
  refine va_put (D := (dC, dI)) (ci := 2) (v := .int (G 9)) (ty := .int) (C := RX2) (T := TX2) (N := 16) hx hb hts inw_X2_copy_X2 tyX2 tyX2_ok nmX2 hown hK hP hD hS 0 rfl rfl 9 (by decide) (hts (.fieldLink RX2 39 "DuelFrames$Figure" "kept" "I") (List.mem_of_getElem? (i := 10) rfl)) (fun _ h9 => h9) rfl (by decide +kernel) rfl rfl (Nat.le_of_ble_eq_true rfl) dX2_copy_77 (fun H locs hP1 hD1 hS1 => ?_)
  clear hP hD hS
  have hP : va_P (dC, dI) vwCl [(h0, .inr (2, figL (upd (upd (upd (upd (upd (upd (upd (upd (upd (upd F 0 (G 0)) 1 (G 1)) 2 (G 2)) 3 (G 3)) 4 (G 4)) 5 (G 5)) 6 (G 6)) 7 (G 7)) 8 (G 8)) 9 (G 9)))), (h1, .inr (2, figL G))] H := hP1
  have hD : va_D A [(h0, .inr (2, figL (upd (upd (upd (upd (upd (upd (upd (upd (upd (upd F 0 (G 0)) 1 (G 1)) 2 (G 2)) 3 (G 3)) 4 (G 4)) 5 (G 5)) 6 (G 6)) 7 (G 7)) 8 (G 8)) 9 (G 9)))), (h1, .inr (2, figL G))] := hD1
  have hS := hS1
  clear hP1 hD1 hS1
  refine lv_aload_n hx hb dX2_copy_80 rfl (lv_at hl 0 rfl) ?_
  refine lv_aload_n hx hb dX2_copy_81 rfl (lv_at hl 1 rfl) ?_
  refine va_get (D := (dC, dI)) (ci := 2) (v := .int (G 10)) (C := RX2) (T := TX2) (N := 16) hx hb hts inw_X2_copy_X2 hown hK hP 1 rfl rfl 10 (by decide) (hts (.fieldLink RX2 42 "DuelFrames$Figure" "keptFor" "I") (List.mem_of_getElem? (i := 11) rfl)) (fun _ h9 => h9) rfl dX2_copy_82 ?_
  refine va_put (D := (dC, dI)) (ci := 2) (v := .int (G 10)) (ty := .int) (C := RX2) (T := TX2) (N := 16) hx hb hts inw_X2_copy_X2 tyX2 tyX2_ok nmX2 hown hK hP hD hS 0 rfl rfl 10 (by decide) (hts (.fieldLink RX2 42 "DuelFrames$Figure" "keptFor" "I") (List.mem_of_getElem? (i := 11) rfl)) (fun _ h9 => h9) rfl (by decide +kernel) rfl rfl (Nat.le_of_ble_eq_true rfl) dX2_copy_85 (fun H locs hP1 hD1 hS1 => ?_)
  clear hP hD hS
  have hP : va_P (dC, dI) vwCl [(h0, .inr (2, figL (upd (upd (upd (upd (upd (upd (upd (upd (upd (upd (upd F 0 (G 0)) 1 (G 1)) 2 (G 2)) 3 (G 3)) 4 (G 4)) 5 (G 5)) 6 (G 6)) 7 (G 7)) 8 (G 8)) 9 (G 9)) 10 (G 10)))), (h1, .inr (2, figL G))] H := hP1
  have hD : va_D A [(h0, .inr (2, figL (upd (upd (upd (upd (upd (upd (upd (upd (upd (upd (upd F 0 (G 0)) 1 (G 1)) 2 (G 2)) 3 (G 3)) 4 (G 4)) 5 (G 5)) 6 (G 6)) 7 (G 7)) 8 (G 8)) 9 (G 9)) 10 (G 10)))), (h1, .inr (2, figL G))] := hD1
  have hS := hS1
  clear hP1 hD1 hS1
  have eo_1 : (X2_copy_w0 F G) = (upd (upd (upd (upd (upd (upd (upd (upd (upd (upd (upd F 0 (G 0)) 1 (G 1)) 2 (G 2)) 3 (G 3)) 4 (G 4)) 5 (G 5)) 6 (G 6)) 7 (G 7)) 8 (G 8)) 9 (G 9)) 10 (G 10)) := by rw [X2_copy_w0]
  have hP9 : va_P (dC, dI) vwCl [(h0, .inr (2, figL (X2_copy_w0 F G))), (h1, .inr (2, figL G))] H := by simp only [eo_1]; exact hP
  have hD9 : va_D A [(h0, .inr (2, figL (X2_copy_w0 F G))), (h1, .inr (2, figL G))] := by simp only [eo_1]; exact hD
  exact W.vret hx hb hr (fun t ht hW => ⟨⟨(), rfl, trivial, wPost_of hP9 hD9 ht⟩, hS.F ht⟩) hS.2.2 dX2_copy_88
theorem inw_X2_blocks_X2 : ∀ w ∈ u_ws RX2 TX2 16, w ∈ wsX2_blocks := fun _ h => List.mem_cons_of_mem _ (List.mem_append_left _ (List.mem_append_right _ h))
def X2_blocks_r (F : Nat → Int32) (mv : Nat → Int32) : Int32 := (if (F 13) = 0 then (if (X4_isBlockedWith_r mv (F 11)) = 0 then 0 else 1) else (if (F 13) = 3 then (if (X4_isBlockedWith_r mv (F 11)) = 0 then 0 else 1) else 0))
set_option maxHeartbeats 4000000 in
set_option maxRecDepth 100000 in
theorem c_X2_blocks (l : Launch) (dC : Nat → ClassId) (dI : Nat → Nat → Nat) (cY : Nat → ClassId) (f0 : Nat) (F : Nat → Int32) (h0 : Nat) (ht : Nat) (hi : Nat) (mv : Nat → Int32)  : Met l yX2_blocks wsX2_blocks ({ frames := 1, cells := 0, slots := 0, locals := 23 } : Room) (va_Pc [.ref f0, .ref h0] (rPre (dC, dI) (tyL cY) [(f0, .inr (2, figL F)), (h0, .inr (4, [.int (mv 0), .int (mv 1), .int (mv 2), .int (mv 3), .int (mv 4), .int (mv 5), .ref ht, .ref hi])), (ht, .inl (cY 0, 5, .inl (fun k => mv (6 + k)))), (hi, .inl (cY 1, 6, .inl (fun k => mv (11 + k))))])) (vp_Si (fun r => r = (X2_blocks_r F mv) ∧ (r = 0 ∨ r = 1))) 0 0 (fun _ => False) := by
  refine Met.ofW (cc := cX2_blocks) (maxL := 2) (ret := (some .boolean)) (by decide) rfl ?_
  intro p e s m args below meth c s₁ B hml hv
  obtain ⟨rfl, hP, hK, hN⟩ := hv
  have hx := B.exec
  have hb := B.bytes
  have hr := B.returns
  have hts := atoms_spec (ws := wsX2_blocks) B.pre
  have hown : s.vm.findClass RX2 = some m.cls := findClass_of_methodNamed B.named
  have hlocks := B.notSynchronized
  have hP : va_P (dC, dI) vwCl [(f0, .inr (2, figL F)), (h0, .inr (4, [.int (mv 0), .int (mv 1), .int (mv 2), .int (mv 3), .int (mv 4), .int (mv 5), .ref ht, .ref hi])), (ht, .inl (cY 0, 5, .inl (fun k => mv (6 + k)))), (hi, .inl (cY 1, 6, .inl (fun k => mv (11 + k))))] s.heap := hP
  have hl := lv_entry ([.ref f0, .ref h0]) (n := 2) (Nat.le_of_ble_eq_true rfl)
  rw [lg_entry_eq]
  generalize (lg_sl ([.ref f0, .ref h0]) ++ List.replicate (2 - (lg_sl ([.ref f0, .ref h0])).length) Slot.unset).toArray = ls at hl ⊢
  have hl : lv_has ls 2 [(0, .ref f0), (1, .ref h0)] := hl
  refine lv_aload_n hx hb dX2_blocks_0 rfl (lv_at hl 0 rfl) ?_
  refine va_get (D := (dC, dI)) (ci := 2) (v := .int (F 13)) (C := RX2) (T := TX2) (N := 16) hx hb hts inw_X2_blocks_X2 hown hK hP 0 rfl rfl 13 (by decide) (hts (.fieldLink RX2 52 "DuelFrames$Figure" "did" "I") (List.mem_of_getElem? (i := 1) rfl)) (fun _ h9 => h9) rfl dX2_blocks_1 ?_
  refine lv_if_eq (tgt := 15) hx hb dX2_blocks_4 (by decide) (fun c_1 => ?_) (fun c_1 => ?_)
  · refine lv_aload_n hx hb dX2_blocks_15 rfl (lv_at hl 1 rfl) ?_
    refine lv_aload_n hx hb dX2_blocks_16 rfl (lv_at hl 0 rfl) ?_
    refine va_get (D := (dC, dI)) (ci := 2) (v := .int (F 11)) (C := RX2) (T := TX2) (N := 16) hx hb hts inw_X2_blocks_X2 hown hK hP 0 rfl rfl 11 (by decide) (hts (.fieldLink RX2 45 "DuelFrames$Figure" "input" "I") (List.mem_of_getElem? (i := 2) rfl)) (fun _ h9 => h9) rfl dX2_blocks_17 ?_
    have hPc := hP.sub (ws' := [(h0, .inr (4, [.int (mv 0), .int (mv 1), .int (mv 2), .int (mv 3), .int (mv 4), .int (mv 5), .ref ht, .ref hi])), (ht, .inl (cY 0, 5, .inl (fun k => mv (6 + k)))), (hi, .inl (cY 1, 6, .inl (fun k => mv (11 + k))))]) [1, 2, 3] rfl
    refine vp_callSi (W.runV (As := [.int (F 11)]) (rest := []) ⟨hx, hb, hml, hown, hts⟩ (c_X4_isBlockedWith l dC dI cY h0 ht hi mv (F 11)) (cwV 1 hts gX2_blocks_X4_isBlockedWith rfl rfl rfl (by decide +kernel) ⟨Nat.le_of_ble_eq_true rfl, Nat.le_of_ble_eq_true rfl⟩) ⟨blindR, va_recv hK hPc (ci := 4) (q0 := 0) rfl rfl, fun U hU hW => ⟨rfl, rPre_of hPc hK hN U hU hW⟩⟩ rfl rfl hl.1 rfl (lv_room (Nat.le_of_ble_eq_true rfl)) dX2_blocks_20 ⟨Nat.zero_le _, Nat.zero_le _⟩) (fun r_2 hw => ?_)
    obtain ⟨hw, hb_3⟩ := hw
    subst hw
    refine lv_if_eq (tgt := 30) hx hb dX2_blocks_23 (by decide) (fun c_4 => ?_) (fun c_4 => ?_)
    · refine lv_iconst (v := 0) hx hb dX2_blocks_30 (by decide) ?_
      have eo_5 : (X2_blocks_r F mv) = 0 := by rw [X2_blocks_r]; simp only [eq_true c_1, eq_true c_4, ↓reduceIte]
      exact W.zret (v := 0) (ty := .boolean) hx hb hr rfl (fun t ht _ => ⟨_, rfl, ⟨eo_5.symm, (by decide)⟩, ht⟩) (fun _ h => absurd h List.not_mem_nil) dX2_blocks_31
    · refine lv_iconst (v := 1) hx hb dX2_blocks_26 (by decide) ?_
      refine lv_goto (tgt := 31) hx hb dX2_blocks_27 (by decide) ?_
      have eo_6 : (X2_blocks_r F mv) = 1 := by rw [X2_blocks_r]; simp only [eq_true c_1, eq_false c_4, ↓reduceIte]
      exact W.zret (v := 1) (ty := .boolean) hx hb hr rfl (fun t ht _ => ⟨_, rfl, ⟨eo_6.symm, (by decide)⟩, ht⟩) (fun _ h => absurd h List.not_mem_nil) dX2_blocks_31
  · refine lv_aload_n hx hb dX2_blocks_7 rfl (lv_at hl 0 rfl) ?_
    refine va_get (D := (dC, dI)) (ci := 2) (v := .int (F 13)) (C := RX2) (T := TX2) (N := 16) hx hb hts inw_X2_blocks_X2 hown hK hP 0 rfl rfl 13 (by decide) (hts (.fieldLink RX2 52 "DuelFrames$Figure" "did" "I") (List.mem_of_getElem? (i := 1) rfl)) (fun _ h9 => h9) rfl dX2_blocks_8 ?_
    refine lv_iconst (v := 3) hx hb dX2_blocks_11 (by decide) ?_
    refine lv_icmp_ne (tgt := 30) hx hb dX2_blocks_12 (by decide) (fun c_7 => ?_) (fun c_7 => ?_)
    · refine lv_iconst (v := 0) hx hb dX2_blocks_30 (by decide) ?_
      have eo_8 : (X2_blocks_r F mv) = 0 := by rw [X2_blocks_r]; simp only [eq_false c_1, eq_false c_7, ↓reduceIte]
      exact W.zret (v := 0) (ty := .boolean) hx hb hr rfl (fun t ht _ => ⟨_, rfl, ⟨eo_8.symm, (by decide)⟩, ht⟩) (fun _ h => absurd h List.not_mem_nil) dX2_blocks_31
    · refine lv_aload_n hx hb dX2_blocks_15 rfl (lv_at hl 1 rfl) ?_
      refine lv_aload_n hx hb dX2_blocks_16 rfl (lv_at hl 0 rfl) ?_
      refine va_get (D := (dC, dI)) (ci := 2) (v := .int (F 11)) (C := RX2) (T := TX2) (N := 16) hx hb hts inw_X2_blocks_X2 hown hK hP 0 rfl rfl 11 (by decide) (hts (.fieldLink RX2 45 "DuelFrames$Figure" "input" "I") (List.mem_of_getElem? (i := 2) rfl)) (fun _ h9 => h9) rfl dX2_blocks_17 ?_
      have hPc := hP.sub (ws' := [(h0, .inr (4, [.int (mv 0), .int (mv 1), .int (mv 2), .int (mv 3), .int (mv 4), .int (mv 5), .ref ht, .ref hi])), (ht, .inl (cY 0, 5, .inl (fun k => mv (6 + k)))), (hi, .inl (cY 1, 6, .inl (fun k => mv (11 + k))))]) [1, 2, 3] rfl
      refine vp_callSi (W.runV (As := [.int (F 11)]) (rest := []) ⟨hx, hb, hml, hown, hts⟩ (c_X4_isBlockedWith l dC dI cY h0 ht hi mv (F 11)) (cwV 1 hts gX2_blocks_X4_isBlockedWith rfl rfl rfl (by decide +kernel) ⟨Nat.le_of_ble_eq_true rfl, Nat.le_of_ble_eq_true rfl⟩) ⟨blindR, va_recv hK hPc (ci := 4) (q0 := 0) rfl rfl, fun U hU hW => ⟨rfl, rPre_of hPc hK hN U hU hW⟩⟩ rfl rfl hl.1 rfl (lv_room (Nat.le_of_ble_eq_true rfl)) dX2_blocks_20 ⟨Nat.zero_le _, Nat.zero_le _⟩) (fun r_9 hw => ?_)
      obtain ⟨hw, hb_10⟩ := hw
      subst hw
      refine lv_if_eq (tgt := 30) hx hb dX2_blocks_23 (by decide) (fun c_11 => ?_) (fun c_11 => ?_)
      · refine lv_iconst (v := 0) hx hb dX2_blocks_30 (by decide) ?_
        have eo_12 : (X2_blocks_r F mv) = 0 := by rw [X2_blocks_r]; simp only [eq_false c_1, eq_true c_7, eq_true c_11, ↓reduceIte]
        exact W.zret (v := 0) (ty := .boolean) hx hb hr rfl (fun t ht _ => ⟨_, rfl, ⟨eo_12.symm, (by decide)⟩, ht⟩) (fun _ h => absurd h List.not_mem_nil) dX2_blocks_31
      · refine lv_iconst (v := 1) hx hb dX2_blocks_26 (by decide) ?_
        refine lv_goto (tgt := 31) hx hb dX2_blocks_27 (by decide) ?_
        have eo_13 : (X2_blocks_r F mv) = 1 := by rw [X2_blocks_r]; simp only [eq_false c_1, eq_true c_7, eq_false c_11, ↓reduceIte]
        exact W.zret (v := 1) (ty := .boolean) hx hb hr rfl (fun t ht _ => ⟨_, rfl, ⟨eo_13.symm, (by decide)⟩, ht⟩) (fun _ h => absurd h List.not_mem_nil) dX2_blocks_31
theorem inw_X2_block_X2 : ∀ w ∈ u_ws RX2 TX2 16, w ∈ wsX2_block := fun _ h => List.mem_cons_of_mem _ (List.mem_append_left _ (List.mem_append_right _ h))
theorem inw_X2_block_X4 : ∀ w ∈ u_ws RX4 TX4 8, w ∈ wsX2_block := fun _ h => List.mem_cons_of_mem _ (List.mem_append_right _ h)
def X2_block_w0 (F : Nat → Int32) (MV : Nat → Nat → Int32) (ix : Nat) : Nat → Int32 := (upd (upd (upd F 1 ((F 1) - (((MV ix) 5) / 10))) 3 3) 8 (X4_trait_r (MV ix) 1))
set_option maxHeartbeats 4000000 in
set_option maxRecDepth 100000 in
theorem c_X2_block (l : Launch) (dC : Nat → ClassId) (dI : Nat → Nat → Nat) (cY : Nat → ClassId) (h0 : Nat) (F : Nat → Int32) (AD : Nat → Nat) (MV : Nat → Nat → Int32) (ix : Nat) (hix : ix < 7) (sz : Nat) : Met l yX2_block wsX2_block ({ frames := 1, cells := 0, slots := 0, locals := 21 } : Room) (va_Pc [.ref h0, .ref (AD (2 + ix))] (wPre (dC, dI) (tyL cY) ([(h0, .inr (2, figL F))] ++ bkM AD cY MV) sz)) (va_Qv (fun _ : Unit => True) (wPost (dC, dI) ([(h0, .inr (2, figL (X2_block_w0 F MV ix)))] ++ bkM AD cY MV) (va_A ([(h0, .inr (2, figL F))] ++ bkM AD cY MV) sz)) (va_A ([(h0, .inr (2, figL F))] ++ bkM AD cY MV) sz)) 0 0 (va_A ([(h0, .inr (2, figL F))] ++ bkM AD cY MV) sz) := by
  refine Met.ofW (cc := cX2_block) (maxL := 2) (ret := none) (by decide) rfl ?_
  intro p e s m args below meth c s₁ B hml hv
  obtain ⟨rfl, hsz, hP, hK, hN, hD0⟩ := hv
  have hx := B.exec
  have hb := B.bytes
  have hr := B.returns
  have hts := atoms_spec (ws := wsX2_block) B.pre
  have hown : s.vm.findClass RX2 = some m.cls := findClass_of_methodNamed B.named
  have hlocks := B.notSynchronized
  subst hsz
  have hD := hD0.self (sz := s.heap.size)
  generalize hAe : va_A ([(h0, .inr (2, figL F))] ++ bkM AD cY MV) s.heap.size = A at hD ⊢
  have hA : ∀ q : Nat, s.heap.size ≤ q → A q := fun q h => by rw [← hAe]; exact Or.inr h
  have hS : va_S A s.heap s.heap [] := va_S.rf
  have hP : va_P (dC, dI) vwCl ([(h0, .inr (2, figL F))] ++ bkM AD cY MV) s.heap := hP
  have hl := lv_entry ([.ref h0, .ref (AD (2 + ix))]) (n := 2) (Nat.le_of_ble_eq_true rfl)
  rw [lg_entry_eq]
  generalize (lg_sl ([.ref h0, .ref (AD (2 + ix))]) ++ List.replicate (2 - (lg_sl ([.ref h0, .ref (AD (2 + ix))])).length) Slot.unset).toArray = ls at hl ⊢
  have hl : lv_has ls 2 [(0, .ref h0), (1, .ref (AD (2 + ix)))] := hl
  refine lv_aload_n hx hb dX2_block_0 rfl (lv_at hl 0 rfl) ?_
  refine lv_dup hx hb dX2_block_1 rfl ?_
  refine va_get (D := (dC, dI)) (ci := 2) (v := .int (F 1)) (C := RX2) (T := TX2) (N := 16) hx hb hts inw_X2_block_X2 hown hK hP 0 rfl rfl 1 (by decide) (hts (.fieldLink RX2 15 "DuelFrames$Figure" "life" "I") (List.mem_of_getElem? (i := 1) rfl)) (fun _ h9 => h9) rfl dX2_block_2 ?_
  refine lv_aload_n hx hb dX2_block_5 rfl (lv_at hl 1 rfl) ?_
  have hPm := bk_move hP hix
  refine va_get (D := (dC, dI)) (ci := 4) (v := .int ((MV ix) 5)) (C := RX4) (T := TX4) (N := 8) hx hb hts inw_X2_block_X4 hown hK hPm 0 rfl rfl 5 (by decide) (hts (.fieldLink RX2 93 "DuelFrames$Move" "damage" "I") (List.mem_of_getElem? (i := 2) rfl)) (fun _ h9 => h9) rfl dX2_block_6 ?_
  refine lv_bipush (v := 10) hx hb dX2_block_9 (by decide) ?_
  refine lv_idiv hx hb dX2_block_11 (by decide) ?_
  refine lv_isub hx hb dX2_block_12 ?_
  refine va_put (D := (dC, dI)) (ci := 2) (v := .int ((F 1) - (((MV ix) 5) / 10))) (ty := .int) (C := RX2) (T := TX2) (N := 16) hx hb hts inw_X2_block_X2 tyX2 tyX2_ok nmX2 hown hK hP hD hS 0 rfl rfl 1 (by decide) (hts (.fieldLink RX2 15 "DuelFrames$Figure" "life" "I") (List.mem_of_getElem? (i := 1) rfl)) (fun _ h9 => h9) rfl (by decide +kernel) rfl rfl (Nat.le_of_ble_eq_true rfl) dX2_block_13 (fun H locs hP1 hD1 hS1 => ?_)
  clear hP hD hS
  have hP : va_P (dC, dI) vwCl ([(h0, .inr (2, figL (upd F 1 ((F 1) - (((MV ix) 5) / 10)))))] ++ bkM AD cY MV) H := hP1
  have hD : va_D A ([(h0, .inr (2, figL (upd F 1 ((F 1) - (((MV ix) 5) / 10)))))] ++ bkM AD cY MV) := hD1
  have hS := hS1
  clear hP1 hD1 hS1
  refine lv_aload_n hx hb dX2_block_16 rfl (lv_at hl 0 rfl) ?_
  refine lv_iconst (v := 3) hx hb dX2_block_17 (by decide) ?_
  refine va_put (D := (dC, dI)) (ci := 2) (v := .int 3) (ty := .int) (C := RX2) (T := TX2) (N := 16) hx hb hts inw_X2_block_X2 tyX2 tyX2_ok nmX2 hown hK hP hD hS 0 rfl rfl 3 (by decide) (hts (.fieldLink RX2 21 "DuelFrames$Figure" "does" "I") (List.mem_of_getElem? (i := 3) rfl)) (fun _ h9 => h9) rfl (by decide +kernel) rfl rfl (Nat.le_of_ble_eq_true rfl) dX2_block_18 (fun H locs hP1 hD1 hS1 => ?_)
  clear hP hD hS
  have hP : va_P (dC, dI) vwCl ([(h0, .inr (2, figL (upd (upd F 1 ((F 1) - (((MV ix) 5) / 10))) 3 3)))] ++ bkM AD cY MV) H := hP1
  have hD : va_D A ([(h0, .inr (2, figL (upd (upd F 1 ((F 1) - (((MV ix) 5) / 10))) 3 3)))] ++ bkM AD cY MV) := hD1
  have hS := hS1
  clear hP1 hD1 hS1
  refine lv_aload_n hx hb dX2_block_21 rfl (lv_at hl 0 rfl) ?_
  refine lv_aload_n hx hb dX2_block_22 rfl (lv_at hl 1 rfl) ?_
  refine lv_iconst (v := 1) hx hb dX2_block_23 (by decide) ?_
  have hPc := bk_move hP hix
  refine vp_callSi (W.runV (As := [.int 1]) (rest := [.ref h0]) ⟨hx, hb, hml, hown, hts⟩ (c_X4_trait l dC dI cY (AD (2 + ix)) (AD (9 + ix)) (AD (16 + ix)) (MV ix) 1) (cwV 1 hts gX2_block_X4_trait rfl rfl rfl (by decide +kernel) ⟨Nat.le_of_ble_eq_true rfl, Nat.le_of_ble_eq_true rfl⟩) ⟨blindR, va_recv hK hPc (ci := 4) (q0 := 0) rfl rfl, fun U hU hW => ⟨rfl, rPre_of hPc hK hN U hU hW⟩⟩ rfl rfl hl.1 rfl (lv_room (Nat.le_of_ble_eq_true rfl)) dX2_block_24 ⟨Nat.zero_le _, Nat.zero_le _⟩) (fun r_1 hw => ?_)
  subst hw
  refine va_put (D := (dC, dI)) (ci := 2) (v := .int (X4_trait_r (MV ix) 1)) (ty := .int) (C := RX2) (T := TX2) (N := 16) hx hb hts inw_X2_block_X2 tyX2 tyX2_ok nmX2 hown hK hP hD hS 0 rfl rfl 8 (by decide) (hts (.fieldLink RX2 36 "DuelFrames$Figure" "stun" "I") (List.mem_of_getElem? (i := 4) rfl)) (fun _ h9 => h9) rfl (by decide +kernel) rfl rfl (Nat.le_of_ble_eq_true rfl) dX2_block_27 (fun H locs hP1 hD1 hS1 => ?_)
  clear hP hD hS
  have hP : va_P (dC, dI) vwCl ([(h0, .inr (2, figL (upd (upd (upd F 1 ((F 1) - (((MV ix) 5) / 10))) 3 3) 8 (X4_trait_r (MV ix) 1))))] ++ bkM AD cY MV) H := hP1
  have hD : va_D A ([(h0, .inr (2, figL (upd (upd (upd F 1 ((F 1) - (((MV ix) 5) / 10))) 3 3) 8 (X4_trait_r (MV ix) 1))))] ++ bkM AD cY MV) := hD1
  have hS := hS1
  clear hP1 hD1 hS1
  have eo_2 : (X2_block_w0 F MV ix) = (upd (upd (upd F 1 ((F 1) - (((MV ix) 5) / 10))) 3 3) 8 (X4_trait_r (MV ix) 1)) := by rw [X2_block_w0]
  have hP9 : va_P (dC, dI) vwCl ([(h0, .inr (2, figL (X2_block_w0 F MV ix)))] ++ bkM AD cY MV) H := by simp only [eo_2]; exact hP
  have hD9 : va_D A ([(h0, .inr (2, figL (X2_block_w0 F MV ix)))] ++ bkM AD cY MV) := by simp only [eo_2]; exact hD
  exact W.vret hx hb hr (fun t ht hW => ⟨⟨(), rfl, trivial, wPost_of hP9 hD9 ht⟩, hS.F ht⟩) hS.2.2 dX2_block_30
theorem inw_X2_suffer_X2 : ∀ w ∈ u_ws RX2 TX2 16, w ∈ wsX2_suffer := fun _ h => List.mem_cons_of_mem _ (List.mem_append_left _ (List.mem_append_right _ h))
def X2_suffer_j13 (F : Nat → Int32) : Int32 := (if (F 13) = 1 then 1 else 0)
def X2_suffer_j33 (F : Nat → Int32) : Int32 := (if (F 13) = 2 then ((F 14) + 1) else 1)
def X2_suffer_j56 (F : Nat → Int32) : Int32 := (if 10 ≤ (X2_suffer_j33 F) then 1 else (11 - (X2_suffer_j33 F)))
theorem inw_X2_suffer_X4 : ∀ w ∈ u_ws RX4 TX4 8, w ∈ wsX2_suffer := fun _ h => List.mem_cons_of_mem _ (List.mem_append_right _ h)
def X2_suffer_j100 (F : Nat → Int32) (MV : Nat → Nat → Int32) (ix : Nat) : Int32 := (if (X2_suffer_j13 F) = 0 then ((X4_trait_r (MV ix) 0) - (2 * ((X2_suffer_j33 F) - 1))) else (((X4_trait_r (MV ix) 0) - (2 * ((X2_suffer_j33 F) - 1))) + 4))
def X2_suffer_j100_1 (F : Nat → Int32) (MV : Nat → Nat → Int32) (ix : Nat) : Int32 := (if (X2_suffer_j13 F) = 0 then ((((MV ix) 5) * (X2_suffer_j56 F)) / 10) else ((((((MV ix) 5) * (X2_suffer_j56 F)) / 10) * 6) / 5))
def X2_suffer_j132 (F : Nat → Int32) (MV : Nat → Nat → Int32) (ix : Nat) : Int32 := (if 0 ≤ (X2_suffer_j100 F MV ix) then (X2_suffer_j100 F MV ix) else 0)
def X2_suffer_w0 (F : Nat → Int32) (MV : Nat → Nat → Int32) (ix : Nat) : Nat → Int32 := (upd (upd (X2_leaveMove_w0 (upd (upd F 4 (X2_suffer_j33 F)) 1 ((F 1) - (X2_suffer_j100_1 F MV ix)))) 3 2) 8 (X2_suffer_j132 F MV ix))
set_option maxHeartbeats 4000000 in
set_option maxRecDepth 100000 in
theorem c_X2_suffer (l : Launch) (dC : Nat → ClassId) (dI : Nat → Nat → Nat) (cY : Nat → ClassId) (h0 : Nat) (F : Nat → Int32) (AD : Nat → Nat) (MV : Nat → Nat → Int32) (ix : Nat) (hix : ix < 7) (sz : Nat) : Met l yX2_suffer wsX2_suffer ({ frames := 1, cells := 0, slots := 0, locals := 21 } : Room) (va_Pc [.ref h0, .ref (AD (2 + ix))] (wPre (dC, dI) (tyL cY) ([(h0, .inr (2, figL F))] ++ bkM AD cY MV) sz)) (va_Qv (fun _ : Unit => True) (wPost (dC, dI) ([(h0, .inr (2, figL (X2_suffer_w0 F MV ix)))] ++ bkM AD cY MV) (va_A ([(h0, .inr (2, figL F))] ++ bkM AD cY MV) sz)) (va_A ([(h0, .inr (2, figL F))] ++ bkM AD cY MV) sz)) 0 0 (va_A ([(h0, .inr (2, figL F))] ++ bkM AD cY MV) sz) := by
  refine Met.ofW (cc := cX2_suffer) (maxL := 6) (ret := none) (by decide) rfl ?_
  intro p e s m args below meth c s₁ B hml hv
  obtain ⟨rfl, hsz, hP, hK, hN, hD0⟩ := hv
  have hx := B.exec
  have hb := B.bytes
  have hr := B.returns
  have hts := atoms_spec (ws := wsX2_suffer) B.pre
  have hown : s.vm.findClass RX2 = some m.cls := findClass_of_methodNamed B.named
  have hlocks := B.notSynchronized
  subst hsz
  have hD := hD0.self (sz := s.heap.size)
  generalize hAe : va_A ([(h0, .inr (2, figL F))] ++ bkM AD cY MV) s.heap.size = A at hD ⊢
  have hA : ∀ q : Nat, s.heap.size ≤ q → A q := fun q h => by rw [← hAe]; exact Or.inr h
  have hS : va_S A s.heap s.heap [] := va_S.rf
  have hP : va_P (dC, dI) vwCl ([(h0, .inr (2, figL F))] ++ bkM AD cY MV) s.heap := hP
  have hl := lv_entry ([.ref h0, .ref (AD (2 + ix))]) (n := 6) (Nat.le_of_ble_eq_true rfl)
  rw [lg_entry_eq]
  generalize (lg_sl ([.ref h0, .ref (AD (2 + ix))]) ++ List.replicate (6 - (lg_sl ([.ref h0, .ref (AD (2 + ix))])).length) Slot.unset).toArray = ls at hl ⊢
  have hl : lv_has ls 6 [(0, .ref h0), (1, .ref (AD (2 + ix)))] := hl
  refine lv_aload_n hx hb dX2_suffer_0 rfl (lv_at hl 0 rfl) ?_
  refine va_get (D := (dC, dI)) (ci := 2) (v := .int (F 13)) (C := RX2) (T := TX2) (N := 16) hx hb hts inw_X2_suffer_X2 hown hK hP 0 rfl rfl 13 (by decide) (hts (.fieldLink RX2 52 "DuelFrames$Figure" "did" "I") (List.mem_of_getElem? (i := 1) rfl)) (fun _ h9 => h9) rfl dX2_suffer_1 ?_
  refine lv_iconst (v := 1) hx hb dX2_suffer_4 (by decide) ?_
  refine jnW (D := (dC, dI)) (ws := ([(h0, .inr (2, figL F))] ++ bkM AD cY MV)) (lv := [(0, .ref h0), (1, .ref (AD (2 + ix)))]) (st := [.int (X2_suffer_j13 F)]) (J := 13) (n := 6) (A := A) (H0 := s.heap) ?_ ?_
  · intro H locs ls hP hD hS hl
    refine lv_istore_n (lv' := [(2, .int (X2_suffer_j13 F)), (0, .ref h0), (1, .ref (AD (2 + ix)))]) hx hb dX2_suffer_13 rfl hl (by decide) rfl (fun ls hl => ?_)
    refine lv_aload_n hx hb dX2_suffer_14 rfl (lv_at hl 1 rfl) ?_
    refine lv_aload_n hx hb dX2_suffer_15 rfl (lv_at hl 1 rfl) ?_
    refine va_get (D := (dC, dI)) (ci := 2) (v := .int (F 13)) (C := RX2) (T := TX2) (N := 16) hx hb hts inw_X2_suffer_X2 hown hK hP 0 rfl rfl 13 (by decide) (hts (.fieldLink RX2 52 "DuelFrames$Figure" "did" "I") (List.mem_of_getElem? (i := 1) rfl)) (fun _ h9 => h9) rfl dX2_suffer_16 ?_
    refine lv_iconst (v := 2) hx hb dX2_suffer_19 (by decide) ?_
    refine jnW (D := (dC, dI)) (ws := ([(h0, .inr (2, figL F))] ++ bkM AD cY MV)) (lv := [(2, .int (X2_suffer_j13 F)), (0, .ref h0), (1, .ref (AD (2 + ix)))]) (st := [.int (X2_suffer_j33 F), .ref h0]) (J := 33) (n := 6) (A := A) (H0 := s.heap) ?_ ?_
    · intro H locs ls hP hD hS hl
      refine va_put (D := (dC, dI)) (ci := 2) (v := .int (X2_suffer_j33 F)) (ty := .int) (C := RX2) (T := TX2) (N := 16) hx hb hts inw_X2_suffer_X2 tyX2 tyX2_ok nmX2 hown hK hP hD hS 0 rfl rfl 4 (by decide) (hts (.fieldLink RX2 24 "DuelFrames$Figure" "count" "I") (List.mem_of_getElem? (i := 3) rfl)) (fun _ h9 => h9) rfl (by decide +kernel) rfl rfl (Nat.le_of_ble_eq_true rfl) dX2_suffer_33 (fun H locs hP1 hD1 hS1 => ?_)
      clear hP hD hS
      have hP : va_P (dC, dI) vwCl ([(h0, .inr (2, figL (upd F 4 (X2_suffer_j33 F))))] ++ bkM AD cY MV) H := hP1
      have hD : va_D A ([(h0, .inr (2, figL (upd F 4 (X2_suffer_j33 F))))] ++ bkM AD cY MV) := hD1
      have hS := hS1
      clear hP1 hD1 hS1
      refine lv_aload_n hx hb dX2_suffer_36 rfl (lv_at hl 1 rfl) ?_
      refine va_get (D := (dC, dI)) (ci := 2) (v := .int (X2_suffer_j33 F)) (C := RX2) (T := TX2) (N := 16) hx hb hts inw_X2_suffer_X2 hown hK hP 0 rfl rfl 4 (by decide) (hts (.fieldLink RX2 24 "DuelFrames$Figure" "count" "I") (List.mem_of_getElem? (i := 3) rfl)) (fun _ h9 => h9) rfl dX2_suffer_37 ?_
      refine lv_bipush (v := 10) hx hb dX2_suffer_40 (by decide) ?_
      refine jnW (D := (dC, dI)) (ws := ([(h0, .inr (2, figL (upd F 4 (X2_suffer_j33 F))))] ++ bkM AD cY MV)) (lv := [(2, .int (X2_suffer_j13 F)), (0, .ref h0), (1, .ref (AD (2 + ix)))]) (st := [.int (X2_suffer_j56 F)]) (J := 56) (n := 6) (A := A) (H0 := s.heap) ?_ ?_
      · intro H locs ls hP hD hS hl
        refine lv_istore_n (lv' := [(3, .int (X2_suffer_j56 F)), (2, .int (X2_suffer_j13 F)), (0, .ref h0), (1, .ref (AD (2 + ix)))]) hx hb dX2_suffer_56 rfl hl (by decide) rfl (fun ls hl => ?_)
        refine lv_aload_n hx hb dX2_suffer_57 rfl (lv_at hl 3 rfl) ?_
        have hPm := bk_move hP hix
        refine va_get (D := (dC, dI)) (ci := 4) (v := .int ((MV ix) 5)) (C := RX4) (T := TX4) (N := 8) hx hb hts inw_X2_suffer_X4 hown hK hPm 0 rfl rfl 5 (by decide) (hts (.fieldLink RX2 93 "DuelFrames$Move" "damage" "I") (List.mem_of_getElem? (i := 4) rfl)) (fun _ h9 => h9) rfl dX2_suffer_58 ?_
        refine lv_iload_n hx hb dX2_suffer_61 rfl (lv_at hl 0 rfl) ?_
        refine lv_imul hx hb dX2_suffer_62 ?_
        refine lv_bipush (v := 10) hx hb dX2_suffer_63 (by decide) ?_
        refine lv_idiv hx hb dX2_suffer_65 (by decide) ?_
        refine lv_istore (lv' := [(4, .int ((((MV ix) 5) * (X2_suffer_j56 F)) / 10)), (3, .int (X2_suffer_j56 F)), (2, .int (X2_suffer_j13 F)), (0, .ref h0), (1, .ref (AD (2 + ix)))]) hx hb dX2_suffer_66 hl (by decide) rfl (fun ls hl => ?_)
        refine lv_aload_n hx hb dX2_suffer_68 rfl (lv_at hl 4 rfl) ?_
        refine lv_iconst (v := 0) hx hb dX2_suffer_69 (by decide) ?_
        have hPc := bk_move hP hix
        refine vp_callSi (W.runV (As := [.int 0]) (rest := []) ⟨hx, hb, hml, hown, hts⟩ (c_X4_trait l dC dI cY (AD (2 + ix)) (AD (9 + ix)) (AD (16 + ix)) (MV ix) 0) (cwV 1 hts gX2_suffer_X4_trait rfl rfl rfl (by decide +kernel) ⟨Nat.le_of_ble_eq_true rfl, Nat.le_of_ble_eq_true rfl⟩) ⟨blindR, va_recv hK hPc (ci := 4) (q0 := 0) rfl rfl, fun U hU hW => ⟨rfl, rPre_of hPc hK hN U hU hW⟩⟩ rfl rfl hl.1 rfl (lv_room (Nat.le_of_ble_eq_true rfl)) dX2_suffer_70 ⟨Nat.zero_le _, Nat.zero_le _⟩) (fun r_7 hw => ?_)
        subst hw
        refine lv_iconst (v := 2) hx hb dX2_suffer_73 (by decide) ?_
        refine lv_aload_n hx hb dX2_suffer_74 rfl (lv_at hl 3 rfl) ?_
        refine va_get (D := (dC, dI)) (ci := 2) (v := .int (X2_suffer_j33 F)) (C := RX2) (T := TX2) (N := 16) hx hb hts inw_X2_suffer_X2 hown hK hP 0 rfl rfl 4 (by decide) (hts (.fieldLink RX2 24 "DuelFrames$Figure" "count" "I") (List.mem_of_getElem? (i := 3) rfl)) (fun _ h9 => h9) rfl dX2_suffer_75 ?_
        refine lv_iconst (v := 1) hx hb dX2_suffer_78 (by decide) ?_
        refine lv_isub hx hb dX2_suffer_79 ?_
        refine lv_imul hx hb dX2_suffer_80 ?_
        refine lv_isub hx hb dX2_suffer_81 ?_
        refine lv_istore (lv' := [(5, .int ((X4_trait_r (MV ix) 0) - (2 * ((X2_suffer_j33 F) - 1)))), (4, .int ((((MV ix) 5) * (X2_suffer_j56 F)) / 10)), (3, .int (X2_suffer_j56 F)), (2, .int (X2_suffer_j13 F)), (0, .ref h0), (1, .ref (AD (2 + ix)))]) hx hb dX2_suffer_82 hl (by decide) rfl (fun ls hl => ?_)
        refine lv_iload_n hx hb dX2_suffer_84 rfl (lv_at hl 3 rfl) ?_
        refine jnW (D := (dC, dI)) (ws := ([(h0, .inr (2, figL (upd F 4 (X2_suffer_j33 F))))] ++ bkM AD cY MV)) (lv := [(5, .int (X2_suffer_j100 F MV ix)), (4, .int (X2_suffer_j100_1 F MV ix)), (0, .ref h0)]) (st := []) (J := 100) (n := 6) (A := A) (H0 := s.heap) ?_ ?_
        · intro H locs ls hP hD hS hl
          refine lv_aload_n hx hb dX2_suffer_100 rfl (lv_at hl 2 rfl) ?_
          refine lv_dup hx hb dX2_suffer_101 rfl ?_
          refine va_get (D := (dC, dI)) (ci := 2) (v := .int (F 1)) (C := RX2) (T := TX2) (N := 16) hx hb hts inw_X2_suffer_X2 hown hK hP 0 rfl rfl 1 (by decide) (hts (.fieldLink RX2 15 "DuelFrames$Figure" "life" "I") (List.mem_of_getElem? (i := 5) rfl)) (fun _ h9 => h9) rfl dX2_suffer_102 ?_
          refine lv_iload hx hb dX2_suffer_105 (lv_at hl 1 rfl) ?_
          refine lv_isub hx hb dX2_suffer_107 ?_
          refine va_put (D := (dC, dI)) (ci := 2) (v := .int ((F 1) - (X2_suffer_j100_1 F MV ix))) (ty := .int) (C := RX2) (T := TX2) (N := 16) hx hb hts inw_X2_suffer_X2 tyX2 tyX2_ok nmX2 hown hK hP hD hS 0 rfl rfl 1 (by decide) (hts (.fieldLink RX2 15 "DuelFrames$Figure" "life" "I") (List.mem_of_getElem? (i := 5) rfl)) (fun _ h9 => h9) rfl (by decide +kernel) rfl rfl (Nat.le_of_ble_eq_true rfl) dX2_suffer_108 (fun H locs hP1 hD1 hS1 => ?_)
          clear hP hD hS
          have hP : va_P (dC, dI) vwCl ([(h0, .inr (2, figL (upd (upd F 4 (X2_suffer_j33 F)) 1 ((F 1) - (X2_suffer_j100_1 F MV ix)))))] ++ bkM AD cY MV) H := hP1
          have hD : va_D A ([(h0, .inr (2, figL (upd (upd F 4 (X2_suffer_j33 F)) 1 ((F 1) - (X2_suffer_j100_1 F MV ix)))))] ++ bkM AD cY MV) := hD1
          have hS := hS1
          clear hP1 hD1 hS1
          refine lv_aload_n hx hb dX2_suffer_111 rfl (lv_at hl 2 rfl) ?_
          have hPc := hP.sub (ws' := [(h0, .inr (2, figL (upd (upd F 4 (X2_suffer_j33 F)) 1 ((F 1) - (X2_suffer_j100_1 F MV ix)))))]) [0] rfl
          have hDc := hD.sub (ws' := [(h0, .inr (2, figL (upd (upd F 4 (X2_suffer_j33 F)) 1 ((F 1) - (X2_suffer_j100_1 F MV ix)))))]) [0] (by decide) rfl
          have hFc := va_free (wc := [(h0, .inr (2, figL (upd (upd F 4 (X2_suffer_j33 F)) 1 ((F 1) - (X2_suffer_j100_1 F MV ix)))))]) hD hS hA [0] rfl
          refine va_callv (va_runV (As := []) (rest := []) ⟨hx, hb, hml, hown, hts⟩ (c_X2_leaveMove l dC dI cY h0 (upd (upd F 4 (X2_suffer_j33 F)) 1 ((F 1) - (X2_suffer_j100_1 F MV ix))) H.size) (cwV 0 hts gX2_suffer_X2_leaveMove rfl rfl rfl (by decide +kernel) ⟨Nat.le_of_ble_eq_true rfl, Nat.le_of_ble_eq_true rfl⟩) ⟨blindW, va_recv hK hPc (ci := 2) (q0 := 0) rfl rfl, fun U hU hW => ⟨rfl, wPre_of hPc hK hN hDc U hU hW⟩⟩ rfl rfl hl.1 rfl (lv_room (Nat.le_of_ble_eq_true rfl)) dX2_suffer_112 ⟨Nat.zero_le _, Nat.zero_le _⟩) hS (fun q _ h => hFc q h) hFc (fun u t H1 locs ht hvm hw hB hz1 hk1 hS1 => ?_)
          have hJ := wJoinQ (wr := []) (w1 := [(h0, .inr (2, figL (X2_leaveMove_w0 (upd (upd F 4 (X2_suffer_j33 F)) 1 ((F 1) - (X2_suffer_j100_1 F MV ix))))))]) (wn := [(h0, .inr (2, figL (X2_leaveMove_w0 (upd (upd F 4 (X2_suffer_j33 F)) 1 ((F 1) - (X2_suffer_j100_1 F MV ix))))))]) hP hD [0] [] rfl rfl (by decide) (by decide) hk1 hFc hB ht [0] rfl (by decide)
          clear hB hk1 hFc hPc hDc hP hD hS hz1 hvm ht t
          obtain ⟨hP1, hD1⟩ := hJ
          generalize H1 = H at hP1 hS1 ⊢
          have hP : va_P (dC, dI) vwCl ([(h0, .inr (2, figL (X2_leaveMove_w0 (upd (upd F 4 (X2_suffer_j33 F)) 1 ((F 1) - (X2_suffer_j100_1 F MV ix))))))] ++ bkM AD cY MV) H := hP1
          have hD : va_D A ([(h0, .inr (2, figL (X2_leaveMove_w0 (upd (upd F 4 (X2_suffer_j33 F)) 1 ((F 1) - (X2_suffer_j100_1 F MV ix))))))] ++ bkM AD cY MV) := hD1
          have hS := hS1
          clear hP1 hD1 hS1
          obtain ⟨z_11, ez_11⟩ : ∃ z, z = (X2_leaveMove_w0 (upd (upd F 4 (X2_suffer_j33 F)) 1 ((F 1) - (X2_suffer_j100_1 F MV ix)))) := ⟨_, rfl⟩
          rw [← ez_11] at hP hD
          refine lv_aload_n hx hb dX2_suffer_115 rfl (lv_at hl 2 rfl) ?_
          refine lv_iconst (v := 2) hx hb dX2_suffer_116 (by decide) ?_
          refine va_put (D := (dC, dI)) (ci := 2) (v := .int 2) (ty := .int) (C := RX2) (T := TX2) (N := 16) hx hb hts inw_X2_suffer_X2 tyX2 tyX2_ok nmX2 hown hK hP hD hS 0 rfl rfl 3 (by decide) (hts (.fieldLink RX2 21 "DuelFrames$Figure" "does" "I") (List.mem_of_getElem? (i := 6) rfl)) (fun _ h9 => h9) rfl (by decide +kernel) rfl rfl (Nat.le_of_ble_eq_true rfl) dX2_suffer_117 (fun H locs hP1 hD1 hS1 => ?_)
          clear hP hD hS
          have hP : va_P (dC, dI) vwCl ([(h0, .inr (2, figL (upd z_11 3 2)))] ++ bkM AD cY MV) H := hP1
          have hD : va_D A ([(h0, .inr (2, figL (upd z_11 3 2)))] ++ bkM AD cY MV) := hD1
          have hS := hS1
          clear hP1 hD1 hS1
          refine lv_aload_n hx hb dX2_suffer_120 rfl (lv_at hl 2 rfl) ?_
          refine lv_iload hx hb dX2_suffer_121 (lv_at hl 0 rfl) ?_
          refine jnW (D := (dC, dI)) (ws := ([(h0, .inr (2, figL (upd z_11 3 2)))] ++ bkM AD cY MV)) (lv := []) (st := [.int (X2_suffer_j132 F MV ix), .ref h0]) (J := 132) (n := 6) (A := A) (H0 := s.heap) ?_ ?_
          · intro H locs ls hP hD hS hl
            refine va_put (D := (dC, dI)) (ci := 2) (v := .int (X2_suffer_j132 F MV ix)) (ty := .int) (C := RX2) (T := TX2) (N := 16) hx hb hts inw_X2_suffer_X2 tyX2 tyX2_ok nmX2 hown hK hP hD hS 0 rfl rfl 8 (by decide) (hts (.fieldLink RX2 36 "DuelFrames$Figure" "stun" "I") (List.mem_of_getElem? (i := 7) rfl)) (fun _ h9 => h9) rfl (by decide +kernel) rfl rfl (Nat.le_of_ble_eq_true rfl) dX2_suffer_132 (fun H locs hP1 hD1 hS1 => ?_)
            clear hP hD hS
            have hP : va_P (dC, dI) vwCl ([(h0, .inr (2, figL (upd (upd z_11 3 2) 8 (X2_suffer_j132 F MV ix))))] ++ bkM AD cY MV) H := hP1
            have hD : va_D A ([(h0, .inr (2, figL (upd (upd z_11 3 2) 8 (X2_suffer_j132 F MV ix))))] ++ bkM AD cY MV) := hD1
            have hS := hS1
            clear hP1 hD1 hS1
            have eo_14 : (X2_suffer_w0 F MV ix) = (upd (upd z_11 3 2) 8 (X2_suffer_j132 F MV ix)) := by rw [X2_suffer_w0]; (try simp only [← ez_11])
            have hP9 : va_P (dC, dI) vwCl ([(h0, .inr (2, figL (X2_suffer_w0 F MV ix)))] ++ bkM AD cY MV) H := by simp only [eo_14]; exact hP
            have hD9 : va_D A ([(h0, .inr (2, figL (X2_suffer_w0 F MV ix)))] ++ bkM AD cY MV) := by simp only [eo_14]; exact hD
            exact W.vret hx hb hr (fun t ht hW => ⟨⟨(), rfl, trivial, wPost_of hP9 hD9 ht⟩, hS.F ht⟩) hS.2.2 dX2_suffer_135
          · intro jn_13
            refine lv_if_ge (tgt := 130) hx hb dX2_suffer_123 (by decide) (fun c_12 => ?_) (fun c_12 => ?_)
            · refine lv_iload hx hb dX2_suffer_130 (lv_at hl 0 rfl) ?_
              have e_15 : (X2_suffer_j132 F MV ix) = (X2_suffer_j100 F MV ix) := by rw [X2_suffer_j132]; simp only [← ez_11, eq_true c_12, ↓reduceIte]
              refine W.eq (g2 := F0 m 132 ls [.int (X2_suffer_j132 F MV ix), .ref h0]) (by simp only [e_15]) ?_
              exact jn_13 _ _ _ (by (try simp only [e_15]); exact hP) (by (try simp only [e_15]); exact hD) hS (by (try simp only [e_15]); exact (lv_sub hl [] rfl))
            · refine lv_iconst (v := 0) hx hb dX2_suffer_126 (by decide) ?_
              refine lv_goto (tgt := 132) hx hb dX2_suffer_127 (by decide) ?_
              have e_16 : (X2_suffer_j132 F MV ix) = 0 := by rw [X2_suffer_j132]; simp only [← ez_11, eq_false c_12, ↓reduceIte]
              refine W.eq (g2 := F0 m 132 ls [.int (X2_suffer_j132 F MV ix), .ref h0]) (by simp only [e_16]) ?_
              exact jn_13 _ _ _ (by (try simp only [e_16]); exact hP) (by (try simp only [e_16]); exact hD) hS (by (try simp only [e_16]); exact (lv_sub hl [] rfl))
        · intro jn_9
          refine lv_if_eq (tgt := 100) hx hb dX2_suffer_85 (by decide) (fun c_8 => ?_) (fun c_8 => ?_)
          · have e_17 : (X2_suffer_j100 F MV ix) = ((X4_trait_r (MV ix) 0) - (2 * ((X2_suffer_j33 F) - 1))) := by rw [X2_suffer_j100]; simp only [eq_true c_8, ↓reduceIte]
            have e_18 : (X2_suffer_j100_1 F MV ix) = ((((MV ix) 5) * (X2_suffer_j56 F)) / 10) := by rw [X2_suffer_j100_1]; simp only [eq_true c_8, ↓reduceIte]
            exact jn_9 _ _ _ (by (try simp only [e_17, e_18]); exact hP) (by (try simp only [e_17, e_18]); exact hD) hS (by (try simp only [e_17, e_18]); exact (lv_sub hl [0, 1, 4] rfl))
          · refine lv_iload hx hb dX2_suffer_88 (lv_at hl 1 rfl) ?_
            refine lv_bipush (v := 6) hx hb dX2_suffer_90 (by decide) ?_
            refine lv_imul hx hb dX2_suffer_92 ?_
            refine lv_iconst (v := 5) hx hb dX2_suffer_93 (by decide) ?_
            refine lv_idiv hx hb dX2_suffer_94 (by decide) ?_
            refine lv_istore (lv' := [(4, .int ((((((MV ix) 5) * (X2_suffer_j56 F)) / 10) * 6) / 5)), (5, .int ((X4_trait_r (MV ix) 0) - (2 * ((X2_suffer_j33 F) - 1)))), (3, .int (X2_suffer_j56 F)), (2, .int (X2_suffer_j13 F)), (0, .ref h0), (1, .ref (AD (2 + ix)))]) hx hb dX2_suffer_95 hl (by decide) rfl (fun ls hl => ?_)
            refine lv_iinc (v := (((X4_trait_r (MV ix) 0) - (2 * ((X2_suffer_j33 F) - 1))) + 4)) (lv' := [(5, .int (((X4_trait_r (MV ix) 0) - (2 * ((X2_suffer_j33 F) - 1))) + 4)), (4, .int ((((((MV ix) 5) * (X2_suffer_j56 F)) / 10) * 6) / 5)), (3, .int (X2_suffer_j56 F)), (2, .int (X2_suffer_j13 F)), (0, .ref h0), (1, .ref (AD (2 + ix)))]) hx hb dX2_suffer_97 hl (k := 1) rfl (by first | rfl | decide) (by decide) rfl (fun ls hl => ?_)
            have e_19 : (X2_suffer_j100 F MV ix) = (((X4_trait_r (MV ix) 0) - (2 * ((X2_suffer_j33 F) - 1))) + 4) := by rw [X2_suffer_j100]; simp only [eq_false c_8, ↓reduceIte]
            have e_20 : (X2_suffer_j100_1 F MV ix) = ((((((MV ix) 5) * (X2_suffer_j56 F)) / 10) * 6) / 5) := by rw [X2_suffer_j100_1]; simp only [eq_false c_8, ↓reduceIte]
            exact jn_9 _ _ _ (by (try simp only [e_19, e_20]); exact hP) (by (try simp only [e_19, e_20]); exact hD) hS (by (try simp only [e_19, e_20]); exact (lv_sub hl [0, 1, 4] rfl))
      · intro jn_6
        refine lv_icmp_ge (tgt := 55) hx hb dX2_suffer_42 (by decide) (fun c_5 => ?_) (fun c_5 => ?_)
        · refine lv_iconst (v := 1) hx hb dX2_suffer_55 (by decide) ?_
          have e_21 : (X2_suffer_j56 F) = 1 := by rw [X2_suffer_j56]; simp only [eq_true c_5, ↓reduceIte]
          refine W.eq (g2 := F0 m 56 ls [.int (X2_suffer_j56 F)]) (by simp only [e_21]) ?_
          exact jn_6 _ _ _ (by (try simp only [e_21]); exact hP) (by (try simp only [e_21]); exact hD) hS (by (try simp only [e_21]); exact (lv_sub hl [0, 1, 2] rfl))
        · refine lv_bipush (v := 11) hx hb dX2_suffer_45 (by decide) ?_
          refine lv_aload_n hx hb dX2_suffer_47 rfl (lv_at hl 1 rfl) ?_
          refine va_get (D := (dC, dI)) (ci := 2) (v := .int (X2_suffer_j33 F)) (C := RX2) (T := TX2) (N := 16) hx hb hts inw_X2_suffer_X2 hown hK hP 0 rfl rfl 4 (by decide) (hts (.fieldLink RX2 24 "DuelFrames$Figure" "count" "I") (List.mem_of_getElem? (i := 3) rfl)) (fun _ h9 => h9) rfl dX2_suffer_48 ?_
          refine lv_isub hx hb dX2_suffer_51 ?_
          refine lv_goto (tgt := 56) hx hb dX2_suffer_52 (by decide) ?_
          have e_22 : (X2_suffer_j56 F) = (11 - (X2_suffer_j33 F)) := by rw [X2_suffer_j56]; simp only [eq_false c_5, ↓reduceIte]
          refine W.eq (g2 := F0 m 56 ls [.int (X2_suffer_j56 F)]) (by simp only [e_22]) ?_
          exact jn_6 _ _ _ (by (try simp only [e_22]); exact hP) (by (try simp only [e_22]); exact hD) hS (by (try simp only [e_22]); exact (lv_sub hl [0, 1, 2] rfl))
    · intro jn_4
      refine lv_icmp_ne (tgt := 32) hx hb dX2_suffer_20 (by decide) (fun c_3 => ?_) (fun c_3 => ?_)
      · refine lv_iconst (v := 1) hx hb dX2_suffer_32 (by decide) ?_
        have e_23 : (X2_suffer_j33 F) = 1 := by rw [X2_suffer_j33]; simp only [eq_false c_3, ↓reduceIte]
        refine W.eq (g2 := F0 m 33 ls [.int (X2_suffer_j33 F), .ref h0]) (by simp only [e_23]) ?_
        exact jn_4 _ _ _ (by (try simp only [e_23]); exact hP) (by (try simp only [e_23]); exact hD) hS (by (try simp only [e_23]); exact (lv_sub hl [0, 1, 2] rfl))
      · refine lv_aload_n hx hb dX2_suffer_23 rfl (lv_at hl 1 rfl) ?_
        refine va_get (D := (dC, dI)) (ci := 2) (v := .int (F 14)) (C := RX2) (T := TX2) (N := 16) hx hb hts inw_X2_suffer_X2 hown hK hP 0 rfl rfl 14 (by decide) (hts (.fieldLink RX2 55 "DuelFrames$Figure" "counted" "I") (List.mem_of_getElem? (i := 2) rfl)) (fun _ h9 => h9) rfl dX2_suffer_24 ?_
        refine lv_iconst (v := 1) hx hb dX2_suffer_27 (by decide) ?_
        refine lv_iadd hx hb dX2_suffer_28 ?_
        refine lv_goto (tgt := 33) hx hb dX2_suffer_29 (by decide) ?_
        have e_24 : (X2_suffer_j33 F) = ((F 14) + 1) := by rw [X2_suffer_j33]; simp only [eq_true c_3, ↓reduceIte]
        refine W.eq (g2 := F0 m 33 ls [.int (X2_suffer_j33 F), .ref h0]) (by simp only [e_24]) ?_
        exact jn_4 _ _ _ (by (try simp only [e_24]); exact hP) (by (try simp only [e_24]); exact hD) hS (by (try simp only [e_24]); exact (lv_sub hl [0, 1, 2] rfl))
  · intro jn_2
    refine lv_icmp_ne (tgt := 12) hx hb dX2_suffer_5 (by decide) (fun c_1 => ?_) (fun c_1 => ?_)
    · refine lv_iconst (v := 0) hx hb dX2_suffer_12 (by decide) ?_
      have e_25 : (X2_suffer_j13 F) = 0 := by rw [X2_suffer_j13]; simp only [eq_false c_1, ↓reduceIte]
      refine W.eq (g2 := F0 m 13 ls [.int (X2_suffer_j13 F)]) (by simp only [e_25]) ?_
      exact jn_2 _ _ _ (by (try simp only [e_25]); exact hP) (by (try simp only [e_25]); exact hD) hS (by (try simp only [e_25]); exact (lv_sub hl [0, 1] rfl))
    · refine lv_iconst (v := 1) hx hb dX2_suffer_8 (by decide) ?_
      refine lv_goto (tgt := 13) hx hb dX2_suffer_9 (by decide) ?_
      have e_26 : (X2_suffer_j13 F) = 1 := by rw [X2_suffer_j13]; simp only [eq_true c_1, ↓reduceIte]
      refine W.eq (g2 := F0 m 13 ls [.int (X2_suffer_j13 F)]) (by simp only [e_26]) ?_
      exact jn_2 _ _ _ (by (try simp only [e_26]); exact hP) (by (try simp only [e_26]); exact hD) hS (by (try simp only [e_26]); exact (lv_sub hl [0, 1] rfl))
theorem inw_X2_isFreeForKept_X2 : ∀ w ∈ u_ws RX2 TX2 16, w ∈ wsX2_isFreeForKept := fun _ h => List.mem_cons_of_mem _ (List.mem_append_left _ (List.mem_append_left _ (List.mem_append_right _ h)))
def X2_isFreeForKept_j31 (F : Nat → Int32) : Int32 := (if (F 7) = (-1) then 0 else (if 10 < (F 7) then 0 else 1))
def X2_isFreeForKept_r (F : Nat → Int32) (MV : Nat → Nat → Int32) : Int32 := (if (F 3) = 0 then 1 else (if (F 3) = 1 then (if (X2_isFreeForKept_j31 F) = 0 then 0 else (if (X4_goesInto_r (MV (mi (F 5))) (F 9)) = 0 then 0 else 1)) else 0))
set_option maxHeartbeats 4000000 in
set_option maxRecDepth 100000 in
theorem c_X2_isFreeForKept (l : Launch) (dC : Nat → ClassId) (dI : Nat → Nat → Nat) (cY : Nat → ClassId) (h0 : Nat) (F : Nat → Int32) (AD : Nat → Nat) (cnt : Int32) (MV : Nat → Nat → Int32)  : Met l yX2_isFreeForKept wsX2_isFreeForKept ({ frames := 1, cells := 0, slots := 0, locals := 21 } : Room) (va_Pc [.ref h0, .ref (AD 0)] (rPre (dC, dI) (tyL cY) ([(h0, .inr (2, figL F)), (AD 0, .inr (5, [.int cnt, .ref (AD 1), .ref (AD 8)])), (AD 1, .inl (cY 2, 6, .inr (.inr (.inr (.inr (fun j => some (AD (2 + j))))))))] ++ bkM AD cY MV))) (vp_Si (fun r => r = (X2_isFreeForKept_r F MV) ∧ (r = 0 ∨ r = 1))) 0 0 (fun _ => False) := by
  refine Met.ofW (cc := cX2_isFreeForKept) (maxL := 3) (ret := (some .boolean)) (by decide) rfl ?_
  intro p e s m args below meth c s₁ B hml hv
  obtain ⟨rfl, hP, hK, hN⟩ := hv
  have hx := B.exec
  have hb := B.bytes
  have hr := B.returns
  have hts := atoms_spec (ws := wsX2_isFreeForKept) B.pre
  have hown : s.vm.findClass RX2 = some m.cls := findClass_of_methodNamed B.named
  have hlocks := B.notSynchronized
  have hP : va_P (dC, dI) vwCl ([(h0, .inr (2, figL F)), (AD 0, .inr (5, [.int cnt, .ref (AD 1), .ref (AD 8)])), (AD 1, .inl (cY 2, 6, .inr (.inr (.inr (.inr (fun j => some (AD (2 + j))))))))] ++ bkM AD cY MV) s.heap := hP
  have hl := lv_entry ([.ref h0, .ref (AD 0)]) (n := 3) (Nat.le_of_ble_eq_true rfl)
  rw [lg_entry_eq]
  generalize (lg_sl ([.ref h0, .ref (AD 0)]) ++ List.replicate (3 - (lg_sl ([.ref h0, .ref (AD 0)])).length) Slot.unset).toArray = ls at hl ⊢
  have hl : lv_has ls 3 [(0, .ref h0), (1, .ref (AD 0))] := hl
  refine lv_aload_n hx hb dX2_isFreeForKept_0 rfl (lv_at hl 0 rfl) ?_
  refine va_get (D := (dC, dI)) (ci := 2) (v := .int (F 3)) (C := RX2) (T := TX2) (N := 16) hx hb hts inw_X2_isFreeForKept_X2 hown hK hP 0 rfl rfl 3 (by decide) (hts (.fieldLink RX2 21 "DuelFrames$Figure" "does" "I") (List.mem_of_getElem? (i := 1) rfl)) (fun _ h9 => h9) rfl dX2_isFreeForKept_1 ?_
  refine lv_if_ne (tgt := 9) hx hb dX2_isFreeForKept_4 (by decide) (fun c_1 => ?_) (fun c_1 => ?_)
  · refine lv_aload_n hx hb dX2_isFreeForKept_9 rfl (lv_at hl 0 rfl) ?_
    refine va_get (D := (dC, dI)) (ci := 2) (v := .int (F 7)) (C := RX2) (T := TX2) (N := 16) hx hb hts inw_X2_isFreeForKept_X2 hown hK hP 0 rfl rfl 7 (by decide) (hts (.fieldLink RX2 33 "DuelFrames$Figure" "touchedAgo" "I") (List.mem_of_getElem? (i := 2) rfl)) (fun _ h9 => h9) rfl dX2_isFreeForKept_10 ?_
    refine lv_iconst (v := (-1)) hx hb dX2_isFreeForKept_13 (by decide) ?_
    refine jnR (lv := [(0, .ref h0), (1, .ref (AD 0))]) (st := [.int (X2_isFreeForKept_j31 F)]) (J := 31) (n := 3) ?_ ?_
    · intro ls hl
      refine lv_istore_n (lv' := [(2, .int (X2_isFreeForKept_j31 F)), (0, .ref h0), (1, .ref (AD 0))]) hx hb dX2_isFreeForKept_31 rfl hl (by decide) rfl (fun ls hl => ?_)
      refine lv_aload_n hx hb dX2_isFreeForKept_32 rfl (lv_at hl 1 rfl) ?_
      refine va_get (D := (dC, dI)) (ci := 2) (v := .int (F 3)) (C := RX2) (T := TX2) (N := 16) hx hb hts inw_X2_isFreeForKept_X2 hown hK hP 0 rfl rfl 3 (by decide) (hts (.fieldLink RX2 21 "DuelFrames$Figure" "does" "I") (List.mem_of_getElem? (i := 1) rfl)) (fun _ h9 => h9) rfl dX2_isFreeForKept_33 ?_
      refine lv_iconst (v := 1) hx hb dX2_isFreeForKept_36 (by decide) ?_
      refine lv_icmp_ne (tgt := 66) hx hb dX2_isFreeForKept_37 (by decide) (fun c_4 => ?_) (fun c_4 => ?_)
      · refine lv_iconst (v := 0) hx hb dX2_isFreeForKept_66 (by decide) ?_
        have eo_5 : (X2_isFreeForKept_r F MV) = 0 := by rw [X2_isFreeForKept_r]; simp only [eq_false c_1, eq_false c_4, ↓reduceIte]
        exact W.zret (v := 0) (ty := .boolean) hx hb hr rfl (fun t ht _ => ⟨_, rfl, ⟨eo_5.symm, (by decide)⟩, ht⟩) (fun _ h => absurd h List.not_mem_nil) dX2_isFreeForKept_67
      · refine lv_iload_n hx hb dX2_isFreeForKept_40 rfl (lv_at hl 0 rfl) ?_
        refine lv_if_eq (tgt := 66) hx hb dX2_isFreeForKept_41 (by decide) (fun c_6 => ?_) (fun c_6 => ?_)
        · refine lv_iconst (v := 0) hx hb dX2_isFreeForKept_66 (by decide) ?_
          have eo_7 : (X2_isFreeForKept_r F MV) = 0 := by rw [X2_isFreeForKept_r]; simp only [eq_false c_1, eq_true c_4, eq_true c_6, ↓reduceIte]
          exact W.zret (v := 0) (ty := .boolean) hx hb hr rfl (fun t ht _ => ⟨_, rfl, ⟨eo_7.symm, (by decide)⟩, ht⟩) (fun _ h => absurd h List.not_mem_nil) dX2_isFreeForKept_67
        · refine lv_aload_n hx hb dX2_isFreeForKept_44 rfl (lv_at hl 2 rfl) ?_
          refine lv_aload_n hx hb dX2_isFreeForKept_45 rfl (lv_at hl 1 rfl) ?_
          refine va_get (D := (dC, dI)) (ci := 2) (v := .int (F 5)) (C := RX2) (T := TX2) (N := 16) hx hb hts inw_X2_isFreeForKept_X2 hown hK hP 0 rfl rfl 5 (by decide) (hts (.fieldLink RX2 27 "DuelFrames$Figure" "move" "I") (List.mem_of_getElem? (i := 3) rfl)) (fun _ h9 => h9) rfl dX2_isFreeForKept_46 ?_
          have hPc := hP.sub (ws' := [(AD 0, .inr (5, [.int cnt, .ref (AD 1), .ref (AD 8)])), (AD 1, .inl (cY 2, 6, .inr (.inr (.inr (.inr (fun j => some (AD (2 + j))))))))]) [1, 2] rfl
          refine va_csr (W.runV (As := [.int (F 5)]) (rest := []) ⟨hx, hb, hml, hown, hts⟩ (c_X5_at l dC dI cY AD cnt (F 5)) (cwV 1 hts gX2_isFreeForKept_X5_at rfl rfl rfl (by decide +kernel) ⟨Nat.le_of_ble_eq_true rfl, Nat.le_of_ble_eq_true rfl⟩) ⟨blindR, va_recv hK hPc (ci := 5) (q0 := 0) rfl rfl, fun U hU hW => ⟨rfl, rPre_of hPc hK hN U hU hW⟩⟩ rfl rfl hl.1 rfl (lv_room (Nat.le_of_ble_eq_true rfl)) dX2_isFreeForKept_49 ⟨Nat.zero_le _, Nat.zero_le _⟩) (fun r hw => ?_)
          subst hw
          refine lv_aload_n hx hb dX2_isFreeForKept_52 rfl (lv_at hl 1 rfl) ?_
          refine va_get (D := (dC, dI)) (ci := 2) (v := .int (F 9)) (C := RX2) (T := TX2) (N := 16) hx hb hts inw_X2_isFreeForKept_X2 hown hK hP 0 rfl rfl 9 (by decide) (hts (.fieldLink RX2 39 "DuelFrames$Figure" "kept" "I") (List.mem_of_getElem? (i := 4) rfl)) (fun _ h9 => h9) rfl dX2_isFreeForKept_53 ?_
          have hPc := bk_move hP (mi_lt (F 5))
          refine vp_callSi (W.runV (As := [.int (F 9)]) (rest := []) ⟨hx, hb, hml, hown, hts⟩ (c_X4_goesInto l dC dI cY (AD (2 + (mi (F 5)))) (AD (9 + (mi (F 5)))) (AD (16 + (mi (F 5)))) (MV (mi (F 5))) (F 9)) (cwV 1 hts gX2_isFreeForKept_X4_goesInto rfl rfl rfl (by decide +kernel) ⟨Nat.le_of_ble_eq_true rfl, Nat.le_of_ble_eq_true rfl⟩) ⟨blindR, va_recv hK hPc (ci := 4) (q0 := 0) rfl rfl, fun U hU hW => ⟨rfl, rPre_of hPc hK hN U hU hW⟩⟩ rfl rfl hl.1 rfl (lv_room (Nat.le_of_ble_eq_true rfl)) dX2_isFreeForKept_56 ⟨Nat.zero_le _, Nat.zero_le _⟩) (fun r_8 hw => ?_)
          obtain ⟨hw, hb_9⟩ := hw
          subst hw
          refine lv_if_eq (tgt := 66) hx hb dX2_isFreeForKept_59 (by decide) (fun c_10 => ?_) (fun c_10 => ?_)
          · refine lv_iconst (v := 0) hx hb dX2_isFreeForKept_66 (by decide) ?_
            have eo_11 : (X2_isFreeForKept_r F MV) = 0 := by rw [X2_isFreeForKept_r]; simp only [eq_false c_1, eq_true c_4, eq_false c_6, eq_true c_10, ↓reduceIte]
            exact W.zret (v := 0) (ty := .boolean) hx hb hr rfl (fun t ht _ => ⟨_, rfl, ⟨eo_11.symm, (by decide)⟩, ht⟩) (fun _ h => absurd h List.not_mem_nil) dX2_isFreeForKept_67
          · refine lv_iconst (v := 1) hx hb dX2_isFreeForKept_62 (by decide) ?_
            refine lv_goto (tgt := 67) hx hb dX2_isFreeForKept_63 (by decide) ?_
            have eo_12 : (X2_isFreeForKept_r F MV) = 1 := by rw [X2_isFreeForKept_r]; simp only [eq_false c_1, eq_true c_4, eq_false c_6, eq_false c_10, ↓reduceIte]
            exact W.zret (v := 1) (ty := .boolean) hx hb hr rfl (fun t ht _ => ⟨_, rfl, ⟨eo_12.symm, (by decide)⟩, ht⟩) (fun _ h => absurd h List.not_mem_nil) dX2_isFreeForKept_67
    · intro jn_3
      refine lv_icmp_eq (tgt := 30) hx hb dX2_isFreeForKept_14 (by decide) (fun c_2 => ?_) (fun c_2 => ?_)
      · refine lv_iconst (v := 0) hx hb dX2_isFreeForKept_30 (by decide) ?_
        have e_13 : (X2_isFreeForKept_j31 F) = 0 := by rw [X2_isFreeForKept_j31]; simp only [eq_true c_2, ↓reduceIte]
        refine W.eq (g2 := F0 m 31 ls [.int (X2_isFreeForKept_j31 F)]) (by simp only [e_13]) ?_
        exact jn_3 _ (by (try simp only [e_13]); exact (lv_sub hl [0, 1] rfl))
      · refine lv_aload_n hx hb dX2_isFreeForKept_17 rfl (lv_at hl 0 rfl) ?_
        refine va_get (D := (dC, dI)) (ci := 2) (v := .int (F 7)) (C := RX2) (T := TX2) (N := 16) hx hb hts inw_X2_isFreeForKept_X2 hown hK hP 0 rfl rfl 7 (by decide) (hts (.fieldLink RX2 33 "DuelFrames$Figure" "touchedAgo" "I") (List.mem_of_getElem? (i := 2) rfl)) (fun _ h9 => h9) rfl dX2_isFreeForKept_18 ?_
        refine lv_bipush (v := 10) hx hb dX2_isFreeForKept_21 (by decide) ?_
        refine lv_icmp_gt (tgt := 30) hx hb dX2_isFreeForKept_23 (by decide) (fun c_14 => ?_) (fun c_14 => ?_)
        · refine lv_iconst (v := 0) hx hb dX2_isFreeForKept_30 (by decide) ?_
          have e_15 : (X2_isFreeForKept_j31 F) = 0 := by rw [X2_isFreeForKept_j31]; simp only [eq_false c_2, eq_true c_14, ↓reduceIte]
          refine W.eq (g2 := F0 m 31 ls [.int (X2_isFreeForKept_j31 F)]) (by simp only [e_15]) ?_
          exact jn_3 _ (by (try simp only [e_15]); exact (lv_sub hl [0, 1] rfl))
        · refine lv_iconst (v := 1) hx hb dX2_isFreeForKept_26 (by decide) ?_
          refine lv_goto (tgt := 31) hx hb dX2_isFreeForKept_27 (by decide) ?_
          have e_16 : (X2_isFreeForKept_j31 F) = 1 := by rw [X2_isFreeForKept_j31]; simp only [eq_false c_2, eq_false c_14, ↓reduceIte]
          refine W.eq (g2 := F0 m 31 ls [.int (X2_isFreeForKept_j31 F)]) (by simp only [e_16]) ?_
          exact jn_3 _ (by (try simp only [e_16]); exact (lv_sub hl [0, 1] rfl))
  · refine lv_iconst (v := 1) hx hb dX2_isFreeForKept_7 (by decide) ?_
    have eo_17 : (X2_isFreeForKept_r F MV) = 1 := by rw [X2_isFreeForKept_r]; simp only [eq_true c_1, ↓reduceIte]
    exact W.zret (v := 1) (ty := .boolean) hx hb hr rfl (fun t ht _ => ⟨_, rfl, ⟨eo_17.symm, (by decide)⟩, ht⟩) (fun _ h => absurd h List.not_mem_nil) dX2_isFreeForKept_8
theorem inw_X2_beginKept_X2 : ∀ w ∈ u_ws RX2 TX2 16, w ∈ wsX2_beginKept := fun _ h => List.mem_cons_of_mem _ (List.mem_append_left _ (List.mem_append_left _ (List.mem_append_right _ h)))
def X2_beginKept_w0 (F : Nat → Int32) (MV : Nat → Nat → Int32) : Nat → Int32 := (if (F 9) = (-1) then F else (if (F 2) < (X4_trait_r (MV (mi (F 9))) 3) then F else (if (X2_isFreeForKept_r F MV) = 0 then F else (X2_drop_w0 (upd (upd (upd (upd (upd (upd F 2 ((F 2) - (X4_trait_r (MV (mi (F 9))) 3))) 3 1) 5 (F 9)) 6 0) 7 (-1)) 12 1)))))
set_option maxHeartbeats 4000000 in
set_option maxRecDepth 100000 in
theorem c_X2_beginKept (l : Launch) (dC : Nat → ClassId) (dI : Nat → Nat → Nat) (cY : Nat → ClassId) (h0 : Nat) (F : Nat → Int32) (AD : Nat → Nat) (cnt : Int32) (MV : Nat → Nat → Int32)  (sz : Nat) : Met l yX2_beginKept wsX2_beginKept ({ frames := 2, cells := 0, slots := 0, locals := 43 } : Room) (va_Pc [.ref h0, .ref (AD 0)] (wPre (dC, dI) (tyL cY) ([(h0, .inr (2, figL F)), (AD 0, .inr (5, [.int cnt, .ref (AD 1), .ref (AD 8)])), (AD 1, .inl (cY 2, 6, .inr (.inr (.inr (.inr (fun j => some (AD (2 + j))))))))] ++ bkM AD cY MV) sz)) (va_Qv (fun _ : Unit => True) (wPost (dC, dI) ([(h0, .inr (2, figL (X2_beginKept_w0 F MV))), (AD 0, .inr (5, [.int cnt, .ref (AD 1), .ref (AD 8)])), (AD 1, .inl (cY 2, 6, .inr (.inr (.inr (.inr (fun j => some (AD (2 + j))))))))] ++ bkM AD cY MV) (va_A ([(h0, .inr (2, figL F)), (AD 0, .inr (5, [.int cnt, .ref (AD 1), .ref (AD 8)])), (AD 1, .inl (cY 2, 6, .inr (.inr (.inr (.inr (fun j => some (AD (2 + j))))))))] ++ bkM AD cY MV) sz)) (va_A ([(h0, .inr (2, figL F)), (AD 0, .inr (5, [.int cnt, .ref (AD 1), .ref (AD 8)])), (AD 1, .inl (cY 2, 6, .inr (.inr (.inr (.inr (fun j => some (AD (2 + j))))))))] ++ bkM AD cY MV) sz)) 0 0 (va_A ([(h0, .inr (2, figL F)), (AD 0, .inr (5, [.int cnt, .ref (AD 1), .ref (AD 8)])), (AD 1, .inl (cY 2, 6, .inr (.inr (.inr (.inr (fun j => some (AD (2 + j))))))))] ++ bkM AD cY MV) sz) := by
  refine Met.ofW (cc := cX2_beginKept) (maxL := 2) (ret := none) (by decide) rfl ?_
  intro p e s m args below meth c s₁ B hml hv
  obtain ⟨rfl, hsz, hP, hK, hN, hD0⟩ := hv
  have hx := B.exec
  have hb := B.bytes
  have hr := B.returns
  have hts := atoms_spec (ws := wsX2_beginKept) B.pre
  have hown : s.vm.findClass RX2 = some m.cls := findClass_of_methodNamed B.named
  have hlocks := B.notSynchronized
  subst hsz
  have hD := hD0.self (sz := s.heap.size)
  generalize hAe : va_A ([(h0, .inr (2, figL F)), (AD 0, .inr (5, [.int cnt, .ref (AD 1), .ref (AD 8)])), (AD 1, .inl (cY 2, 6, .inr (.inr (.inr (.inr (fun j => some (AD (2 + j))))))))] ++ bkM AD cY MV) s.heap.size = A at hD ⊢
  have hA : ∀ q : Nat, s.heap.size ≤ q → A q := fun q h => by rw [← hAe]; exact Or.inr h
  have hS : va_S A s.heap s.heap [] := va_S.rf
  have hP : va_P (dC, dI) vwCl ([(h0, .inr (2, figL F)), (AD 0, .inr (5, [.int cnt, .ref (AD 1), .ref (AD 8)])), (AD 1, .inl (cY 2, 6, .inr (.inr (.inr (.inr (fun j => some (AD (2 + j))))))))] ++ bkM AD cY MV) s.heap := hP
  have hl := lv_entry ([.ref h0, .ref (AD 0)]) (n := 2) (Nat.le_of_ble_eq_true rfl)
  rw [lg_entry_eq]
  generalize (lg_sl ([.ref h0, .ref (AD 0)]) ++ List.replicate (2 - (lg_sl ([.ref h0, .ref (AD 0)])).length) Slot.unset).toArray = ls at hl ⊢
  have hl : lv_has ls 2 [(0, .ref h0), (1, .ref (AD 0))] := hl
  refine lv_aload_n hx hb dX2_beginKept_0 rfl (lv_at hl 0 rfl) ?_
  refine va_get (D := (dC, dI)) (ci := 2) (v := .int (F 9)) (C := RX2) (T := TX2) (N := 16) hx hb hts inw_X2_beginKept_X2 hown hK hP 0 rfl rfl 9 (by decide) (hts (.fieldLink RX2 39 "DuelFrames$Figure" "kept" "I") (List.mem_of_getElem? (i := 1) rfl)) (fun _ h9 => h9) rfl dX2_beginKept_1 ?_
  refine lv_iconst (v := (-1)) hx hb dX2_beginKept_4 (by decide) ?_
  refine lv_icmp_eq (tgt := 35) hx hb dX2_beginKept_5 (by decide) (fun c_1 => ?_) (fun c_1 => ?_)
  · have eo_2 : (X2_beginKept_w0 F MV) = F := by rw [X2_beginKept_w0]; simp only [eq_true c_1, ↓reduceIte]
    have hP9 : va_P (dC, dI) vwCl ([(h0, .inr (2, figL (X2_beginKept_w0 F MV))), (AD 0, .inr (5, [.int cnt, .ref (AD 1), .ref (AD 8)])), (AD 1, .inl (cY 2, 6, .inr (.inr (.inr (.inr (fun j => some (AD (2 + j))))))))] ++ bkM AD cY MV) s.heap := by simp only [eo_2]; exact hP
    have hD9 : va_D A ([(h0, .inr (2, figL (X2_beginKept_w0 F MV))), (AD 0, .inr (5, [.int cnt, .ref (AD 1), .ref (AD 8)])), (AD 1, .inl (cY 2, 6, .inr (.inr (.inr (.inr (fun j => some (AD (2 + j))))))))] ++ bkM AD cY MV) := by simp only [eo_2]; exact hD
    exact W.vret hx hb hr (fun t ht hW => ⟨⟨(), rfl, trivial, wPost_of hP9 hD9 ht⟩, hS.F ht⟩) hS.2.2 dX2_beginKept_35
  · refine lv_aload_n hx hb dX2_beginKept_8 rfl (lv_at hl 1 rfl) ?_
    refine lv_aload_n hx hb dX2_beginKept_9 rfl (lv_at hl 0 rfl) ?_
    refine va_get (D := (dC, dI)) (ci := 2) (v := .int (F 9)) (C := RX2) (T := TX2) (N := 16) hx hb hts inw_X2_beginKept_X2 hown hK hP 0 rfl rfl 9 (by decide) (hts (.fieldLink RX2 39 "DuelFrames$Figure" "kept" "I") (List.mem_of_getElem? (i := 1) rfl)) (fun _ h9 => h9) rfl dX2_beginKept_10 ?_
    have hPc := hP.sub (ws' := [(AD 0, .inr (5, [.int cnt, .ref (AD 1), .ref (AD 8)])), (AD 1, .inl (cY 2, 6, .inr (.inr (.inr (.inr (fun j => some (AD (2 + j))))))))]) [1, 2] rfl
    refine va_csr (W.runV (As := [.int (F 9)]) (rest := []) ⟨hx, hb, hml, hown, hts⟩ (c_X5_at l dC dI cY AD cnt (F 9)) (cwV 1 hts gX2_beginKept_X5_at rfl rfl rfl (by decide +kernel) ⟨Nat.le_of_ble_eq_true rfl, Nat.le_of_ble_eq_true rfl⟩) ⟨blindR, va_recv hK hPc (ci := 5) (q0 := 0) rfl rfl, fun U hU hW => ⟨rfl, rPre_of hPc hK hN U hU hW⟩⟩ rfl rfl hl.1 rfl (lv_room (Nat.le_of_ble_eq_true rfl)) dX2_beginKept_13 ⟨Nat.zero_le _, Nat.zero_le _⟩) (fun r hw => ?_)
    subst hw
    refine lv_iconst (v := 3) hx hb dX2_beginKept_16 (by decide) ?_
    have hPc := bk_move hP (mi_lt (F 9))
    refine vp_callSi (W.runV (As := [.int 3]) (rest := []) ⟨hx, hb, hml, hown, hts⟩ (c_X4_trait l dC dI cY (AD (2 + (mi (F 9)))) (AD (9 + (mi (F 9)))) (AD (16 + (mi (F 9)))) (MV (mi (F 9))) 3) (cwV 1 hts gX2_beginKept_X4_trait rfl rfl rfl (by decide +kernel) ⟨Nat.le_of_ble_eq_true rfl, Nat.le_of_ble_eq_true rfl⟩) ⟨blindR, va_recv hK hPc (ci := 4) (q0 := 0) rfl rfl, fun U hU hW => ⟨rfl, rPre_of hPc hK hN U hU hW⟩⟩ rfl rfl hl.1 rfl (lv_room (Nat.le_of_ble_eq_true rfl)) dX2_beginKept_17 ⟨Nat.zero_le _, Nat.zero_le _⟩) (fun r_3 hw => ?_)
    subst hw
    refine lv_aload_n hx hb dX2_beginKept_20 rfl (lv_at hl 0 rfl) ?_
    refine va_get (D := (dC, dI)) (ci := 2) (v := .int (F 2)) (C := RX2) (T := TX2) (N := 16) hx hb hts inw_X2_beginKept_X2 hown hK hP 0 rfl rfl 2 (by decide) (hts (.fieldLink RX2 18 "DuelFrames$Figure" "meter" "I") (List.mem_of_getElem? (i := 2) rfl)) (fun _ h9 => h9) rfl dX2_beginKept_21 ?_
    refine lv_icmp_gt (tgt := 35) hx hb dX2_beginKept_24 (by decide) (fun c_4 => ?_) (fun c_4 => ?_)
    · have eo_5 : (X2_beginKept_w0 F MV) = F := by rw [X2_beginKept_w0]; simp only [eq_false c_1, eq_true c_4, ↓reduceIte]
      have hP9 : va_P (dC, dI) vwCl ([(h0, .inr (2, figL (X2_beginKept_w0 F MV))), (AD 0, .inr (5, [.int cnt, .ref (AD 1), .ref (AD 8)])), (AD 1, .inl (cY 2, 6, .inr (.inr (.inr (.inr (fun j => some (AD (2 + j))))))))] ++ bkM AD cY MV) s.heap := by simp only [eo_5]; exact hP
      have hD9 : va_D A ([(h0, .inr (2, figL (X2_beginKept_w0 F MV))), (AD 0, .inr (5, [.int cnt, .ref (AD 1), .ref (AD 8)])), (AD 1, .inl (cY 2, 6, .inr (.inr (.inr (.inr (fun j => some (AD (2 + j))))))))] ++ bkM AD cY MV) := by simp only [eo_5]; exact hD
      exact W.vret hx hb hr (fun t ht hW => ⟨⟨(), rfl, trivial, wPost_of hP9 hD9 ht⟩, hS.F ht⟩) hS.2.2 dX2_beginKept_35
    · refine lv_aload_n hx hb dX2_beginKept_27 rfl (lv_at hl 0 rfl) ?_
      refine lv_aload_n hx hb dX2_beginKept_28 rfl (lv_at hl 1 rfl) ?_
      have hPc := hP.part (cx := [(h0, .inr (2, figL F)), (AD 0, .inr (5, [.int cnt, .ref (AD 1), .ref (AD 8)])), (AD 1, .inl (cY 2, 6, .inr (.inr (.inr (.inr (fun j => some (AD (2 + j))))))))]) [0, 1, 2] rfl
      refine vp_callSi (W.runV (As := [.ref (AD 0)]) (rest := []) ⟨hx, hb, hml, hown, hts⟩ (c_X2_isFreeForKept l dC dI cY h0 F AD cnt MV) (cwV 1 hts gX2_beginKept_X2_isFreeForKept rfl rfl rfl (by decide +kernel) ⟨Nat.le_of_ble_eq_true rfl, Nat.le_of_ble_eq_true rfl⟩) ⟨blindR, va_recv hK hPc (ci := 2) (q0 := 0) rfl rfl, fun U hU hW => ⟨rfl, rPre_of hPc hK hN U hU hW⟩⟩ rfl rfl hl.1 rfl (lv_room (Nat.le_of_ble_eq_true rfl)) dX2_beginKept_29 ⟨Nat.zero_le _, Nat.zero_le _⟩) (fun r_6 hw => ?_)
      obtain ⟨hw, hb_7⟩ := hw
      subst hw
      refine lv_if_ne (tgt := 36) hx hb dX2_beginKept_32 (by decide) (fun c_8 => ?_) (fun c_8 => ?_)
      · refine lv_aload_n hx hb dX2_beginKept_36 rfl (lv_at hl 0 rfl) ?_
        refine lv_dup hx hb dX2_beginKept_37 rfl ?_
        refine va_get (D := (dC, dI)) (ci := 2) (v := .int (F 2)) (C := RX2) (T := TX2) (N := 16) hx hb hts inw_X2_beginKept_X2 hown hK hP 0 rfl rfl 2 (by decide) (hts (.fieldLink RX2 18 "DuelFrames$Figure" "meter" "I") (List.mem_of_getElem? (i := 2) rfl)) (fun _ h9 => h9) rfl dX2_beginKept_38 ?_
        refine lv_aload_n hx hb dX2_beginKept_41 rfl (lv_at hl 1 rfl) ?_
        refine lv_aload_n hx hb dX2_beginKept_42 rfl (lv_at hl 0 rfl) ?_
        refine va_get (D := (dC, dI)) (ci := 2) (v := .int (F 9)) (C := RX2) (T := TX2) (N := 16) hx hb hts inw_X2_beginKept_X2 hown hK hP 0 rfl rfl 9 (by decide) (hts (.fieldLink RX2 39 "DuelFrames$Figure" "kept" "I") (List.mem_of_getElem? (i := 1) rfl)) (fun _ h9 => h9) rfl dX2_beginKept_43 ?_
        have hPc := hP.sub (ws' := [(AD 0, .inr (5, [.int cnt, .ref (AD 1), .ref (AD 8)])), (AD 1, .inl (cY 2, 6, .inr (.inr (.inr (.inr (fun j => some (AD (2 + j))))))))]) [1, 2] rfl
        refine va_csr (W.runV (As := [.int (F 9)]) (rest := [.int (F 2), .ref h0]) ⟨hx, hb, hml, hown, hts⟩ (c_X5_at l dC dI cY AD cnt (F 9)) (cwV 1 hts gX2_beginKept_X5_at rfl rfl rfl (by decide +kernel) ⟨Nat.le_of_ble_eq_true rfl, Nat.le_of_ble_eq_true rfl⟩) ⟨blindR, va_recv hK hPc (ci := 5) (q0 := 0) rfl rfl, fun U hU hW => ⟨rfl, rPre_of hPc hK hN U hU hW⟩⟩ rfl rfl hl.1 rfl (lv_room (Nat.le_of_ble_eq_true rfl)) dX2_beginKept_46 ⟨Nat.zero_le _, Nat.zero_le _⟩) (fun r hw => ?_)
        subst hw
        refine lv_iconst (v := 3) hx hb dX2_beginKept_49 (by decide) ?_
        have hPc := bk_move hP (mi_lt (F 9))
        refine vp_callSi (W.runV (As := [.int 3]) (rest := [.int (F 2), .ref h0]) ⟨hx, hb, hml, hown, hts⟩ (c_X4_trait l dC dI cY (AD (2 + (mi (F 9)))) (AD (9 + (mi (F 9)))) (AD (16 + (mi (F 9)))) (MV (mi (F 9))) 3) (cwV 1 hts gX2_beginKept_X4_trait rfl rfl rfl (by decide +kernel) ⟨Nat.le_of_ble_eq_true rfl, Nat.le_of_ble_eq_true rfl⟩) ⟨blindR, va_recv hK hPc (ci := 4) (q0 := 0) rfl rfl, fun U hU hW => ⟨rfl, rPre_of hPc hK hN U hU hW⟩⟩ rfl rfl hl.1 rfl (lv_room (Nat.le_of_ble_eq_true rfl)) dX2_beginKept_50 ⟨Nat.zero_le _, Nat.zero_le _⟩) (fun r_9 hw => ?_)
        subst hw
        refine lv_isub hx hb dX2_beginKept_53 ?_
        refine va_put (D := (dC, dI)) (ci := 2) (v := .int ((F 2) - (X4_trait_r (MV (mi (F 9))) 3))) (ty := .int) (C := RX2) (T := TX2) (N := 16) hx hb hts inw_X2_beginKept_X2 tyX2 tyX2_ok nmX2 hown hK hP hD hS 0 rfl rfl 2 (by decide) (hts (.fieldLink RX2 18 "DuelFrames$Figure" "meter" "I") (List.mem_of_getElem? (i := 2) rfl)) (fun _ h9 => h9) rfl (by decide +kernel) rfl rfl (Nat.le_of_ble_eq_true rfl) dX2_beginKept_54 (fun H locs hP1 hD1 hS1 => ?_)
        clear hP hD hS
        have hP : va_P (dC, dI) vwCl ([(h0, .inr (2, figL (upd F 2 ((F 2) - (X4_trait_r (MV (mi (F 9))) 3))))), (AD 0, .inr (5, [.int cnt, .ref (AD 1), .ref (AD 8)])), (AD 1, .inl (cY 2, 6, .inr (.inr (.inr (.inr (fun j => some (AD (2 + j))))))))] ++ bkM AD cY MV) H := hP1
        have hD : va_D A ([(h0, .inr (2, figL (upd F 2 ((F 2) - (X4_trait_r (MV (mi (F 9))) 3))))), (AD 0, .inr (5, [.int cnt, .ref (AD 1), .ref (AD 8)])), (AD 1, .inl (cY 2, 6, .inr (.inr (.inr (.inr (fun j => some (AD (2 + j))))))))] ++ bkM AD cY MV) := hD1
        have hS := hS1
        clear hP1 hD1 hS1
        refine lv_aload_n hx hb dX2_beginKept_57 rfl (lv_at hl 0 rfl) ?_
        refine lv_iconst (v := 1) hx hb dX2_beginKept_58 (by decide) ?_
        refine va_put (D := (dC, dI)) (ci := 2) (v := .int 1) (ty := .int) (C := RX2) (T := TX2) (N := 16) hx hb hts inw_X2_beginKept_X2 tyX2 tyX2_ok nmX2 hown hK hP hD hS 0 rfl rfl 3 (by decide) (hts (.fieldLink RX2 21 "DuelFrames$Figure" "does" "I") (List.mem_of_getElem? (i := 3) rfl)) (fun _ h9 => h9) rfl (by decide +kernel) rfl rfl (Nat.le_of_ble_eq_true rfl) dX2_beginKept_59 (fun H locs hP1 hD1 hS1 => ?_)
        clear hP hD hS
        have hP : va_P (dC, dI) vwCl ([(h0, .inr (2, figL (upd (upd F 2 ((F 2) - (X4_trait_r (MV (mi (F 9))) 3))) 3 1))), (AD 0, .inr (5, [.int cnt, .ref (AD 1), .ref (AD 8)])), (AD 1, .inl (cY 2, 6, .inr (.inr (.inr (.inr (fun j => some (AD (2 + j))))))))] ++ bkM AD cY MV) H := hP1
        have hD : va_D A ([(h0, .inr (2, figL (upd (upd F 2 ((F 2) - (X4_trait_r (MV (mi (F 9))) 3))) 3 1))), (AD 0, .inr (5, [.int cnt, .ref (AD 1), .ref (AD 8)])), (AD 1, .inl (cY 2, 6, .inr (.inr (.inr (.inr (fun j => some (AD (2 + j))))))))] ++ bkM AD cY MV) := hD1
        have hS := hS1
        clear hP1 hD1 hS1
        refine lv_aload_n hx hb dX2_beginKept_62 rfl (lv_at hl 0 rfl) ?_
        refine lv_aload_n hx hb dX2_beginKept_63 rfl (lv_at hl 0 rfl) ?_
        refine va_get (D := (dC, dI)) (ci := 2) (v := .int (F 9)) (C := RX2) (T := TX2) (N := 16) hx hb hts inw_X2_beginKept_X2 hown hK hP 0 rfl rfl 9 (by decide) (hts (.fieldLink RX2 39 "DuelFrames$Figure" "kept" "I") (List.mem_of_getElem? (i := 1) rfl)) (fun _ h9 => h9) rfl dX2_beginKept_64 ?_
        refine va_put (D := (dC, dI)) (ci := 2) (v := .int (F 9)) (ty := .int) (C := RX2) (T := TX2) (N := 16) hx hb hts inw_X2_beginKept_X2 tyX2 tyX2_ok nmX2 hown hK hP hD hS 0 rfl rfl 5 (by decide) (hts (.fieldLink RX2 27 "DuelFrames$Figure" "move" "I") (List.mem_of_getElem? (i := 4) rfl)) (fun _ h9 => h9) rfl (by decide +kernel) rfl rfl (Nat.le_of_ble_eq_true rfl) dX2_beginKept_67 (fun H locs hP1 hD1 hS1 => ?_)
        clear hP hD hS
        have hP : va_P (dC, dI) vwCl ([(h0, .inr (2, figL (upd (upd (upd F 2 ((F 2) - (X4_trait_r (MV (mi (F 9))) 3))) 3 1) 5 (F 9)))), (AD 0, .inr (5, [.int cnt, .ref (AD 1), .ref (AD 8)])), (AD 1, .inl (cY 2, 6, .inr (.inr (.inr (.inr (fun j => some (AD (2 + j))))))))] ++ bkM AD cY MV) H := hP1
        have hD : va_D A ([(h0, .inr (2, figL (upd (upd (upd F 2 ((F 2) - (X4_trait_r (MV (mi (F 9))) 3))) 3 1) 5 (F 9)))), (AD 0, .inr (5, [.int cnt, .ref (AD 1), .ref (AD 8)])), (AD 1, .inl (cY 2, 6, .inr (.inr (.inr (.inr (fun j => some (AD (2 + j))))))))] ++ bkM AD cY MV) := hD1
        have hS := hS1
        clear hP1 hD1 hS1
        refine lv_aload_n hx hb dX2_beginKept_70 rfl (lv_at hl 0 rfl) ?_
        refine lv_iconst (v := 0) hx hb dX2_beginKept_71 (by decide) ?_
        refine va_put (D := (dC, dI)) (ci := 2) (v := .int 0) (ty := .int) (C := RX2) (T := TX2) (N := 16) hx hb hts inw_X2_beginKept_X2 tyX2 tyX2_ok nmX2 hown hK hP hD hS 0 rfl rfl 6 (by decide) (hts (.fieldLink RX2 30 "DuelFrames$Figure" "frame" "I") (List.mem_of_getElem? (i := 5) rfl)) (fun _ h9 => h9) rfl (by decide +kernel) rfl rfl (Nat.le_of_ble_eq_true rfl) dX2_beginKept_72 (fun H locs hP1 hD1 hS1 => ?_)
        clear hP hD hS
        have hP : va_P (dC, dI) vwCl ([(h0, .inr (2, figL (upd (upd (upd (upd F 2 ((F 2) - (X4_trait_r (MV (mi (F 9))) 3))) 3 1) 5 (F 9)) 6 0))), (AD 0, .inr (5, [.int cnt, .ref (AD 1), .ref (AD 8)])), (AD 1, .inl (cY 2, 6, .inr (.inr (.inr (.inr (fun j => some (AD (2 + j))))))))] ++ bkM AD cY MV) H := hP1
        have hD : va_D A ([(h0, .inr (2, figL (upd (upd (upd (upd F 2 ((F 2) - (X4_trait_r (MV (mi (F 9))) 3))) 3 1) 5 (F 9)) 6 0))), (AD 0, .inr (5, [.int cnt, .ref (AD 1), .ref (AD 8)])), (AD 1, .inl (cY 2, 6, .inr (.inr (.inr (.inr (fun j => some (AD (2 + j))))))))] ++ bkM AD cY MV) := hD1
        have hS := hS1
        clear hP1 hD1 hS1
        refine lv_aload_n hx hb dX2_beginKept_75 rfl (lv_at hl 0 rfl) ?_
        refine lv_iconst (v := (-1)) hx hb dX2_beginKept_76 (by decide) ?_
        refine va_put (D := (dC, dI)) (ci := 2) (v := .int (-1)) (ty := .int) (C := RX2) (T := TX2) (N := 16) hx hb hts inw_X2_beginKept_X2 tyX2 tyX2_ok nmX2 hown hK hP hD hS 0 rfl rfl 7 (by decide) (hts (.fieldLink RX2 33 "DuelFrames$Figure" "touchedAgo" "I") (List.mem_of_getElem? (i := 6) rfl)) (fun _ h9 => h9) rfl (by decide +kernel) rfl rfl (Nat.le_of_ble_eq_true rfl) dX2_beginKept_77 (fun H locs hP1 hD1 hS1 => ?_)
        clear hP hD hS
        have hP : va_P (dC, dI) vwCl ([(h0, .inr (2, figL (upd (upd (upd (upd (upd F 2 ((F 2) - (X4_trait_r (MV (mi (F 9))) 3))) 3 1) 5 (F 9)) 6 0) 7 (-1)))), (AD 0, .inr (5, [.int cnt, .ref (AD 1), .ref (AD 8)])), (AD 1, .inl (cY 2, 6, .inr (.inr (.inr (.inr (fun j => some (AD (2 + j))))))))] ++ bkM AD cY MV) H := hP1
        have hD : va_D A ([(h0, .inr (2, figL (upd (upd (upd (upd (upd F 2 ((F 2) - (X4_trait_r (MV (mi (F 9))) 3))) 3 1) 5 (F 9)) 6 0) 7 (-1)))), (AD 0, .inr (5, [.int cnt, .ref (AD 1), .ref (AD 8)])), (AD 1, .inl (cY 2, 6, .inr (.inr (.inr (.inr (fun j => some (AD (2 + j))))))))] ++ bkM AD cY MV) := hD1
        have hS := hS1
        clear hP1 hD1 hS1
        refine lv_aload_n hx hb dX2_beginKept_80 rfl (lv_at hl 0 rfl) ?_
        refine lv_iconst (v := 1) hx hb dX2_beginKept_81 (by decide) ?_
        refine va_put (D := (dC, dI)) (ci := 2) (v := .int 1) (ty := .boolean) (C := RX2) (T := TX2) (N := 16) hx hb hts inw_X2_beginKept_X2 tyX2 tyX2_ok nmX2 hown hK hP hD hS 0 rfl rfl 12 (by decide) (hts (.fieldLink RX2 48 "DuelFrames$Figure" "begins" "Z") (List.mem_of_getElem? (i := 7) rfl)) (fun _ h9 => h9) rfl (by decide +kernel) rfl rfl (Nat.le_of_ble_eq_true rfl) dX2_beginKept_82 (fun H locs hP1 hD1 hS1 => ?_)
        clear hP hD hS
        have hP : va_P (dC, dI) vwCl ([(h0, .inr (2, figL (upd (upd (upd (upd (upd (upd F 2 ((F 2) - (X4_trait_r (MV (mi (F 9))) 3))) 3 1) 5 (F 9)) 6 0) 7 (-1)) 12 1))), (AD 0, .inr (5, [.int cnt, .ref (AD 1), .ref (AD 8)])), (AD 1, .inl (cY 2, 6, .inr (.inr (.inr (.inr (fun j => some (AD (2 + j))))))))] ++ bkM AD cY MV) H := hP1
        have hD : va_D A ([(h0, .inr (2, figL (upd (upd (upd (upd (upd (upd F 2 ((F 2) - (X4_trait_r (MV (mi (F 9))) 3))) 3 1) 5 (F 9)) 6 0) 7 (-1)) 12 1))), (AD 0, .inr (5, [.int cnt, .ref (AD 1), .ref (AD 8)])), (AD 1, .inl (cY 2, 6, .inr (.inr (.inr (.inr (fun j => some (AD (2 + j))))))))] ++ bkM AD cY MV) := hD1
        have hS := hS1
        clear hP1 hD1 hS1
        refine lv_aload_n hx hb dX2_beginKept_85 rfl (lv_at hl 0 rfl) ?_
        have hPc := hP.sub (ws' := [(h0, .inr (2, figL (upd (upd (upd (upd (upd (upd F 2 ((F 2) - (X4_trait_r (MV (mi (F 9))) 3))) 3 1) 5 (F 9)) 6 0) 7 (-1)) 12 1)))]) [0] rfl
        have hDc := hD.sub (ws' := [(h0, .inr (2, figL (upd (upd (upd (upd (upd (upd F 2 ((F 2) - (X4_trait_r (MV (mi (F 9))) 3))) 3 1) 5 (F 9)) 6 0) 7 (-1)) 12 1)))]) [0] (by decide) rfl
        have hFc := va_free (wc := [(h0, .inr (2, figL (upd (upd (upd (upd (upd (upd F 2 ((F 2) - (X4_trait_r (MV (mi (F 9))) 3))) 3 1) 5 (F 9)) 6 0) 7 (-1)) 12 1)))]) hD hS hA [0] rfl
        refine va_callv (va_runV (As := []) (rest := []) ⟨hx, hb, hml, hown, hts⟩ (c_X2_drop l dC dI cY h0 (upd (upd (upd (upd (upd (upd F 2 ((F 2) - (X4_trait_r (MV (mi (F 9))) 3))) 3 1) 5 (F 9)) 6 0) 7 (-1)) 12 1) H.size) (cwV 0 hts gX2_beginKept_X2_drop rfl rfl rfl (by decide +kernel) ⟨Nat.le_of_ble_eq_true rfl, Nat.le_of_ble_eq_true rfl⟩) ⟨blindW, va_recv hK hPc (ci := 2) (q0 := 0) rfl rfl, fun U hU hW => ⟨rfl, wPre_of hPc hK hN hDc U hU hW⟩⟩ rfl rfl hl.1 rfl (lv_room (Nat.le_of_ble_eq_true rfl)) dX2_beginKept_86 ⟨Nat.zero_le _, Nat.zero_le _⟩) hS (fun q _ h => hFc q h) hFc (fun u t H1 locs ht hvm hw hB hz1 hk1 hS1 => ?_)
        have hJ := wJoinQ (wr := [(AD 0, .inr (5, [.int cnt, .ref (AD 1), .ref (AD 8)])), (AD 1, .inl (cY 2, 6, .inr (.inr (.inr (.inr (fun j => some (AD (2 + j))))))))]) (w1 := [(h0, .inr (2, figL (X2_drop_w0 (upd (upd (upd (upd (upd (upd F 2 ((F 2) - (X4_trait_r (MV (mi (F 9))) 3))) 3 1) 5 (F 9)) 6 0) 7 (-1)) 12 1))))]) (wn := [(h0, .inr (2, figL (X2_drop_w0 (upd (upd (upd (upd (upd (upd F 2 ((F 2) - (X4_trait_r (MV (mi (F 9))) 3))) 3 1) 5 (F 9)) 6 0) 7 (-1)) 12 1)))), (AD 0, .inr (5, [.int cnt, .ref (AD 1), .ref (AD 8)])), (AD 1, .inl (cY 2, 6, .inr (.inr (.inr (.inr (fun j => some (AD (2 + j))))))))]) hP hD [0] [1, 2] rfl rfl (by decide) (by decide) hk1 hFc hB ht [2, 0, 1] rfl (by decide)
        clear hB hk1 hFc hPc hDc hP hD hS hz1 hvm ht t
        obtain ⟨hP1, hD1⟩ := hJ
        generalize H1 = H at hP1 hS1 ⊢
        have hP : va_P (dC, dI) vwCl ([(h0, .inr (2, figL (X2_drop_w0 (upd (upd (upd (upd (upd (upd F 2 ((F 2) - (X4_trait_r (MV (mi (F 9))) 3))) 3 1) 5 (F 9)) 6 0) 7 (-1)) 12 1)))), (AD 0, .inr (5, [.int cnt, .ref (AD 1), .ref (AD 8)])), (AD 1, .inl (cY 2, 6, .inr (.inr (.inr (.inr (fun j => some (AD (2 + j))))))))] ++ bkM AD cY MV) H := hP1
        have hD : va_D A ([(h0, .inr (2, figL (X2_drop_w0 (upd (upd (upd (upd (upd (upd F 2 ((F 2) - (X4_trait_r (MV (mi (F 9))) 3))) 3 1) 5 (F 9)) 6 0) 7 (-1)) 12 1)))), (AD 0, .inr (5, [.int cnt, .ref (AD 1), .ref (AD 8)])), (AD 1, .inl (cY 2, 6, .inr (.inr (.inr (.inr (fun j => some (AD (2 + j))))))))] ++ bkM AD cY MV) := hD1
        have hS := hS1
        clear hP1 hD1 hS1
        obtain ⟨z_11, ez_11⟩ : ∃ z, z = (X2_drop_w0 (upd (upd (upd (upd (upd (upd F 2 ((F 2) - (X4_trait_r (MV (mi (F 9))) 3))) 3 1) 5 (F 9)) 6 0) 7 (-1)) 12 1)) := ⟨_, rfl⟩
        rw [← ez_11] at hP hD
        have eo_12 : (X2_beginKept_w0 F MV) = z_11 := by rw [X2_beginKept_w0]; simp only [← ez_11, eq_false c_1, eq_false c_4, eq_false c_8, ↓reduceIte]
        have hP9 : va_P (dC, dI) vwCl ([(h0, .inr (2, figL (X2_beginKept_w0 F MV))), (AD 0, .inr (5, [.int cnt, .ref (AD 1), .ref (AD 8)])), (AD 1, .inl (cY 2, 6, .inr (.inr (.inr (.inr (fun j => some (AD (2 + j))))))))] ++ bkM AD cY MV) H := by simp only [eo_12]; exact hP
        have hD9 : va_D A ([(h0, .inr (2, figL (X2_beginKept_w0 F MV))), (AD 0, .inr (5, [.int cnt, .ref (AD 1), .ref (AD 8)])), (AD 1, .inl (cY 2, 6, .inr (.inr (.inr (.inr (fun j => some (AD (2 + j))))))))] ++ bkM AD cY MV) := by simp only [eo_12]; exact hD
        exact W.vret hx hb hr (fun t ht hW => ⟨⟨(), rfl, trivial, wPost_of hP9 hD9 ht⟩, hS.F ht⟩) hS.2.2 dX2_beginKept_89
      · have eo_13 : (X2_beginKept_w0 F MV) = F := by rw [X2_beginKept_w0]; simp only [eq_false c_1, eq_false c_4, eq_true c_8, ↓reduceIte]
        have hP9 : va_P (dC, dI) vwCl ([(h0, .inr (2, figL (X2_beginKept_w0 F MV))), (AD 0, .inr (5, [.int cnt, .ref (AD 1), .ref (AD 8)])), (AD 1, .inl (cY 2, 6, .inr (.inr (.inr (.inr (fun j => some (AD (2 + j))))))))] ++ bkM AD cY MV) s.heap := by simp only [eo_13]; exact hP
        have hD9 : va_D A ([(h0, .inr (2, figL (X2_beginKept_w0 F MV))), (AD 0, .inr (5, [.int cnt, .ref (AD 1), .ref (AD 8)])), (AD 1, .inl (cY 2, 6, .inr (.inr (.inr (.inr (fun j => some (AD (2 + j))))))))] ++ bkM AD cY MV) := by simp only [eo_13]; exact hD
        exact W.vret hx hb hr (fun t ht hW => ⟨⟨(), rfl, trivial, wPost_of hP9 hD9 ht⟩, hS.F ht⟩) hS.2.2 dX2_beginKept_35
theorem inw_X2_endFrameOfMove_X2 : ∀ w ∈ u_ws RX2 TX2 16, w ∈ wsX2_endFrameOfMove := fun _ h => List.mem_cons_of_mem _ (List.mem_append_right _ h)
def X2_endFrameOfMove_j28 (F : Nat → Int32) : Nat → Int32 := (if (F 7) = (-1) then (upd F 6 ((F 6) + 1)) else (upd (upd F 6 ((F 6) + 1)) 7 ((F 7) + 1)))
def X2_endFrameOfMove_w0 (F : Nat → Int32) (frames : Int32) : Nat → Int32 := (if ((X2_endFrameOfMove_j28 F) 6) < frames then (X2_endFrameOfMove_j28 F) else (X2_stand_w0 (X2_endFrameOfMove_j28 F)))
set_option maxHeartbeats 4000000 in
set_option maxRecDepth 100000 in
theorem c_X2_endFrameOfMove (l : Launch) (dC : Nat → ClassId) (dI : Nat → Nat → Nat) (cY : Nat → ClassId) (h0 : Nat) (F : Nat → Int32) (frames : Int32)  (sz : Nat) : Met l yX2_endFrameOfMove wsX2_endFrameOfMove ({ frames := 2, cells := 0, slots := 0, locals := 40 } : Room) (va_Pc [.ref h0, .int frames] (wPre (dC, dI) (tyL cY) [(h0, .inr (2, figL F))] sz)) (va_Qv (fun _ : Unit => True) (wPost (dC, dI) [(h0, .inr (2, figL (X2_endFrameOfMove_w0 F frames)))] (va_A [(h0, .inr (2, figL F))] sz)) (va_A [(h0, .inr (2, figL F))] sz)) 0 0 (va_A [(h0, .inr (2, figL F))] sz) := by
  refine Met.ofW (cc := cX2_endFrameOfMove) (maxL := 2) (ret := none) (by decide) rfl ?_
  intro p e s m args below meth c s₁ B hml hv
  obtain ⟨rfl, hsz, hP, hK, hN, hD0⟩ := hv
  have hx := B.exec
  have hb := B.bytes
  have hr := B.returns
  have hts := atoms_spec (ws := wsX2_endFrameOfMove) B.pre
  have hown : s.vm.findClass RX2 = some m.cls := findClass_of_methodNamed B.named
  have hlocks := B.notSynchronized
  subst hsz
  have hD := hD0.self (sz := s.heap.size)
  generalize hAe : va_A [(h0, .inr (2, figL F))] s.heap.size = A at hD ⊢
  have hA : ∀ q : Nat, s.heap.size ≤ q → A q := fun q h => by rw [← hAe]; exact Or.inr h
  have hS : va_S A s.heap s.heap [] := va_S.rf
  have hP : va_P (dC, dI) vwCl [(h0, .inr (2, figL F))] s.heap := hP
  have hl := lv_entry ([.ref h0, .int frames]) (n := 2) (Nat.le_of_ble_eq_true rfl)
  rw [lg_entry_eq]
  generalize (lg_sl ([.ref h0, .int frames]) ++ List.replicate (2 - (lg_sl ([.ref h0, .int frames])).length) Slot.unset).toArray = ls at hl ⊢
  have hl : lv_has ls 2 [(0, .ref h0), (1, .int frames)] := hl
  refine lv_aload_n hx hb dX2_endFrameOfMove_0 rfl (lv_at hl 0 rfl) ?_
  refine lv_dup hx hb dX2_endFrameOfMove_1 rfl ?_
  refine va_get (D := (dC, dI)) (ci := 2) (v := .int (F 6)) (C := RX2) (T := TX2) (N := 16) hx hb hts inw_X2_endFrameOfMove_X2 hown hK hP 0 rfl rfl 6 (by decide) (hts (.fieldLink RX2 30 "DuelFrames$Figure" "frame" "I") (List.mem_of_getElem? (i := 1) rfl)) (fun _ h9 => h9) rfl dX2_endFrameOfMove_2 ?_
  refine lv_iconst (v := 1) hx hb dX2_endFrameOfMove_5 (by decide) ?_
  refine lv_iadd hx hb dX2_endFrameOfMove_6 ?_
  refine va_put (D := (dC, dI)) (ci := 2) (v := .int ((F 6) + 1)) (ty := .int) (C := RX2) (T := TX2) (N := 16) hx hb hts inw_X2_endFrameOfMove_X2 tyX2 tyX2_ok nmX2 hown hK hP hD hS 0 rfl rfl 6 (by decide) (hts (.fieldLink RX2 30 "DuelFrames$Figure" "frame" "I") (List.mem_of_getElem? (i := 1) rfl)) (fun _ h9 => h9) rfl (by decide +kernel) rfl rfl (Nat.le_of_ble_eq_true rfl) dX2_endFrameOfMove_7 (fun H locs hP1 hD1 hS1 => ?_)
  clear hP hD hS
  have hP : va_P (dC, dI) vwCl [(h0, .inr (2, figL (upd F 6 ((F 6) + 1))))] H := hP1
  have hD : va_D A [(h0, .inr (2, figL (upd F 6 ((F 6) + 1))))] := hD1
  have hS := hS1
  clear hP1 hD1 hS1
  refine lv_aload_n hx hb dX2_endFrameOfMove_10 rfl (lv_at hl 0 rfl) ?_
  refine va_get (D := (dC, dI)) (ci := 2) (v := .int (F 7)) (C := RX2) (T := TX2) (N := 16) hx hb hts inw_X2_endFrameOfMove_X2 hown hK hP 0 rfl rfl 7 (by decide) (hts (.fieldLink RX2 33 "DuelFrames$Figure" "touchedAgo" "I") (List.mem_of_getElem? (i := 2) rfl)) (fun _ h9 => h9) rfl dX2_endFrameOfMove_11 ?_
  refine lv_iconst (v := (-1)) hx hb dX2_endFrameOfMove_14 (by decide) ?_
  refine jnW (D := (dC, dI)) (ws := [(h0, .inr (2, figL (X2_endFrameOfMove_j28 F)))]) (lv := [(0, .ref h0), (1, .int frames)]) (st := []) (J := 28) (n := 2) (A := A) (H0 := s.heap) ?_ ?_
  · intro H locs ls hP hD hS hl
    obtain ⟨z_3, ez_3⟩ : ∃ z, z = (X2_endFrameOfMove_j28 F) := ⟨_, rfl⟩
    rw [← ez_3] at hP hD
    refine lv_aload_n hx hb dX2_endFrameOfMove_28 rfl (lv_at hl 0 rfl) ?_
    refine va_get (D := (dC, dI)) (ci := 2) (v := .int (z_3 6)) (C := RX2) (T := TX2) (N := 16) hx hb hts inw_X2_endFrameOfMove_X2 hown hK hP 0 rfl rfl 6 (by decide) (hts (.fieldLink RX2 30 "DuelFrames$Figure" "frame" "I") (List.mem_of_getElem? (i := 1) rfl)) (fun _ h9 => h9) rfl dX2_endFrameOfMove_29 ?_
    refine lv_iload_n hx hb dX2_endFrameOfMove_32 rfl (lv_at hl 1 rfl) ?_
    refine lv_icmp_lt (tgt := 40) hx hb dX2_endFrameOfMove_33 (by decide) (fun c_4 => ?_) (fun c_4 => ?_)
    · have eo_5 : (X2_endFrameOfMove_w0 F frames) = z_3 := by rw [X2_endFrameOfMove_w0]; simp only [← ez_3, eq_true c_4, ↓reduceIte]
      have hP9 : va_P (dC, dI) vwCl [(h0, .inr (2, figL (X2_endFrameOfMove_w0 F frames)))] H := by simp only [eo_5]; exact hP
      have hD9 : va_D A [(h0, .inr (2, figL (X2_endFrameOfMove_w0 F frames)))] := by simp only [eo_5]; exact hD
      exact W.vret hx hb hr (fun t ht hW => ⟨⟨(), rfl, trivial, wPost_of hP9 hD9 ht⟩, hS.F ht⟩) hS.2.2 dX2_endFrameOfMove_40
    · refine lv_aload_n hx hb dX2_endFrameOfMove_36 rfl (lv_at hl 0 rfl) ?_
      have hPc := hP.sub (ws' := [(h0, .inr (2, figL z_3))]) [0] rfl
      have hDc := hD.sub (ws' := [(h0, .inr (2, figL z_3))]) [0] (by decide) rfl
      have hFc := va_free (wc := [(h0, .inr (2, figL z_3))]) hD hS hA [0] rfl
      refine va_callv (va_runV (As := []) (rest := []) ⟨hx, hb, hml, hown, hts⟩ (c_X2_stand l dC dI cY h0 z_3 H.size) (cwV 0 hts gX2_endFrameOfMove_X2_stand rfl rfl rfl (by decide +kernel) ⟨Nat.le_of_ble_eq_true rfl, Nat.le_of_ble_eq_true rfl⟩) ⟨blindW, va_recv hK hPc (ci := 2) (q0 := 0) rfl rfl, fun U hU hW => ⟨rfl, wPre_of hPc hK hN hDc U hU hW⟩⟩ rfl rfl hl.1 rfl (lv_room (Nat.le_of_ble_eq_true rfl)) dX2_endFrameOfMove_37 ⟨Nat.zero_le _, Nat.zero_le _⟩) hS (fun q _ h => hFc q h) hFc (fun u t H1 locs ht hvm hw hB hz1 hk1 hS1 => ?_)
      have hJ := wJoin (wr := []) (w1 := [(h0, .inr (2, figL (X2_stand_w0 z_3)))]) (wn := [(h0, .inr (2, figL (X2_stand_w0 z_3)))]) hP hD [0] [] rfl rfl (by decide) (by decide) hk1 hFc hB ht [0] rfl (by decide)
      clear hB hk1 hFc hPc hDc hP hD hS hz1 hvm ht t
      obtain ⟨hP1, hD1⟩ := hJ
      generalize H1 = H at hP1 hS1 ⊢
      have hP : va_P (dC, dI) vwCl [(h0, .inr (2, figL (X2_stand_w0 z_3)))] H := hP1
      have hD : va_D A [(h0, .inr (2, figL (X2_stand_w0 z_3)))] := hD1
      have hS := hS1
      clear hP1 hD1 hS1
      obtain ⟨z_7, ez_7⟩ : ∃ z, z = (X2_stand_w0 z_3) := ⟨_, rfl⟩
      rw [← ez_7] at hP hD
      have eo_8 : (X2_endFrameOfMove_w0 F frames) = z_7 := by rw [X2_endFrameOfMove_w0]; simp only [← ez_3, ← ez_7, eq_false c_4, ↓reduceIte]
      have hP9 : va_P (dC, dI) vwCl [(h0, .inr (2, figL (X2_endFrameOfMove_w0 F frames)))] H := by simp only [eo_8]; exact hP
      have hD9 : va_D A [(h0, .inr (2, figL (X2_endFrameOfMove_w0 F frames)))] := by simp only [eo_8]; exact hD
      exact W.vret hx hb hr (fun t ht hW => ⟨⟨(), rfl, trivial, wPost_of hP9 hD9 ht⟩, hS.F ht⟩) hS.2.2 dX2_endFrameOfMove_40
  · intro jn_2
    refine lv_icmp_eq (tgt := 28) hx hb dX2_endFrameOfMove_15 (by decide) (fun c_1 => ?_) (fun c_1 => ?_)
    · have e_9 : (X2_endFrameOfMove_j28 F) = (upd F 6 ((F 6) + 1)) := by rw [X2_endFrameOfMove_j28]; simp only [eq_true c_1, ↓reduceIte]
      exact jn_2 _ _ _ (by (try simp only [e_9]); exact hP) (by (try simp only [e_9]); exact hD) hS (by (try simp only [e_9]); exact (lv_sub hl [0, 1] rfl))
    · refine lv_aload_n hx hb dX2_endFrameOfMove_18 rfl (lv_at hl 0 rfl) ?_
      refine lv_dup hx hb dX2_endFrameOfMove_19 rfl ?_
      refine va_get (D := (dC, dI)) (ci := 2) (v := .int (F 7)) (C := RX2) (T := TX2) (N := 16) hx hb hts inw_X2_endFrameOfMove_X2 hown hK hP 0 rfl rfl 7 (by decide) (hts (.fieldLink RX2 33 "DuelFrames$Figure" "touchedAgo" "I") (List.mem_of_getElem? (i := 2) rfl)) (fun _ h9 => h9) rfl dX2_endFrameOfMove_20 ?_
      refine lv_iconst (v := 1) hx hb dX2_endFrameOfMove_23 (by decide) ?_
      refine lv_iadd hx hb dX2_endFrameOfMove_24 ?_
      refine va_put (D := (dC, dI)) (ci := 2) (v := .int ((F 7) + 1)) (ty := .int) (C := RX2) (T := TX2) (N := 16) hx hb hts inw_X2_endFrameOfMove_X2 tyX2 tyX2_ok nmX2 hown hK hP hD hS 0 rfl rfl 7 (by decide) (hts (.fieldLink RX2 33 "DuelFrames$Figure" "touchedAgo" "I") (List.mem_of_getElem? (i := 2) rfl)) (fun _ h9 => h9) rfl (by decide +kernel) rfl rfl (Nat.le_of_ble_eq_true rfl) dX2_endFrameOfMove_25 (fun H locs hP1 hD1 hS1 => ?_)
      clear hP hD hS
      have hP : va_P (dC, dI) vwCl [(h0, .inr (2, figL (upd (upd F 6 ((F 6) + 1)) 7 ((F 7) + 1))))] H := hP1
      have hD : va_D A [(h0, .inr (2, figL (upd (upd F 6 ((F 6) + 1)) 7 ((F 7) + 1))))] := hD1
      have hS := hS1
      clear hP1 hD1 hS1
      have e_10 : (X2_endFrameOfMove_j28 F) = (upd (upd F 6 ((F 6) + 1)) 7 ((F 7) + 1)) := by rw [X2_endFrameOfMove_j28]; simp only [eq_false c_1, ↓reduceIte]
      exact jn_2 _ _ _ (by (try simp only [e_10]); exact hP) (by (try simp only [e_10]); exact hD) hS (by (try simp only [e_10]); exact (lv_sub hl [0, 1] rfl))
theorem inw_X2_endFrame_X2 : ∀ w ∈ u_ws RX2 TX2 16, w ∈ wsX2_endFrame := fun _ h => List.mem_cons_of_mem _ (List.mem_append_left _ (List.mem_append_left _ (List.mem_append_right _ h)))
def X2_endFrame_j54 (F : Nat → Int32) (MV : Nat → Nat → Int32) : Nat → Int32 := (if (F 3) = 1 then (X2_endFrameOfMove_w0 F (X4_frames_r (MV (mi (F 5))))) else (if (F 3) = 0 then F else (if 0 < ((F 8) - 1) then (upd F 8 ((F 8) - 1)) else (X2_stand_w0 (upd F 8 ((F 8) - 1))))))
def X2_endFrame_j67 (F : Nat → Int32) (MV : Nat → Nat → Int32) : Nat → Int32 := (if ((X2_endFrame_j54 F MV) 3) = 2 then (X2_endFrame_j54 F MV) else (upd (X2_endFrame_j54 F MV) 4 0))
def X2_endFrame_w0 (F : Nat → Int32) (MV : Nat → Nat → Int32) : Nat → Int32 := (if 0 < (((X2_endFrame_j67 F MV) 10) - 1) then (upd (X2_endFrame_j67 F MV) 10 (((X2_endFrame_j67 F MV) 10) - 1)) else (X2_drop_w0 (upd (X2_endFrame_j67 F MV) 10 (((X2_endFrame_j67 F MV) 10) - 1))))
set_option maxHeartbeats 4000000 in
set_option maxRecDepth 100000 in
theorem c_X2_endFrame (l : Launch) (dC : Nat → ClassId) (dI : Nat → Nat → Nat) (cY : Nat → ClassId) (h0 : Nat) (F : Nat → Int32) (AD : Nat → Nat) (cnt : Int32) (MV : Nat → Nat → Int32)  (sz : Nat) : Met l yX2_endFrame wsX2_endFrame ({ frames := 3, cells := 0, slots := 0, locals := 61 } : Room) (va_Pc [.ref h0, .ref (AD 0)] (wPre (dC, dI) (tyL cY) ([(h0, .inr (2, figL F)), (AD 0, .inr (5, [.int cnt, .ref (AD 1), .ref (AD 8)])), (AD 1, .inl (cY 2, 6, .inr (.inr (.inr (.inr (fun j => some (AD (2 + j))))))))] ++ bkM AD cY MV) sz)) (va_Qv (fun _ : Unit => True) (wPost (dC, dI) ([(h0, .inr (2, figL (X2_endFrame_w0 F MV))), (AD 0, .inr (5, [.int cnt, .ref (AD 1), .ref (AD 8)])), (AD 1, .inl (cY 2, 6, .inr (.inr (.inr (.inr (fun j => some (AD (2 + j))))))))] ++ bkM AD cY MV) (va_A ([(h0, .inr (2, figL F)), (AD 0, .inr (5, [.int cnt, .ref (AD 1), .ref (AD 8)])), (AD 1, .inl (cY 2, 6, .inr (.inr (.inr (.inr (fun j => some (AD (2 + j))))))))] ++ bkM AD cY MV) sz)) (va_A ([(h0, .inr (2, figL F)), (AD 0, .inr (5, [.int cnt, .ref (AD 1), .ref (AD 8)])), (AD 1, .inl (cY 2, 6, .inr (.inr (.inr (.inr (fun j => some (AD (2 + j))))))))] ++ bkM AD cY MV) sz)) 0 0 (va_A ([(h0, .inr (2, figL F)), (AD 0, .inr (5, [.int cnt, .ref (AD 1), .ref (AD 8)])), (AD 1, .inl (cY 2, 6, .inr (.inr (.inr (.inr (fun j => some (AD (2 + j))))))))] ++ bkM AD cY MV) sz) := by
  refine Met.ofW (cc := cX2_endFrame) (maxL := 2) (ret := none) (by decide) rfl ?_
  intro p e s m args below meth c s₁ B hml hv
  obtain ⟨rfl, hsz, hP, hK, hN, hD0⟩ := hv
  have hx := B.exec
  have hb := B.bytes
  have hr := B.returns
  have hts := atoms_spec (ws := wsX2_endFrame) B.pre
  have hown : s.vm.findClass RX2 = some m.cls := findClass_of_methodNamed B.named
  have hlocks := B.notSynchronized
  subst hsz
  have hD := hD0.self (sz := s.heap.size)
  generalize hAe : va_A ([(h0, .inr (2, figL F)), (AD 0, .inr (5, [.int cnt, .ref (AD 1), .ref (AD 8)])), (AD 1, .inl (cY 2, 6, .inr (.inr (.inr (.inr (fun j => some (AD (2 + j))))))))] ++ bkM AD cY MV) s.heap.size = A at hD ⊢
  have hA : ∀ q : Nat, s.heap.size ≤ q → A q := fun q h => by rw [← hAe]; exact Or.inr h
  have hS : va_S A s.heap s.heap [] := va_S.rf
  have hP : va_P (dC, dI) vwCl ([(h0, .inr (2, figL F)), (AD 0, .inr (5, [.int cnt, .ref (AD 1), .ref (AD 8)])), (AD 1, .inl (cY 2, 6, .inr (.inr (.inr (.inr (fun j => some (AD (2 + j))))))))] ++ bkM AD cY MV) s.heap := hP
  have hl := lv_entry ([.ref h0, .ref (AD 0)]) (n := 2) (Nat.le_of_ble_eq_true rfl)
  rw [lg_entry_eq]
  generalize (lg_sl ([.ref h0, .ref (AD 0)]) ++ List.replicate (2 - (lg_sl ([.ref h0, .ref (AD 0)])).length) Slot.unset).toArray = ls at hl ⊢
  have hl : lv_has ls 2 [(0, .ref h0), (1, .ref (AD 0))] := hl
  refine lv_aload_n hx hb dX2_endFrame_0 rfl (lv_at hl 0 rfl) ?_
  refine va_get (D := (dC, dI)) (ci := 2) (v := .int (F 3)) (C := RX2) (T := TX2) (N := 16) hx hb hts inw_X2_endFrame_X2 hown hK hP 0 rfl rfl 3 (by decide) (hts (.fieldLink RX2 21 "DuelFrames$Figure" "does" "I") (List.mem_of_getElem? (i := 1) rfl)) (fun _ h9 => h9) rfl dX2_endFrame_1 ?_
  refine lv_iconst (v := 1) hx hb dX2_endFrame_4 (by decide) ?_
  refine jnW (D := (dC, dI)) (ws := ([(h0, .inr (2, figL (X2_endFrame_j54 F MV))), (AD 0, .inr (5, [.int cnt, .ref (AD 1), .ref (AD 8)])), (AD 1, .inl (cY 2, 6, .inr (.inr (.inr (.inr (fun j => some (AD (2 + j))))))))] ++ bkM AD cY MV)) (lv := [(0, .ref h0)]) (st := []) (J := 54) (n := 2) (A := A) (H0 := s.heap) ?_ ?_
  · intro H locs ls hP hD hS hl
    obtain ⟨z_3, ez_3⟩ : ∃ z, z = (X2_endFrame_j54 F MV) := ⟨_, rfl⟩
    rw [← ez_3] at hP hD
    refine lv_aload_n hx hb dX2_endFrame_54 rfl (lv_at hl 0 rfl) ?_
    refine va_get (D := (dC, dI)) (ci := 2) (v := .int (z_3 3)) (C := RX2) (T := TX2) (N := 16) hx hb hts inw_X2_endFrame_X2 hown hK hP 0 rfl rfl 3 (by decide) (hts (.fieldLink RX2 21 "DuelFrames$Figure" "does" "I") (List.mem_of_getElem? (i := 1) rfl)) (fun _ h9 => h9) rfl dX2_endFrame_55 ?_
    refine lv_iconst (v := 2) hx hb dX2_endFrame_58 (by decide) ?_
    refine jnW (D := (dC, dI)) (ws := ([(h0, .inr (2, figL (X2_endFrame_j67 F MV))), (AD 0, .inr (5, [.int cnt, .ref (AD 1), .ref (AD 8)])), (AD 1, .inl (cY 2, 6, .inr (.inr (.inr (.inr (fun j => some (AD (2 + j))))))))] ++ bkM AD cY MV)) (lv := [(0, .ref h0)]) (st := []) (J := 67) (n := 2) (A := A) (H0 := s.heap) ?_ ?_
    · intro H locs ls hP hD hS hl
      obtain ⟨z_6, ez_6⟩ : ∃ z, z = (X2_endFrame_j67 F MV) := ⟨_, rfl⟩
      rw [← ez_6] at hP hD
      refine lv_aload_n hx hb dX2_endFrame_67 rfl (lv_at hl 0 rfl) ?_
      refine lv_dup hx hb dX2_endFrame_68 rfl ?_
      refine va_get (D := (dC, dI)) (ci := 2) (v := .int (z_6 10)) (C := RX2) (T := TX2) (N := 16) hx hb hts inw_X2_endFrame_X2 hown hK hP 0 rfl rfl 10 (by decide) (hts (.fieldLink RX2 42 "DuelFrames$Figure" "keptFor" "I") (List.mem_of_getElem? (i := 5) rfl)) (fun _ h9 => h9) rfl dX2_endFrame_69 ?_
      refine lv_iconst (v := 1) hx hb dX2_endFrame_72 (by decide) ?_
      refine lv_isub hx hb dX2_endFrame_73 ?_
      refine va_put (D := (dC, dI)) (ci := 2) (v := .int ((z_6 10) - 1)) (ty := .int) (C := RX2) (T := TX2) (N := 16) hx hb hts inw_X2_endFrame_X2 tyX2 tyX2_ok nmX2 hown hK hP hD hS 0 rfl rfl 10 (by decide) (hts (.fieldLink RX2 42 "DuelFrames$Figure" "keptFor" "I") (List.mem_of_getElem? (i := 5) rfl)) (fun _ h9 => h9) rfl (by decide +kernel) rfl rfl (Nat.le_of_ble_eq_true rfl) dX2_endFrame_74 (fun H locs hP1 hD1 hS1 => ?_)
      clear hP hD hS
      have hP : va_P (dC, dI) vwCl ([(h0, .inr (2, figL (upd z_6 10 ((z_6 10) - 1)))), (AD 0, .inr (5, [.int cnt, .ref (AD 1), .ref (AD 8)])), (AD 1, .inl (cY 2, 6, .inr (.inr (.inr (.inr (fun j => some (AD (2 + j))))))))] ++ bkM AD cY MV) H := hP1
      have hD : va_D A ([(h0, .inr (2, figL (upd z_6 10 ((z_6 10) - 1)))), (AD 0, .inr (5, [.int cnt, .ref (AD 1), .ref (AD 8)])), (AD 1, .inl (cY 2, 6, .inr (.inr (.inr (.inr (fun j => some (AD (2 + j))))))))] ++ bkM AD cY MV) := hD1
      have hS := hS1
      clear hP1 hD1 hS1
      refine lv_aload_n hx hb dX2_endFrame_77 rfl (lv_at hl 0 rfl) ?_
      refine va_get (D := (dC, dI)) (ci := 2) (v := .int ((z_6 10) - 1)) (C := RX2) (T := TX2) (N := 16) hx hb hts inw_X2_endFrame_X2 hown hK hP 0 rfl rfl 10 (by decide) (hts (.fieldLink RX2 42 "DuelFrames$Figure" "keptFor" "I") (List.mem_of_getElem? (i := 5) rfl)) (fun _ h9 => h9) rfl dX2_endFrame_78 ?_
      refine lv_if_gt (tgt := 88) hx hb dX2_endFrame_81 (by decide) (fun c_7 => ?_) (fun c_7 => ?_)
      · have eo_8 : (X2_endFrame_w0 F MV) = (upd z_6 10 ((z_6 10) - 1)) := by rw [X2_endFrame_w0]; simp only [← ez_3, ← ez_6, eq_true c_7, ↓reduceIte]
        have hP9 : va_P (dC, dI) vwCl ([(h0, .inr (2, figL (X2_endFrame_w0 F MV))), (AD 0, .inr (5, [.int cnt, .ref (AD 1), .ref (AD 8)])), (AD 1, .inl (cY 2, 6, .inr (.inr (.inr (.inr (fun j => some (AD (2 + j))))))))] ++ bkM AD cY MV) H := by simp only [eo_8]; exact hP
        have hD9 : va_D A ([(h0, .inr (2, figL (X2_endFrame_w0 F MV))), (AD 0, .inr (5, [.int cnt, .ref (AD 1), .ref (AD 8)])), (AD 1, .inl (cY 2, 6, .inr (.inr (.inr (.inr (fun j => some (AD (2 + j))))))))] ++ bkM AD cY MV) := by simp only [eo_8]; exact hD
        exact W.vret hx hb hr (fun t ht hW => ⟨⟨(), rfl, trivial, wPost_of hP9 hD9 ht⟩, hS.F ht⟩) hS.2.2 dX2_endFrame_88
      · refine lv_aload_n hx hb dX2_endFrame_84 rfl (lv_at hl 0 rfl) ?_
        have hPc := hP.sub (ws' := [(h0, .inr (2, figL (upd z_6 10 ((z_6 10) - 1))))]) [0] rfl
        have hDc := hD.sub (ws' := [(h0, .inr (2, figL (upd z_6 10 ((z_6 10) - 1))))]) [0] (by decide) rfl
        have hFc := va_free (wc := [(h0, .inr (2, figL (upd z_6 10 ((z_6 10) - 1))))]) hD hS hA [0] rfl
        refine va_callv (va_runV (As := []) (rest := []) ⟨hx, hb, hml, hown, hts⟩ (c_X2_drop l dC dI cY h0 (upd z_6 10 ((z_6 10) - 1)) H.size) (cwV 0 hts gX2_endFrame_X2_drop rfl rfl rfl (by decide +kernel) ⟨Nat.le_of_ble_eq_true rfl, Nat.le_of_ble_eq_true rfl⟩) ⟨blindW, va_recv hK hPc (ci := 2) (q0 := 0) rfl rfl, fun U hU hW => ⟨rfl, wPre_of hPc hK hN hDc U hU hW⟩⟩ rfl rfl hl.1 rfl (lv_room (Nat.le_of_ble_eq_true rfl)) dX2_endFrame_85 ⟨Nat.zero_le _, Nat.zero_le _⟩) hS (fun q _ h => hFc q h) hFc (fun u t H1 locs ht hvm hw hB hz1 hk1 hS1 => ?_)
        have hJ := wJoinQ (wr := [(AD 0, .inr (5, [.int cnt, .ref (AD 1), .ref (AD 8)])), (AD 1, .inl (cY 2, 6, .inr (.inr (.inr (.inr (fun j => some (AD (2 + j))))))))]) (w1 := [(h0, .inr (2, figL (X2_drop_w0 (upd z_6 10 ((z_6 10) - 1)))))]) (wn := [(h0, .inr (2, figL (X2_drop_w0 (upd z_6 10 ((z_6 10) - 1))))), (AD 0, .inr (5, [.int cnt, .ref (AD 1), .ref (AD 8)])), (AD 1, .inl (cY 2, 6, .inr (.inr (.inr (.inr (fun j => some (AD (2 + j))))))))]) hP hD [0] [1, 2] rfl rfl (by decide) (by decide) hk1 hFc hB ht [2, 0, 1] rfl (by decide)
        clear hB hk1 hFc hPc hDc hP hD hS hz1 hvm ht t
        obtain ⟨hP1, hD1⟩ := hJ
        generalize H1 = H at hP1 hS1 ⊢
        have hP : va_P (dC, dI) vwCl ([(h0, .inr (2, figL (X2_drop_w0 (upd z_6 10 ((z_6 10) - 1))))), (AD 0, .inr (5, [.int cnt, .ref (AD 1), .ref (AD 8)])), (AD 1, .inl (cY 2, 6, .inr (.inr (.inr (.inr (fun j => some (AD (2 + j))))))))] ++ bkM AD cY MV) H := hP1
        have hD : va_D A ([(h0, .inr (2, figL (X2_drop_w0 (upd z_6 10 ((z_6 10) - 1))))), (AD 0, .inr (5, [.int cnt, .ref (AD 1), .ref (AD 8)])), (AD 1, .inl (cY 2, 6, .inr (.inr (.inr (.inr (fun j => some (AD (2 + j))))))))] ++ bkM AD cY MV) := hD1
        have hS := hS1
        clear hP1 hD1 hS1
        obtain ⟨z_10, ez_10⟩ : ∃ z, z = (X2_drop_w0 (upd z_6 10 ((z_6 10) - 1))) := ⟨_, rfl⟩
        rw [← ez_10] at hP hD
        have eo_11 : (X2_endFrame_w0 F MV) = z_10 := by rw [X2_endFrame_w0]; simp only [← ez_3, ← ez_6, ← ez_10, eq_false c_7, ↓reduceIte]
        have hP9 : va_P (dC, dI) vwCl ([(h0, .inr (2, figL (X2_endFrame_w0 F MV))), (AD 0, .inr (5, [.int cnt, .ref (AD 1), .ref (AD 8)])), (AD 1, .inl (cY 2, 6, .inr (.inr (.inr (.inr (fun j => some (AD (2 + j))))))))] ++ bkM AD cY MV) H := by simp only [eo_11]; exact hP
        have hD9 : va_D A ([(h0, .inr (2, figL (X2_endFrame_w0 F MV))), (AD 0, .inr (5, [.int cnt, .ref (AD 1), .ref (AD 8)])), (AD 1, .inl (cY 2, 6, .inr (.inr (.inr (.inr (fun j => some (AD (2 + j))))))))] ++ bkM AD cY MV) := by simp only [eo_11]; exact hD
        exact W.vret hx hb hr (fun t ht hW => ⟨⟨(), rfl, trivial, wPost_of hP9 hD9 ht⟩, hS.F ht⟩) hS.2.2 dX2_endFrame_88
    · intro jn_5
      refine lv_icmp_eq (tgt := 67) hx hb dX2_endFrame_59 (by decide) (fun c_4 => ?_) (fun c_4 => ?_)
      · have e_12 : (X2_endFrame_j67 F MV) = z_3 := by rw [X2_endFrame_j67]; simp only [← ez_3, eq_true c_4, ↓reduceIte]
        exact jn_5 _ _ _ (by (try simp only [e_12]); exact hP) (by (try simp only [e_12]); exact hD) hS (by (try simp only [e_12]); exact (lv_sub hl [0] rfl))
      · refine lv_aload_n hx hb dX2_endFrame_62 rfl (lv_at hl 0 rfl) ?_
        refine lv_iconst (v := 0) hx hb dX2_endFrame_63 (by decide) ?_
        refine va_put (D := (dC, dI)) (ci := 2) (v := .int 0) (ty := .int) (C := RX2) (T := TX2) (N := 16) hx hb hts inw_X2_endFrame_X2 tyX2 tyX2_ok nmX2 hown hK hP hD hS 0 rfl rfl 4 (by decide) (hts (.fieldLink RX2 24 "DuelFrames$Figure" "count" "I") (List.mem_of_getElem? (i := 4) rfl)) (fun _ h9 => h9) rfl (by decide +kernel) rfl rfl (Nat.le_of_ble_eq_true rfl) dX2_endFrame_64 (fun H locs hP1 hD1 hS1 => ?_)
        clear hP hD hS
        have hP : va_P (dC, dI) vwCl ([(h0, .inr (2, figL (upd z_3 4 0))), (AD 0, .inr (5, [.int cnt, .ref (AD 1), .ref (AD 8)])), (AD 1, .inl (cY 2, 6, .inr (.inr (.inr (.inr (fun j => some (AD (2 + j))))))))] ++ bkM AD cY MV) H := hP1
        have hD : va_D A ([(h0, .inr (2, figL (upd z_3 4 0))), (AD 0, .inr (5, [.int cnt, .ref (AD 1), .ref (AD 8)])), (AD 1, .inl (cY 2, 6, .inr (.inr (.inr (.inr (fun j => some (AD (2 + j))))))))] ++ bkM AD cY MV) := hD1
        have hS := hS1
        clear hP1 hD1 hS1
        have e_13 : (X2_endFrame_j67 F MV) = (upd z_3 4 0) := by rw [X2_endFrame_j67]; simp only [← ez_3, eq_false c_4, ↓reduceIte]
        exact jn_5 _ _ _ (by (try simp only [e_13]); exact hP) (by (try simp only [e_13]); exact hD) hS (by (try simp only [e_13]); exact (lv_sub hl [0] rfl))
  · intro jn_2
    refine lv_icmp_ne (tgt := 26) hx hb dX2_endFrame_5 (by decide) (fun c_1 => ?_) (fun c_1 => ?_)
    · refine lv_aload_n hx hb dX2_endFrame_26 rfl (lv_at hl 0 rfl) ?_
      refine va_get (D := (dC, dI)) (ci := 2) (v := .int (F 3)) (C := RX2) (T := TX2) (N := 16) hx hb hts inw_X2_endFrame_X2 hown hK hP 0 rfl rfl 3 (by decide) (hts (.fieldLink RX2 21 "DuelFrames$Figure" "does" "I") (List.mem_of_getElem? (i := 1) rfl)) (fun _ h9 => h9) rfl dX2_endFrame_27 ?_
      refine lv_if_eq (tgt := 54) hx hb dX2_endFrame_30 (by decide) (fun c_14 => ?_) (fun c_14 => ?_)
      · have e_15 : (X2_endFrame_j54 F MV) = F := by rw [X2_endFrame_j54]; simp only [eq_false c_1, eq_true c_14, ↓reduceIte]
        exact jn_2 _ _ _ (by (try simp only [e_15]); exact hP) (by (try simp only [e_15]); exact hD) hS (by (try simp only [e_15]); exact (lv_sub hl [0] rfl))
      · refine lv_aload_n hx hb dX2_endFrame_33 rfl (lv_at hl 0 rfl) ?_
        refine lv_dup hx hb dX2_endFrame_34 rfl ?_
        refine va_get (D := (dC, dI)) (ci := 2) (v := .int (F 8)) (C := RX2) (T := TX2) (N := 16) hx hb hts inw_X2_endFrame_X2 hown hK hP 0 rfl rfl 8 (by decide) (hts (.fieldLink RX2 36 "DuelFrames$Figure" "stun" "I") (List.mem_of_getElem? (i := 3) rfl)) (fun _ h9 => h9) rfl dX2_endFrame_35 ?_
        refine lv_iconst (v := 1) hx hb dX2_endFrame_38 (by decide) ?_
        refine lv_isub hx hb dX2_endFrame_39 ?_
        refine va_put (D := (dC, dI)) (ci := 2) (v := .int ((F 8) - 1)) (ty := .int) (C := RX2) (T := TX2) (N := 16) hx hb hts inw_X2_endFrame_X2 tyX2 tyX2_ok nmX2 hown hK hP hD hS 0 rfl rfl 8 (by decide) (hts (.fieldLink RX2 36 "DuelFrames$Figure" "stun" "I") (List.mem_of_getElem? (i := 3) rfl)) (fun _ h9 => h9) rfl (by decide +kernel) rfl rfl (Nat.le_of_ble_eq_true rfl) dX2_endFrame_40 (fun H locs hP1 hD1 hS1 => ?_)
        clear hP hD hS
        have hP : va_P (dC, dI) vwCl ([(h0, .inr (2, figL (upd F 8 ((F 8) - 1)))), (AD 0, .inr (5, [.int cnt, .ref (AD 1), .ref (AD 8)])), (AD 1, .inl (cY 2, 6, .inr (.inr (.inr (.inr (fun j => some (AD (2 + j))))))))] ++ bkM AD cY MV) H := hP1
        have hD : va_D A ([(h0, .inr (2, figL (upd F 8 ((F 8) - 1)))), (AD 0, .inr (5, [.int cnt, .ref (AD 1), .ref (AD 8)])), (AD 1, .inl (cY 2, 6, .inr (.inr (.inr (.inr (fun j => some (AD (2 + j))))))))] ++ bkM AD cY MV) := hD1
        have hS := hS1
        clear hP1 hD1 hS1
        refine lv_aload_n hx hb dX2_endFrame_43 rfl (lv_at hl 0 rfl) ?_
        refine va_get (D := (dC, dI)) (ci := 2) (v := .int ((F 8) - 1)) (C := RX2) (T := TX2) (N := 16) hx hb hts inw_X2_endFrame_X2 hown hK hP 0 rfl rfl 8 (by decide) (hts (.fieldLink RX2 36 "DuelFrames$Figure" "stun" "I") (List.mem_of_getElem? (i := 3) rfl)) (fun _ h9 => h9) rfl dX2_endFrame_44 ?_
        refine lv_if_gt (tgt := 54) hx hb dX2_endFrame_47 (by decide) (fun c_16 => ?_) (fun c_16 => ?_)
        · have e_17 : (X2_endFrame_j54 F MV) = (upd F 8 ((F 8) - 1)) := by rw [X2_endFrame_j54]; simp only [eq_false c_1, eq_false c_14, eq_true c_16, ↓reduceIte]
          exact jn_2 _ _ _ (by (try simp only [e_17]); exact hP) (by (try simp only [e_17]); exact hD) hS (by (try simp only [e_17]); exact (lv_sub hl [0] rfl))
        · refine lv_aload_n hx hb dX2_endFrame_50 rfl (lv_at hl 0 rfl) ?_
          have hPc := hP.sub (ws' := [(h0, .inr (2, figL (upd F 8 ((F 8) - 1))))]) [0] rfl
          have hDc := hD.sub (ws' := [(h0, .inr (2, figL (upd F 8 ((F 8) - 1))))]) [0] (by decide) rfl
          have hFc := va_free (wc := [(h0, .inr (2, figL (upd F 8 ((F 8) - 1))))]) hD hS hA [0] rfl
          refine va_callv (va_runV (As := []) (rest := []) ⟨hx, hb, hml, hown, hts⟩ (c_X2_stand l dC dI cY h0 (upd F 8 ((F 8) - 1)) H.size) (cwV 0 hts gX2_endFrame_X2_stand rfl rfl rfl (by decide +kernel) ⟨Nat.le_of_ble_eq_true rfl, Nat.le_of_ble_eq_true rfl⟩) ⟨blindW, va_recv hK hPc (ci := 2) (q0 := 0) rfl rfl, fun U hU hW => ⟨rfl, wPre_of hPc hK hN hDc U hU hW⟩⟩ rfl rfl hl.1 rfl (lv_room (Nat.le_of_ble_eq_true rfl)) dX2_endFrame_51 ⟨Nat.zero_le _, Nat.zero_le _⟩) hS (fun q _ h => hFc q h) hFc (fun u t H1 locs ht hvm hw hB hz1 hk1 hS1 => ?_)
          have hJ := wJoinQ (wr := [(AD 0, .inr (5, [.int cnt, .ref (AD 1), .ref (AD 8)])), (AD 1, .inl (cY 2, 6, .inr (.inr (.inr (.inr (fun j => some (AD (2 + j))))))))]) (w1 := [(h0, .inr (2, figL (X2_stand_w0 (upd F 8 ((F 8) - 1)))))]) (wn := [(h0, .inr (2, figL (X2_stand_w0 (upd F 8 ((F 8) - 1))))), (AD 0, .inr (5, [.int cnt, .ref (AD 1), .ref (AD 8)])), (AD 1, .inl (cY 2, 6, .inr (.inr (.inr (.inr (fun j => some (AD (2 + j))))))))]) hP hD [0] [1, 2] rfl rfl (by decide) (by decide) hk1 hFc hB ht [2, 0, 1] rfl (by decide)
          clear hB hk1 hFc hPc hDc hP hD hS hz1 hvm ht t
          obtain ⟨hP1, hD1⟩ := hJ
          generalize H1 = H at hP1 hS1 ⊢
          have hP : va_P (dC, dI) vwCl ([(h0, .inr (2, figL (X2_stand_w0 (upd F 8 ((F 8) - 1))))), (AD 0, .inr (5, [.int cnt, .ref (AD 1), .ref (AD 8)])), (AD 1, .inl (cY 2, 6, .inr (.inr (.inr (.inr (fun j => some (AD (2 + j))))))))] ++ bkM AD cY MV) H := hP1
          have hD : va_D A ([(h0, .inr (2, figL (X2_stand_w0 (upd F 8 ((F 8) - 1))))), (AD 0, .inr (5, [.int cnt, .ref (AD 1), .ref (AD 8)])), (AD 1, .inl (cY 2, 6, .inr (.inr (.inr (.inr (fun j => some (AD (2 + j))))))))] ++ bkM AD cY MV) := hD1
          have hS := hS1
          clear hP1 hD1 hS1
          obtain ⟨z_19, ez_19⟩ : ∃ z, z = (X2_stand_w0 (upd F 8 ((F 8) - 1))) := ⟨_, rfl⟩
          rw [← ez_19] at hP hD
          have e_20 : (X2_endFrame_j54 F MV) = z_19 := by rw [X2_endFrame_j54]; simp only [← ez_19, eq_false c_1, eq_false c_14, eq_false c_16, ↓reduceIte]
          exact jn_2 _ _ _ (by (try simp only [e_20, ← ez_19]); exact hP) (by (try simp only [e_20, ← ez_19]); exact hD) hS (by (try simp only [e_20, ← ez_19]); exact (lv_sub hl [0] rfl))
    · refine lv_aload_n hx hb dX2_endFrame_8 rfl (lv_at hl 0 rfl) ?_
      refine lv_aload_n hx hb dX2_endFrame_9 rfl (lv_at hl 1 rfl) ?_
      refine lv_aload_n hx hb dX2_endFrame_10 rfl (lv_at hl 0 rfl) ?_
      refine va_get (D := (dC, dI)) (ci := 2) (v := .int (F 5)) (C := RX2) (T := TX2) (N := 16) hx hb hts inw_X2_endFrame_X2 hown hK hP 0 rfl rfl 5 (by decide) (hts (.fieldLink RX2 27 "DuelFrames$Figure" "move" "I") (List.mem_of_getElem? (i := 2) rfl)) (fun _ h9 => h9) rfl dX2_endFrame_11 ?_
      have hPc := hP.sub (ws' := [(AD 0, .inr (5, [.int cnt, .ref (AD 1), .ref (AD 8)])), (AD 1, .inl (cY 2, 6, .inr (.inr (.inr (.inr (fun j => some (AD (2 + j))))))))]) [1, 2] rfl
      refine va_csr (W.runV (As := [.int (F 5)]) (rest := [.ref h0]) ⟨hx, hb, hml, hown, hts⟩ (c_X5_at l dC dI cY AD cnt (F 5)) (cwV 1 hts gX2_endFrame_X5_at rfl rfl rfl (by decide +kernel) ⟨Nat.le_of_ble_eq_true rfl, Nat.le_of_ble_eq_true rfl⟩) ⟨blindR, va_recv hK hPc (ci := 5) (q0 := 0) rfl rfl, fun U hU hW => ⟨rfl, rPre_of hPc hK hN U hU hW⟩⟩ rfl rfl hl.1 rfl (lv_room (Nat.le_of_ble_eq_true rfl)) dX2_endFrame_14 ⟨Nat.zero_le _, Nat.zero_le _⟩) (fun r hw => ?_)
      subst hw
      have hPc := bk_move hP (mi_lt (F 5))
      refine vp_callSi (W.runV (As := []) (rest := [.ref h0]) ⟨hx, hb, hml, hown, hts⟩ (c_X4_frames l dC dI cY (AD (2 + (mi (F 5)))) (AD (9 + (mi (F 5)))) (AD (16 + (mi (F 5)))) (MV (mi (F 5)))) (cwV 0 hts gX2_endFrame_X4_frames rfl rfl rfl (by decide +kernel) ⟨Nat.le_of_ble_eq_true rfl, Nat.le_of_ble_eq_true rfl⟩) ⟨blindR, va_recv hK hPc (ci := 4) (q0 := 0) rfl rfl, fun U hU hW => ⟨rfl, rPre_of hPc hK hN U hU hW⟩⟩ rfl rfl hl.1 rfl (lv_room (Nat.le_of_ble_eq_true rfl)) dX2_endFrame_17 ⟨Nat.zero_le _, Nat.zero_le _⟩) (fun r_21 hw => ?_)
      subst hw
      have hPc := hP.sub (ws' := [(h0, .inr (2, figL F))]) [0] rfl
      have hDc := hD.sub (ws' := [(h0, .inr (2, figL F))]) [0] (by decide) rfl
      have hFc := va_free (wc := [(h0, .inr (2, figL F))]) hD hS hA [0] rfl
      refine va_callv (va_runV (As := [.int (X4_frames_r (MV (mi (F 5))))]) (rest := []) ⟨hx, hb, hml, hown, hts⟩ (c_X2_endFrameOfMove l dC dI cY h0 F (X4_frames_r (MV (mi (F 5)))) s.heap.size) (cwV 1 hts gX2_endFrame_X2_endFrameOfMove rfl rfl rfl (by decide +kernel) ⟨Nat.le_of_ble_eq_true rfl, Nat.le_of_ble_eq_true rfl⟩) ⟨blindW, va_recv hK hPc (ci := 2) (q0 := 0) rfl rfl, fun U hU hW => ⟨rfl, wPre_of hPc hK hN hDc U hU hW⟩⟩ rfl rfl hl.1 rfl (lv_room (Nat.le_of_ble_eq_true rfl)) dX2_endFrame_20 ⟨Nat.zero_le _, Nat.zero_le _⟩) hS (fun q _ h => hFc q h) hFc (fun u t H1 locs ht hvm hw hB hz1 hk1 hS1 => ?_)
      have hJ := wJoinQ (wr := [(AD 0, .inr (5, [.int cnt, .ref (AD 1), .ref (AD 8)])), (AD 1, .inl (cY 2, 6, .inr (.inr (.inr (.inr (fun j => some (AD (2 + j))))))))]) (w1 := [(h0, .inr (2, figL (X2_endFrameOfMove_w0 F (X4_frames_r (MV (mi (F 5)))))))]) (wn := [(h0, .inr (2, figL (X2_endFrameOfMove_w0 F (X4_frames_r (MV (mi (F 5))))))), (AD 0, .inr (5, [.int cnt, .ref (AD 1), .ref (AD 8)])), (AD 1, .inl (cY 2, 6, .inr (.inr (.inr (.inr (fun j => some (AD (2 + j))))))))]) hP hD [0] [1, 2] rfl rfl (by decide) (by decide) hk1 hFc hB ht [2, 0, 1] rfl (by decide)
      clear hB hk1 hFc hPc hDc hP hD hS hz1 hvm ht t
      obtain ⟨hP1, hD1⟩ := hJ
      generalize H1 = H at hP1 hS1 ⊢
      have hP : va_P (dC, dI) vwCl ([(h0, .inr (2, figL (X2_endFrameOfMove_w0 F (X4_frames_r (MV (mi (F 5))))))), (AD 0, .inr (5, [.int cnt, .ref (AD 1), .ref (AD 8)])), (AD 1, .inl (cY 2, 6, .inr (.inr (.inr (.inr (fun j => some (AD (2 + j))))))))] ++ bkM AD cY MV) H := hP1
      have hD : va_D A ([(h0, .inr (2, figL (X2_endFrameOfMove_w0 F (X4_frames_r (MV (mi (F 5))))))), (AD 0, .inr (5, [.int cnt, .ref (AD 1), .ref (AD 8)])), (AD 1, .inl (cY 2, 6, .inr (.inr (.inr (.inr (fun j => some (AD (2 + j))))))))] ++ bkM AD cY MV) := hD1
      have hS := hS1
      clear hP1 hD1 hS1
      obtain ⟨z_23, ez_23⟩ : ∃ z, z = (X2_endFrameOfMove_w0 F (X4_frames_r (MV (mi (F 5))))) := ⟨_, rfl⟩
      rw [← ez_23] at hP hD
      refine lv_goto (tgt := 54) hx hb dX2_endFrame_23 (by decide) ?_
      have e_24 : (X2_endFrame_j54 F MV) = z_23 := by rw [X2_endFrame_j54]; simp only [← ez_23, eq_true c_1, ↓reduceIte]
      exact jn_2 _ _ _ (by (try simp only [e_24, ← ez_23]); exact hP) (by (try simp only [e_24, ← ez_23]); exact hD) hS (by (try simp only [e_24, ← ez_23]); exact (lv_sub hl [0] rfl))
